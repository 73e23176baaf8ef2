def rm_X2_bookingError : Room := { frames := 4, cells := 0, slots := 0, locals := 92 }
set_option maxRecDepth 100000 in
set_option maxHeartbeats 4000000 in
theorem c_X2_bookingError (l : Launch) (G : gG) (a : Nat → Nat) (ti : Nat) (se ho ri bo : Nat → Int32) (bc : Nat) (fs : Nat → Int32) (fc : Nat) (h g r : Nat)  (hbc : bc ≤ 40) (hg : g < 3) : CT l yX2_bookingError cX2_bookingError 5 (some .int) rm_X2_bookingError G [.ref (a 0), .int (nI h), .int (nI g), .int (nI r)] (wS G a ti se ho ri bo bc fs fc) (some (.int (c_bErr bo bc (nI (ti + h)) g r))) (fun _ => (wS G a ti se ho ri bo bc fs fc)) := by
  refine gMet (by decide) (Nat.le_of_ble_eq_true rfl) (fun X hX C hr hin E => ?_)
  clear hX
  refine (show gW G X (wS G a ti se ho ri bo bc fs fc) 0 0 0 [(0, .ref (a 0)), (1, .int (nI h)), (2, .int (nI g)), (3, .int (nI r))] [] from ?_)
  refine x_aload_n C 0 rfl dX2_bookingError_0 rfl ?_
  refine x_iload_n C 1 rfl dX2_bookingError_1 rfl ?_
  refine x_iload_n C 3 rfl dX2_bookingError_2 rfl ?_
  refine x_callVd (As := [.int (nI h), .int (nI r)]) (rest := []) C dX2_bookingError_3 (c_X2_findBooking (gX.l X) G a ti se ho ri bo bc fs fc h r (by omega)) ml_X2_84 im_X2_findBooking sl_X2_findBooking in_X2 cd_X2_findBooking hd_X2_findBooking 0 rfl rfl rfl rfl (Nat.le_of_ble_eq_true rfl) ⟨Nat.le_of_ble_eq_true rfl, Nat.le_of_ble_eq_true rfl⟩ (List.take 0 (wS G a ti se ho ri bo bc fs fc)) (List.drop 11 (wS G a ti se ho ri bo bc fs fc)) rfl (ws' := (wS G a ti se ho ri bo bc fs fc)) rfl (st' := [.int (c_find bo bc (nI (ti + h)) (nI r))]) rfl ⟨rfl, rfl⟩ ⟨Nat.le_of_ble_eq_true rfl, Nat.le_of_ble_eq_true rfl⟩ ?_
  refine x_bipush (v := (-5)) C dX2_bookingError_6 (by decide) ?_
  refine x_icmp_eq (x := (c_find bo bc (nI (ti + h)) (nI r))) (y := (-5)) (tgt := 14) C dX2_bookingError_8 (by decide) (fun c1 => ?_) (fun c1 => ?_)
  · refine x_aload_n C 0 rfl dX2_bookingError_14 rfl ?_
    refine x_iload_n C 1 rfl dX2_bookingError_15 rfl ?_
    refine x_iload_n C 2 rfl dX2_bookingError_16 rfl ?_
    refine x_callVd (As := [.int (nI h), .int (nI g)]) (rest := []) C dX2_bookingError_17 (c_X2_bookedFor (gX.l X) G a ti se ho ri bo bc fs fc h g (by omega)) ml_X2_87 im_X2_bookedFor sl_X2_bookedFor in_X2 cd_X2_bookedFor hd_X2_bookedFor 0 rfl rfl rfl rfl (Nat.le_of_ble_eq_true rfl) ⟨Nat.le_of_ble_eq_true rfl, Nat.le_of_ble_eq_true rfl⟩ (List.take 0 (wS G a ti se ho ri bo bc fs fc)) (List.drop 11 (wS G a ti se ho ri bo bc fs fc)) rfl (ws' := (wS G a ti se ho ri bo bc fs fc)) rfl (st' := [.int (c_bf bo (nI (ti + h)) (nI g) bc)]) rfl ⟨rfl, rfl⟩ ⟨Nat.le_of_ble_eq_true rfl, Nat.le_of_ble_eq_true rfl⟩ ?_
    refine x_getsN0 C dX2_bookingError_20 rfl ?_
    refine x_iload_n C 2 rfl dX2_bookingError_23 rfl ?_
    refine x_callSNd (As := [.ref (G.2.2 0), .int (nI g)]) (rest := [.int (c_bf bo (nI (ti + h)) (nI g) bc)]) C dX2_bookingError_24 (c_X5_entry0 (gX.l X) G g (by omega)) C.2.2.2.2.2.2.1.2.2.2.2.2.1 st_X5_entry in_X5 cd_X5_entry hd_X5_entry rfl rfl (Nat.le_of_ble_eq_true rfl) ⟨Nat.le_of_ble_eq_true rfl, Nat.le_of_ble_eq_true rfl⟩ [] (wS G a ti se ho ri bo bc fs fc) rfl (ws' := (wS G a ti se ho ri bo bc fs fc)) rfl (st' := [.int (sT 0 g), .int (c_bf bo (nI (ti + h)) (nI g) bc)]) rfl ⟨rfl, rfl⟩ ⟨Nat.le_of_ble_eq_true rfl, Nat.le_of_ble_eq_true rfl⟩ ?_
    refine x_icmp_lt (x := (c_bf bo (nI (ti + h)) (nI g) bc)) (y := (sT 0 g)) (tgt := 34) C dX2_bookingError_27 (by decide) (fun c2 => ?_) (fun c2 => ?_)
    · refine x_iconst (v := (nI 0)) C dX2_bookingError_34 (by decide) ?_
      refine x_istore (lv' := [(4, .int (nI 0)), (0, .ref (a 0)), (1, .int (nI h)), (2, .int (nI g)), (3, .int (nI r))]) C dX2_bookingError_35 (by decide) rfl ?_
      refine x_iload C 0 rfl dX2_bookingError_37 ?_
      refine x_if_neN (a := 0) (tgt := 51) C dX2_bookingError_39 (by decide) (by omega) (fun c3 => False.elim (by omega)) (fun c3 => ?_)
      refine x_aload_n C 1 rfl dX2_bookingError_42 rfl ?_
      refine x_get (k := 5) (v := .int (nI bc)) C dX2_bookingError_43 layX2 fl_X2_52 0 rfl rfl (by decide) rfl ?_
      refine x_bipush (v := (nI 40)) C dX2_bookingError_46 (by decide) ?_
      refine x_icmp_ltN (a := bc) (b := 40) (tgt := 56) C dX2_bookingError_48 (by decide) (by omega) (by omega) (fun c4 => ?_) (fun c4 => ?_)
      · refine x_iconst (v := (nI 0)) C dX2_bookingError_56 (by decide) ?_
        exact x_iret C hr E dX2_bookingError_57 (fun _ => 0) (by simp only [c_bErr, c1, c2, c3, c4,  if_true, if_false, ite_true, ite_false, and_true, true_and, and_false, false_and, or_true, true_or, or_false, false_or, not_true_eq_false, not_false_eq_true, and_self, or_self] <;> rfl) rfl
      · refine x_bipush (v := (-3)) C dX2_bookingError_51 (by decide) ?_
        refine x_goto (tgt := 57) C dX2_bookingError_53 (by decide) ?_
        exact x_iret C hr E dX2_bookingError_57 (fun _ => 0) (by simp only [c_bErr, c1, c2, c3, c4,  if_true, if_false, ite_true, ite_false, and_true, true_and, and_false, false_and, or_true, true_or, or_false, false_or, not_true_eq_false, not_false_eq_true, and_self, or_self] <;> rfl) rfl
    · refine x_iconst (v := (nI 1)) C dX2_bookingError_30 (by decide) ?_
      refine x_goto (tgt := 35) C dX2_bookingError_31 (by decide) ?_
      refine x_istore (lv' := [(4, .int (nI 1)), (0, .ref (a 0)), (1, .int (nI h)), (2, .int (nI g)), (3, .int (nI r))]) C dX2_bookingError_35 (by decide) rfl ?_
      refine x_iload C 0 rfl dX2_bookingError_37 ?_
      refine x_if_neN (a := 1) (tgt := 51) C dX2_bookingError_39 (by decide) (by omega) (fun c5 => ?_) (fun c5 => False.elim (by omega))
      refine x_bipush (v := (-3)) C dX2_bookingError_51 (by decide) ?_
      refine x_goto (tgt := 57) C dX2_bookingError_53 (by decide) ?_
      exact x_iret C hr E dX2_bookingError_57 (fun _ => 0) (by simp only [c_bErr, c1, c2, c5,  if_true, if_false, ite_true, ite_false, and_true, true_and, and_false, false_and, or_true, true_or, or_false, false_or, not_true_eq_false, not_false_eq_true, and_self, or_self] <;> rfl) rfl
  · refine x_bipush (v := (-4)) C dX2_bookingError_11 (by decide) ?_
    exact x_iret C hr E dX2_bookingError_13 (fun _ => 0) (by simp only [c_bErr, c1,  if_true, if_false, ite_true, ite_false, and_true, true_and, and_false, false_and, or_true, true_or, or_false, false_or, not_true_eq_false, not_false_eq_true, and_self, or_self] <;> rfl) rfl
def rm_X2_addBooking : Room := { frames := 1, cells := 0, slots := 0, locals := 24 }
set_option maxRecDepth 100000 in
set_option maxHeartbeats 4000000 in
theorem c_X2_addBooking (l : Launch) (G : gG) (a : Nat → Nat) (ti : Nat) (se ho ri bo : Nat → Int32) (bc : Nat) (fs : Nat → Int32) (fc : Nat) (h : Nat) (g r : Int32)  (hbc : bc < 40) : CT l yX2_addBooking cX2_addBooking 4 none rm_X2_addBooking G [.ref (a 0), .int (nI h), .int g, .int r] (wS G a ti se ho ri bo bc fs fc) none (fun _ => (wS G a ti se ho ri (c_addB bo bc (nI (ti + h)) g r) (bc + 1) fs fc)) := by
  refine gMet (by decide) (Nat.le_of_ble_eq_true rfl) (fun X hX C hr hin E => ?_)
  clear hX
  refine (show gW G X (wS G a ti se ho ri bo bc fs fc) 0 0 0 [(0, .ref (a 0)), (1, .int (nI h)), (2, .int g), (3, .int r)] [] from ?_)
  refine x_aload_n C 0 rfl dX2_addBooking_0 rfl ?_
  refine x_get (k := 4) (v := .ref (a 7)) C dX2_addBooking_1 layX2 fl_X2_26 0 rfl rfl (by decide) rfl ?_
  refine x_iconst (v := (nI 0)) C dX2_addBooking_4 (by decide) ?_
  refine x_aload_n C 0 rfl dX2_addBooking_5 rfl ?_
  refine x_get (k := 5) (v := .int (nI bc)) C dX2_addBooking_6 layX2 fl_X2_52 0 rfl rfl (by decide) rfl ?_
  refine x_aload_n C 0 rfl dX2_addBooking_9 rfl ?_
  refine x_get (k := 0) (v := .int (nI ti)) C dX2_addBooking_10 layX2 fl_X2_44 0 rfl rfl (by decide) rfl ?_
  refine x_iload_n C 1 rfl dX2_addBooking_13 rfl ?_
  refine x_iaddN C dX2_addBooking_14 ?_
  refine x_callVd (As := [.int (nI 0), .int (nI bc), .int (nI (ti + h))]) (rest := []) C dX2_addBooking_15 (c_X3_put (gX.l X) G (a 7) (a 8) 40 120 bo 0 bc bc (nI (ti + h)) (by omega) (by omega) (by omega) (by omega) (by omega)) ml_X2_40 im_X3_put sl_X3_put in_X3 cd_X3_put hd_X3_put 0 rfl rfl rfl rfl (Nat.le_of_ble_eq_true rfl) ⟨Nat.le_of_ble_eq_true rfl, Nat.le_of_ble_eq_true rfl⟩ (List.take 7 (wS G a ti se ho ri bo bc fs fc)) (List.drop 9 (wS G a ti se ho ri bo bc fs fc)) rfl (ws' := (wS G a ti se ho ri (upd bo bc (nI (ti + h))) bc fs fc)) rfl (st' := []) rfl ⟨rfl, rfl⟩ ⟨Nat.le_of_ble_eq_true rfl, Nat.le_of_ble_eq_true rfl⟩ ?_
  refine x_aload_n C 0 rfl dX2_addBooking_18 rfl ?_
  refine x_get (k := 4) (v := .ref (a 7)) C dX2_addBooking_19 layX2 fl_X2_26 0 rfl rfl (by decide) rfl ?_
  refine x_iconst (v := (nI 1)) C dX2_addBooking_22 (by decide) ?_
  refine x_aload_n C 0 rfl dX2_addBooking_23 rfl ?_
  refine x_get (k := 5) (v := .int (nI bc)) C dX2_addBooking_24 layX2 fl_X2_52 0 rfl rfl (by decide) rfl ?_
  refine x_iload_n C 2 rfl dX2_addBooking_27 rfl ?_
  refine x_callVd (As := [.int (nI 1), .int (nI bc), .int g]) (rest := []) C dX2_addBooking_28 (c_X3_put (gX.l X) G (a 7) (a 8) 40 120 (upd bo bc (nI (ti + h))) 1 bc (40 + bc) g (by omega) (by omega) (by omega) (by omega) (by omega)) ml_X2_40 im_X3_put sl_X3_put in_X3 cd_X3_put hd_X3_put 0 rfl rfl rfl rfl (Nat.le_of_ble_eq_true rfl) ⟨Nat.le_of_ble_eq_true rfl, Nat.le_of_ble_eq_true rfl⟩ (List.take 7 (wS G a ti se ho ri (upd bo bc (nI (ti + h))) bc fs fc)) (List.drop 9 (wS G a ti se ho ri (upd bo bc (nI (ti + h))) bc fs fc)) rfl (ws' := (wS G a ti se ho ri (upd (upd bo bc (nI (ti + h))) (40 + bc) g) bc fs fc)) rfl (st' := []) rfl ⟨rfl, rfl⟩ ⟨Nat.le_of_ble_eq_true rfl, Nat.le_of_ble_eq_true rfl⟩ ?_
  refine x_aload_n C 0 rfl dX2_addBooking_31 rfl ?_
  refine x_get (k := 4) (v := .ref (a 7)) C dX2_addBooking_32 layX2 fl_X2_26 0 rfl rfl (by decide) rfl ?_
  refine x_iconst (v := (nI 2)) C dX2_addBooking_35 (by decide) ?_
  refine x_aload_n C 0 rfl dX2_addBooking_36 rfl ?_
  refine x_get (k := 5) (v := .int (nI bc)) C dX2_addBooking_37 layX2 fl_X2_52 0 rfl rfl (by decide) rfl ?_
  refine x_iload_n C 3 rfl dX2_addBooking_40 rfl ?_
  refine x_callVd (As := [.int (nI 2), .int (nI bc), .int r]) (rest := []) C dX2_addBooking_41 (c_X3_put (gX.l X) G (a 7) (a 8) 40 120 (upd (upd bo bc (nI (ti + h))) (40 + bc) g) 2 bc (80 + bc) r (by omega) (by omega) (by omega) (by omega) (by omega)) ml_X2_40 im_X3_put sl_X3_put in_X3 cd_X3_put hd_X3_put 0 rfl rfl rfl rfl (Nat.le_of_ble_eq_true rfl) ⟨Nat.le_of_ble_eq_true rfl, Nat.le_of_ble_eq_true rfl⟩ (List.take 7 (wS G a ti se ho ri (upd (upd bo bc (nI (ti + h))) (40 + bc) g) bc fs fc)) (List.drop 9 (wS G a ti se ho ri (upd (upd bo bc (nI (ti + h))) (40 + bc) g) bc fs fc)) rfl (ws' := (wS G a ti se ho ri (upd (upd (upd bo bc (nI (ti + h))) (40 + bc) g) (80 + bc) r) bc fs fc)) rfl (st' := []) rfl ⟨rfl, rfl⟩ ⟨Nat.le_of_ble_eq_true rfl, Nat.le_of_ble_eq_true rfl⟩ ?_
  refine x_aload_n C 0 rfl dX2_addBooking_44 rfl ?_
  refine x_aload_n C 0 rfl dX2_addBooking_45 rfl ?_
  refine x_get (k := 5) (v := .int (nI bc)) C dX2_addBooking_46 layX2 fl_X2_52 0 rfl rfl (by decide) rfl ?_
  refine x_iconst (v := (nI 1)) C dX2_addBooking_49 (by decide) ?_
  refine x_iaddN C dX2_addBooking_50 ?_
  refine x_bipush (v := (nI 40)) C dX2_addBooking_51 (by decide) ?_
  refine x_min (x := (nI (bc + 1))) (y := 40) C dX2_addBooking_53 ml_X2_93 st_J9_min_7cf53 in_J9 cd_J9_min_7cf53 (Nat.le_of_ble_eq_true rfl) ⟨Nat.le_of_ble_eq_true rfl, Nat.le_of_ble_eq_true rfl⟩ ⟨Nat.le_of_ble_eq_true rfl, Nat.le_of_ble_eq_true rfl⟩ ?_
  refine x_top (y := (nI (bc + 1))) (by rw [show (40 : Int32) = nI 40 from rfl, mnI_nI (by omega) (by omega), Nat.min_eq_left (by omega)]) ?_
  refine x_put (k := 5) (ws' := (wS G a ti se ho ri (upd (upd (upd bo bc (nI (ti + h))) (40 + bc) g) (80 + bc) r) (bc + 1) fs fc)) C dX2_addBooking_56 layX2 tyX2 tyX2_ok nmX2 fl_X2_52 0 rfl rfl (by decide) rfl rfl rfl rfl (Nat.le_of_ble_eq_true rfl) rfl ?_
  exact x_vret C hr E dX2_addBooking_59 (fun _ => 0) rfl
def rm_X2_removeBooking : Room := { frames := 2, cells := 0, slots := 0, locals := 48 }
set_option maxRecDepth 100000 in
set_option maxHeartbeats 4000000 in
theorem c_X2_removeBooking (l : Launch) (G : gG) (a : Nat → Nat) (ti : Nat) (se ho ri bo : Nat → Int32) (bc : Nat) (fs : Nat → Int32) (fc : Nat) (k : Nat)  (hbc : bc ≤ 40) (hk : k < bc) : CT l yX2_removeBooking cX2_removeBooking 3 none rm_X2_removeBooking G [.ref (a 0), .int (nI k)] (wS G a ti se ho ri bo bc fs fc) none (fun _ => (wS G a ti se ho ri (c_rmR (bc - (k + 1)) (k + 1) bo) (bc - 1) fs fc)) := by
  refine gMet (by decide) (Nat.le_of_ble_eq_true rfl) (fun X hX C hr hin E => ?_)
  clear hX
  refine (show gW G X (wS G a ti se ho ri bo bc fs fc) 0 0 0 [(0, .ref (a 0)), (1, .int (nI k))] [] from ?_)
  refine x_iload_n C 1 rfl dX2_removeBooking_0 rfl ?_
  refine x_iconst (v := (nI 1)) C dX2_removeBooking_1 (by decide) ?_
  refine x_iaddN C dX2_removeBooking_2 ?_
  refine x_istore_n (lv' := [(2, .int (nI (k + 1))), (0, .ref (a 0)), (1, .int (nI k))]) C dX2_removeBooking_3 rfl (by decide) rfl ?_
  have L1 : ∀ (fu : Nat) (i : Nat) (g : Nat → Int32), i + fu = bc → c_rmR fu i g = c_rmR (bc - (k + 1)) (k + 1) bo → 1 ≤ i → gW G X (wS G a ti se ho ri g bc fs fc) 0 0 4 [(2, .int (nI i)), (0, .ref (a 0)), (1, .int (nI k))] [] := by
    intro fu
    induction fu with
    | zero =>
      intro i g hn hg h1
      refine x_iload_n C 0 rfl dX2_removeBooking_4 rfl ?_
      refine x_aload_n C 1 rfl dX2_removeBooking_5 rfl ?_
      refine x_get (k := 5) (v := .int (nI bc)) C dX2_removeBooking_6 layX2 fl_X2_52 0 rfl rfl (by decide) rfl ?_
      refine x_icmp_geN (a := i) (b := bc) (tgt := 30) C dX2_removeBooking_9 (by decide) (by omega) (by omega) (fun c2 => ?_) (fun c2 => False.elim (by omega))
      refine x_aload_n C 1 rfl dX2_removeBooking_30 rfl ?_
      refine x_aload_n C 1 rfl dX2_removeBooking_31 rfl ?_
      refine x_get (k := 5) (v := .int (nI bc)) C dX2_removeBooking_32 layX2 fl_X2_52 0 rfl rfl (by decide) rfl ?_
      refine x_iconst (v := (nI 1)) C dX2_removeBooking_35 (by decide) ?_
      refine x_isubN C dX2_removeBooking_36 (by omega) ?_
      refine x_iconst (v := (nI 0)) C dX2_removeBooking_37 (by decide) ?_
      refine x_max (x := (nI (bc - 1))) (y := 0) C dX2_removeBooking_38 ml_X2_72 st_J9_max_7cf53 in_J9 cd_J9_max_7cf53 (Nat.le_of_ble_eq_true rfl) ⟨Nat.le_of_ble_eq_true rfl, Nat.le_of_ble_eq_true rfl⟩ ⟨Nat.le_of_ble_eq_true rfl, Nat.le_of_ble_eq_true rfl⟩ ?_
      refine x_top (y := (nI (bc - 1))) (by rw [show (0 : Int32) = nI 0 from rfl, mxI_nI (by omega) (by omega), Nat.max_eq_left (by omega)]) ?_
      refine x_put (k := 5) (ws' := (wS G a ti se ho ri g (bc - 1) fs fc)) C dX2_removeBooking_41 layX2 tyX2 tyX2_ok nmX2 fl_X2_52 0 rfl rfl (by decide) rfl rfl rfl rfl (Nat.le_of_ble_eq_true rfl) rfl ?_
      exact x_vret C hr E dX2_removeBooking_44 (fun _ => 0) (by rw [← hg]; rfl)
    | succ fu ih =>
      intro i g hn hg h1
      refine x_iload_n C 0 rfl dX2_removeBooking_4 rfl ?_
      refine x_aload_n C 1 rfl dX2_removeBooking_5 rfl ?_
      refine x_get (k := 5) (v := .int (nI bc)) C dX2_removeBooking_6 layX2 fl_X2_52 0 rfl rfl (by decide) rfl ?_
      refine x_icmp_geN (a := i) (b := bc) (tgt := 30) C dX2_removeBooking_9 (by decide) (by omega) (by omega) (fun c3 => False.elim (by omega)) (fun c3 => ?_)
      refine x_aload_n C 1 rfl dX2_removeBooking_12 rfl ?_
      refine x_get (k := 4) (v := .ref (a 7)) C dX2_removeBooking_13 layX2 fl_X2_26 0 rfl rfl (by decide) rfl ?_
      refine x_iload_n C 0 rfl dX2_removeBooking_16 rfl ?_
      refine x_iload_n C 0 rfl dX2_removeBooking_17 rfl ?_
      refine x_iconst (v := (nI 1)) C dX2_removeBooking_18 (by decide) ?_
      refine x_isubN C dX2_removeBooking_19 (by omega) ?_
      refine x_iconst (v := (nI 3)) C dX2_removeBooking_20 (by decide) ?_
      refine x_callVd (As := [.int (nI i), .int (nI (i - 1)), .int (nI 3)]) (rest := []) C dX2_removeBooking_21 (c_X3_moveColumn (gX.l X) G (a 7) (a 8) g i (i - 1) (by omega) (by omega)) ml_X2_96 im_X3_moveColumn sl_X3_moveColumn in_X3 cd_X3_moveColumn hd_X3_moveColumn 0 rfl rfl rfl rfl (Nat.le_of_ble_eq_true rfl) ⟨Nat.le_of_ble_eq_true rfl, Nat.le_of_ble_eq_true rfl⟩ (List.take 7 (wS G a ti se ho ri g bc fs fc)) (List.drop 9 (wS G a ti se ho ri g bc fs fc)) rfl (ws' := (wS G a ti se ho ri (mvC g 40 i (i - 1) 3) bc fs fc)) rfl (st' := []) rfl ⟨rfl, rfl⟩ ⟨Nat.le_of_ble_eq_true rfl, Nat.le_of_ble_eq_true rfl⟩ ?_
      refine x_iinc (v := (nI (i + 1))) (lv' := [(2, .int (nI (i + 1))), (0, .ref (a 0)), (1, .int (nI k))]) C 0 rfl dX2_removeBooking_24 (by rw [show Int32.ofInt 1 = nI 1 from rfl]; exact nI_add _ _) (by decide) rfl ?_
      refine x_goto (tgt := 4) C dX2_removeBooking_27 (by decide) ?_
      exact ih (i + 1) (mvC g 40 i (i - 1) 3) (by omega) (by exact hg) (by omega)
  exact L1 (bc - (k + 1)) (k + 1) bo (by omega) (by rfl) (by omega)
def rm_X2_ofFall : Room := { frames := 1, cells := 0, slots := 0, locals := 23 }
set_option maxRecDepth 100000 in
set_option maxHeartbeats 4000000 in
theorem c_X2_ofFall (l : Launch) (G : gG) (a : Nat → Nat) (ti : Nat) (se ho ri bo : Nat → Int32) (bc : Nat) (fs : Nat → Int32) (fc : Nat) (k w : Nat)  (hw : w < 3) (hfc : fc < 2 ^ 30) (hk : k < 2 ^ 31) : CT l yX2_ofFall cX2_ofFall 3 (some .int) rm_X2_ofFall G [.ref (a 0), .int (nI k), .int (nI w)] (wS G a ti se ho ri bo bc fs fc) (some (.int (c_ofFall fs fc k w))) (fun _ => (wS G a ti se ho ri bo bc fs fc)) := by
  refine gMet (by decide) (Nat.le_of_ble_eq_true rfl) (fun X hX C hr hin E => ?_)
  clear hX
  refine (show gW G X (wS G a ti se ho ri bo bc fs fc) 0 0 0 [(0, .ref (a 0)), (1, .int (nI k)), (2, .int (nI w))] [] from ?_)
  refine x_iload_n C 1 rfl dX2_ofFall_0 rfl ?_
  refine x_if_ltN (a := k) (tgt := 17) C dX2_ofFall_1 (by decide) (by omega) (fun c1 => False.elim (by omega)) (fun c1 => ?_)
  refine x_iload_n C 1 rfl dX2_ofFall_4 rfl ?_
  refine x_aload_n C 0 rfl dX2_ofFall_5 rfl ?_
  refine x_get (k := 7) (v := .int (nI fc)) C dX2_ofFall_6 layX2 fl_X2_55 0 rfl rfl (by decide) rfl ?_
  refine x_bipush (v := (nI 20)) C dX2_ofFall_9 (by decide) ?_
  refine x_min (x := (nI fc)) (y := 20) C dX2_ofFall_11 ml_X2_93 st_J9_min_7cf53 in_J9 cd_J9_min_7cf53 (Nat.le_of_ble_eq_true rfl) ⟨Nat.le_of_ble_eq_true rfl, Nat.le_of_ble_eq_true rfl⟩ ⟨Nat.le_of_ble_eq_true rfl, Nat.le_of_ble_eq_true rfl⟩ ?_
  refine x_top (y := (nI (min fc 20))) (by rw [show (20 : Int32) = nI 20 from rfl, mnI_nI (by omega) (by omega)]) ?_
  refine x_icmp_ltN (a := k) (b := (min fc 20)) (tgt := 20) C dX2_ofFall_14 (by decide) (by omega) (by omega) (fun c2 => ?_) (fun c2 => ?_)
  · refine x_aload_n C 0 rfl dX2_ofFall_20 rfl ?_
    refine x_get (k := 6) (v := .ref (a 9)) C dX2_ofFall_21 layX2 fl_X2_29 0 rfl rfl (by decide) rfl ?_
    refine x_iload_n C 2 rfl dX2_ofFall_24 rfl ?_
    refine x_aload_n C 0 rfl dX2_ofFall_25 rfl ?_
    refine x_get (k := 7) (v := .int (nI fc)) C dX2_ofFall_26 layX2 fl_X2_55 0 rfl rfl (by decide) rfl ?_
    refine x_iconst (v := (nI 1)) C dX2_ofFall_29 (by decide) ?_
    refine x_isubN C dX2_ofFall_30 (by omega) ?_
    refine x_iload_n C 1 rfl dX2_ofFall_31 rfl ?_
    refine x_isubN C dX2_ofFall_32 (by omega) ?_
    refine x_bipush (v := (nI 20)) C dX2_ofFall_33 (by decide) ?_
    refine x_iremN C dX2_ofFall_35 (by omega) (by omega) (by omega) ?_
    refine x_callVd (As := [.int (nI w), .int (nI (((fc - 1) - k) % 20))]) (rest := []) C dX2_ofFall_36 (c_X3_at (gX.l X) G (a 9) (a 10) 20 60 fs w (((fc - 1) - k) % 20) (w * 20 + (((fc - 1) - k) % 20)) (by omega) (by omega) (by omega) (by omega) (by omega)) ml_X2_58 im_X3_at sl_X3_at in_X3 cd_X3_at hd_X3_at 0 rfl rfl rfl rfl (Nat.le_of_ble_eq_true rfl) ⟨Nat.le_of_ble_eq_true rfl, Nat.le_of_ble_eq_true rfl⟩ (List.take 9 (wS G a ti se ho ri bo bc fs fc)) (List.drop 11 (wS G a ti se ho ri bo bc fs fc)) rfl (ws' := (wS G a ti se ho ri bo bc fs fc)) rfl (st' := [.int (fs (w * 20 + (((fc - 1) - k) % 20)))]) rfl ⟨rfl, rfl⟩ ⟨Nat.le_of_ble_eq_true rfl, Nat.le_of_ble_eq_true rfl⟩ ?_
    exact x_iret C hr E dX2_ofFall_39 (fun _ => 0) (by simp only [c_ofFall, c1, c2,  if_true, if_false, ite_true, ite_false, and_true, true_and, and_false, false_and, or_true, true_or, or_false, false_or, not_true_eq_false, not_false_eq_true, and_self, or_self] <;> rfl) rfl
  · refine x_bipush (v := (-5)) C dX2_ofFall_17 (by decide) ?_
    exact x_iret C hr E dX2_ofFall_19 (fun _ => 0) (by simp only [c_ofFall, c1, c2,  if_true, if_false, ite_true, ite_false, and_true, true_and, and_false, false_and, or_true, true_or, or_false, false_or, not_true_eq_false, not_false_eq_true, and_self, or_self] <;> rfl) rfl
def rm_X2_letFall : Room := { frames := 2, cells := 0, slots := 0, locals := 47 }
set_option maxRecDepth 100000 in
set_option maxHeartbeats 4000000 in
theorem c_X2_letFall (l : Launch) (G : gG) (a : Nat → Nat) (ti : Nat) (se ho ri bo : Nat → Int32) (bc : Nat) (fs : Nat → Int32) (fc : Nat) (r h : Nat)  (hr0 : r < 12) (hh : h < 10) (hfc : fc < 2 ^ 30) : CT l yX2_letFall cX2_letFall 4 none rm_X2_letFall G [.ref (a 0), .int (nI r), .int (nI h)] (wS G a ti se ho ri bo bc fs fc) none (fun _ => (wS G a ti se (c_fallHo ho h) (c_fallRi ri r) bo bc (c_fallFs fs fc ti r h) (fc + 1))) := by
  refine gMet (by decide) (Nat.le_of_ble_eq_true rfl) (fun X hX C hr hin E => ?_)
  clear hX
  refine (show gW G X (wS G a ti se ho ri bo bc fs fc) 0 0 0 [(0, .ref (a 0)), (1, .int (nI r)), (2, .int (nI h))] [] from ?_)
  refine x_aload_n C 0 rfl dX2_letFall_0 rfl ?_
  refine x_get (k := 3) (v := .ref (a 5)) C dX2_letFall_1 layX2 fl_X2_23 0 rfl rfl (by decide) rfl ?_
  refine x_iconst (v := (nI 2)) C dX2_letFall_4 (by decide) ?_
  refine x_iload_n C 1 rfl dX2_letFall_5 rfl ?_
  refine x_bipush (v := (nI 9)) C dX2_letFall_6 (by decide) ?_
  refine x_callVd (As := [.int (nI 2), .int (nI r), .int (nI 9)]) (rest := []) C dX2_letFall_8 (c_X3_addUpTo (gX.l X) G (a 5) (a 6) 12 120 ri 2 r (24 + r) 9 (by omega) (by omega) (by omega) (by omega) (by omega)) ml_X2_139 im_X3_addUpTo sl_X3_addUpTo in_X3 cd_X3_addUpTo hd_X3_addUpTo 0 rfl rfl rfl rfl (Nat.le_of_ble_eq_true rfl) ⟨Nat.le_of_ble_eq_true rfl, Nat.le_of_ble_eq_true rfl⟩ (List.take 5 (wS G a ti se ho ri bo bc fs fc)) (List.drop 7 (wS G a ti se ho ri bo bc fs fc)) rfl (ws' := (wS G a ti se ho (upd ri (24 + r) (mnI 9 (ri (24 + r) + 1))) bo bc fs fc)) rfl (st' := []) rfl ⟨rfl, rfl⟩ ⟨Nat.le_of_ble_eq_true rfl, Nat.le_of_ble_eq_true rfl⟩ ?_
  refine x_aload_n C 0 rfl dX2_letFall_11 rfl ?_
  refine x_get (k := 3) (v := .ref (a 5)) C dX2_letFall_12 layX2 fl_X2_23 0 rfl rfl (by decide) rfl ?_
  refine x_iconst (v := (nI 4)) C dX2_letFall_15 (by decide) ?_
  refine x_iload_n C 1 rfl dX2_letFall_16 rfl ?_
  refine x_iconst (v := (nI 0)) C dX2_letFall_17 (by decide) ?_
  refine x_callVd (As := [.int (nI 4), .int (nI r), .int (nI 0)]) (rest := []) C dX2_letFall_18 (c_X3_put (gX.l X) G (a 5) (a 6) 12 120 (upd ri (24 + r) (mnI 9 (ri (24 + r) + 1))) 4 r (48 + r) 0 (by omega) (by omega) (by omega) (by omega) (by omega)) ml_X2_40 im_X3_put sl_X3_put in_X3 cd_X3_put hd_X3_put 0 rfl rfl rfl rfl (Nat.le_of_ble_eq_true rfl) ⟨Nat.le_of_ble_eq_true rfl, Nat.le_of_ble_eq_true rfl⟩ (List.take 5 (wS G a ti se ho (upd ri (24 + r) (mnI 9 (ri (24 + r) + 1))) bo bc fs fc)) (List.drop 7 (wS G a ti se ho (upd ri (24 + r) (mnI 9 (ri (24 + r) + 1))) bo bc fs fc)) rfl (ws' := (wS G a ti se ho (upd (upd ri (24 + r) (mnI 9 (ri (24 + r) + 1))) (48 + r) 0) bo bc fs fc)) rfl (st' := []) rfl ⟨rfl, rfl⟩ ⟨Nat.le_of_ble_eq_true rfl, Nat.le_of_ble_eq_true rfl⟩ ?_
  refine x_aload_n C 0 rfl dX2_letFall_21 rfl ?_
  refine x_get (k := 3) (v := .ref (a 5)) C dX2_letFall_22 layX2 fl_X2_23 0 rfl rfl (by decide) rfl ?_
  refine x_bipush (v := (nI 6)) C dX2_letFall_25 (by decide) ?_
  refine x_iload_n C 1 rfl dX2_letFall_27 rfl ?_
  refine x_iconst (v := (nI 1)) C dX2_letFall_28 (by decide) ?_
  refine x_callVd (As := [.int (nI 6), .int (nI r), .int (nI 1)]) (rest := []) C dX2_letFall_29 (c_X3_add (gX.l X) G (a 5) (a 6) 12 120 (upd (upd ri (24 + r) (mnI 9 (ri (24 + r) + 1))) (48 + r) 0) 6 r (72 + r) 1 (by omega) (by omega) (by omega) (by omega) (by omega)) ml_X2_117 im_X3_add sl_X3_add in_X3 cd_X3_add hd_X3_add 0 rfl rfl rfl rfl (Nat.le_of_ble_eq_true rfl) ⟨Nat.le_of_ble_eq_true rfl, Nat.le_of_ble_eq_true rfl⟩ (List.take 5 (wS G a ti se ho (upd (upd ri (24 + r) (mnI 9 (ri (24 + r) + 1))) (48 + r) 0) bo bc fs fc)) (List.drop 7 (wS G a ti se ho (upd (upd ri (24 + r) (mnI 9 (ri (24 + r) + 1))) (48 + r) 0) bo bc fs fc)) rfl (ws' := (wS G a ti se ho (upd (upd (upd ri (24 + r) (mnI 9 (ri (24 + r) + 1))) (48 + r) 0) (72 + r) ((upd (upd ri (24 + r) (mnI 9 (ri (24 + r) + 1))) (48 + r) 0) (72 + r) + 1)) bo bc fs fc)) rfl (st' := []) rfl ⟨rfl, rfl⟩ ⟨Nat.le_of_ble_eq_true rfl, Nat.le_of_ble_eq_true rfl⟩ ?_
  refine x_aload_n C 0 rfl dX2_letFall_32 rfl ?_
  refine x_get (k := 2) (v := .ref (a 3)) C dX2_letFall_33 layX2 fl_X2_20 0 rfl rfl (by decide) rfl ?_
  refine x_bipush (v := (nI 7)) C dX2_letFall_36 (by decide) ?_
  refine x_iload_n C 2 rfl dX2_letFall_38 rfl ?_
  refine x_iconst (v := (nI 1)) C dX2_letFall_39 (by decide) ?_
  refine x_callVd (As := [.int (nI 7), .int (nI h), .int (nI 1)]) (rest := []) C dX2_letFall_40 (c_X3_add (gX.l X) G (a 3) (a 4) 10 90 ho 7 h (70 + h) 1 (by omega) (by omega) (by omega) (by omega) (by omega)) ml_X2_117 im_X3_add sl_X3_add in_X3 cd_X3_add hd_X3_add 0 rfl rfl rfl rfl (Nat.le_of_ble_eq_true rfl) ⟨Nat.le_of_ble_eq_true rfl, Nat.le_of_ble_eq_true rfl⟩ (List.take 3 (wS G a ti se ho (upd (upd (upd ri (24 + r) (mnI 9 (ri (24 + r) + 1))) (48 + r) 0) (72 + r) ((upd (upd ri (24 + r) (mnI 9 (ri (24 + r) + 1))) (48 + r) 0) (72 + r) + 1)) bo bc fs fc)) (List.drop 5 (wS G a ti se ho (upd (upd (upd ri (24 + r) (mnI 9 (ri (24 + r) + 1))) (48 + r) 0) (72 + r) ((upd (upd ri (24 + r) (mnI 9 (ri (24 + r) + 1))) (48 + r) 0) (72 + r) + 1)) bo bc fs fc)) rfl (ws' := (wS G a ti se (upd ho (70 + h) (ho (70 + h) + 1)) (upd (upd (upd ri (24 + r) (mnI 9 (ri (24 + r) + 1))) (48 + r) 0) (72 + r) ((upd (upd ri (24 + r) (mnI 9 (ri (24 + r) + 1))) (48 + r) 0) (72 + r) + 1)) bo bc fs fc)) rfl (st' := []) rfl ⟨rfl, rfl⟩ ⟨Nat.le_of_ble_eq_true rfl, Nat.le_of_ble_eq_true rfl⟩ ?_
  refine x_aload_n C 0 rfl dX2_letFall_43 rfl ?_
  refine x_get (k := 7) (v := .int (nI fc)) C dX2_letFall_44 layX2 fl_X2_55 0 rfl rfl (by decide) rfl ?_
  refine x_bipush (v := (nI 20)) C dX2_letFall_47 (by decide) ?_
  refine x_iremN C dX2_letFall_49 (by omega) (by omega) (by omega) ?_
  refine x_istore_n (lv' := [(3, .int (nI (fc % 20))), (0, .ref (a 0)), (1, .int (nI r)), (2, .int (nI h))]) C dX2_letFall_50 rfl (by decide) rfl ?_
  refine x_aload_n C 1 rfl dX2_letFall_51 rfl ?_
  refine x_get (k := 6) (v := .ref (a 9)) C dX2_letFall_52 layX2 fl_X2_29 0 rfl rfl (by decide) rfl ?_
  refine x_iconst (v := (nI 0)) C dX2_letFall_55 (by decide) ?_
  refine x_iload_n C 0 rfl dX2_letFall_56 rfl ?_
  refine x_aload_n C 1 rfl dX2_letFall_57 rfl ?_
  refine x_get (k := 0) (v := .int (nI ti)) C dX2_letFall_58 layX2 fl_X2_44 0 rfl rfl (by decide) rfl ?_
  refine x_callVd (As := [.int (nI 0), .int (nI (fc % 20)), .int (nI ti)]) (rest := []) C dX2_letFall_61 (c_X3_put (gX.l X) G (a 9) (a 10) 20 60 fs 0 (fc % 20) (fc % 20) (nI ti) (by omega) (by omega) (by omega) (by omega) (by omega)) ml_X2_40 im_X3_put sl_X3_put in_X3 cd_X3_put hd_X3_put 0 rfl rfl rfl rfl (Nat.le_of_ble_eq_true rfl) ⟨Nat.le_of_ble_eq_true rfl, Nat.le_of_ble_eq_true rfl⟩ (List.take 9 (wS G a ti se (upd ho (70 + h) (ho (70 + h) + 1)) (upd (upd (upd ri (24 + r) (mnI 9 (ri (24 + r) + 1))) (48 + r) 0) (72 + r) ((upd (upd ri (24 + r) (mnI 9 (ri (24 + r) + 1))) (48 + r) 0) (72 + r) + 1)) bo bc fs fc)) (List.drop 11 (wS G a ti se (upd ho (70 + h) (ho (70 + h) + 1)) (upd (upd (upd ri (24 + r) (mnI 9 (ri (24 + r) + 1))) (48 + r) 0) (72 + r) ((upd (upd ri (24 + r) (mnI 9 (ri (24 + r) + 1))) (48 + r) 0) (72 + r) + 1)) bo bc fs fc)) rfl (ws' := (wS G a ti se (upd ho (70 + h) (ho (70 + h) + 1)) (upd (upd (upd ri (24 + r) (mnI 9 (ri (24 + r) + 1))) (48 + r) 0) (72 + r) ((upd (upd ri (24 + r) (mnI 9 (ri (24 + r) + 1))) (48 + r) 0) (72 + r) + 1)) bo bc (upd fs (fc % 20) (nI ti)) fc)) rfl (st' := []) rfl ⟨rfl, rfl⟩ ⟨Nat.le_of_ble_eq_true rfl, Nat.le_of_ble_eq_true rfl⟩ ?_
  refine x_aload_n C 1 rfl dX2_letFall_64 rfl ?_
  refine x_get (k := 6) (v := .ref (a 9)) C dX2_letFall_65 layX2 fl_X2_29 0 rfl rfl (by decide) rfl ?_
  refine x_iconst (v := (nI 1)) C dX2_letFall_68 (by decide) ?_
  refine x_iload_n C 0 rfl dX2_letFall_69 rfl ?_
  refine x_iload_n C 2 rfl dX2_letFall_70 rfl ?_
  refine x_callVd (As := [.int (nI 1), .int (nI (fc % 20)), .int (nI r)]) (rest := []) C dX2_letFall_71 (c_X3_put (gX.l X) G (a 9) (a 10) 20 60 (upd fs (fc % 20) (nI ti)) 1 (fc % 20) (20 + (fc % 20)) (nI r) (by omega) (by omega) (by omega) (by omega) (by omega)) ml_X2_40 im_X3_put sl_X3_put in_X3 cd_X3_put hd_X3_put 0 rfl rfl rfl rfl (Nat.le_of_ble_eq_true rfl) ⟨Nat.le_of_ble_eq_true rfl, Nat.le_of_ble_eq_true rfl⟩ (List.take 9 (wS G a ti se (upd ho (70 + h) (ho (70 + h) + 1)) (upd (upd (upd ri (24 + r) (mnI 9 (ri (24 + r) + 1))) (48 + r) 0) (72 + r) ((upd (upd ri (24 + r) (mnI 9 (ri (24 + r) + 1))) (48 + r) 0) (72 + r) + 1)) bo bc (upd fs (fc % 20) (nI ti)) fc)) (List.drop 11 (wS G a ti se (upd ho (70 + h) (ho (70 + h) + 1)) (upd (upd (upd ri (24 + r) (mnI 9 (ri (24 + r) + 1))) (48 + r) 0) (72 + r) ((upd (upd ri (24 + r) (mnI 9 (ri (24 + r) + 1))) (48 + r) 0) (72 + r) + 1)) bo bc (upd fs (fc % 20) (nI ti)) fc)) rfl (ws' := (wS G a ti se (upd ho (70 + h) (ho (70 + h) + 1)) (upd (upd (upd ri (24 + r) (mnI 9 (ri (24 + r) + 1))) (48 + r) 0) (72 + r) ((upd (upd ri (24 + r) (mnI 9 (ri (24 + r) + 1))) (48 + r) 0) (72 + r) + 1)) bo bc (upd (upd fs (fc % 20) (nI ti)) (20 + (fc % 20)) (nI r)) fc)) rfl (st' := []) rfl ⟨rfl, rfl⟩ ⟨Nat.le_of_ble_eq_true rfl, Nat.le_of_ble_eq_true rfl⟩ ?_
  refine x_aload_n C 1 rfl dX2_letFall_74 rfl ?_
  refine x_get (k := 6) (v := .ref (a 9)) C dX2_letFall_75 layX2 fl_X2_29 0 rfl rfl (by decide) rfl ?_
  refine x_iconst (v := (nI 2)) C dX2_letFall_78 (by decide) ?_
  refine x_iload_n C 0 rfl dX2_letFall_79 rfl ?_
  refine x_iload_n C 3 rfl dX2_letFall_80 rfl ?_
  refine x_callVd (As := [.int (nI 2), .int (nI (fc % 20)), .int (nI h)]) (rest := []) C dX2_letFall_81 (c_X3_put (gX.l X) G (a 9) (a 10) 20 60 (upd (upd fs (fc % 20) (nI ti)) (20 + (fc % 20)) (nI r)) 2 (fc % 20) (40 + (fc % 20)) (nI h) (by omega) (by omega) (by omega) (by omega) (by omega)) ml_X2_40 im_X3_put sl_X3_put in_X3 cd_X3_put hd_X3_put 0 rfl rfl rfl rfl (Nat.le_of_ble_eq_true rfl) ⟨Nat.le_of_ble_eq_true rfl, Nat.le_of_ble_eq_true rfl⟩ (List.take 9 (wS G a ti se (upd ho (70 + h) (ho (70 + h) + 1)) (upd (upd (upd ri (24 + r) (mnI 9 (ri (24 + r) + 1))) (48 + r) 0) (72 + r) ((upd (upd ri (24 + r) (mnI 9 (ri (24 + r) + 1))) (48 + r) 0) (72 + r) + 1)) bo bc (upd (upd fs (fc % 20) (nI ti)) (20 + (fc % 20)) (nI r)) fc)) (List.drop 11 (wS G a ti se (upd ho (70 + h) (ho (70 + h) + 1)) (upd (upd (upd ri (24 + r) (mnI 9 (ri (24 + r) + 1))) (48 + r) 0) (72 + r) ((upd (upd ri (24 + r) (mnI 9 (ri (24 + r) + 1))) (48 + r) 0) (72 + r) + 1)) bo bc (upd (upd fs (fc % 20) (nI ti)) (20 + (fc % 20)) (nI r)) fc)) rfl (ws' := (wS G a ti se (upd ho (70 + h) (ho (70 + h) + 1)) (upd (upd (upd ri (24 + r) (mnI 9 (ri (24 + r) + 1))) (48 + r) 0) (72 + r) ((upd (upd ri (24 + r) (mnI 9 (ri (24 + r) + 1))) (48 + r) 0) (72 + r) + 1)) bo bc (upd (upd (upd fs (fc % 20) (nI ti)) (20 + (fc % 20)) (nI r)) (40 + (fc % 20)) (nI h)) fc)) rfl (st' := []) rfl ⟨rfl, rfl⟩ ⟨Nat.le_of_ble_eq_true rfl, Nat.le_of_ble_eq_true rfl⟩ ?_
  refine x_aload_n C 1 rfl dX2_letFall_84 rfl ?_
  refine x_dup C rfl dX2_letFall_85 ?_
  refine x_get (k := 7) (v := .int (nI fc)) C dX2_letFall_86 layX2 fl_X2_55 0 rfl rfl (by decide) rfl ?_
  refine x_iconst (v := (nI 1)) C dX2_letFall_89 (by decide) ?_
  refine x_iaddN C dX2_letFall_90 ?_
  refine x_put (k := 7) (ws' := (wS G a ti se (upd ho (70 + h) (ho (70 + h) + 1)) (upd (upd (upd ri (24 + r) (mnI 9 (ri (24 + r) + 1))) (48 + r) 0) (72 + r) ((upd (upd ri (24 + r) (mnI 9 (ri (24 + r) + 1))) (48 + r) 0) (72 + r) + 1)) bo bc (upd (upd (upd fs (fc % 20) (nI ti)) (20 + (fc % 20)) (nI r)) (40 + (fc % 20)) (nI h)) (fc + 1))) C dX2_letFall_91 layX2 tyX2 tyX2_ok nmX2 fl_X2_55 0 rfl rfl (by decide) rfl rfl rfl rfl (Nat.le_of_ble_eq_true rfl) rfl ?_
  exact x_vret C hr E dX2_letFall_94 (fun _ => 0) rfl
def rm_X2_letLearn : Room := { frames := 2, cells := 0, slots := 0, locals := 47 }
set_option maxRecDepth 100000 in
set_option maxHeartbeats 4000000 in
theorem c_X2_letLearn (l : Launch) (G : gG) (a : Nat → Nat) (ti : Nat) (se ho ri bo : Nat → Int32) (bc : Nat) (fs : Nat → Int32) (fc : Nat) (r : Nat)  (hr0 : r < 12) : CT l yX2_letLearn cX2_letLearn 2 none rm_X2_letLearn G [.ref (a 0), .int (nI r)] (wS G a ti se ho ri bo bc fs fc) none (fun _ => (wS G a ti se ho (c_learn ri r) bo bc fs fc)) := by
  refine gMet (by decide) (Nat.le_of_ble_eq_true rfl) (fun X hX C hr hin E => ?_)
  clear hX
  refine (show gW G X (wS G a ti se ho ri bo bc fs fc) 0 0 0 [(0, .ref (a 0)), (1, .int (nI r))] [] from ?_)
  refine x_aload_n C 0 rfl dX2_letLearn_0 rfl ?_
  refine x_get (k := 3) (v := .ref (a 5)) C dX2_letLearn_1 layX2 fl_X2_23 0 rfl rfl (by decide) rfl ?_
  refine x_iconst (v := (nI 2)) C dX2_letLearn_4 (by decide) ?_
  refine x_iload_n C 1 rfl dX2_letLearn_5 rfl ?_
  refine x_iconst (v := (nI 1)) C dX2_letLearn_6 (by decide) ?_
  refine x_callVd (As := [.int (nI 2), .int (nI r), .int (nI 1)]) (rest := []) C dX2_letLearn_7 (c_X3_takeAway (gX.l X) G (a 5) (a 6) 12 120 ri 2 r (24 + r) 1 (by omega) (by omega) (by omega) (by omega) (by omega)) ml_X2_120 im_X3_takeAway sl_X3_takeAway in_X3 cd_X3_takeAway hd_X3_takeAway 0 rfl rfl rfl rfl (Nat.le_of_ble_eq_true rfl) ⟨Nat.le_of_ble_eq_true rfl, Nat.le_of_ble_eq_true rfl⟩ (List.take 5 (wS G a ti se ho ri bo bc fs fc)) (List.drop 7 (wS G a ti se ho ri bo bc fs fc)) rfl (ws' := (wS G a ti se ho (upd ri (24 + r) (mxI 0 (ri (24 + r) - 1))) bo bc fs fc)) rfl (st' := []) rfl ⟨rfl, rfl⟩ ⟨Nat.le_of_ble_eq_true rfl, Nat.le_of_ble_eq_true rfl⟩ ?_
  refine x_aload_n C 0 rfl dX2_letLearn_10 rfl ?_
  refine x_get (k := 3) (v := .ref (a 5)) C dX2_letLearn_11 layX2 fl_X2_23 0 rfl rfl (by decide) rfl ?_
  refine x_iconst (v := (nI 4)) C dX2_letLearn_14 (by decide) ?_
  refine x_iload_n C 1 rfl dX2_letLearn_15 rfl ?_
  refine x_iconst (v := (nI 1)) C dX2_letLearn_16 (by decide) ?_
  refine x_callVd (As := [.int (nI 4), .int (nI r), .int (nI 1)]) (rest := []) C dX2_letLearn_17 (c_X3_add (gX.l X) G (a 5) (a 6) 12 120 (upd ri (24 + r) (mxI 0 (ri (24 + r) - 1))) 4 r (48 + r) 1 (by omega) (by omega) (by omega) (by omega) (by omega)) ml_X2_117 im_X3_add sl_X3_add in_X3 cd_X3_add hd_X3_add 0 rfl rfl rfl rfl (Nat.le_of_ble_eq_true rfl) ⟨Nat.le_of_ble_eq_true rfl, Nat.le_of_ble_eq_true rfl⟩ (List.take 5 (wS G a ti se ho (upd ri (24 + r) (mxI 0 (ri (24 + r) - 1))) bo bc fs fc)) (List.drop 7 (wS G a ti se ho (upd ri (24 + r) (mxI 0 (ri (24 + r) - 1))) bo bc fs fc)) rfl (ws' := (wS G a ti se ho (upd (upd ri (24 + r) (mxI 0 (ri (24 + r) - 1))) (48 + r) ((upd ri (24 + r) (mxI 0 (ri (24 + r) - 1))) (48 + r) + 1)) bo bc fs fc)) rfl (st' := []) rfl ⟨rfl, rfl⟩ ⟨Nat.le_of_ble_eq_true rfl, Nat.le_of_ble_eq_true rfl⟩ ?_
  refine x_aload_n C 0 rfl dX2_letLearn_20 rfl ?_
  refine x_get (k := 3) (v := .ref (a 5)) C dX2_letLearn_21 layX2 fl_X2_23 0 rfl rfl (by decide) rfl ?_
  refine x_iconst (v := (nI 4)) C dX2_letLearn_24 (by decide) ?_
  refine x_iload_n C 1 rfl dX2_letLearn_25 rfl ?_
  refine x_callVd (As := [.int (nI 4), .int (nI r)]) (rest := []) C dX2_letLearn_26 (c_X3_at (gX.l X) G (a 5) (a 6) 12 120 (upd (upd ri (24 + r) (mxI 0 (ri (24 + r) - 1))) (48 + r) ((upd ri (24 + r) (mxI 0 (ri (24 + r) - 1))) (48 + r) + 1)) 4 r (48 + r) (by omega) (by omega) (by omega) (by omega) (by omega)) ml_X2_58 im_X3_at sl_X3_at in_X3 cd_X3_at hd_X3_at 0 rfl rfl rfl rfl (Nat.le_of_ble_eq_true rfl) ⟨Nat.le_of_ble_eq_true rfl, Nat.le_of_ble_eq_true rfl⟩ (List.take 5 (wS G a ti se ho (upd (upd ri (24 + r) (mxI 0 (ri (24 + r) - 1))) (48 + r) ((upd ri (24 + r) (mxI 0 (ri (24 + r) - 1))) (48 + r) + 1)) bo bc fs fc)) (List.drop 7 (wS G a ti se ho (upd (upd ri (24 + r) (mxI 0 (ri (24 + r) - 1))) (48 + r) ((upd ri (24 + r) (mxI 0 (ri (24 + r) - 1))) (48 + r) + 1)) bo bc fs fc)) rfl (ws' := (wS G a ti se ho (upd (upd ri (24 + r) (mxI 0 (ri (24 + r) - 1))) (48 + r) ((upd ri (24 + r) (mxI 0 (ri (24 + r) - 1))) (48 + r) + 1)) bo bc fs fc)) rfl (st' := [.int ((upd (upd ri (24 + r) (mxI 0 (ri (24 + r) - 1))) (48 + r) ((upd ri (24 + r) (mxI 0 (ri (24 + r) - 1))) (48 + r) + 1)) (48 + r))]) rfl ⟨rfl, rfl⟩ ⟨Nat.le_of_ble_eq_true rfl, Nat.le_of_ble_eq_true rfl⟩ ?_
  refine x_iconst (v := (nI 3)) C dX2_letLearn_29 (by decide) ?_
  refine x_irem (x := ((upd (upd ri (24 + r) (mxI 0 (ri (24 + r) - 1))) (48 + r) ((upd ri (24 + r) (mxI 0 (ri (24 + r) - 1))) (48 + r) + 1)) (48 + r))) (y := 3) C (by decide) dX2_letLearn_30 ?_
  refine x_if_ne (x := (iR ((upd (upd ri (24 + r) (mxI 0 (ri (24 + r) - 1))) (48 + r) ((upd ri (24 + r) (mxI 0 (ri (24 + r) - 1))) (48 + r) + 1)) (48 + r)) 3)) (tgt := 45) C dX2_letLearn_31 (by decide) (fun c1 => ?_) (fun c1 => ?_)
  · exact x_vret C hr E dX2_letLearn_45 (fun _ => 0) (by rw [c_learn]; first | rw [if_pos (by assumption)]; rfl | rw [if_neg (by assumption)]; rfl)
  · refine x_aload_n C 0 rfl dX2_letLearn_34 rfl ?_
    refine x_get (k := 3) (v := .ref (a 5)) C dX2_letLearn_35 layX2 fl_X2_23 0 rfl rfl (by decide) rfl ?_
    refine x_iconst (v := (nI 1)) C dX2_letLearn_38 (by decide) ?_
    refine x_iload_n C 1 rfl dX2_letLearn_39 rfl ?_
    refine x_bipush (v := (nI 9)) C dX2_letLearn_40 (by decide) ?_
    refine x_callVd (As := [.int (nI 1), .int (nI r), .int (nI 9)]) (rest := []) C dX2_letLearn_42 (c_X3_addUpTo (gX.l X) G (a 5) (a 6) 12 120 (upd (upd ri (24 + r) (mxI 0 (ri (24 + r) - 1))) (48 + r) ((upd ri (24 + r) (mxI 0 (ri (24 + r) - 1))) (48 + r) + 1)) 1 r (12 + r) 9 (by omega) (by omega) (by omega) (by omega) (by omega)) ml_X2_139 im_X3_addUpTo sl_X3_addUpTo in_X3 cd_X3_addUpTo hd_X3_addUpTo 0 rfl rfl rfl rfl (Nat.le_of_ble_eq_true rfl) ⟨Nat.le_of_ble_eq_true rfl, Nat.le_of_ble_eq_true rfl⟩ (List.take 5 (wS G a ti se ho (upd (upd ri (24 + r) (mxI 0 (ri (24 + r) - 1))) (48 + r) ((upd ri (24 + r) (mxI 0 (ri (24 + r) - 1))) (48 + r) + 1)) bo bc fs fc)) (List.drop 7 (wS G a ti se ho (upd (upd ri (24 + r) (mxI 0 (ri (24 + r) - 1))) (48 + r) ((upd ri (24 + r) (mxI 0 (ri (24 + r) - 1))) (48 + r) + 1)) bo bc fs fc)) rfl (ws' := (wS G a ti se ho (upd (upd (upd ri (24 + r) (mxI 0 (ri (24 + r) - 1))) (48 + r) ((upd ri (24 + r) (mxI 0 (ri (24 + r) - 1))) (48 + r) + 1)) (12 + r) (mnI 9 ((upd (upd ri (24 + r) (mxI 0 (ri (24 + r) - 1))) (48 + r) ((upd ri (24 + r) (mxI 0 (ri (24 + r) - 1))) (48 + r) + 1)) (12 + r) + 1))) bo bc fs fc)) rfl (st' := []) rfl ⟨rfl, rfl⟩ ⟨Nat.le_of_ble_eq_true rfl, Nat.le_of_ble_eq_true rfl⟩ ?_
    exact x_vret C hr E dX2_letLearn_45 (fun _ => 0) (by rw [c_learn]; first | rw [if_pos (by assumption)]; rfl | rw [if_neg (by assumption)]; rfl)
def rm_X2_strain : Room := { frames := 2, cells := 0, slots := 0, locals := 47 }
set_option maxRecDepth 100000 in
set_option maxHeartbeats 4000000 in
theorem c_X2_strain (l : Launch) (G : gG) (a : Nat → Nat) (ti : Nat) (se ho ri bo : Nat → Int32) (bc : Nat) (fs : Nat → Int32) (fc : Nat) (h : Nat) (w : Int32)  (hh : h < 10) : CT l yX2_strain cX2_strain 3 none rm_X2_strain G [.ref (a 0), .int (nI h), .int w] (wS G a ti se ho ri bo bc fs fc) none (fun _ => (wS G a ti se (c_strain se ho h w) ri bo bc fs fc)) := by
  refine gMet (by decide) (Nat.le_of_ble_eq_true rfl) (fun X hX C hr hin E => ?_)
  clear hX
  refine (show gW G X (wS G a ti se ho ri bo bc fs fc) 0 0 0 [(0, .ref (a 0)), (1, .int (nI h)), (2, .int w)] [] from ?_)
  refine x_iload_n C 2 rfl dX2_strain_0 rfl ?_
  refine x_aload_n C 0 rfl dX2_strain_1 rfl ?_
  refine x_get (k := 1) (v := .ref (a 1)) C dX2_strain_2 layX2 fl_X2_14 0 rfl rfl (by decide) rfl ?_
  refine x_iconst (v := (nI 0)) C dX2_strain_5 (by decide) ?_
  refine x_iconst (v := (nI 2)) C dX2_strain_6 (by decide) ?_
  refine x_callVd (As := [.int (nI 0), .int (nI 2)]) (rest := [.int w]) C dX2_strain_7 (c_X3_at (gX.l X) G (a 1) (a 2) 5 5 se 0 2 2 (by omega) (by omega) (by omega) (by omega) (by omega)) ml_X2_58 im_X3_at sl_X3_at in_X3 cd_X3_at hd_X3_at 0 rfl rfl rfl rfl (Nat.le_of_ble_eq_true rfl) ⟨Nat.le_of_ble_eq_true rfl, Nat.le_of_ble_eq_true rfl⟩ (List.take 1 (wS G a ti se ho ri bo bc fs fc)) (List.drop 3 (wS G a ti se ho ri bo bc fs fc)) rfl (ws' := (wS G a ti se ho ri bo bc fs fc)) rfl (st' := [.int (se 2), .int w]) rfl ⟨rfl, rfl⟩ ⟨Nat.le_of_ble_eq_true rfl, Nat.le_of_ble_eq_true rfl⟩ ?_
  refine x_iadd (x := w) (y := (se 2)) C dX2_strain_10 ?_
  refine x_aload_n C 0 rfl dX2_strain_11 rfl ?_
  refine x_get (k := 2) (v := .ref (a 3)) C dX2_strain_12 layX2 fl_X2_20 0 rfl rfl (by decide) rfl ?_
  refine x_iconst (v := (nI 0)) C dX2_strain_15 (by decide) ?_
  refine x_iload_n C 1 rfl dX2_strain_16 rfl ?_
  refine x_callVd (As := [.int (nI 0), .int (nI h)]) (rest := [.int (w + (se 2))]) C dX2_strain_17 (c_X3_at (gX.l X) G (a 3) (a 4) 10 90 ho 0 h h (by omega) (by omega) (by omega) (by omega) (by omega)) ml_X2_58 im_X3_at sl_X3_at in_X3 cd_X3_at hd_X3_at 0 rfl rfl rfl rfl (Nat.le_of_ble_eq_true rfl) ⟨Nat.le_of_ble_eq_true rfl, Nat.le_of_ble_eq_true rfl⟩ (List.take 3 (wS G a ti se ho ri bo bc fs fc)) (List.drop 5 (wS G a ti se ho ri bo bc fs fc)) rfl (ws' := (wS G a ti se ho ri bo bc fs fc)) rfl (st' := [.int (ho h), .int (w + (se 2))]) rfl ⟨rfl, rfl⟩ ⟨Nat.le_of_ble_eq_true rfl, Nat.le_of_ble_eq_true rfl⟩ ?_
  refine x_icmp_gt (x := (w + (se 2))) (y := (ho h)) (tgt := 24) C dX2_strain_20 (by decide) (fun c1 => ?_) (fun c1 => ?_)
  · refine x_aload_n C 0 rfl dX2_strain_24 rfl ?_
    refine x_get (k := 2) (v := .ref (a 3)) C dX2_strain_25 layX2 fl_X2_20 0 rfl rfl (by decide) rfl ?_
    refine x_iconst (v := (nI 4)) C dX2_strain_28 (by decide) ?_
    refine x_iload_n C 1 rfl dX2_strain_29 rfl ?_
    refine x_iconst (v := (nI 1)) C dX2_strain_30 (by decide) ?_
    refine x_callVd (As := [.int (nI 4), .int (nI h), .int (nI 1)]) (rest := []) C dX2_strain_31 (c_X3_add (gX.l X) G (a 3) (a 4) 10 90 ho 4 h (40 + h) 1 (by omega) (by omega) (by omega) (by omega) (by omega)) ml_X2_117 im_X3_add sl_X3_add in_X3 cd_X3_add hd_X3_add 0 rfl rfl rfl rfl (Nat.le_of_ble_eq_true rfl) ⟨Nat.le_of_ble_eq_true rfl, Nat.le_of_ble_eq_true rfl⟩ (List.take 3 (wS G a ti se ho ri bo bc fs fc)) (List.drop 5 (wS G a ti se ho ri bo bc fs fc)) rfl (ws' := (wS G a ti se (upd ho (40 + h) (ho (40 + h) + 1)) ri bo bc fs fc)) rfl (st' := []) rfl ⟨rfl, rfl⟩ ⟨Nat.le_of_ble_eq_true rfl, Nat.le_of_ble_eq_true rfl⟩ ?_
    refine x_aload_n C 0 rfl dX2_strain_34 rfl ?_
    refine x_get (k := 2) (v := .ref (a 3)) C dX2_strain_35 layX2 fl_X2_20 0 rfl rfl (by decide) rfl ?_
    refine x_iconst (v := (nI 4)) C dX2_strain_38 (by decide) ?_
    refine x_iload_n C 1 rfl dX2_strain_39 rfl ?_
    refine x_callVd (As := [.int (nI 4), .int (nI h)]) (rest := []) C dX2_strain_40 (c_X3_at (gX.l X) G (a 3) (a 4) 10 90 (upd ho (40 + h) (ho (40 + h) + 1)) 4 h (40 + h) (by omega) (by omega) (by omega) (by omega) (by omega)) ml_X2_58 im_X3_at sl_X3_at in_X3 cd_X3_at hd_X3_at 0 rfl rfl rfl rfl (Nat.le_of_ble_eq_true rfl) ⟨Nat.le_of_ble_eq_true rfl, Nat.le_of_ble_eq_true rfl⟩ (List.take 3 (wS G a ti se (upd ho (40 + h) (ho (40 + h) + 1)) ri bo bc fs fc)) (List.drop 5 (wS G a ti se (upd ho (40 + h) (ho (40 + h) + 1)) ri bo bc fs fc)) rfl (ws' := (wS G a ti se (upd ho (40 + h) (ho (40 + h) + 1)) ri bo bc fs fc)) rfl (st' := [.int ((upd ho (40 + h) (ho (40 + h) + 1)) (40 + h))]) rfl ⟨rfl, rfl⟩ ⟨Nat.le_of_ble_eq_true rfl, Nat.le_of_ble_eq_true rfl⟩ ?_
    refine x_iconst (v := (nI 3)) C dX2_strain_43 (by decide) ?_
    refine x_icmp_lt (x := ((upd ho (40 + h) (ho (40 + h) + 1)) (40 + h))) (y := 3) (tgt := 75) C dX2_strain_44 (by decide) (fun c2 => ?_) (fun c2 => ?_)
    · exact x_vret C hr E dX2_strain_75 (fun _ => 0) (by rw [c_strain, if_pos (by assumption)]; first | rw [if_pos (by assumption)]; rfl | rw [if_neg (by assumption)]; rfl)
    · refine x_aload_n C 0 rfl dX2_strain_47 rfl ?_
      refine x_get (k := 2) (v := .ref (a 3)) C dX2_strain_48 layX2 fl_X2_20 0 rfl rfl (by decide) rfl ?_
      refine x_iconst (v := (nI 5)) C dX2_strain_51 (by decide) ?_
      refine x_iload_n C 1 rfl dX2_strain_52 rfl ?_
      refine x_aload_n C 0 rfl dX2_strain_53 rfl ?_
      refine x_get (k := 1) (v := .ref (a 1)) C dX2_strain_54 layX2 fl_X2_14 0 rfl rfl (by decide) rfl ?_
      refine x_iconst (v := (nI 0)) C dX2_strain_57 (by decide) ?_
      refine x_iconst (v := (nI 3)) C dX2_strain_58 (by decide) ?_
      refine x_callVd (As := [.int (nI 0), .int (nI 3)]) (rest := [.int (nI h), .int (nI 5), .ref (a 3)]) C dX2_strain_59 (c_X3_at (gX.l X) G (a 1) (a 2) 5 5 se 0 3 3 (by omega) (by omega) (by omega) (by omega) (by omega)) ml_X2_58 im_X3_at sl_X3_at in_X3 cd_X3_at hd_X3_at 0 rfl rfl rfl rfl (Nat.le_of_ble_eq_true rfl) ⟨Nat.le_of_ble_eq_true rfl, Nat.le_of_ble_eq_true rfl⟩ (List.take 1 (wS G a ti se (upd ho (40 + h) (ho (40 + h) + 1)) ri bo bc fs fc)) (List.drop 3 (wS G a ti se (upd ho (40 + h) (ho (40 + h) + 1)) ri bo bc fs fc)) rfl (ws' := (wS G a ti se (upd ho (40 + h) (ho (40 + h) + 1)) ri bo bc fs fc)) rfl (st' := [.int (se 3), .int (nI h), .int (nI 5), .ref (a 3)]) rfl ⟨rfl, rfl⟩ ⟨Nat.le_of_ble_eq_true rfl, Nat.le_of_ble_eq_true rfl⟩ ?_
      refine x_callVd (As := [.int (nI 5), .int (nI h), .int (se 3)]) (rest := []) C dX2_strain_62 (c_X3_put (gX.l X) G (a 3) (a 4) 10 90 (upd ho (40 + h) (ho (40 + h) + 1)) 5 h (50 + h) (se 3) (by omega) (by omega) (by omega) (by omega) (by omega)) ml_X2_40 im_X3_put sl_X3_put in_X3 cd_X3_put hd_X3_put 0 rfl rfl rfl rfl (Nat.le_of_ble_eq_true rfl) ⟨Nat.le_of_ble_eq_true rfl, Nat.le_of_ble_eq_true rfl⟩ (List.take 3 (wS G a ti se (upd ho (40 + h) (ho (40 + h) + 1)) ri bo bc fs fc)) (List.drop 5 (wS G a ti se (upd ho (40 + h) (ho (40 + h) + 1)) ri bo bc fs fc)) rfl (ws' := (wS G a ti se (upd (upd ho (40 + h) (ho (40 + h) + 1)) (50 + h) (se 3)) ri bo bc fs fc)) rfl (st' := []) rfl ⟨rfl, rfl⟩ ⟨Nat.le_of_ble_eq_true rfl, Nat.le_of_ble_eq_true rfl⟩ ?_
      refine x_aload_n C 0 rfl dX2_strain_65 rfl ?_
      refine x_get (k := 2) (v := .ref (a 3)) C dX2_strain_66 layX2 fl_X2_20 0 rfl rfl (by decide) rfl ?_
      refine x_iconst (v := (nI 4)) C dX2_strain_69 (by decide) ?_
      refine x_iload_n C 1 rfl dX2_strain_70 rfl ?_
      refine x_iconst (v := (nI 0)) C dX2_strain_71 (by decide) ?_
      refine x_callVd (As := [.int (nI 4), .int (nI h), .int (nI 0)]) (rest := []) C dX2_strain_72 (c_X3_put (gX.l X) G (a 3) (a 4) 10 90 (upd (upd ho (40 + h) (ho (40 + h) + 1)) (50 + h) (se 3)) 4 h (40 + h) 0 (by omega) (by omega) (by omega) (by omega) (by omega)) ml_X2_40 im_X3_put sl_X3_put in_X3 cd_X3_put hd_X3_put 0 rfl rfl rfl rfl (Nat.le_of_ble_eq_true rfl) ⟨Nat.le_of_ble_eq_true rfl, Nat.le_of_ble_eq_true rfl⟩ (List.take 3 (wS G a ti se (upd (upd ho (40 + h) (ho (40 + h) + 1)) (50 + h) (se 3)) ri bo bc fs fc)) (List.drop 5 (wS G a ti se (upd (upd ho (40 + h) (ho (40 + h) + 1)) (50 + h) (se 3)) ri bo bc fs fc)) rfl (ws' := (wS G a ti se (upd (upd (upd ho (40 + h) (ho (40 + h) + 1)) (50 + h) (se 3)) (40 + h) 0) ri bo bc fs fc)) rfl (st' := []) rfl ⟨rfl, rfl⟩ ⟨Nat.le_of_ble_eq_true rfl, Nat.le_of_ble_eq_true rfl⟩ ?_
      exact x_vret C hr E dX2_strain_75 (fun _ => 0) (by rw [c_strain, if_pos (by assumption)]; first | rw [if_pos (by assumption)]; rfl | rw [if_neg (by assumption)]; rfl)
  · exact x_vret C hr E dX2_strain_23 (fun _ => 0) (by rw [c_strain, if_neg (by assumption)])
