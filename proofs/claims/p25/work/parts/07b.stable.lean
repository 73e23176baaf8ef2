def rm_X2_sumOfRiders : Room := { frames := 2, cells := 0, slots := 0, locals := 46 }
set_option maxRecDepth 100000 in
set_option maxHeartbeats 4000000 in
theorem c_X2_sumOfRiders (l : Launch) (G : gG) (a : Nat → Nat) (ti : Nat) (se ho ri bo : Nat → Int32) (bc : Nat) (fs : Nat → Int32) (fc : Nat) (w : Nat)  (hw : w < 10) : CT l yX2_sumOfRiders cX2_sumOfRiders 2 (some .int) rm_X2_sumOfRiders G [.ref (a 0), .int (nI w)] (wS G a ti se ho ri bo bc fs fc) (some (.int (sumF ri (w * 12) 12))) (fun _ => (wS G a ti se ho ri bo bc fs fc)) := by
  refine gMet (by decide) (Nat.le_of_ble_eq_true rfl) (fun X hX C hr hin E => ?_)
  clear hX
  refine (show gW G X (wS G a ti se ho ri bo bc fs fc) 0 0 0 [(0, .ref (a 0)), (1, .int (nI w))] [] from ?_)
  refine x_aload_n C 0 rfl dX2_sumOfRiders_0 rfl ?_
  refine x_get (k := 3) (v := .ref (a 5)) C dX2_sumOfRiders_1 layX2 fl_X2_23 0 rfl rfl (by decide) rfl ?_
  refine x_iload_n C 1 rfl dX2_sumOfRiders_4 rfl ?_
  refine x_callVd (As := [.int (nI w)]) (rest := []) C dX2_sumOfRiders_5 (c_X3_sum (gX.l X) G (a 5) (a 6) 12 120 ri w (w * 12) (by omega) (by omega) (by omega)) ml_X2_62 im_X3_sum sl_X3_sum in_X3 cd_X3_sum hd_X3_sum 0 rfl rfl rfl rfl (Nat.le_of_ble_eq_true rfl) ⟨Nat.le_of_ble_eq_true rfl, Nat.le_of_ble_eq_true rfl⟩ (List.take 5 (wS G a ti se ho ri bo bc fs fc)) (List.drop 7 (wS G a ti se ho ri bo bc fs fc)) rfl (ws' := (wS G a ti se ho ri bo bc fs fc)) rfl (st' := [.int (sumF ri (w * 12) 12)]) rfl ⟨rfl, rfl⟩ ⟨Nat.le_of_ble_eq_true rfl, Nat.le_of_ble_eq_true rfl⟩ ?_
  exact x_iret C hr E dX2_sumOfRiders_8 (fun _ => 0) rfl rfl
def rm_X2_lameHorses : Room := { frames := 1, cells := 0, slots := 0, locals := 23 }
set_option maxRecDepth 100000 in
set_option maxHeartbeats 4000000 in
theorem c_X2_lameHorses (l : Launch) (G : gG) (a : Nat → Nat) (ti : Nat) (se ho ri bo : Nat → Int32) (bc : Nat) (fs : Nat → Int32) (fc : Nat)  : CT l yX2_lameHorses cX2_lameHorses 3 (some .int) rm_X2_lameHorses G [.ref (a 0)] (wS G a ti se ho ri bo bc fs fc) (some (.int (c_lame ho 10))) (fun _ => (wS G a ti se ho ri bo bc fs fc)) := by
  refine gMet (by decide) (Nat.le_of_ble_eq_true rfl) (fun X hX C hr hin E => ?_)
  clear hX
  refine (show gW G X (wS G a ti se ho ri bo bc fs fc) 0 0 0 [(0, .ref (a 0))] [] from ?_)
  refine x_iconst (v := (nI 0)) C dX2_lameHorses_0 (by decide) ?_
  refine x_istore_n (lv' := [(1, .int (nI 0)), (0, .ref (a 0))]) C dX2_lameHorses_1 rfl (by decide) rfl ?_
  refine x_iconst (v := (nI 0)) C dX2_lameHorses_2 (by decide) ?_
  refine x_istore_n (lv' := [(2, .int (nI 0)), (1, .int (nI 0)), (0, .ref (a 0))]) C dX2_lameHorses_3 rfl (by decide) rfl ?_
  have L1 : ∀ (fu : Nat) (i : Nat) (acc : Int32), i + fu = 10 → acc = c_lame ho i → gW G X (wS G a ti se ho ri bo bc fs fc) 0 0 4 [(2, .int (nI i)), (1, .int acc), (0, .ref (a 0))] [] := by
    intro fu
    induction fu with
    | zero =>
      intro i acc hn ha
      have hi : i = 10 := by omega
      refine x_iload_n C 0 rfl dX2_lameHorses_4 rfl ?_
      refine x_bipush (v := (nI 10)) C dX2_lameHorses_5 (by decide) ?_
      refine x_icmp_geN (a := i) (b := 10) (tgt := 36) C dX2_lameHorses_7 (by decide) (by omega) (by omega) (fun c2 => ?_) (fun c2 => False.elim (by omega))
      refine x_iload_n C 1 rfl dX2_lameHorses_36 rfl ?_
      exact x_iret C hr E dX2_lameHorses_37 (fun _ => 0) (by rw [ha, hi]) rfl
    | succ fu ih =>
      intro i acc hn ha
      refine x_iload_n C 0 rfl dX2_lameHorses_4 rfl ?_
      refine x_bipush (v := (nI 10)) C dX2_lameHorses_5 (by decide) ?_
      refine x_icmp_geN (a := i) (b := 10) (tgt := 36) C dX2_lameHorses_7 (by decide) (by omega) (by omega) (fun c3 => False.elim (by omega)) (fun c3 => ?_)
      refine x_iload_n C 1 rfl dX2_lameHorses_10 rfl ?_
      refine x_aload_n C 2 rfl dX2_lameHorses_11 rfl ?_
      refine x_get (k := 2) (v := .ref (a 3)) C dX2_lameHorses_12 layX2 fl_X2_20 0 rfl rfl (by decide) rfl ?_
      refine x_iconst (v := (nI 5)) C dX2_lameHorses_15 (by decide) ?_
      refine x_iload_n C 0 rfl dX2_lameHorses_16 rfl ?_
      refine x_callVd (As := [.int (nI 5), .int (nI i)]) (rest := [.int acc]) C dX2_lameHorses_17 (c_X3_at (gX.l X) G (a 3) (a 4) 10 90 ho 5 i (50 + i) (by omega) (by omega) (by omega) (by omega) (by omega)) ml_X2_58 im_X3_at sl_X3_at in_X3 cd_X3_at hd_X3_at 0 rfl rfl rfl rfl (Nat.le_of_ble_eq_true rfl) ⟨Nat.le_of_ble_eq_true rfl, Nat.le_of_ble_eq_true rfl⟩ (List.take 3 (wS G a ti se ho ri bo bc fs fc)) (List.drop 5 (wS G a ti se ho ri bo bc fs fc)) rfl (ws' := (wS G a ti se ho ri bo bc fs fc)) rfl (st' := [.int (ho (50 + i)), .int acc]) rfl ⟨rfl, rfl⟩ ⟨Nat.le_of_ble_eq_true rfl, Nat.le_of_ble_eq_true rfl⟩ ?_
      have J5 : ∀ (y6 : Int32) , y6 = bI (0 < (ho (50 + i))) → gW G X (wS G a ti se ho ri bo bc fs fc) 0 0 28 [(2, .int (nI i)), (1, .int acc), (0, .ref (a 0))] [.int y6, .int acc] := by
        intro y6 ey6
        subst ey6
        refine x_iadd (x := acc) (y := (bI (0 < (ho (50 + i))))) C dX2_lameHorses_28 ?_
        refine x_istore_n (lv' := [(1, .int (acc + (bI (0 < (ho (50 + i)))))), (2, .int (nI i)), (0, .ref (a 0))]) C dX2_lameHorses_29 rfl (by decide) rfl ?_
        refine x_iinc (v := (nI (i + 1))) (lv' := [(2, .int (nI (i + 1))), (1, .int (acc + (bI (0 < (ho (50 + i)))))), (0, .ref (a 0))]) C 1 rfl dX2_lameHorses_30 (by rw [show Int32.ofInt 1 = nI 1 from rfl]; exact nI_add _ _) (by decide) rfl ?_
        refine x_goto (tgt := 4) C dX2_lameHorses_33 (by decide) ?_
        exact ih (i + 1) (acc + (bI (0 < (ho (50 + i))))) (by omega) (by rw [ha]; rfl)
      refine x_if_le (x := (ho (50 + i))) (tgt := 27) C dX2_lameHorses_20 (by decide) (fun c4 => ?_) (fun c4 => ?_)
      · refine x_iconst (v := (nI 0)) C dX2_lameHorses_27 (by decide) ?_
        exact J5 (nI 0) (bI_f (by simp only [c4, if_true, if_false, ite_true, ite_false, and_true, true_and, and_false, false_and, or_true, true_or, or_false, false_or, not_true_eq_false, not_false_eq_true, and_self, or_self] <;> decide)).symm
      · refine x_iconst (v := (nI 1)) C dX2_lameHorses_23 (by decide) ?_
        refine x_goto (tgt := 28) C dX2_lameHorses_24 (by decide) ?_
        exact J5 (nI 1) (bI_t (by simp only [c4, if_true, if_false, ite_true, ite_false, and_true, true_and, and_false, false_and, or_true, true_or, or_false, false_or, not_true_eq_false, not_false_eq_true, and_self, or_self] <;> decide)).symm
  exact L1 10 0 0 (by omega) (by rfl)
def rm_X2_abilityOf : Room := { frames := 1, cells := 0, slots := 0, locals := 23 }
set_option maxRecDepth 100000 in
set_option maxHeartbeats 4000000 in
theorem c_X2_abilityOf (l : Launch) (G : gG) (a : Nat → Nat) (ti : Nat) (se ho ri bo : Nat → Int32) (bc : Nat) (fs : Nat → Int32) (fc : Nat) (r : Nat)  (hr0 : r < 12) : CT l yX2_abilityOf cX2_abilityOf 2 (some .int) rm_X2_abilityOf G [.ref (a 0), .int (nI r)] (wS G a ti se ho ri bo bc fs fc) (some (.int (c_abil ri r))) (fun _ => (wS G a ti se ho ri bo bc fs fc)) := by
  refine gMet (by decide) (Nat.le_of_ble_eq_true rfl) (fun X hX C hr hin E => ?_)
  clear hX
  refine (show gW G X (wS G a ti se ho ri bo bc fs fc) 0 0 0 [(0, .ref (a 0)), (1, .int (nI r))] [] from ?_)
  refine x_iconst (v := (nI 0)) C dX2_abilityOf_0 (by decide) ?_
  refine x_aload_n C 0 rfl dX2_abilityOf_1 rfl ?_
  refine x_get (k := 3) (v := .ref (a 5)) C dX2_abilityOf_2 layX2 fl_X2_23 0 rfl rfl (by decide) rfl ?_
  refine x_iconst (v := (nI 1)) C dX2_abilityOf_5 (by decide) ?_
  refine x_iload_n C 1 rfl dX2_abilityOf_6 rfl ?_
  refine x_callVd (As := [.int (nI 1), .int (nI r)]) (rest := [.int (nI 0)]) C dX2_abilityOf_7 (c_X3_at (gX.l X) G (a 5) (a 6) 12 120 ri 1 r (12 + r) (by omega) (by omega) (by omega) (by omega) (by omega)) ml_X2_58 im_X3_at sl_X3_at in_X3 cd_X3_at hd_X3_at 0 rfl rfl rfl rfl (Nat.le_of_ble_eq_true rfl) ⟨Nat.le_of_ble_eq_true rfl, Nat.le_of_ble_eq_true rfl⟩ (List.take 5 (wS G a ti se ho ri bo bc fs fc)) (List.drop 7 (wS G a ti se ho ri bo bc fs fc)) rfl (ws' := (wS G a ti se ho ri bo bc fs fc)) rfl (st' := [.int (ri (12 + r)), .int (nI 0)]) rfl ⟨rfl, rfl⟩ ⟨Nat.le_of_ble_eq_true rfl, Nat.le_of_ble_eq_true rfl⟩ ?_
  refine x_aload_n C 0 rfl dX2_abilityOf_10 rfl ?_
  refine x_get (k := 3) (v := .ref (a 5)) C dX2_abilityOf_11 layX2 fl_X2_23 0 rfl rfl (by decide) rfl ?_
  refine x_iconst (v := (nI 2)) C dX2_abilityOf_14 (by decide) ?_
  refine x_iload_n C 1 rfl dX2_abilityOf_15 rfl ?_
  refine x_callVd (As := [.int (nI 2), .int (nI r)]) (rest := [.int (ri (12 + r)), .int (nI 0)]) C dX2_abilityOf_16 (c_X3_at (gX.l X) G (a 5) (a 6) 12 120 ri 2 r (24 + r) (by omega) (by omega) (by omega) (by omega) (by omega)) ml_X2_58 im_X3_at sl_X3_at in_X3 cd_X3_at hd_X3_at 0 rfl rfl rfl rfl (Nat.le_of_ble_eq_true rfl) ⟨Nat.le_of_ble_eq_true rfl, Nat.le_of_ble_eq_true rfl⟩ (List.take 5 (wS G a ti se ho ri bo bc fs fc)) (List.drop 7 (wS G a ti se ho ri bo bc fs fc)) rfl (ws' := (wS G a ti se ho ri bo bc fs fc)) rfl (st' := [.int (ri (24 + r)), .int (ri (12 + r)), .int (nI 0)]) rfl ⟨rfl, rfl⟩ ⟨Nat.le_of_ble_eq_true rfl, Nat.le_of_ble_eq_true rfl⟩ ?_
  refine x_isub (x := (ri (12 + r))) (y := (ri (24 + r))) C dX2_abilityOf_19 ?_
  refine x_max (x := 0) (y := ((ri (12 + r)) - (ri (24 + r)))) C dX2_abilityOf_20 ml_X2_72 st_J9_max_7cf53 in_J9 cd_J9_max_7cf53 (Nat.le_of_ble_eq_true rfl) ⟨Nat.le_of_ble_eq_true rfl, Nat.le_of_ble_eq_true rfl⟩ ⟨Nat.le_of_ble_eq_true rfl, Nat.le_of_ble_eq_true rfl⟩ ?_
  exact x_iret C hr E dX2_abilityOf_23 (fun _ => 0) rfl rfl
def rm_X2_ringOfBooking : Room := { frames := 1, cells := 0, slots := 0, locals := 23 }
set_option maxRecDepth 100000 in
set_option maxHeartbeats 4000000 in
theorem c_X2_ringOfBooking (l : Launch) (G : gG) (a : Nat → Nat) (ti : Nat) (se ho ri bo : Nat → Int32) (bc : Nat) (fs : Nat → Int32) (fc : Nat) (i : Nat)  (hi : i < 40) : CT l yX2_ringOfBooking cX2_ringOfBooking 2 (some .int) rm_X2_ringOfBooking G [.ref (a 0), .int (nI i)] (wS G a ti se ho ri bo bc fs fc) (some (.int (bo (40 + i)))) (fun _ => (wS G a ti se ho ri bo bc fs fc)) := by
  refine gMet (by decide) (Nat.le_of_ble_eq_true rfl) (fun X hX C hr hin E => ?_)
  clear hX
  refine (show gW G X (wS G a ti se ho ri bo bc fs fc) 0 0 0 [(0, .ref (a 0)), (1, .int (nI i))] [] from ?_)
  refine x_aload_n C 0 rfl dX2_ringOfBooking_0 rfl ?_
  refine x_get (k := 4) (v := .ref (a 7)) C dX2_ringOfBooking_1 layX2 fl_X2_26 0 rfl rfl (by decide) rfl ?_
  refine x_iconst (v := (nI 1)) C dX2_ringOfBooking_4 (by decide) ?_
  refine x_iload_n C 1 rfl dX2_ringOfBooking_5 rfl ?_
  refine x_callVd (As := [.int (nI 1), .int (nI i)]) (rest := []) C dX2_ringOfBooking_6 (c_X3_at (gX.l X) G (a 7) (a 8) 40 120 bo 1 i (40 + i) (by omega) (by omega) (by omega) (by omega) (by omega)) ml_X2_58 im_X3_at sl_X3_at in_X3 cd_X3_at hd_X3_at 0 rfl rfl rfl rfl (Nat.le_of_ble_eq_true rfl) ⟨Nat.le_of_ble_eq_true rfl, Nat.le_of_ble_eq_true rfl⟩ (List.take 7 (wS G a ti se ho ri bo bc fs fc)) (List.drop 9 (wS G a ti se ho ri bo bc fs fc)) rfl (ws' := (wS G a ti se ho ri bo bc fs fc)) rfl (st' := [.int (bo (40 + i))]) rfl ⟨rfl, rfl⟩ ⟨Nat.le_of_ble_eq_true rfl, Nat.le_of_ble_eq_true rfl⟩ ?_
  exact x_iret C hr E dX2_ringOfBooking_9 (fun _ => 0) rfl rfl
def rm_X2_isBooked : Room := { frames := 1, cells := 0, slots := 0, locals := 23 }
set_option maxRecDepth 100000 in
set_option maxHeartbeats 4000000 in
theorem c_X2_isBooked (l : Launch) (G : gG) (a : Nat → Nat) (ti : Nat) (se ho ri bo : Nat → Int32) (bc : Nat) (fs : Nat → Int32) (fc : Nat) (i h : Nat)  (hi : i < 40) : CT l yX2_isBooked cX2_isBooked 3 (some .boolean) rm_X2_isBooked G [.ref (a 0), .int (nI i), .int (nI h)] (wS G a ti se ho ri bo bc fs fc) (some (.int (bI (bo i = nI (ti + h))))) (fun _ => (wS G a ti se ho ri bo bc fs fc)) := by
  refine gMet (by decide) (Nat.le_of_ble_eq_true rfl) (fun X hX C hr hin E => ?_)
  clear hX
  refine (show gW G X (wS G a ti se ho ri bo bc fs fc) 0 0 0 [(0, .ref (a 0)), (1, .int (nI i)), (2, .int (nI h))] [] from ?_)
  refine x_aload_n C 0 rfl dX2_isBooked_0 rfl ?_
  refine x_get (k := 4) (v := .ref (a 7)) C dX2_isBooked_1 layX2 fl_X2_26 0 rfl rfl (by decide) rfl ?_
  refine x_iconst (v := (nI 0)) C dX2_isBooked_4 (by decide) ?_
  refine x_iload_n C 1 rfl dX2_isBooked_5 rfl ?_
  refine x_callVd (As := [.int (nI 0), .int (nI i)]) (rest := []) C dX2_isBooked_6 (c_X3_at (gX.l X) G (a 7) (a 8) 40 120 bo 0 i i (by omega) (by omega) (by omega) (by omega) (by omega)) ml_X2_58 im_X3_at sl_X3_at in_X3 cd_X3_at hd_X3_at 0 rfl rfl rfl rfl (Nat.le_of_ble_eq_true rfl) ⟨Nat.le_of_ble_eq_true rfl, Nat.le_of_ble_eq_true rfl⟩ (List.take 7 (wS G a ti se ho ri bo bc fs fc)) (List.drop 9 (wS G a ti se ho ri bo bc fs fc)) rfl (ws' := (wS G a ti se ho ri bo bc fs fc)) rfl (st' := [.int (bo i)]) rfl ⟨rfl, rfl⟩ ⟨Nat.le_of_ble_eq_true rfl, Nat.le_of_ble_eq_true rfl⟩ ?_
  refine x_aload_n C 0 rfl dX2_isBooked_9 rfl ?_
  refine x_get (k := 0) (v := .int (nI ti)) C dX2_isBooked_10 layX2 fl_X2_44 0 rfl rfl (by decide) rfl ?_
  refine x_iload_n C 2 rfl dX2_isBooked_13 rfl ?_
  refine x_iaddN C dX2_isBooked_14 ?_
  have J2 : ∀ (y3 : Int32) , y3 = bI ((bo i) = (nI (ti + h))) → gW G X (wS G a ti se ho ri bo bc fs fc) 0 0 23 [(0, .ref (a 0)), (1, .int (nI i)), (2, .int (nI h))] [.int y3] := by
    intro y3 ey3
    subst ey3
    exact x_zret C hr bI_nar E dX2_isBooked_23 (fun _ => 0) (bI_iff (by simp only [if_true, if_false, ite_true, ite_false, and_true, true_and, and_false, false_and, or_true, true_or, or_false, false_or, not_true_eq_false, not_false_eq_true, and_self, or_self] <;> decide)) rfl
  refine x_icmp_ne (x := (bo i)) (y := (nI (ti + h))) (tgt := 22) C dX2_isBooked_15 (by decide) (fun c1 => ?_) (fun c1 => ?_)
  · refine x_iconst (v := (nI 0)) C dX2_isBooked_22 (by decide) ?_
    exact J2 (nI 0) (bI_f (by simp only [c1, if_true, if_false, ite_true, ite_false, and_true, true_and, and_false, false_and, or_true, true_or, or_false, false_or, not_true_eq_false, not_false_eq_true, and_self, or_self] <;> decide)).symm
  · refine x_iconst (v := (nI 1)) C dX2_isBooked_18 (by decide) ?_
    refine x_goto (tgt := 23) C dX2_isBooked_19 (by decide) ?_
    exact J2 (nI 1) (bI_t (by simp only [c1, if_true, if_false, ite_true, ite_false, and_true, true_and, and_false, false_and, or_true, true_or, or_false, false_or, not_true_eq_false, not_false_eq_true, and_self, or_self] <;> decide)).symm
def rm_X2_isBooked_ : Room := { frames := 2, cells := 0, slots := 0, locals := 45 }
set_option maxRecDepth 100000 in
set_option maxHeartbeats 4000000 in
theorem c_X2_isBooked_ (l : Launch) (G : gG) (a : Nat → Nat) (ti : Nat) (se ho ri bo : Nat → Int32) (bc : Nat) (fs : Nat → Int32) (fc : Nat) (i h g : Nat)  (hi : i < 40) : CT l yX2_isBooked_ cX2_isBooked_ 4 (some .boolean) rm_X2_isBooked_ G [.ref (a 0), .int (nI i), .int (nI h), .int (nI g)] (wS G a ti se ho ri bo bc fs fc) (some (.int (bI ((bo i = nI (ti + h)) ∧ (bo (40 + i) = nI g))))) (fun _ => (wS G a ti se ho ri bo bc fs fc)) := by
  refine gMet (by decide) (Nat.le_of_ble_eq_true rfl) (fun X hX C hr hin E => ?_)
  clear hX
  refine (show gW G X (wS G a ti se ho ri bo bc fs fc) 0 0 0 [(0, .ref (a 0)), (1, .int (nI i)), (2, .int (nI h)), (3, .int (nI g))] [] from ?_)
  refine x_aload_n C 0 rfl dX2_isBooked__0 rfl ?_
  refine x_iload_n C 1 rfl dX2_isBooked__1 rfl ?_
  refine x_iload_n C 2 rfl dX2_isBooked__2 rfl ?_
  refine x_callVd (As := [.int (nI i), .int (nI h)]) (rest := []) C dX2_isBooked__3 (c_X2_isBooked (gX.l X) G a ti se ho ri bo bc fs fc i h (by omega)) ml_X2_77 im_X2_isBooked sl_X2_isBooked in_X2 cd_X2_isBooked hd_X2_isBooked 0 rfl rfl rfl rfl (Nat.le_of_ble_eq_true rfl) ⟨Nat.le_of_ble_eq_true rfl, Nat.le_of_ble_eq_true rfl⟩ (List.take 0 (wS G a ti se ho ri bo bc fs fc)) (List.drop 11 (wS G a ti se ho ri bo bc fs fc)) rfl (ws' := (wS G a ti se ho ri bo bc fs fc)) rfl (st' := [.int (bI (bo i = nI (ti + h)))]) rfl ⟨rfl, rfl⟩ ⟨Nat.le_of_ble_eq_true rfl, Nat.le_of_ble_eq_true rfl⟩ ?_
  have J3 : ∀ (y4 : Int32) , y4 = bI ((bo i = nI (ti + h)) ∧ ((bo (40 + i)) = (nI g))) → gW G X (wS G a ti se ho ri bo bc fs fc) 0 0 27 [(0, .ref (a 0)), (1, .int (nI i)), (2, .int (nI h)), (3, .int (nI g))] [.int y4] := by
    intro y4 ey4
    subst ey4
    exact x_zret C hr bI_nar E dX2_isBooked__27 (fun _ => 0) (bI_iff (by simp only [if_true, if_false, ite_true, ite_false, and_true, true_and, and_false, false_and, or_true, true_or, or_false, false_or, not_true_eq_false, not_false_eq_true, and_self, or_self] <;> decide)) rfl
  refine x_if_eqB (P := bo i = nI (ti + h)) (tgt := 26) C dX2_isBooked__6 (by decide) (fun c1 => ?_) (fun c1 => ?_)
  · refine x_iconst (v := (nI 0)) C dX2_isBooked__26 (by decide) ?_
    exact J3 (nI 0) (bI_f (by simp only [c1, if_true, if_false, ite_true, ite_false, and_true, true_and, and_false, false_and, or_true, true_or, or_false, false_or, not_true_eq_false, not_false_eq_true, and_self, or_self] <;> decide)).symm
  · refine x_aload_n C 0 rfl dX2_isBooked__9 rfl ?_
    refine x_get (k := 4) (v := .ref (a 7)) C dX2_isBooked__10 layX2 fl_X2_26 0 rfl rfl (by decide) rfl ?_
    refine x_iconst (v := (nI 1)) C dX2_isBooked__13 (by decide) ?_
    refine x_iload_n C 1 rfl dX2_isBooked__14 rfl ?_
    refine x_callVd (As := [.int (nI 1), .int (nI i)]) (rest := []) C dX2_isBooked__15 (c_X3_at (gX.l X) G (a 7) (a 8) 40 120 bo 1 i (40 + i) (by omega) (by omega) (by omega) (by omega) (by omega)) ml_X2_58 im_X3_at sl_X3_at in_X3 cd_X3_at hd_X3_at 0 rfl rfl rfl rfl (Nat.le_of_ble_eq_true rfl) ⟨Nat.le_of_ble_eq_true rfl, Nat.le_of_ble_eq_true rfl⟩ (List.take 7 (wS G a ti se ho ri bo bc fs fc)) (List.drop 9 (wS G a ti se ho ri bo bc fs fc)) rfl (ws' := (wS G a ti se ho ri bo bc fs fc)) rfl (st' := [.int (bo (40 + i))]) rfl ⟨rfl, rfl⟩ ⟨Nat.le_of_ble_eq_true rfl, Nat.le_of_ble_eq_true rfl⟩ ?_
    refine x_iload_n C 3 rfl dX2_isBooked__18 rfl ?_
    refine x_icmp_ne (x := (bo (40 + i))) (y := (nI g)) (tgt := 26) C dX2_isBooked__19 (by decide) (fun c2 => ?_) (fun c2 => ?_)
    · refine x_iconst (v := (nI 0)) C dX2_isBooked__26 (by decide) ?_
      exact J3 (nI 0) (bI_f (by simp only [c1, c2, if_true, if_false, ite_true, ite_false, and_true, true_and, and_false, false_and, or_true, true_or, or_false, false_or, not_true_eq_false, not_false_eq_true, and_self, or_self] <;> decide)).symm
    · refine x_iconst (v := (nI 1)) C dX2_isBooked__22 (by decide) ?_
      refine x_goto (tgt := 27) C dX2_isBooked__23 (by decide) ?_
      exact J3 (nI 1) (bI_t (by simp only [c1, c2, if_true, if_false, ite_true, ite_false, and_true, true_and, and_false, false_and, or_true, true_or, or_false, false_or, not_true_eq_false, not_false_eq_true, and_self, or_self] <;> decide)).symm
def rm_X2_findBooking : Room := { frames := 2, cells := 0, slots := 0, locals := 45 }
set_option maxRecDepth 100000 in
set_option maxHeartbeats 4000000 in
theorem c_X2_findBooking (l : Launch) (G : gG) (a : Nat → Nat) (ti : Nat) (se ho ri bo : Nat → Int32) (bc : Nat) (fs : Nat → Int32) (fc : Nat) (h r : Nat)  (hbc : bc ≤ 40) : CT l yX2_findBooking cX2_findBooking 4 (some .int) rm_X2_findBooking G [.ref (a 0), .int (nI h), .int (nI r)] (wS G a ti se ho ri bo bc fs fc) (some (.int (c_find bo bc (nI (ti + h)) (nI r)))) (fun _ => (wS G a ti se ho ri bo bc fs fc)) := by
  refine gMet (by decide) (Nat.le_of_ble_eq_true rfl) (fun X hX C hr hin E => ?_)
  clear hX
  refine (show gW G X (wS G a ti se ho ri bo bc fs fc) 0 0 0 [(0, .ref (a 0)), (1, .int (nI h)), (2, .int (nI r))] [] from ?_)
  refine x_iconst (v := (nI 0)) C dX2_findBooking_0 (by decide) ?_
  refine x_istore_n (lv' := [(3, .int (nI 0)), (0, .ref (a 0)), (1, .int (nI h)), (2, .int (nI r))]) C dX2_findBooking_1 rfl (by decide) rfl ?_
  have L1 : ∀ (fu : Nat) (i : Nat), i + fu = bc → c_findR bo (nI (ti + h)) (nI r) fu i = c_find bo bc (nI (ti + h)) (nI r) → gW G X (wS G a ti se ho ri bo bc fs fc) 0 0 2 [(3, .int (nI i)), (0, .ref (a 0)), (1, .int (nI h)), (2, .int (nI r))] [] := by
    intro fu
    induction fu with
    | zero =>
      intro i hn hf
      refine x_iload_n C 0 rfl dX2_findBooking_2 rfl ?_
      refine x_aload_n C 1 rfl dX2_findBooking_3 rfl ?_
      refine x_get (k := 5) (v := .int (nI bc)) C dX2_findBooking_4 layX2 fl_X2_52 0 rfl rfl (by decide) rfl ?_
      refine x_icmp_geN (a := i) (b := bc) (tgt := 40) C dX2_findBooking_7 (by decide) (by omega) (by omega) (fun c2 => ?_) (fun c2 => False.elim (by omega))
      refine x_bipush (v := (-5)) C dX2_findBooking_40 (by decide) ?_
      exact x_iret C hr E dX2_findBooking_42 (fun _ => 0) (by rw [← hf]; rfl) rfl
    | succ fu ih =>
      intro i hn hf
      refine x_iload_n C 0 rfl dX2_findBooking_2 rfl ?_
      refine x_aload_n C 1 rfl dX2_findBooking_3 rfl ?_
      refine x_get (k := 5) (v := .int (nI bc)) C dX2_findBooking_4 layX2 fl_X2_52 0 rfl rfl (by decide) rfl ?_
      refine x_icmp_geN (a := i) (b := bc) (tgt := 40) C dX2_findBooking_7 (by decide) (by omega) (by omega) (fun c3 => False.elim (by omega)) (fun c3 => ?_)
      refine x_aload_n C 1 rfl dX2_findBooking_10 rfl ?_
      refine x_iload_n C 0 rfl dX2_findBooking_11 rfl ?_
      refine x_iload_n C 2 rfl dX2_findBooking_12 rfl ?_
      refine x_callVd (As := [.int (nI i), .int (nI h)]) (rest := []) C dX2_findBooking_13 (c_X2_isBooked (gX.l X) G a ti se ho ri bo bc fs fc i h (by omega)) ml_X2_77 im_X2_isBooked sl_X2_isBooked in_X2 cd_X2_isBooked hd_X2_isBooked 0 rfl rfl rfl rfl (Nat.le_of_ble_eq_true rfl) ⟨Nat.le_of_ble_eq_true rfl, Nat.le_of_ble_eq_true rfl⟩ (List.take 0 (wS G a ti se ho ri bo bc fs fc)) (List.drop 11 (wS G a ti se ho ri bo bc fs fc)) rfl (ws' := (wS G a ti se ho ri bo bc fs fc)) rfl (st' := [.int (bI (bo i = nI (ti + h)))]) rfl ⟨rfl, rfl⟩ ⟨Nat.le_of_ble_eq_true rfl, Nat.le_of_ble_eq_true rfl⟩ ?_
      refine x_if_eqB (P := bo i = nI (ti + h)) (tgt := 34) C dX2_findBooking_16 (by decide) (fun c4 => ?_) (fun c4 => ?_)
      · refine x_iinc (v := (nI (i + 1))) (lv' := [(3, .int (nI (i + 1))), (0, .ref (a 0)), (1, .int (nI h)), (2, .int (nI r))]) C 0 rfl dX2_findBooking_34 (by rw [show Int32.ofInt 1 = nI 1 from rfl]; exact nI_add _ _) (by decide) rfl ?_
        refine x_goto (tgt := 2) C dX2_findBooking_37 (by decide) ?_
        exact ih (i + 1) (by omega) (by rw [← hf]; simp only [c_findR, c3, c4,  if_true, if_false, ite_true, ite_false, and_true, true_and, and_false, false_and, or_true, true_or, or_false, false_or, not_true_eq_false, not_false_eq_true, and_self, or_self])
      · refine x_aload_n C 1 rfl dX2_findBooking_19 rfl ?_
        refine x_get (k := 4) (v := .ref (a 7)) C dX2_findBooking_20 layX2 fl_X2_26 0 rfl rfl (by decide) rfl ?_
        refine x_iconst (v := (nI 2)) C dX2_findBooking_23 (by decide) ?_
        refine x_iload_n C 0 rfl dX2_findBooking_24 rfl ?_
        refine x_callVd (As := [.int (nI 2), .int (nI i)]) (rest := []) C dX2_findBooking_25 (c_X3_at (gX.l X) G (a 7) (a 8) 40 120 bo 2 i (80 + i) (by omega) (by omega) (by omega) (by omega) (by omega)) ml_X2_58 im_X3_at sl_X3_at in_X3 cd_X3_at hd_X3_at 0 rfl rfl rfl rfl (Nat.le_of_ble_eq_true rfl) ⟨Nat.le_of_ble_eq_true rfl, Nat.le_of_ble_eq_true rfl⟩ (List.take 7 (wS G a ti se ho ri bo bc fs fc)) (List.drop 9 (wS G a ti se ho ri bo bc fs fc)) rfl (ws' := (wS G a ti se ho ri bo bc fs fc)) rfl (st' := [.int (bo (80 + i))]) rfl ⟨rfl, rfl⟩ ⟨Nat.le_of_ble_eq_true rfl, Nat.le_of_ble_eq_true rfl⟩ ?_
        refine x_iload_n C 3 rfl dX2_findBooking_28 rfl ?_
        refine x_icmp_ne (x := (bo (80 + i))) (y := (nI r)) (tgt := 34) C dX2_findBooking_29 (by decide) (fun c5 => ?_) (fun c5 => ?_)
        · refine x_iinc (v := (nI (i + 1))) (lv' := [(3, .int (nI (i + 1))), (0, .ref (a 0)), (1, .int (nI h)), (2, .int (nI r))]) C 0 rfl dX2_findBooking_34 (by rw [show Int32.ofInt 1 = nI 1 from rfl]; exact nI_add _ _) (by decide) rfl ?_
          refine x_goto (tgt := 2) C dX2_findBooking_37 (by decide) ?_
          exact ih (i + 1) (by omega) (by rw [← hf]; simp only [c_findR, c3, c4, c5,  if_true, if_false, ite_true, ite_false, and_true, true_and, and_false, false_and, or_true, true_or, or_false, false_or, not_true_eq_false, not_false_eq_true, and_self, or_self])
        · refine x_iload_n C 0 rfl dX2_findBooking_32 rfl ?_
          exact x_iret C hr E dX2_findBooking_33 (fun _ => 0) (by rw [← hf]; simp only [c_findR, c3, c4, c5,  if_true, if_false, ite_true, ite_false, and_true, true_and, and_false, false_and, or_true, true_or, or_false, false_or, not_true_eq_false, not_false_eq_true, and_self, or_self]) rfl
  exact L1 bc 0 (by omega) (by rfl)
def rm_X2_bookedFor : Room := { frames := 3, cells := 0, slots := 0, locals := 68 }
set_option maxRecDepth 100000 in
set_option maxHeartbeats 4000000 in
theorem c_X2_bookedFor (l : Launch) (G : gG) (a : Nat → Nat) (ti : Nat) (se ho ri bo : Nat → Int32) (bc : Nat) (fs : Nat → Int32) (fc : Nat) (h g : Nat)  (hbc : bc ≤ 40) : CT l yX2_bookedFor cX2_bookedFor 5 (some .int) rm_X2_bookedFor G [.ref (a 0), .int (nI h), .int (nI g)] (wS G a ti se ho ri bo bc fs fc) (some (.int (c_bf bo (nI (ti + h)) (nI g) bc))) (fun _ => (wS G a ti se ho ri bo bc fs fc)) := by
  refine gMet (by decide) (Nat.le_of_ble_eq_true rfl) (fun X hX C hr hin E => ?_)
  clear hX
  refine (show gW G X (wS G a ti se ho ri bo bc fs fc) 0 0 0 [(0, .ref (a 0)), (1, .int (nI h)), (2, .int (nI g))] [] from ?_)
  refine x_iconst (v := (nI 0)) C dX2_bookedFor_0 (by decide) ?_
  refine x_istore_n (lv' := [(3, .int (nI 0)), (0, .ref (a 0)), (1, .int (nI h)), (2, .int (nI g))]) C dX2_bookedFor_1 rfl (by decide) rfl ?_
  refine x_iconst (v := (nI 0)) C dX2_bookedFor_2 (by decide) ?_
  refine x_istore (lv' := [(4, .int (nI 0)), (3, .int (nI 0)), (0, .ref (a 0)), (1, .int (nI h)), (2, .int (nI g))]) C dX2_bookedFor_3 (by decide) rfl ?_
  have L1 : ∀ (fu : Nat) (i : Nat) (acc : Int32), i + fu = bc → acc = c_bf bo (nI (ti + h)) (nI g) i → gW G X (wS G a ti se ho ri bo bc fs fc) 0 0 5 [(4, .int (nI i)), (3, .int acc), (0, .ref (a 0)), (1, .int (nI h)), (2, .int (nI g))] [] := by
    intro fu
    induction fu with
    | zero =>
      intro i acc hn ha
      have hi : i = bc := by omega
      refine x_iload C 0 rfl dX2_bookedFor_5 ?_
      refine x_aload_n C 2 rfl dX2_bookedFor_7 rfl ?_
      refine x_get (k := 5) (v := .int (nI bc)) C dX2_bookedFor_8 layX2 fl_X2_52 0 rfl rfl (by decide) rfl ?_
      refine x_icmp_geN (a := i) (b := bc) (tgt := 39) C dX2_bookedFor_11 (by decide) (by omega) (by omega) (fun c2 => ?_) (fun c2 => False.elim (by omega))
      refine x_iload_n C 1 rfl dX2_bookedFor_39 rfl ?_
      exact x_iret C hr E dX2_bookedFor_40 (fun _ => 0) (by rw [ha, hi]) rfl
    | succ fu ih =>
      intro i acc hn ha
      refine x_iload C 0 rfl dX2_bookedFor_5 ?_
      refine x_aload_n C 2 rfl dX2_bookedFor_7 rfl ?_
      refine x_get (k := 5) (v := .int (nI bc)) C dX2_bookedFor_8 layX2 fl_X2_52 0 rfl rfl (by decide) rfl ?_
      refine x_icmp_geN (a := i) (b := bc) (tgt := 39) C dX2_bookedFor_11 (by decide) (by omega) (by omega) (fun c3 => False.elim (by omega)) (fun c3 => ?_)
      refine x_iload_n C 1 rfl dX2_bookedFor_14 rfl ?_
      refine x_aload_n C 2 rfl dX2_bookedFor_15 rfl ?_
      refine x_iload C 0 rfl dX2_bookedFor_16 ?_
      refine x_iload_n C 3 rfl dX2_bookedFor_18 rfl ?_
      refine x_iload_n C 4 rfl dX2_bookedFor_19 rfl ?_
      refine x_callVd (As := [.int (nI i), .int (nI h), .int (nI g)]) (rest := [.int acc]) C dX2_bookedFor_20 (c_X2_isBooked_ (gX.l X) G a ti se ho ri bo bc fs fc i h g (by omega)) ml_X2_81 im_X2_isBooked_ sl_X2_isBooked_ in_X2 cd_X2_isBooked_ hd_X2_isBooked_ 0 rfl rfl rfl rfl (Nat.le_of_ble_eq_true rfl) ⟨Nat.le_of_ble_eq_true rfl, Nat.le_of_ble_eq_true rfl⟩ (List.take 0 (wS G a ti se ho ri bo bc fs fc)) (List.drop 11 (wS G a ti se ho ri bo bc fs fc)) rfl (ws' := (wS G a ti se ho ri bo bc fs fc)) rfl (st' := [.int (bI ((bo i = nI (ti + h)) ∧ (bo (40 + i) = nI g))), .int acc]) rfl ⟨rfl, rfl⟩ ⟨Nat.le_of_ble_eq_true rfl, Nat.le_of_ble_eq_true rfl⟩ ?_
      have J5 : ∀ (y6 : Int32) , y6 = bI ((bo i = nI (ti + h)) ∧ (bo (40 + i) = nI g)) → gW G X (wS G a ti se ho ri bo bc fs fc) 0 0 31 [(4, .int (nI i)), (3, .int acc), (0, .ref (a 0)), (1, .int (nI h)), (2, .int (nI g))] [.int y6, .int acc] := by
        intro y6 ey6
        subst ey6
        refine x_iadd (x := acc) (y := (bI ((bo i = nI (ti + h)) ∧ (bo (40 + i) = nI g)))) C dX2_bookedFor_31 ?_
        refine x_istore_n (lv' := [(3, .int (acc + (bI ((bo i = nI (ti + h)) ∧ (bo (40 + i) = nI g))))), (4, .int (nI i)), (0, .ref (a 0)), (1, .int (nI h)), (2, .int (nI g))]) C dX2_bookedFor_32 rfl (by decide) rfl ?_
        refine x_iinc (v := (nI (i + 1))) (lv' := [(4, .int (nI (i + 1))), (3, .int (acc + (bI ((bo i = nI (ti + h)) ∧ (bo (40 + i) = nI g))))), (0, .ref (a 0)), (1, .int (nI h)), (2, .int (nI g))]) C 1 rfl dX2_bookedFor_33 (by rw [show Int32.ofInt 1 = nI 1 from rfl]; exact nI_add _ _) (by decide) rfl ?_
        refine x_goto (tgt := 5) C dX2_bookedFor_36 (by decide) ?_
        exact ih (i + 1) (acc + (bI ((bo i = nI (ti + h)) ∧ (bo (40 + i) = nI g)))) (by omega) (by rw [ha]; rfl)
      refine x_if_eqB (P := (bo i = nI (ti + h)) ∧ (bo (40 + i) = nI g)) (tgt := 30) C dX2_bookedFor_23 (by decide) (fun c4 => ?_) (fun c4 => ?_)
      · refine x_iconst (v := (nI 0)) C dX2_bookedFor_30 (by decide) ?_
        exact J5 (nI 0) (bI_f (by simp only [c4, if_true, if_false, ite_true, ite_false, and_true, true_and, and_false, false_and, or_true, true_or, or_false, false_or, not_true_eq_false, not_false_eq_true, and_self, or_self] <;> decide)).symm
      · refine x_iconst (v := (nI 1)) C dX2_bookedFor_26 (by decide) ?_
        refine x_goto (tgt := 31) C dX2_bookedFor_27 (by decide) ?_
        exact J5 (nI 1) (bI_t (by simp only [c4, if_true, if_false, ite_true, ite_false, and_true, true_and, and_false, false_and, or_true, true_or, or_false, false_or, not_true_eq_false, not_false_eq_true, and_self, or_self] <;> decide)).symm
  exact L1 bc 0 0 (by omega) (by rfl)
def rm_X2_bookedInAllRings : Room := { frames := 2, cells := 0, slots := 0, locals := 45 }
set_option maxRecDepth 100000 in
set_option maxHeartbeats 4000000 in
theorem c_X2_bookedInAllRings (l : Launch) (G : gG) (a : Nat → Nat) (ti : Nat) (se ho ri bo : Nat → Int32) (bc : Nat) (fs : Nat → Int32) (fc : Nat) (h : Nat)  (hbc : bc ≤ 40) : CT l yX2_bookedInAllRings cX2_bookedInAllRings 4 (some .int) rm_X2_bookedInAllRings G [.ref (a 0), .int (nI h)] (wS G a ti se ho ri bo bc fs fc) (some (.int (c_ball bo (nI (ti + h)) bc))) (fun _ => (wS G a ti se ho ri bo bc fs fc)) := by
  refine gMet (by decide) (Nat.le_of_ble_eq_true rfl) (fun X hX C hr hin E => ?_)
  clear hX
  refine (show gW G X (wS G a ti se ho ri bo bc fs fc) 0 0 0 [(0, .ref (a 0)), (1, .int (nI h))] [] from ?_)
  refine x_iconst (v := (nI 0)) C dX2_bookedInAllRings_0 (by decide) ?_
  refine x_istore_n (lv' := [(2, .int (nI 0)), (0, .ref (a 0)), (1, .int (nI h))]) C dX2_bookedInAllRings_1 rfl (by decide) rfl ?_
  refine x_iconst (v := (nI 0)) C dX2_bookedInAllRings_2 (by decide) ?_
  refine x_istore_n (lv' := [(3, .int (nI 0)), (2, .int (nI 0)), (0, .ref (a 0)), (1, .int (nI h))]) C dX2_bookedInAllRings_3 rfl (by decide) rfl ?_
  have L1 : ∀ (fu : Nat) (i : Nat) (acc : Int32), i + fu = bc → acc = c_ball bo (nI (ti + h)) i → gW G X (wS G a ti se ho ri bo bc fs fc) 0 0 4 [(3, .int (nI i)), (2, .int acc), (0, .ref (a 0)), (1, .int (nI h))] [] := by
    intro fu
    induction fu with
    | zero =>
      intro i acc hn ha
      have hi : i = bc := by omega
      refine x_iload_n C 0 rfl dX2_bookedInAllRings_4 rfl ?_
      refine x_aload_n C 2 rfl dX2_bookedInAllRings_5 rfl ?_
      refine x_get (k := 5) (v := .int (nI bc)) C dX2_bookedInAllRings_6 layX2 fl_X2_52 0 rfl rfl (by decide) rfl ?_
      refine x_icmp_geN (a := i) (b := bc) (tgt := 35) C dX2_bookedInAllRings_9 (by decide) (by omega) (by omega) (fun c2 => ?_) (fun c2 => False.elim (by omega))
      refine x_iload_n C 1 rfl dX2_bookedInAllRings_35 rfl ?_
      exact x_iret C hr E dX2_bookedInAllRings_36 (fun _ => 0) (by rw [ha, hi]) rfl
    | succ fu ih =>
      intro i acc hn ha
      refine x_iload_n C 0 rfl dX2_bookedInAllRings_4 rfl ?_
      refine x_aload_n C 2 rfl dX2_bookedInAllRings_5 rfl ?_
      refine x_get (k := 5) (v := .int (nI bc)) C dX2_bookedInAllRings_6 layX2 fl_X2_52 0 rfl rfl (by decide) rfl ?_
      refine x_icmp_geN (a := i) (b := bc) (tgt := 35) C dX2_bookedInAllRings_9 (by decide) (by omega) (by omega) (fun c3 => False.elim (by omega)) (fun c3 => ?_)
      refine x_iload_n C 1 rfl dX2_bookedInAllRings_12 rfl ?_
      refine x_aload_n C 2 rfl dX2_bookedInAllRings_13 rfl ?_
      refine x_iload_n C 0 rfl dX2_bookedInAllRings_14 rfl ?_
      refine x_iload_n C 3 rfl dX2_bookedInAllRings_15 rfl ?_
      refine x_callVd (As := [.int (nI i), .int (nI h)]) (rest := [.int acc]) C dX2_bookedInAllRings_16 (c_X2_isBooked (gX.l X) G a ti se ho ri bo bc fs fc i h (by omega)) ml_X2_77 im_X2_isBooked sl_X2_isBooked in_X2 cd_X2_isBooked hd_X2_isBooked 0 rfl rfl rfl rfl (Nat.le_of_ble_eq_true rfl) ⟨Nat.le_of_ble_eq_true rfl, Nat.le_of_ble_eq_true rfl⟩ (List.take 0 (wS G a ti se ho ri bo bc fs fc)) (List.drop 11 (wS G a ti se ho ri bo bc fs fc)) rfl (ws' := (wS G a ti se ho ri bo bc fs fc)) rfl (st' := [.int (bI (bo i = nI (ti + h))), .int acc]) rfl ⟨rfl, rfl⟩ ⟨Nat.le_of_ble_eq_true rfl, Nat.le_of_ble_eq_true rfl⟩ ?_
      have J5 : ∀ (y6 : Int32) , y6 = bI (bo i = nI (ti + h)) → gW G X (wS G a ti se ho ri bo bc fs fc) 0 0 27 [(3, .int (nI i)), (2, .int acc), (0, .ref (a 0)), (1, .int (nI h))] [.int y6, .int acc] := by
        intro y6 ey6
        subst ey6
        refine x_iadd (x := acc) (y := (bI (bo i = nI (ti + h)))) C dX2_bookedInAllRings_27 ?_
        refine x_istore_n (lv' := [(2, .int (acc + (bI (bo i = nI (ti + h))))), (3, .int (nI i)), (0, .ref (a 0)), (1, .int (nI h))]) C dX2_bookedInAllRings_28 rfl (by decide) rfl ?_
        refine x_iinc (v := (nI (i + 1))) (lv' := [(3, .int (nI (i + 1))), (2, .int (acc + (bI (bo i = nI (ti + h))))), (0, .ref (a 0)), (1, .int (nI h))]) C 1 rfl dX2_bookedInAllRings_29 (by rw [show Int32.ofInt 1 = nI 1 from rfl]; exact nI_add _ _) (by decide) rfl ?_
        refine x_goto (tgt := 4) C dX2_bookedInAllRings_32 (by decide) ?_
        exact ih (i + 1) (acc + (bI (bo i = nI (ti + h)))) (by omega) (by rw [ha]; rfl)
      refine x_if_eqB (P := bo i = nI (ti + h)) (tgt := 26) C dX2_bookedInAllRings_19 (by decide) (fun c4 => ?_) (fun c4 => ?_)
      · refine x_iconst (v := (nI 0)) C dX2_bookedInAllRings_26 (by decide) ?_
        exact J5 (nI 0) (bI_f (by simp only [c4, if_true, if_false, ite_true, ite_false, and_true, true_and, and_false, false_and, or_true, true_or, or_false, false_or, not_true_eq_false, not_false_eq_true, and_self, or_self] <;> decide)).symm
      · refine x_iconst (v := (nI 1)) C dX2_bookedInAllRings_22 (by decide) ?_
        refine x_goto (tgt := 27) C dX2_bookedInAllRings_23 (by decide) ?_
        exact J5 (nI 1) (bI_t (by simp only [c4, if_true, if_false, ite_true, ite_false, and_true, true_and, and_false, false_and, or_true, true_or, or_false, false_or, not_true_eq_false, not_false_eq_true, and_self, or_self] <;> decide)).symm
  exact L1 bc 0 0 (by omega) (by rfl)
def rm_X2_setOfRiders : Room := { frames := 3, cells := 0, slots := 0, locals := 68 }
set_option maxRecDepth 100000 in
set_option maxHeartbeats 4000000 in
theorem c_X2_setOfRiders (l : Launch) (G : gG) (a : Nat → Nat) (ti : Nat) (se ho ri bo : Nat → Int32) (bc : Nat) (fs : Nat → Int32) (fc : Nat) (h g : Nat)  (hbc : bc ≤ 40) : CT l yX2_setOfRiders cX2_setOfRiders 5 (some .int) rm_X2_setOfRiders G [.ref (a 0), .int (nI h), .int (nI g)] (wS G a ti se ho ri bo bc fs fc) (some (.int (c_set bo (nI (ti + h)) (nI g) bc))) (fun _ => (wS G a ti se ho ri bo bc fs fc)) := by
  refine gMet (by decide) (Nat.le_of_ble_eq_true rfl) (fun X hX C hr hin E => ?_)
  clear hX
  refine (show gW G X (wS G a ti se ho ri bo bc fs fc) 0 0 0 [(0, .ref (a 0)), (1, .int (nI h)), (2, .int (nI g))] [] from ?_)
  refine x_iconst (v := (nI 0)) C dX2_setOfRiders_0 (by decide) ?_
  refine x_istore_n (lv' := [(3, .int (nI 0)), (0, .ref (a 0)), (1, .int (nI h)), (2, .int (nI g))]) C dX2_setOfRiders_1 rfl (by decide) rfl ?_
  refine x_iconst (v := (nI 0)) C dX2_setOfRiders_2 (by decide) ?_
  refine x_istore (lv' := [(4, .int (nI 0)), (3, .int (nI 0)), (0, .ref (a 0)), (1, .int (nI h)), (2, .int (nI g))]) C dX2_setOfRiders_3 (by decide) rfl ?_
  have L1 : ∀ (fu : Nat) (i : Nat) (acc : Int32), i + fu = bc → acc = c_set bo (nI (ti + h)) (nI g) i → gW G X (wS G a ti se ho ri bo bc fs fc) 0 0 5 [(4, .int (nI i)), (3, .int acc), (0, .ref (a 0)), (1, .int (nI h)), (2, .int (nI g))] [] := by
    intro fu
    induction fu with
    | zero =>
      intro i acc hn ha
      have hi : i = bc := by omega
      refine x_iload C 0 rfl dX2_setOfRiders_5 ?_
      refine x_aload_n C 2 rfl dX2_setOfRiders_7 rfl ?_
      refine x_get (k := 5) (v := .int (nI bc)) C dX2_setOfRiders_8 layX2 fl_X2_52 0 rfl rfl (by decide) rfl ?_
      refine x_icmp_geN (a := i) (b := bc) (tgt := 46) C dX2_setOfRiders_11 (by decide) (by omega) (by omega) (fun c2 => ?_) (fun c2 => False.elim (by omega))
      refine x_iload_n C 1 rfl dX2_setOfRiders_46 rfl ?_
      exact x_iret C hr E dX2_setOfRiders_47 (fun _ => 0) (by rw [ha, hi]) rfl
    | succ fu ih =>
      intro i acc hn ha
      refine x_iload C 0 rfl dX2_setOfRiders_5 ?_
      refine x_aload_n C 2 rfl dX2_setOfRiders_7 rfl ?_
      refine x_get (k := 5) (v := .int (nI bc)) C dX2_setOfRiders_8 layX2 fl_X2_52 0 rfl rfl (by decide) rfl ?_
      refine x_icmp_geN (a := i) (b := bc) (tgt := 46) C dX2_setOfRiders_11 (by decide) (by omega) (by omega) (fun c3 => False.elim (by omega)) (fun c3 => ?_)
      refine x_aload_n C 2 rfl dX2_setOfRiders_14 rfl ?_
      refine x_iload C 0 rfl dX2_setOfRiders_15 ?_
      refine x_iload_n C 3 rfl dX2_setOfRiders_17 rfl ?_
      refine x_iload_n C 4 rfl dX2_setOfRiders_18 rfl ?_
      refine x_callVd (As := [.int (nI i), .int (nI h), .int (nI g)]) (rest := []) C dX2_setOfRiders_19 (c_X2_isBooked_ (gX.l X) G a ti se ho ri bo bc fs fc i h g (by omega)) ml_X2_81 im_X2_isBooked_ sl_X2_isBooked_ in_X2 cd_X2_isBooked_ hd_X2_isBooked_ 0 rfl rfl rfl rfl (Nat.le_of_ble_eq_true rfl) ⟨Nat.le_of_ble_eq_true rfl, Nat.le_of_ble_eq_true rfl⟩ (List.take 0 (wS G a ti se ho ri bo bc fs fc)) (List.drop 11 (wS G a ti se ho ri bo bc fs fc)) rfl (ws' := (wS G a ti se ho ri bo bc fs fc)) rfl (st' := [.int (bI ((bo i = nI (ti + h)) ∧ (bo (40 + i) = nI g)))]) rfl ⟨rfl, rfl⟩ ⟨Nat.le_of_ble_eq_true rfl, Nat.le_of_ble_eq_true rfl⟩ ?_
      refine x_if_eqB (P := (bo i = nI (ti + h)) ∧ (bo (40 + i) = nI g)) (tgt := 40) C dX2_setOfRiders_22 (by decide) (fun c4 => ?_) (fun c4 => ?_)
      · refine x_iinc (v := (nI (i + 1))) (lv' := [(4, .int (nI (i + 1))), (3, .int acc), (0, .ref (a 0)), (1, .int (nI h)), (2, .int (nI g))]) C 0 rfl dX2_setOfRiders_40 (by rw [show Int32.ofInt 1 = nI 1 from rfl]; exact nI_add _ _) (by decide) rfl ?_
        refine x_goto (tgt := 5) C dX2_setOfRiders_43 (by decide) ?_
        exact ih (i + 1) acc (by omega) (by rw [ha]; simp only [c_set, c_isBR, c3, c4,  if_true, if_false, ite_true, ite_false, and_true, true_and, and_false, false_and, or_true, true_or, or_false, false_or, not_true_eq_false, not_false_eq_true, and_self, or_self])
      · refine x_iload_n C 1 rfl dX2_setOfRiders_25 rfl ?_
        refine x_iconst (v := (nI 1)) C dX2_setOfRiders_26 (by decide) ?_
        refine x_aload_n C 2 rfl dX2_setOfRiders_27 rfl ?_
        refine x_get (k := 4) (v := .ref (a 7)) C dX2_setOfRiders_28 layX2 fl_X2_26 0 rfl rfl (by decide) rfl ?_
        refine x_iconst (v := (nI 2)) C dX2_setOfRiders_31 (by decide) ?_
        refine x_iload C 0 rfl dX2_setOfRiders_32 ?_
        refine x_callVd (As := [.int (nI 2), .int (nI i)]) (rest := [.int (nI 1), .int acc]) C dX2_setOfRiders_34 (c_X3_at (gX.l X) G (a 7) (a 8) 40 120 bo 2 i (80 + i) (by omega) (by omega) (by omega) (by omega) (by omega)) ml_X2_58 im_X3_at sl_X3_at in_X3 cd_X3_at hd_X3_at 0 rfl rfl rfl rfl (Nat.le_of_ble_eq_true rfl) ⟨Nat.le_of_ble_eq_true rfl, Nat.le_of_ble_eq_true rfl⟩ (List.take 7 (wS G a ti se ho ri bo bc fs fc)) (List.drop 9 (wS G a ti se ho ri bo bc fs fc)) rfl (ws' := (wS G a ti se ho ri bo bc fs fc)) rfl (st' := [.int (bo (80 + i)), .int (nI 1), .int acc]) rfl ⟨rfl, rfl⟩ ⟨Nat.le_of_ble_eq_true rfl, Nat.le_of_ble_eq_true rfl⟩ ?_
        refine x_ishl (x := 1) (y := (bo (80 + i))) C dX2_setOfRiders_37 ?_
        refine x_ior (x := acc) (y := (1 <<< ((bo (80 + i)) &&& 31))) C dX2_setOfRiders_38 ?_
        refine x_istore_n (lv' := [(3, .int (acc ||| (1 <<< ((bo (80 + i)) &&& 31)))), (4, .int (nI i)), (0, .ref (a 0)), (1, .int (nI h)), (2, .int (nI g))]) C dX2_setOfRiders_39 rfl (by decide) rfl ?_
        refine x_iinc (v := (nI (i + 1))) (lv' := [(4, .int (nI (i + 1))), (3, .int (acc ||| (1 <<< ((bo (80 + i)) &&& 31)))), (0, .ref (a 0)), (1, .int (nI h)), (2, .int (nI g))]) C 1 rfl dX2_setOfRiders_40 (by rw [show Int32.ofInt 1 = nI 1 from rfl]; exact nI_add _ _) (by decide) rfl ?_
        refine x_goto (tgt := 5) C dX2_setOfRiders_43 (by decide) ?_
        exact ih (i + 1) (acc ||| (1 <<< ((bo (80 + i)) &&& 31))) (by omega) (by rw [ha]; simp only [c_set, c_isBR, c3, c4,  if_true, if_false, ite_true, ite_false, and_true, true_and, and_false, false_and, or_true, true_or, or_false, false_or, not_true_eq_false, not_false_eq_true, and_self, or_self])
  exact L1 bc 0 0 (by omega) (by rfl)
def rm_X2_bookingsOf : Room := { frames := 1, cells := 0, slots := 0, locals := 23 }
set_option maxRecDepth 100000 in
set_option maxHeartbeats 4000000 in
theorem c_X2_bookingsOf (l : Launch) (G : gG) (a : Nat → Nat) (ti : Nat) (se ho ri bo : Nat → Int32) (bc : Nat) (fs : Nat → Int32) (fc : Nat) (r : Nat)  (hbc : bc ≤ 40) : CT l yX2_bookingsOf cX2_bookingsOf 4 (some .int) rm_X2_bookingsOf G [.ref (a 0), .int (nI r)] (wS G a ti se ho ri bo bc fs fc) (some (.int (c_bof bo (nI r) bc))) (fun _ => (wS G a ti se ho ri bo bc fs fc)) := by
  refine gMet (by decide) (Nat.le_of_ble_eq_true rfl) (fun X hX C hr hin E => ?_)
  clear hX
  refine (show gW G X (wS G a ti se ho ri bo bc fs fc) 0 0 0 [(0, .ref (a 0)), (1, .int (nI r))] [] from ?_)
  refine x_iconst (v := (nI 0)) C dX2_bookingsOf_0 (by decide) ?_
  refine x_istore_n (lv' := [(2, .int (nI 0)), (0, .ref (a 0)), (1, .int (nI r))]) C dX2_bookingsOf_1 rfl (by decide) rfl ?_
  refine x_iconst (v := (nI 0)) C dX2_bookingsOf_2 (by decide) ?_
  refine x_istore_n (lv' := [(3, .int (nI 0)), (2, .int (nI 0)), (0, .ref (a 0)), (1, .int (nI r))]) C dX2_bookingsOf_3 rfl (by decide) rfl ?_
  have L1 : ∀ (fu : Nat) (i : Nat) (acc : Int32), i + fu = bc → acc = c_bof bo (nI r) i → gW G X (wS G a ti se ho ri bo bc fs fc) 0 0 4 [(3, .int (nI i)), (2, .int acc), (0, .ref (a 0)), (1, .int (nI r))] [] := by
    intro fu
    induction fu with
    | zero =>
      intro i acc hn ha
      have hi : i = bc := by omega
      refine x_iload_n C 0 rfl dX2_bookingsOf_4 rfl ?_
      refine x_aload_n C 2 rfl dX2_bookingsOf_5 rfl ?_
      refine x_get (k := 5) (v := .int (nI bc)) C dX2_bookingsOf_6 layX2 fl_X2_52 0 rfl rfl (by decide) rfl ?_
      refine x_icmp_geN (a := i) (b := bc) (tgt := 39) C dX2_bookingsOf_9 (by decide) (by omega) (by omega) (fun c2 => ?_) (fun c2 => False.elim (by omega))
      refine x_iload_n C 1 rfl dX2_bookingsOf_39 rfl ?_
      exact x_iret C hr E dX2_bookingsOf_40 (fun _ => 0) (by rw [ha, hi]) rfl
    | succ fu ih =>
      intro i acc hn ha
      refine x_iload_n C 0 rfl dX2_bookingsOf_4 rfl ?_
      refine x_aload_n C 2 rfl dX2_bookingsOf_5 rfl ?_
      refine x_get (k := 5) (v := .int (nI bc)) C dX2_bookingsOf_6 layX2 fl_X2_52 0 rfl rfl (by decide) rfl ?_
      refine x_icmp_geN (a := i) (b := bc) (tgt := 39) C dX2_bookingsOf_9 (by decide) (by omega) (by omega) (fun c3 => False.elim (by omega)) (fun c3 => ?_)
      refine x_iload_n C 1 rfl dX2_bookingsOf_12 rfl ?_
      refine x_aload_n C 2 rfl dX2_bookingsOf_13 rfl ?_
      refine x_get (k := 4) (v := .ref (a 7)) C dX2_bookingsOf_14 layX2 fl_X2_26 0 rfl rfl (by decide) rfl ?_
      refine x_iconst (v := (nI 2)) C dX2_bookingsOf_17 (by decide) ?_
      refine x_iload_n C 0 rfl dX2_bookingsOf_18 rfl ?_
      refine x_callVd (As := [.int (nI 2), .int (nI i)]) (rest := [.int acc]) C dX2_bookingsOf_19 (c_X3_at (gX.l X) G (a 7) (a 8) 40 120 bo 2 i (80 + i) (by omega) (by omega) (by omega) (by omega) (by omega)) ml_X2_58 im_X3_at sl_X3_at in_X3 cd_X3_at hd_X3_at 0 rfl rfl rfl rfl (Nat.le_of_ble_eq_true rfl) ⟨Nat.le_of_ble_eq_true rfl, Nat.le_of_ble_eq_true rfl⟩ (List.take 7 (wS G a ti se ho ri bo bc fs fc)) (List.drop 9 (wS G a ti se ho ri bo bc fs fc)) rfl (ws' := (wS G a ti se ho ri bo bc fs fc)) rfl (st' := [.int (bo (80 + i)), .int acc]) rfl ⟨rfl, rfl⟩ ⟨Nat.le_of_ble_eq_true rfl, Nat.le_of_ble_eq_true rfl⟩ ?_
      refine x_iload_n C 3 rfl dX2_bookingsOf_22 rfl ?_
      have J5 : ∀ (y6 : Int32) , y6 = bI ((bo (80 + i)) = (nI r)) → gW G X (wS G a ti se ho ri bo bc fs fc) 0 0 31 [(3, .int (nI i)), (2, .int acc), (0, .ref (a 0)), (1, .int (nI r))] [.int y6, .int acc] := by
        intro y6 ey6
        subst ey6
        refine x_iadd (x := acc) (y := (bI ((bo (80 + i)) = (nI r)))) C dX2_bookingsOf_31 ?_
        refine x_istore_n (lv' := [(2, .int (acc + (bI ((bo (80 + i)) = (nI r))))), (3, .int (nI i)), (0, .ref (a 0)), (1, .int (nI r))]) C dX2_bookingsOf_32 rfl (by decide) rfl ?_
        refine x_iinc (v := (nI (i + 1))) (lv' := [(3, .int (nI (i + 1))), (2, .int (acc + (bI ((bo (80 + i)) = (nI r))))), (0, .ref (a 0)), (1, .int (nI r))]) C 1 rfl dX2_bookingsOf_33 (by rw [show Int32.ofInt 1 = nI 1 from rfl]; exact nI_add _ _) (by decide) rfl ?_
        refine x_goto (tgt := 4) C dX2_bookingsOf_36 (by decide) ?_
        exact ih (i + 1) (acc + (bI ((bo (80 + i)) = (nI r)))) (by omega) (by rw [ha]; rfl)
      refine x_icmp_ne (x := (bo (80 + i))) (y := (nI r)) (tgt := 30) C dX2_bookingsOf_23 (by decide) (fun c4 => ?_) (fun c4 => ?_)
      · refine x_iconst (v := (nI 0)) C dX2_bookingsOf_30 (by decide) ?_
        exact J5 (nI 0) (bI_f (by simp only [c4, if_true, if_false, ite_true, ite_false, and_true, true_and, and_false, false_and, or_true, true_or, or_false, false_or, not_true_eq_false, not_false_eq_true, and_self, or_self] <;> decide)).symm
      · refine x_iconst (v := (nI 1)) C dX2_bookingsOf_26 (by decide) ?_
        refine x_goto (tgt := 31) C dX2_bookingsOf_27 (by decide) ?_
        exact J5 (nI 1) (bI_t (by simp only [c4, if_true, if_false, ite_true, ite_false, and_true, true_and, and_false, false_and, or_true, true_or, or_false, false_or, not_true_eq_false, not_false_eq_true, and_self, or_self] <;> decide)).symm
  exact L1 bc 0 0 (by omega) (by rfl)
