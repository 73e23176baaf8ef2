def rm_X2_isFarrierThere : Room := { frames := 1, cells := 0, slots := 0, locals := 23 }
set_option maxRecDepth 100000 in
set_option maxHeartbeats 4000000 in
theorem c_X2_isFarrierThere (l : Launch) (G : gG) (a : Nat → Nat) (ti : Nat) (se ho ri bo : Nat → Int32) (bc : Nat) (fs : Nat → Int32) (fc : Nat)  (ht : ti < 2 ^ 30) : CT l yX2_isFarrierThere cX2_isFarrierThere 2 (some .boolean) rm_X2_isFarrierThere G [.ref (a 0)] (wS G a ti se ho ri bo bc fs fc) (some (.int (bI (c_there se ti)))) (fun _ => (wS G a ti se ho ri bo bc fs fc)) := by
  refine gMet (by decide) (Nat.le_of_ble_eq_true rfl) (fun X hX C hr hin E => ?_)
  clear hX
  refine (show gW G X (wS G a ti se ho ri bo bc fs fc) 0 0 0 [(0, .ref (a 0))] [] from ?_)
  refine x_aload_n C 0 rfl dX2_isFarrierThere_0 rfl ?_
  refine x_get (k := 1) (v := .ref (a 1)) C dX2_isFarrierThere_1 layX2 fl_X2_14 0 rfl rfl (by decide) rfl ?_
  refine x_iconst (v := (nI 0)) C dX2_isFarrierThere_4 (by decide) ?_
  refine x_iconst (v := (nI 4)) C dX2_isFarrierThere_5 (by decide) ?_
  refine x_callVd (As := [.int (nI 0), .int (nI 4)]) (rest := []) C dX2_isFarrierThere_6 (c_X3_at (gX.l X) G (a 1) (a 2) 5 5 se 0 4 4 (by omega) (by omega) (by omega) (by omega) (by omega)) ml_X2_58 im_X3_at sl_X3_at in_X3 cd_X3_at hd_X3_at 0 rfl rfl rfl rfl (Nat.le_of_ble_eq_true rfl) ⟨Nat.le_of_ble_eq_true rfl, Nat.le_of_ble_eq_true rfl⟩ (List.take 1 (wS G a ti se ho ri bo bc fs fc)) (List.drop 3 (wS G a ti se ho ri bo bc fs fc)) rfl (ws' := (wS G a ti se ho ri bo bc fs fc)) rfl (st' := [.int (se 4)]) rfl ⟨rfl, rfl⟩ ⟨Nat.le_of_ble_eq_true rfl, Nat.le_of_ble_eq_true rfl⟩ ?_
  refine x_istore_n (lv' := [(1, .int (se 4)), (0, .ref (a 0))]) C dX2_isFarrierThere_9 rfl (by decide) rfl ?_
  refine x_iload_n C 0 rfl dX2_isFarrierThere_10 rfl ?_
  have J3 : ∀ (y4 : Int32) , y4 = bI ((0 < (se 4)) ∧ ((iR (nI (ti / 10)) (se 4)) = 0)) → gW G X (wS G a ti se ho ri bo bc fs fc) 0 0 31 [(1, .int (se 4)), (0, .ref (a 0))] [.int y4] := by
    intro y4 ey4
    subst ey4
    exact x_zret C hr bI_nar E dX2_isFarrierThere_31 (fun _ => 0) (bI_iff (by simp only [if_true, if_false, ite_true, ite_false, and_true, true_and, and_false, false_and, or_true, true_or, or_false, false_or, not_true_eq_false, not_false_eq_true, and_self, or_self] <;> decide)) rfl
  refine x_if_le (x := (se 4)) (tgt := 30) C dX2_isFarrierThere_11 (by decide) (fun c1 => ?_) (fun c1 => ?_)
  · refine x_iconst (v := (nI 0)) C dX2_isFarrierThere_30 (by decide) ?_
    exact J3 (nI 0) (bI_f (by simp only [c1, if_true, if_false, ite_true, ite_false, and_true, true_and, and_false, false_and, or_true, true_or, or_false, false_or, not_true_eq_false, not_false_eq_true, and_self, or_self] <;> decide)).symm
  · refine x_aload_n C 1 rfl dX2_isFarrierThere_14 rfl ?_
    refine x_get (k := 0) (v := .int (nI ti)) C dX2_isFarrierThere_15 layX2 fl_X2_44 0 rfl rfl (by decide) rfl ?_
    refine x_bipush (v := (nI 10)) C dX2_isFarrierThere_18 (by decide) ?_
    refine x_idivN C dX2_isFarrierThere_20 (by omega) (by omega) (by omega) ?_
    refine x_iload_n C 0 rfl dX2_isFarrierThere_21 rfl ?_
    refine x_irem (x := (nI (ti / 10))) (y := (se 4)) C (fun h0 => by rw [h0] at c1; exact absurd c1 (by decide)) dX2_isFarrierThere_22 ?_
    refine x_if_ne (x := (iR (nI (ti / 10)) (se 4))) (tgt := 30) C dX2_isFarrierThere_23 (by decide) (fun c2 => ?_) (fun c2 => ?_)
    · refine x_iconst (v := (nI 0)) C dX2_isFarrierThere_30 (by decide) ?_
      exact J3 (nI 0) (bI_f (by simp only [c1, c2, if_true, if_false, ite_true, ite_false, and_true, true_and, and_false, false_and, or_true, true_or, or_false, false_or, not_true_eq_false, not_false_eq_true, and_self, or_self] <;> decide)).symm
    · refine x_iconst (v := (nI 1)) C dX2_isFarrierThere_26 (by decide) ?_
      refine x_goto (tgt := 31) C dX2_isFarrierThere_27 (by decide) ?_
      exact J3 (nI 1) (bI_t (by simp only [c1, c2, if_true, if_false, ite_true, ite_false, and_true, true_and, and_false, false_and, or_true, true_or, or_false, false_or, not_true_eq_false, not_false_eq_true, and_self, or_self] <;> decide)).symm
def rm_X2_farriersHorse : Room := { frames := 2, cells := 0, slots := 0, locals := 44 }
set_option maxRecDepth 100000 in
set_option maxHeartbeats 4000000 in
theorem c_X2_farriersHorse (l : Launch) (G : gG) (a : Nat → Nat) (ti : Nat) (se ho ri bo : Nat → Int32) (bc : Nat) (fs : Nat → Int32) (fc : Nat)  (ht : ti < 2 ^ 30) : CT l yX2_farriersHorse cX2_farriersHorse 5 (some .int) rm_X2_farriersHorse G [.ref (a 0)] (wS G a ti se ho ri bo bc fs fc) (some (.int (c_far se ho ti))) (fun _ => (wS G a ti se ho ri bo bc fs fc)) := by
  refine gMet (by decide) (Nat.le_of_ble_eq_true rfl) (fun X hX C hr hin E => ?_)
  clear hX
  refine (show gW G X (wS G a ti se ho ri bo bc fs fc) 0 0 0 [(0, .ref (a 0))] [] from ?_)
  refine x_iconst (v := (nI 0)) C dX2_farriersHorse_0 (by decide) ?_
  refine x_istore_n (lv' := [(1, .int (nI 0)), (0, .ref (a 0))]) C dX2_farriersHorse_1 rfl (by decide) rfl ?_
  refine x_bipush (v := (-5)) C dX2_farriersHorse_2 (by decide) ?_
  refine x_istore_n (lv' := [(2, .int (-5)), (1, .int (nI 0)), (0, .ref (a 0))]) C dX2_farriersHorse_4 rfl (by decide) rfl ?_
  refine x_aload_n C 2 rfl dX2_farriersHorse_5 rfl ?_
  refine x_callVd (As := []) (rest := []) C dX2_farriersHorse_6 (c_X2_isFarrierThere (gX.l X) G a ti se ho ri bo bc fs fc (by omega)) ml_X2_99 im_X2_isFarrierThere sl_X2_isFarrierThere in_X2 cd_X2_isFarrierThere hd_X2_isFarrierThere 0 rfl rfl rfl rfl (Nat.le_of_ble_eq_true rfl) ⟨Nat.le_of_ble_eq_true rfl, Nat.le_of_ble_eq_true rfl⟩ (List.take 0 (wS G a ti se ho ri bo bc fs fc)) (List.drop 11 (wS G a ti se ho ri bo bc fs fc)) rfl (ws' := (wS G a ti se ho ri bo bc fs fc)) rfl (st' := [.int (bI (c_there se ti))]) rfl ⟨rfl, rfl⟩ ⟨Nat.le_of_ble_eq_true rfl, Nat.le_of_ble_eq_true rfl⟩ ?_
  refine x_if_neB (P := c_there se ti) (tgt := 14) C dX2_farriersHorse_9 (by decide) (fun c1 => ?_) (fun c1 => ?_)
  · refine x_iconst (v := (nI 0)) C dX2_farriersHorse_14 (by decide) ?_
    refine x_istore_n (lv' := [(3, .int (nI 0)), (2, .int (-5)), (1, .int (nI 0)), (0, .ref (a 0))]) C dX2_farriersHorse_15 rfl (by decide) rfl ?_
    have L2 : ∀ (fu : Nat) (h : Nat) (g : Int32) (f : Int32), h + fu = 10 → (g, f) = c_farL ho h → gW G X (wS G a ti se ho ri bo bc fs fc) 0 0 16 [(3, .int (nI h)), (2, .int f), (1, .int g), (0, .ref (a 0))] [] := by
      intro fu
      induction fu with
      | zero =>
        intro h g f hn ha
        have hi : h = 10 := by omega
        refine x_iload_n C 0 rfl dX2_farriersHorse_16 rfl ?_
        refine x_bipush (v := (nI 10)) C dX2_farriersHorse_17 (by decide) ?_
        refine x_icmp_geN (a := h) (b := 10) (tgt := 50) C dX2_farriersHorse_19 (by decide) (by omega) (by omega) (fun c3 => ?_) (fun c3 => False.elim (by omega))
        refine x_iload_n C 1 rfl dX2_farriersHorse_50 rfl ?_
        exact x_iret C hr E dX2_farriersHorse_51 (fun _ => 0) (by rw [hi] at ha; rw [c_far, if_pos (by assumption), ← ha]) rfl
      | succ fu ih =>
        intro h g f hn ha
        refine x_iload_n C 0 rfl dX2_farriersHorse_16 rfl ?_
        refine x_bipush (v := (nI 10)) C dX2_farriersHorse_17 (by decide) ?_
        refine x_icmp_geN (a := h) (b := 10) (tgt := 50) C dX2_farriersHorse_19 (by decide) (by omega) (by omega) (fun c4 => False.elim (by omega)) (fun c4 => ?_)
        refine x_aload_n C 3 rfl dX2_farriersHorse_22 rfl ?_
        refine x_get (k := 2) (v := .ref (a 3)) C dX2_farriersHorse_23 layX2 fl_X2_20 0 rfl rfl (by decide) rfl ?_
        refine x_iconst (v := (nI 3)) C dX2_farriersHorse_26 (by decide) ?_
        refine x_iload_n C 0 rfl dX2_farriersHorse_27 rfl ?_
        refine x_callVd (As := [.int (nI 3), .int (nI h)]) (rest := []) C dX2_farriersHorse_28 (c_X3_at (gX.l X) G (a 3) (a 4) 10 90 ho 3 h (30 + h) (by omega) (by omega) (by omega) (by omega) (by omega)) ml_X2_58 im_X3_at sl_X3_at in_X3 cd_X3_at hd_X3_at 0 rfl rfl rfl rfl (Nat.le_of_ble_eq_true rfl) ⟨Nat.le_of_ble_eq_true rfl, Nat.le_of_ble_eq_true rfl⟩ (List.take 3 (wS G a ti se ho ri bo bc fs fc)) (List.drop 5 (wS G a ti se ho ri bo bc fs fc)) rfl (ws' := (wS G a ti se ho ri bo bc fs fc)) rfl (st' := [.int (ho (30 + h))]) rfl ⟨rfl, rfl⟩ ⟨Nat.le_of_ble_eq_true rfl, Nat.le_of_ble_eq_true rfl⟩ ?_
        refine x_istore (lv' := [(4, .int (ho (30 + h))), (3, .int (nI h)), (2, .int f), (1, .int g), (0, .ref (a 0))]) C dX2_farriersHorse_31 (by decide) rfl ?_
        refine x_iload C 0 rfl dX2_farriersHorse_33 ?_
        refine x_iload_n C 3 rfl dX2_farriersHorse_35 rfl ?_
        refine x_icmp_le (x := (ho (30 + h))) (y := g) (tgt := 44) C dX2_farriersHorse_36 (by decide) (fun c5 => ?_) (fun c5 => ?_)
        · refine x_iinc (v := (nI (h + 1))) (lv' := [(3, .int (nI (h + 1))), (4, .int (ho (30 + h))), (2, .int f), (1, .int g), (0, .ref (a 0))]) C 1 rfl dX2_farriersHorse_44 (by rw [show Int32.ofInt 1 = nI 1 from rfl]; exact nI_add _ _) (by decide) rfl ?_
          refine x_goto (tgt := 16) C dX2_farriersHorse_47 (by decide) ?_
          refine x_lv [0, 2, 3, 4] (lv' := [(3, .int (nI (h + 1))), (2, .int f), (1, .int g), (0, .ref (a 0))]) rfl ?_
          exact ih (h + 1) g f (by omega) (by simp only [c_farL, ← ha, c4, c5,  if_true, if_false, ite_true, ite_false, and_true, true_and, and_false, false_and, or_true, true_or, or_false, false_or, not_true_eq_false, not_false_eq_true, and_self, or_self])
        · refine x_iload C 0 rfl dX2_farriersHorse_39 ?_
          refine x_istore_n (lv' := [(1, .int (ho (30 + h))), (4, .int (ho (30 + h))), (3, .int (nI h)), (2, .int f), (0, .ref (a 0))]) C dX2_farriersHorse_41 rfl (by decide) rfl ?_
          refine x_iload_n C 2 rfl dX2_farriersHorse_42 rfl ?_
          refine x_istore_n (lv' := [(2, .int (nI h)), (1, .int (ho (30 + h))), (4, .int (ho (30 + h))), (3, .int (nI h)), (0, .ref (a 0))]) C dX2_farriersHorse_43 rfl (by decide) rfl ?_
          refine x_iinc (v := (nI (h + 1))) (lv' := [(3, .int (nI (h + 1))), (2, .int (nI h)), (1, .int (ho (30 + h))), (4, .int (ho (30 + h))), (0, .ref (a 0))]) C 3 rfl dX2_farriersHorse_44 (by rw [show Int32.ofInt 1 = nI 1 from rfl]; exact nI_add _ _) (by decide) rfl ?_
          refine x_goto (tgt := 16) C dX2_farriersHorse_47 (by decide) ?_
          refine x_lv [0, 1, 2, 4] (lv' := [(3, .int (nI (h + 1))), (2, .int (nI h)), (1, .int (ho (30 + h))), (0, .ref (a 0))]) rfl ?_
          exact ih (h + 1) (ho (30 + h)) (nI h) (by omega) (by simp only [c_farL, ← ha, c4, c5,  if_true, if_false, ite_true, ite_false, and_true, true_and, and_false, false_and, or_true, true_or, or_false, false_or, not_true_eq_false, not_false_eq_true, and_self, or_self])
    exact L2 10 0 0 (-5) (by omega) (by rfl)
  · refine x_iload_n C 0 rfl dX2_farriersHorse_12 rfl ?_
    exact x_iret C hr E dX2_farriersHorse_13 (fun _ => 0) (by simp only [c_far, c1,  if_true, if_false, ite_true, ite_false, and_true, true_and, and_false, false_and, or_true, true_or, or_false, false_or, not_true_eq_false, not_false_eq_true, and_self, or_self]) rfl
def rm_X2_hindrance : Room := { frames := 1, cells := 0, slots := 0, locals := 23 }
set_option maxRecDepth 100000 in
set_option maxHeartbeats 4000000 in
theorem c_X2_hindrance (l : Launch) (G : gG) (a : Nat → Nat) (ti : Nat) (se ho ri bo : Nat → Int32) (bc : Nat) (fs : Nat → Int32) (fc : Nat) (h r : Nat) (fa : Int32)  (hh : h < 10) (hr0 : r < 12) : CT l yX2_hindrance cX2_hindrance 4 (some .int) rm_X2_hindrance G [.ref (a 0), .int (nI h), .int (nI r), .int fa] (wS G a ti se ho ri bo bc fs fc) (some (.int (c_hind se ho ri h r fa))) (fun _ => (wS G a ti se ho ri bo bc fs fc)) := by
  refine gMet (by decide) (Nat.le_of_ble_eq_true rfl) (fun X hX C hr hin E => ?_)
  clear hX
  refine (show gW G X (wS G a ti se ho ri bo bc fs fc) 0 0 0 [(0, .ref (a 0)), (1, .int (nI h)), (2, .int (nI r)), (3, .int fa)] [] from ?_)
  refine x_aload_n C 0 rfl dX2_hindrance_0 rfl ?_
  refine x_get (k := 2) (v := .ref (a 3)) C dX2_hindrance_1 layX2 fl_X2_20 0 rfl rfl (by decide) rfl ?_
  refine x_iconst (v := (nI 5)) C dX2_hindrance_4 (by decide) ?_
  refine x_iload_n C 1 rfl dX2_hindrance_5 rfl ?_
  refine x_callVd (As := [.int (nI 5), .int (nI h)]) (rest := []) C dX2_hindrance_6 (c_X3_at (gX.l X) G (a 3) (a 4) 10 90 ho 5 h (50 + h) (by omega) (by omega) (by omega) (by omega) (by omega)) ml_X2_58 im_X3_at sl_X3_at in_X3 cd_X3_at hd_X3_at 0 rfl rfl rfl rfl (Nat.le_of_ble_eq_true rfl) ⟨Nat.le_of_ble_eq_true rfl, Nat.le_of_ble_eq_true rfl⟩ (List.take 3 (wS G a ti se ho ri bo bc fs fc)) (List.drop 5 (wS G a ti se ho ri bo bc fs fc)) rfl (ws' := (wS G a ti se ho ri bo bc fs fc)) rfl (st' := [.int (ho (50 + h))]) rfl ⟨rfl, rfl⟩ ⟨Nat.le_of_ble_eq_true rfl, Nat.le_of_ble_eq_true rfl⟩ ?_
  refine x_if_le (x := (ho (50 + h))) (tgt := 14) C dX2_hindrance_9 (by decide) (fun c1 => ?_) (fun c1 => ?_)
  · refine x_iload_n C 1 rfl dX2_hindrance_14 rfl ?_
    refine x_iload_n C 3 rfl dX2_hindrance_15 rfl ?_
    refine x_icmp_ne (x := (nI h)) (y := fa) (tgt := 21) C dX2_hindrance_16 (by decide) (fun c2 => ?_) (fun c2 => ?_)
    · refine x_aload_n C 0 rfl dX2_hindrance_21 rfl ?_
      refine x_get (k := 2) (v := .ref (a 3)) C dX2_hindrance_22 layX2 fl_X2_20 0 rfl rfl (by decide) rfl ?_
      refine x_iconst (v := (nI 3)) C dX2_hindrance_25 (by decide) ?_
      refine x_iload_n C 1 rfl dX2_hindrance_26 rfl ?_
      refine x_callVd (As := [.int (nI 3), .int (nI h)]) (rest := []) C dX2_hindrance_27 (c_X3_at (gX.l X) G (a 3) (a 4) 10 90 ho 3 h (30 + h) (by omega) (by omega) (by omega) (by omega) (by omega)) ml_X2_58 im_X3_at sl_X3_at in_X3 cd_X3_at hd_X3_at 0 rfl rfl rfl rfl (Nat.le_of_ble_eq_true rfl) ⟨Nat.le_of_ble_eq_true rfl, Nat.le_of_ble_eq_true rfl⟩ (List.take 3 (wS G a ti se ho ri bo bc fs fc)) (List.drop 5 (wS G a ti se ho ri bo bc fs fc)) rfl (ws' := (wS G a ti se ho ri bo bc fs fc)) rfl (st' := [.int (ho (30 + h))]) rfl ⟨rfl, rfl⟩ ⟨Nat.le_of_ble_eq_true rfl, Nat.le_of_ble_eq_true rfl⟩ ?_
      refine x_aload_n C 0 rfl dX2_hindrance_30 rfl ?_
      refine x_get (k := 1) (v := .ref (a 1)) C dX2_hindrance_31 layX2 fl_X2_14 0 rfl rfl (by decide) rfl ?_
      refine x_iconst (v := (nI 0)) C dX2_hindrance_34 (by decide) ?_
      refine x_iconst (v := (nI 1)) C dX2_hindrance_35 (by decide) ?_
      refine x_callVd (As := [.int (nI 0), .int (nI 1)]) (rest := [.int (ho (30 + h))]) C dX2_hindrance_36 (c_X3_at (gX.l X) G (a 1) (a 2) 5 5 se 0 1 1 (by omega) (by omega) (by omega) (by omega) (by omega)) ml_X2_58 im_X3_at sl_X3_at in_X3 cd_X3_at hd_X3_at 0 rfl rfl rfl rfl (Nat.le_of_ble_eq_true rfl) ⟨Nat.le_of_ble_eq_true rfl, Nat.le_of_ble_eq_true rfl⟩ (List.take 1 (wS G a ti se ho ri bo bc fs fc)) (List.drop 3 (wS G a ti se ho ri bo bc fs fc)) rfl (ws' := (wS G a ti se ho ri bo bc fs fc)) rfl (st' := [.int (se 1), .int (ho (30 + h))]) rfl ⟨rfl, rfl⟩ ⟨Nat.le_of_ble_eq_true rfl, Nat.le_of_ble_eq_true rfl⟩ ?_
      refine x_icmp_lt (x := (ho (30 + h))) (y := (se 1)) (tgt := 44) C dX2_hindrance_39 (by decide) (fun c3 => ?_) (fun c3 => ?_)
      · refine x_aload_n C 0 rfl dX2_hindrance_44 rfl ?_
        refine x_get (k := 2) (v := .ref (a 3)) C dX2_hindrance_45 layX2 fl_X2_20 0 rfl rfl (by decide) rfl ?_
        refine x_iconst (v := (nI 2)) C dX2_hindrance_48 (by decide) ?_
        refine x_iload_n C 1 rfl dX2_hindrance_49 rfl ?_
        refine x_callVd (As := [.int (nI 2), .int (nI h)]) (rest := []) C dX2_hindrance_50 (c_X3_at (gX.l X) G (a 3) (a 4) 10 90 ho 2 h (20 + h) (by omega) (by omega) (by omega) (by omega) (by omega)) ml_X2_58 im_X3_at sl_X3_at in_X3 cd_X3_at hd_X3_at 0 rfl rfl rfl rfl (Nat.le_of_ble_eq_true rfl) ⟨Nat.le_of_ble_eq_true rfl, Nat.le_of_ble_eq_true rfl⟩ (List.take 3 (wS G a ti se ho ri bo bc fs fc)) (List.drop 5 (wS G a ti se ho ri bo bc fs fc)) rfl (ws' := (wS G a ti se ho ri bo bc fs fc)) rfl (st' := [.int (ho (20 + h))]) rfl ⟨rfl, rfl⟩ ⟨Nat.le_of_ble_eq_true rfl, Nat.le_of_ble_eq_true rfl⟩ ?_
        refine x_aload_n C 0 rfl dX2_hindrance_53 rfl ?_
        refine x_get (k := 1) (v := .ref (a 1)) C dX2_hindrance_54 layX2 fl_X2_14 0 rfl rfl (by decide) rfl ?_
        refine x_iconst (v := (nI 0)) C dX2_hindrance_57 (by decide) ?_
        refine x_iconst (v := (nI 0)) C dX2_hindrance_58 (by decide) ?_
        refine x_callVd (As := [.int (nI 0), .int (nI 0)]) (rest := [.int (ho (20 + h))]) C dX2_hindrance_59 (c_X3_at (gX.l X) G (a 1) (a 2) 5 5 se 0 0 0 (by omega) (by omega) (by omega) (by omega) (by omega)) ml_X2_58 im_X3_at sl_X3_at in_X3 cd_X3_at hd_X3_at 0 rfl rfl rfl rfl (Nat.le_of_ble_eq_true rfl) ⟨Nat.le_of_ble_eq_true rfl, Nat.le_of_ble_eq_true rfl⟩ (List.take 1 (wS G a ti se ho ri bo bc fs fc)) (List.drop 3 (wS G a ti se ho ri bo bc fs fc)) rfl (ws' := (wS G a ti se ho ri bo bc fs fc)) rfl (st' := [.int (se 0), .int (ho (20 + h))]) rfl ⟨rfl, rfl⟩ ⟨Nat.le_of_ble_eq_true rfl, Nat.le_of_ble_eq_true rfl⟩ ?_
        refine x_icmp_lt (x := (ho (20 + h))) (y := (se 0)) (tgt := 67) C dX2_hindrance_62 (by decide) (fun c4 => ?_) (fun c4 => ?_)
        · refine x_aload_n C 0 rfl dX2_hindrance_67 rfl ?_
          refine x_get (k := 2) (v := .ref (a 3)) C dX2_hindrance_68 layX2 fl_X2_20 0 rfl rfl (by decide) rfl ?_
          refine x_iconst (v := (nI 0)) C dX2_hindrance_71 (by decide) ?_
          refine x_iload_n C 1 rfl dX2_hindrance_72 rfl ?_
          refine x_callVd (As := [.int (nI 0), .int (nI h)]) (rest := []) C dX2_hindrance_73 (c_X3_at (gX.l X) G (a 3) (a 4) 10 90 ho 0 h h (by omega) (by omega) (by omega) (by omega) (by omega)) ml_X2_58 im_X3_at sl_X3_at in_X3 cd_X3_at hd_X3_at 0 rfl rfl rfl rfl (Nat.le_of_ble_eq_true rfl) ⟨Nat.le_of_ble_eq_true rfl, Nat.le_of_ble_eq_true rfl⟩ (List.take 3 (wS G a ti se ho ri bo bc fs fc)) (List.drop 5 (wS G a ti se ho ri bo bc fs fc)) rfl (ws' := (wS G a ti se ho ri bo bc fs fc)) rfl (st' := [.int (ho h)]) rfl ⟨rfl, rfl⟩ ⟨Nat.le_of_ble_eq_true rfl, Nat.le_of_ble_eq_true rfl⟩ ?_
          refine x_aload_n C 0 rfl dX2_hindrance_76 rfl ?_
          refine x_get (k := 3) (v := .ref (a 5)) C dX2_hindrance_77 layX2 fl_X2_23 0 rfl rfl (by decide) rfl ?_
          refine x_iconst (v := (nI 0)) C dX2_hindrance_80 (by decide) ?_
          refine x_iload_n C 2 rfl dX2_hindrance_81 rfl ?_
          refine x_callVd (As := [.int (nI 0), .int (nI r)]) (rest := [.int (ho h)]) C dX2_hindrance_82 (c_X3_at (gX.l X) G (a 5) (a 6) 12 120 ri 0 r r (by omega) (by omega) (by omega) (by omega) (by omega)) ml_X2_58 im_X3_at sl_X3_at in_X3 cd_X3_at hd_X3_at 0 rfl rfl rfl rfl (Nat.le_of_ble_eq_true rfl) ⟨Nat.le_of_ble_eq_true rfl, Nat.le_of_ble_eq_true rfl⟩ (List.take 5 (wS G a ti se ho ri bo bc fs fc)) (List.drop 7 (wS G a ti se ho ri bo bc fs fc)) rfl (ws' := (wS G a ti se ho ri bo bc fs fc)) rfl (st' := [.int (ri r), .int (ho h)]) rfl ⟨rfl, rfl⟩ ⟨Nat.le_of_ble_eq_true rfl, Nat.le_of_ble_eq_true rfl⟩ ?_
          refine x_icmp_ge (x := (ho h)) (y := (ri r)) (tgt := 92) C dX2_hindrance_85 (by decide) (fun c5 => ?_) (fun c5 => ?_)
          · refine x_iconst (v := (nI 0)) C dX2_hindrance_92 (by decide) ?_
            exact x_iret C hr E dX2_hindrance_93 (fun _ => 0) (by simp only [c_hind, c1, c2, c3, c4, c5,  if_true, if_false, ite_true, ite_false, and_true, true_and, and_false, false_and, or_true, true_or, or_false, false_or, not_true_eq_false, not_false_eq_true, and_self, or_self] <;> rfl) rfl
          · refine x_iconst (v := (nI 5)) C dX2_hindrance_88 (by decide) ?_
            refine x_goto (tgt := 93) C dX2_hindrance_89 (by decide) ?_
            exact x_iret C hr E dX2_hindrance_93 (fun _ => 0) (by simp only [c_hind, c1, c2, c3, c4, c5,  if_true, if_false, ite_true, ite_false, and_true, true_and, and_false, false_and, or_true, true_or, or_false, false_or, not_true_eq_false, not_false_eq_true, and_self, or_self] <;> rfl) rfl
        · refine x_iconst (v := (nI 4)) C dX2_hindrance_65 (by decide) ?_
          exact x_iret C hr E dX2_hindrance_66 (fun _ => 0) (by simp only [c_hind, c1, c2, c3, c4,  if_true, if_false, ite_true, ite_false, and_true, true_and, and_false, false_and, or_true, true_or, or_false, false_or, not_true_eq_false, not_false_eq_true, and_self, or_self] <;> rfl) rfl
      · refine x_iconst (v := (nI 3)) C dX2_hindrance_42 (by decide) ?_
        exact x_iret C hr E dX2_hindrance_43 (fun _ => 0) (by simp only [c_hind, c1, c2, c3,  if_true, if_false, ite_true, ite_false, and_true, true_and, and_false, false_and, or_true, true_or, or_false, false_or, not_true_eq_false, not_false_eq_true, and_self, or_self] <;> rfl) rfl
    · refine x_iconst (v := (nI 2)) C dX2_hindrance_19 (by decide) ?_
      exact x_iret C hr E dX2_hindrance_20 (fun _ => 0) (by simp only [c_hind, c1, c2,  if_true, if_false, ite_true, ite_false, and_true, true_and, and_false, false_and, or_true, true_or, or_false, false_or, not_true_eq_false, not_false_eq_true, and_self, or_self] <;> rfl) rfl
  · refine x_iconst (v := (nI 1)) C dX2_hindrance_12 (by decide) ?_
    exact x_iret C hr E dX2_hindrance_13 (fun _ => 0) (by simp only [c_hind, c1,  if_true, if_false, ite_true, ite_false, and_true, true_and, and_false, false_and, or_true, true_or, or_false, false_or, not_true_eq_false, not_false_eq_true, and_self, or_self] <;> rfl) rfl
def rm_X2_isBetter : Room := { frames := 1, cells := 0, slots := 0, locals := 23 }
set_option maxRecDepth 100000 in
set_option maxHeartbeats 4000000 in
theorem c_X2_isBetter (l : Launch) (G : gG) (a : Nat → Nat) (ti : Nat) (se ho ri bo : Nat → Int32) (bc : Nat) (fs : Nat → Int32) (fc : Nat) (x y : Nat) (ab : Int32)  (hx : x < 10) (hy : y < 10) : CT l yX2_isBetter cX2_isBetter 8 (some .boolean) rm_X2_isBetter G [.ref (a 0), .int (nI x), .int (nI y), .int ab] (wS G a ti se ho ri bo bc fs fc) (some (.int (bI (c_better ho x y ab)))) (fun _ => (wS G a ti se ho ri bo bc fs fc)) := by
  refine gMet (by decide) (Nat.le_of_ble_eq_true rfl) (fun X hX C hr hin E => ?_)
  clear hX
  refine (show gW G X (wS G a ti se ho ri bo bc fs fc) 0 0 0 [(0, .ref (a 0)), (1, .int (nI x)), (2, .int (nI y)), (3, .int ab)] [] from ?_)
  refine x_aload_n C 0 rfl dX2_isBetter_0 rfl ?_
  refine x_get (k := 2) (v := .ref (a 3)) C dX2_isBetter_1 layX2 fl_X2_20 0 rfl rfl (by decide) rfl ?_
  refine x_iconst (v := (nI 1)) C dX2_isBetter_4 (by decide) ?_
  refine x_iload_n C 1 rfl dX2_isBetter_5 rfl ?_
  refine x_callVd (As := [.int (nI 1), .int (nI x)]) (rest := []) C dX2_isBetter_6 (c_X3_at (gX.l X) G (a 3) (a 4) 10 90 ho 1 x (10 + x) (by omega) (by omega) (by omega) (by omega) (by omega)) ml_X2_58 im_X3_at sl_X3_at in_X3 cd_X3_at hd_X3_at 0 rfl rfl rfl rfl (Nat.le_of_ble_eq_true rfl) ⟨Nat.le_of_ble_eq_true rfl, Nat.le_of_ble_eq_true rfl⟩ (List.take 3 (wS G a ti se ho ri bo bc fs fc)) (List.drop 5 (wS G a ti se ho ri bo bc fs fc)) rfl (ws' := (wS G a ti se ho ri bo bc fs fc)) rfl (st' := [.int (ho (10 + x))]) rfl ⟨rfl, rfl⟩ ⟨Nat.le_of_ble_eq_true rfl, Nat.le_of_ble_eq_true rfl⟩ ?_
  refine x_iload_n C 3 rfl dX2_isBetter_9 rfl ?_
  have J2 : ∀ (y3 : Int32) , y3 = bI (¬ (ab < (ho (10 + x)))) → gW G X (wS G a ti se ho ri bo bc fs fc) 0 0 18 [(0, .ref (a 0)), (1, .int (nI x)), (2, .int (nI y)), (3, .int ab)] [.int y3] := by
    intro y3 ey3
    subst ey3
    refine x_istore (lv' := [(4, .int (bI (¬ (ab < (ho (10 + x)))))), (0, .ref (a 0)), (1, .int (nI x)), (2, .int (nI y)), (3, .int ab)]) C dX2_isBetter_18 (by decide) rfl ?_
    refine x_aload_n C 1 rfl dX2_isBetter_20 rfl ?_
    refine x_get (k := 2) (v := .ref (a 3)) C dX2_isBetter_21 layX2 fl_X2_20 0 rfl rfl (by decide) rfl ?_
    refine x_iconst (v := (nI 1)) C dX2_isBetter_24 (by decide) ?_
    refine x_iload_n C 3 rfl dX2_isBetter_25 rfl ?_
    refine x_callVd (As := [.int (nI 1), .int (nI y)]) (rest := []) C dX2_isBetter_26 (c_X3_at (gX.l X) G (a 3) (a 4) 10 90 ho 1 y (10 + y) (by omega) (by omega) (by omega) (by omega) (by omega)) ml_X2_58 im_X3_at sl_X3_at in_X3 cd_X3_at hd_X3_at 0 rfl rfl rfl rfl (Nat.le_of_ble_eq_true rfl) ⟨Nat.le_of_ble_eq_true rfl, Nat.le_of_ble_eq_true rfl⟩ (List.take 3 (wS G a ti se ho ri bo bc fs fc)) (List.drop 5 (wS G a ti se ho ri bo bc fs fc)) rfl (ws' := (wS G a ti se ho ri bo bc fs fc)) rfl (st' := [.int (ho (10 + y))]) rfl ⟨rfl, rfl⟩ ⟨Nat.le_of_ble_eq_true rfl, Nat.le_of_ble_eq_true rfl⟩ ?_
    refine x_iload_n C 4 rfl dX2_isBetter_29 rfl ?_
    have J5 : ∀ (y6 : Int32) , y6 = bI (¬ (ab < (ho (10 + y)))) → gW G X (wS G a ti se ho ri bo bc fs fc) 0 0 38 [(4, .int (bI (¬ (ab < (ho (10 + x)))))), (0, .ref (a 0)), (1, .int (nI x)), (2, .int (nI y)), (3, .int ab)] [.int y6] := by
      intro y6 ey6
      subst ey6
      refine x_istore (lv' := [(5, .int (bI (¬ (ab < (ho (10 + y)))))), (4, .int (bI (¬ (ab < (ho (10 + x)))))), (0, .ref (a 0)), (1, .int (nI x)), (2, .int (nI y)), (3, .int ab)]) C dX2_isBetter_38 (by decide) rfl ?_
      refine x_iload C 1 rfl dX2_isBetter_40 ?_
      refine x_iload C 0 rfl dX2_isBetter_42 ?_
      refine x_icmp_eq (x := (bI (¬ (ab < (ho (10 + x)))))) (y := (bI (¬ (ab < (ho (10 + y)))))) (tgt := 50) C dX2_isBetter_44 (by decide) (fun c7 => ?_) (fun c7 => ?_)
      · refine x_aload_n C 2 rfl dX2_isBetter_50 rfl ?_
        refine x_get (k := 2) (v := .ref (a 3)) C dX2_isBetter_51 layX2 fl_X2_20 0 rfl rfl (by decide) rfl ?_
        refine x_iconst (v := (nI 2)) C dX2_isBetter_54 (by decide) ?_
        refine x_iload_n C 3 rfl dX2_isBetter_55 rfl ?_
        refine x_callVd (As := [.int (nI 2), .int (nI x)]) (rest := []) C dX2_isBetter_56 (c_X3_at (gX.l X) G (a 3) (a 4) 10 90 ho 2 x (20 + x) (by omega) (by omega) (by omega) (by omega) (by omega)) ml_X2_58 im_X3_at sl_X3_at in_X3 cd_X3_at hd_X3_at 0 rfl rfl rfl rfl (Nat.le_of_ble_eq_true rfl) ⟨Nat.le_of_ble_eq_true rfl, Nat.le_of_ble_eq_true rfl⟩ (List.take 3 (wS G a ti se ho ri bo bc fs fc)) (List.drop 5 (wS G a ti se ho ri bo bc fs fc)) rfl (ws' := (wS G a ti se ho ri bo bc fs fc)) rfl (st' := [.int (ho (20 + x))]) rfl ⟨rfl, rfl⟩ ⟨Nat.le_of_ble_eq_true rfl, Nat.le_of_ble_eq_true rfl⟩ ?_
        refine x_aload_n C 2 rfl dX2_isBetter_59 rfl ?_
        refine x_get (k := 2) (v := .ref (a 3)) C dX2_isBetter_60 layX2 fl_X2_20 0 rfl rfl (by decide) rfl ?_
        refine x_iconst (v := (nI 2)) C dX2_isBetter_63 (by decide) ?_
        refine x_iload_n C 4 rfl dX2_isBetter_64 rfl ?_
        refine x_callVd (As := [.int (nI 2), .int (nI y)]) (rest := [.int (ho (20 + x))]) C dX2_isBetter_65 (c_X3_at (gX.l X) G (a 3) (a 4) 10 90 ho 2 y (20 + y) (by omega) (by omega) (by omega) (by omega) (by omega)) ml_X2_58 im_X3_at sl_X3_at in_X3 cd_X3_at hd_X3_at 0 rfl rfl rfl rfl (Nat.le_of_ble_eq_true rfl) ⟨Nat.le_of_ble_eq_true rfl, Nat.le_of_ble_eq_true rfl⟩ (List.take 3 (wS G a ti se ho ri bo bc fs fc)) (List.drop 5 (wS G a ti se ho ri bo bc fs fc)) rfl (ws' := (wS G a ti se ho ri bo bc fs fc)) rfl (st' := [.int (ho (20 + y)), .int (ho (20 + x))]) rfl ⟨rfl, rfl⟩ ⟨Nat.le_of_ble_eq_true rfl, Nat.le_of_ble_eq_true rfl⟩ ?_
        refine x_isub (x := (ho (20 + x))) (y := (ho (20 + y))) C dX2_isBetter_68 ?_
        refine x_istore (lv' := [(6, .int ((ho (20 + x)) - (ho (20 + y)))), (5, .int (bI (¬ (ab < (ho (10 + y)))))), (4, .int (bI (¬ (ab < (ho (10 + x)))))), (0, .ref (a 0)), (1, .int (nI x)), (2, .int (nI y)), (3, .int ab)]) C dX2_isBetter_69 (by decide) rfl ?_
        refine x_aload_n C 3 rfl dX2_isBetter_71 rfl ?_
        refine x_get (k := 2) (v := .ref (a 3)) C dX2_isBetter_72 layX2 fl_X2_20 0 rfl rfl (by decide) rfl ?_
        refine x_iconst (v := (nI 0)) C dX2_isBetter_75 (by decide) ?_
        refine x_iload_n C 4 rfl dX2_isBetter_76 rfl ?_
        refine x_callVd (As := [.int (nI 0), .int (nI x)]) (rest := []) C dX2_isBetter_77 (c_X3_at (gX.l X) G (a 3) (a 4) 10 90 ho 0 x x (by omega) (by omega) (by omega) (by omega) (by omega)) ml_X2_58 im_X3_at sl_X3_at in_X3 cd_X3_at hd_X3_at 0 rfl rfl rfl rfl (Nat.le_of_ble_eq_true rfl) ⟨Nat.le_of_ble_eq_true rfl, Nat.le_of_ble_eq_true rfl⟩ (List.take 3 (wS G a ti se ho ri bo bc fs fc)) (List.drop 5 (wS G a ti se ho ri bo bc fs fc)) rfl (ws' := (wS G a ti se ho ri bo bc fs fc)) rfl (st' := [.int (ho x)]) rfl ⟨rfl, rfl⟩ ⟨Nat.le_of_ble_eq_true rfl, Nat.le_of_ble_eq_true rfl⟩ ?_
        refine x_aload_n C 3 rfl dX2_isBetter_80 rfl ?_
        refine x_get (k := 2) (v := .ref (a 3)) C dX2_isBetter_81 layX2 fl_X2_20 0 rfl rfl (by decide) rfl ?_
        refine x_iconst (v := (nI 0)) C dX2_isBetter_84 (by decide) ?_
        refine x_iload_n C 5 rfl dX2_isBetter_85 rfl ?_
        refine x_callVd (As := [.int (nI 0), .int (nI y)]) (rest := [.int (ho x)]) C dX2_isBetter_86 (c_X3_at (gX.l X) G (a 3) (a 4) 10 90 ho 0 y y (by omega) (by omega) (by omega) (by omega) (by omega)) ml_X2_58 im_X3_at sl_X3_at in_X3 cd_X3_at hd_X3_at 0 rfl rfl rfl rfl (Nat.le_of_ble_eq_true rfl) ⟨Nat.le_of_ble_eq_true rfl, Nat.le_of_ble_eq_true rfl⟩ (List.take 3 (wS G a ti se ho ri bo bc fs fc)) (List.drop 5 (wS G a ti se ho ri bo bc fs fc)) rfl (ws' := (wS G a ti se ho ri bo bc fs fc)) rfl (st' := [.int (ho y), .int (ho x)]) rfl ⟨rfl, rfl⟩ ⟨Nat.le_of_ble_eq_true rfl, Nat.le_of_ble_eq_true rfl⟩ ?_
        refine x_isub (x := (ho x)) (y := (ho y)) C dX2_isBetter_89 ?_
        refine x_istore (lv' := [(7, .int ((ho x) - (ho y))), (6, .int ((ho (20 + x)) - (ho (20 + y)))), (5, .int (bI (¬ (ab < (ho (10 + y)))))), (4, .int (bI (¬ (ab < (ho (10 + x)))))), (0, .ref (a 0)), (1, .int (nI x)), (2, .int (nI y)), (3, .int ab)]) C dX2_isBetter_90 (by decide) rfl ?_
        refine x_iload C 1 rfl dX2_isBetter_92 ?_
        have J11 : ∀ (y12 : Int32) , y12 = bI ((((ho (20 + x)) - (ho (20 + y))) < 0) ∨ ((((ho (20 + x)) - (ho (20 + y))) = 0) ∧ (((ho x) - (ho y)) < 0))) → gW G X (wS G a ti se ho ri bo bc fs fc) 0 0 112 [(7, .int ((ho x) - (ho y))), (6, .int ((ho (20 + x)) - (ho (20 + y)))), (5, .int (bI (¬ (ab < (ho (10 + y)))))), (4, .int (bI (¬ (ab < (ho (10 + x)))))), (0, .ref (a 0)), (1, .int (nI x)), (2, .int (nI y)), (3, .int ab)] [.int y12] := by
          intro y12 ey12
          subst ey12
          exact x_zret C hr bI_nar E dX2_isBetter_112 (fun _ => 0) (c_better_same (by assumption)) rfl
        refine x_if_lt (x := ((ho (20 + x)) - (ho (20 + y)))) (tgt := 107) C dX2_isBetter_94 (by decide) (fun c8 => ?_) (fun c8 => ?_)
        · refine x_iconst (v := (nI 1)) C dX2_isBetter_107 (by decide) ?_
          refine x_goto (tgt := 112) C dX2_isBetter_108 (by decide) ?_
          exact J11 (nI 1) (bI_t (by simp only [c8, if_true, if_false, ite_true, ite_false, and_true, true_and, and_false, false_and, or_true, true_or, or_false, false_or, not_true_eq_false, not_false_eq_true, and_self, or_self] <;> decide)).symm
        · refine x_iload C 1 rfl dX2_isBetter_97 ?_
          refine x_if_ne (x := ((ho (20 + x)) - (ho (20 + y)))) (tgt := 111) C dX2_isBetter_99 (by decide) (fun c9 => ?_) (fun c9 => ?_)
          · refine x_iconst (v := (nI 0)) C dX2_isBetter_111 (by decide) ?_
            exact J11 (nI 0) (bI_f (by simp only [c8, c9, if_true, if_false, ite_true, ite_false, and_true, true_and, and_false, false_and, or_true, true_or, or_false, false_or, not_true_eq_false, not_false_eq_true, and_self, or_self] <;> decide)).symm
          · refine x_iload C 0 rfl dX2_isBetter_102 ?_
            refine x_if_ge (x := ((ho x) - (ho y))) (tgt := 111) C dX2_isBetter_104 (by decide) (fun c10 => ?_) (fun c10 => ?_)
            · refine x_iconst (v := (nI 0)) C dX2_isBetter_111 (by decide) ?_
              exact J11 (nI 0) (bI_f (by simp only [c8, c9, c10, if_true, if_false, ite_true, ite_false, and_true, true_and, and_false, false_and, or_true, true_or, or_false, false_or, not_true_eq_false, not_false_eq_true, and_self, or_self] <;> decide)).symm
            · refine x_iconst (v := (nI 1)) C dX2_isBetter_107 (by decide) ?_
              refine x_goto (tgt := 112) C dX2_isBetter_108 (by decide) ?_
              exact J11 (nI 1) (bI_t (by simp only [c8, c9, c10, if_true, if_false, ite_true, ite_false, and_true, true_and, and_false, false_and, or_true, true_or, or_false, false_or, not_true_eq_false, not_false_eq_true, and_self, or_self] <;> decide)).symm
      · refine x_iload C 1 rfl dX2_isBetter_47 ?_
        exact x_zret C hr bI_nar E dX2_isBetter_49 (fun _ => 0) (c_better_diff (by assumption)) rfl
    refine x_icmp_gt (x := (ho (10 + y))) (y := ab) (tgt := 37) C dX2_isBetter_30 (by decide) (fun c4 => ?_) (fun c4 => ?_)
    · refine x_iconst (v := (nI 0)) C dX2_isBetter_37 (by decide) ?_
      exact J5 (nI 0) (bI_f (by simp only [c4, if_true, if_false, ite_true, ite_false, and_true, true_and, and_false, false_and, or_true, true_or, or_false, false_or, not_true_eq_false, not_false_eq_true, and_self, or_self] <;> decide)).symm
    · refine x_iconst (v := (nI 1)) C dX2_isBetter_33 (by decide) ?_
      refine x_goto (tgt := 38) C dX2_isBetter_34 (by decide) ?_
      exact J5 (nI 1) (bI_t (by simp only [c4, if_true, if_false, ite_true, ite_false, and_true, true_and, and_false, false_and, or_true, true_or, or_false, false_or, not_true_eq_false, not_false_eq_true, and_self, or_self] <;> decide)).symm
  refine x_icmp_gt (x := (ho (10 + x))) (y := ab) (tgt := 17) C dX2_isBetter_10 (by decide) (fun c1 => ?_) (fun c1 => ?_)
  · refine x_iconst (v := (nI 0)) C dX2_isBetter_17 (by decide) ?_
    exact J2 (nI 0) (bI_f (by simp only [c1, if_true, if_false, ite_true, ite_false, and_true, true_and, and_false, false_and, or_true, true_or, or_false, false_or, not_true_eq_false, not_false_eq_true, and_self, or_self] <;> decide)).symm
  · refine x_iconst (v := (nI 1)) C dX2_isBetter_13 (by decide) ?_
    refine x_goto (tgt := 18) C dX2_isBetter_14 (by decide) ?_
    exact J2 (nI 1) (bI_t (by simp only [c1, if_true, if_false, ite_true, ite_false, and_true, true_and, and_false, false_and, or_true, true_or, or_false, false_or, not_true_eq_false, not_false_eq_true, and_self, or_self] <;> decide)).symm
def rm_X2_bestHorse : Room := { frames := 2, cells := 0, slots := 0, locals := 50 }
set_option maxRecDepth 100000 in
set_option maxHeartbeats 4000000 in
theorem c_X2_bestHorse (l : Launch) (G : gG) (a : Nat → Nat) (ti : Nat) (se ho ri bo : Nat → Int32) (bc : Nat) (fs : Nat → Int32) (fc : Nat) (r : Nat) (fa tk : Int32)  (hr0 : r < 12) : CT l yX2_bestHorse cX2_bestHorse 7 (some .int) rm_X2_bestHorse G [.ref (a 0), .int (nI r), .int fa, .int tk] (wS G a ti se ho ri bo bc fs fc) (some (.int (c_best se ho ri r fa tk))) (fun _ => (wS G a ti se ho ri bo bc fs fc)) := by
  refine gMet (by decide) (Nat.le_of_ble_eq_true rfl) (fun X hX C hr hin E => ?_)
  clear hX
  refine (show gW G X (wS G a ti se ho ri bo bc fs fc) 0 0 0 [(0, .ref (a 0)), (1, .int (nI r)), (2, .int fa), (3, .int tk)] [] from ?_)
  refine x_aload_n C 0 rfl dX2_bestHorse_0 rfl ?_
  refine x_iload_n C 1 rfl dX2_bestHorse_1 rfl ?_
  refine x_callVd (As := [.int (nI r)]) (rest := []) C dX2_bestHorse_2 (c_X2_abilityOf (gX.l X) G a ti se ho ri bo bc fs fc r (by omega)) ml_X2_66 im_X2_abilityOf sl_X2_abilityOf in_X2 cd_X2_abilityOf hd_X2_abilityOf 0 rfl rfl rfl rfl (Nat.le_of_ble_eq_true rfl) ⟨Nat.le_of_ble_eq_true rfl, Nat.le_of_ble_eq_true rfl⟩ (List.take 0 (wS G a ti se ho ri bo bc fs fc)) (List.drop 11 (wS G a ti se ho ri bo bc fs fc)) rfl (ws' := (wS G a ti se ho ri bo bc fs fc)) rfl (st' := [.int (c_abil ri r)]) rfl ⟨rfl, rfl⟩ ⟨Nat.le_of_ble_eq_true rfl, Nat.le_of_ble_eq_true rfl⟩ ?_
  refine x_istore (lv' := [(4, .int (c_abil ri r)), (0, .ref (a 0)), (1, .int (nI r)), (2, .int fa), (3, .int tk)]) C dX2_bestHorse_5 (by decide) rfl ?_
  refine x_bipush (v := (-5)) C dX2_bestHorse_7 (by decide) ?_
  refine x_istore (lv' := [(5, .int (-5)), (4, .int (c_abil ri r)), (0, .ref (a 0)), (1, .int (nI r)), (2, .int fa), (3, .int tk)]) C dX2_bestHorse_9 (by decide) rfl ?_
  refine x_iconst (v := (nI 0)) C dX2_bestHorse_11 (by decide) ?_
  refine x_istore (lv' := [(6, .int (nI 0)), (5, .int (-5)), (4, .int (c_abil ri r)), (0, .ref (a 0)), (1, .int (nI r)), (2, .int fa), (3, .int tk)]) C dX2_bestHorse_12 (by decide) rfl ?_
  have L1 : ∀ (fu : Nat) (h : Nat) (f : Int32), h + fu = 10 → f = c_bestL se ho ri r fa tk h → okH f → gW G X (wS G a ti se ho ri bo bc fs fc) 0 0 14 [(6, .int (nI h)), (5, .int f), (4, .int (c_abil ri r)), (0, .ref (a 0)), (1, .int (nI r)), (2, .int fa), (3, .int tk)] [] := by
    intro fu
    induction fu with
    | zero =>
      intro h f hn ha hf
      have hi : h = 10 := by omega
      refine x_iload C 0 rfl dX2_bestHorse_14 ?_
      refine x_bipush (v := (nI 10)) C dX2_bestHorse_16 (by decide) ?_
      refine x_icmp_geN (a := h) (b := 10) (tgt := 71) C dX2_bestHorse_18 (by decide) (by omega) (by omega) (fun c2 => ?_) (fun c2 => False.elim (by omega))
      refine x_iload C 1 rfl dX2_bestHorse_71 ?_
      exact x_iret C hr E dX2_bestHorse_73 (fun _ => 0) (by rw [ha, hi]; rfl) rfl
    | succ fu ih =>
      intro h f hn ha hf
      refine x_iload C 0 rfl dX2_bestHorse_14 ?_
      refine x_bipush (v := (nI 10)) C dX2_bestHorse_16 (by decide) ?_
      refine x_icmp_geN (a := h) (b := 10) (tgt := 71) C dX2_bestHorse_18 (by decide) (by omega) (by omega) (fun c3 => False.elim (by omega)) (fun c3 => ?_)
      refine x_iload_n C 6 rfl dX2_bestHorse_21 rfl ?_
      refine x_iload C 0 rfl dX2_bestHorse_22 ?_
      refine x_ishr (x := tk) (y := (nI h)) C dX2_bestHorse_24 ?_
      refine x_iconst (v := (nI 1)) C dX2_bestHorse_25 (by decide) ?_
      refine x_iand (x := (tk >>> ((nI h) &&& 31))) (y := 1) C dX2_bestHorse_26 ?_
      refine x_if_ne (x := ((tk >>> ((nI h) &&& 31)) &&& 1)) (tgt := 65) C dX2_bestHorse_27 (by decide) (fun c4 => ?_) (fun c4 => ?_)
      · refine x_iinc (v := (nI (h + 1))) (lv' := [(6, .int (nI (h + 1))), (5, .int f), (4, .int (c_abil ri r)), (0, .ref (a 0)), (1, .int (nI r)), (2, .int fa), (3, .int tk)]) C 0 rfl dX2_bestHorse_65 (by rw [show Int32.ofInt 1 = nI 1 from rfl]; exact nI_add _ _) (by decide) rfl ?_
        refine x_goto (tgt := 14) C dX2_bestHorse_68 (by decide) ?_
        exact ih (h + 1) f (by omega) (by simp only [c_bestL, ← ha, c_bestS, c_in, c3, c4,  if_true, if_false, ite_true, ite_false, and_true, true_and, and_false, false_and, or_true, true_or, or_false, false_or, not_true_eq_false, not_false_eq_true, and_self, or_self]) (by first | exact hf | exact Or.inr ⟨by rw [nC, nI_clamp (by omega)]; omega, by rw [nC, nI_clamp (by omega)]⟩)
      · refine x_aload_n C 3 rfl dX2_bestHorse_30 rfl ?_
        refine x_iload C 0 rfl dX2_bestHorse_31 ?_
        refine x_iload_n C 4 rfl dX2_bestHorse_33 rfl ?_
        refine x_iload_n C 5 rfl dX2_bestHorse_34 rfl ?_
        refine x_callVd (As := [.int (nI h), .int (nI r), .int fa]) (rest := []) C dX2_bestHorse_35 (c_X2_hindrance (gX.l X) G a ti se ho ri bo bc fs fc h r fa (by omega) (by omega)) ml_X2_103 im_X2_hindrance sl_X2_hindrance in_X2 cd_X2_hindrance hd_X2_hindrance 0 rfl rfl rfl rfl (Nat.le_of_ble_eq_true rfl) ⟨Nat.le_of_ble_eq_true rfl, Nat.le_of_ble_eq_true rfl⟩ (List.take 0 (wS G a ti se ho ri bo bc fs fc)) (List.drop 11 (wS G a ti se ho ri bo bc fs fc)) rfl (ws' := (wS G a ti se ho ri bo bc fs fc)) rfl (st' := [.int (c_hind se ho ri h r fa)]) rfl ⟨rfl, rfl⟩ ⟨Nat.le_of_ble_eq_true rfl, Nat.le_of_ble_eq_true rfl⟩ ?_
        refine x_if_ne (x := (c_hind se ho ri h r fa)) (tgt := 65) C dX2_bestHorse_38 (by decide) (fun c5 => ?_) (fun c5 => ?_)
        · refine x_iinc (v := (nI (h + 1))) (lv' := [(6, .int (nI (h + 1))), (5, .int f), (4, .int (c_abil ri r)), (0, .ref (a 0)), (1, .int (nI r)), (2, .int fa), (3, .int tk)]) C 0 rfl dX2_bestHorse_65 (by rw [show Int32.ofInt 1 = nI 1 from rfl]; exact nI_add _ _) (by decide) rfl ?_
          refine x_goto (tgt := 14) C dX2_bestHorse_68 (by decide) ?_
          exact ih (h + 1) f (by omega) (by simp only [c_bestL, ← ha, c_bestS, c_in, c3, c4, c5,  if_true, if_false, ite_true, ite_false, and_true, true_and, and_false, false_and, or_true, true_or, or_false, false_or, not_true_eq_false, not_false_eq_true, and_self, or_self]) (by first | exact hf | exact Or.inr ⟨by rw [nC, nI_clamp (by omega)]; omega, by rw [nC, nI_clamp (by omega)]⟩)
        · refine x_iload C 1 rfl dX2_bestHorse_41 ?_
          refine x_bipush (v := (-5)) C dX2_bestHorse_43 (by decide) ?_
          refine x_icmp_eq (x := f) (y := (-5)) (tgt := 61) C dX2_bestHorse_45 (by decide) (fun c6 => ?_) (fun c6 => ?_)
          · refine x_iload C 0 rfl dX2_bestHorse_61 ?_
            refine x_istore (lv' := [(5, .int (nI h)), (6, .int (nI h)), (4, .int (c_abil ri r)), (0, .ref (a 0)), (1, .int (nI r)), (2, .int fa), (3, .int tk)]) C dX2_bestHorse_63 (by decide) rfl ?_
            refine x_iinc (v := (nI (h + 1))) (lv' := [(6, .int (nI (h + 1))), (5, .int (nI h)), (4, .int (c_abil ri r)), (0, .ref (a 0)), (1, .int (nI r)), (2, .int fa), (3, .int tk)]) C 1 rfl dX2_bestHorse_65 (by rw [show Int32.ofInt 1 = nI 1 from rfl]; exact nI_add _ _) (by decide) rfl ?_
            refine x_goto (tgt := 14) C dX2_bestHorse_68 (by decide) ?_
            exact ih (h + 1) (nI h) (by omega) (by simp only [c_bestL, ← ha, c_bestS, c_in, c3, c4, c5, c6,  if_true, if_false, ite_true, ite_false, and_true, true_and, and_false, false_and, or_true, true_or, or_false, false_or, not_true_eq_false, not_false_eq_true, and_self, or_self]) (by first | exact hf | exact Or.inr ⟨by rw [nC, nI_clamp (by omega)]; omega, by rw [nC, nI_clamp (by omega)]⟩)
          · have hfn : nC f < 10 ∧ f = nI (nC f) := by
              rcases hf with h9 | h9
              · exact absurd h9 (by assumption)
              · exact h9
            refine x_aload_n C 3 rfl dX2_bestHorse_48 rfl ?_
            refine x_iload C 0 rfl dX2_bestHorse_49 ?_
            refine x_iload C 1 rfl dX2_bestHorse_51 ?_
            refine x_top (y := (nI (nC f))) hfn.2 ?_
            refine x_iload C 2 rfl dX2_bestHorse_53 ?_
            refine x_callVd (As := [.int (nI h), .int (nI (nC f)), .int (c_abil ri r)]) (rest := []) C dX2_bestHorse_55 (c_X2_isBetter (gX.l X) G a ti se ho ri bo bc fs fc h (nC f) (c_abil ri r) (by omega) (by omega)) ml_X2_107 im_X2_isBetter sl_X2_isBetter in_X2 cd_X2_isBetter hd_X2_isBetter 0 rfl rfl rfl rfl (Nat.le_of_ble_eq_true rfl) ⟨Nat.le_of_ble_eq_true rfl, Nat.le_of_ble_eq_true rfl⟩ (List.take 0 (wS G a ti se ho ri bo bc fs fc)) (List.drop 11 (wS G a ti se ho ri bo bc fs fc)) rfl (ws' := (wS G a ti se ho ri bo bc fs fc)) rfl (st' := [.int (bI (c_better ho h (nC f) (c_abil ri r)))]) rfl ⟨rfl, rfl⟩ ⟨Nat.le_of_ble_eq_true rfl, Nat.le_of_ble_eq_true rfl⟩ ?_
            refine x_if_eqB (P := c_better ho h (nC f) (c_abil ri r)) (tgt := 65) C dX2_bestHorse_58 (by decide) (fun c7 => ?_) (fun c7 => ?_)
            · refine x_iinc (v := (nI (h + 1))) (lv' := [(6, .int (nI (h + 1))), (5, .int f), (4, .int (c_abil ri r)), (0, .ref (a 0)), (1, .int (nI r)), (2, .int fa), (3, .int tk)]) C 0 rfl dX2_bestHorse_65 (by rw [show Int32.ofInt 1 = nI 1 from rfl]; exact nI_add _ _) (by decide) rfl ?_
              refine x_goto (tgt := 14) C dX2_bestHorse_68 (by decide) ?_
              exact ih (h + 1) f (by omega) (by simp only [c_bestL, ← ha, c_bestS, c_in, c3, c4, c5, c6, c7,  if_true, if_false, ite_true, ite_false, and_true, true_and, and_false, false_and, or_true, true_or, or_false, false_or, not_true_eq_false, not_false_eq_true, and_self, or_self]) (by first | exact hf | exact Or.inr ⟨by rw [nC, nI_clamp (by omega)]; omega, by rw [nC, nI_clamp (by omega)]⟩)
            · refine x_iload C 0 rfl dX2_bestHorse_61 ?_
              refine x_istore (lv' := [(5, .int (nI h)), (6, .int (nI h)), (4, .int (c_abil ri r)), (0, .ref (a 0)), (1, .int (nI r)), (2, .int fa), (3, .int tk)]) C dX2_bestHorse_63 (by decide) rfl ?_
              refine x_iinc (v := (nI (h + 1))) (lv' := [(6, .int (nI (h + 1))), (5, .int (nI h)), (4, .int (c_abil ri r)), (0, .ref (a 0)), (1, .int (nI r)), (2, .int fa), (3, .int tk)]) C 1 rfl dX2_bestHorse_65 (by rw [show Int32.ofInt 1 = nI 1 from rfl]; exact nI_add _ _) (by decide) rfl ?_
              refine x_goto (tgt := 14) C dX2_bestHorse_68 (by decide) ?_
              exact ih (h + 1) (nI h) (by omega) (by simp only [c_bestL, ← ha, c_bestS, c_in, c3, c4, c5, c6, c7,  if_true, if_false, ite_true, ite_false, and_true, true_and, and_false, false_and, or_true, true_or, or_false, false_or, not_true_eq_false, not_false_eq_true, and_self, or_self]) (by first | exact hf | exact Or.inr ⟨by rw [nC, nI_clamp (by omega)]; omega, by rw [nC, nI_clamp (by omega)]⟩)
  exact L1 10 0 (-5) (by omega) (by rfl) (by exact Or.inl rfl)
