def rm_X1_read : Room := { frames := 4, cells := 0, slots := 0, locals := 86 }
set_option maxRecDepth 100000 in
set_option maxHeartbeats 600000 in
theorem c_X1_read (l : Launch) (G : gG) (p : Nat → Nat) (pz pp : Nat) (pn ph pr : Int32) (pe : Nat → Int32) (t : Nat → Nat) (tc : Nat → Int32) (en : Nat)  (hen : en ≤ 60) (hch : ∀ j, j < 60 → okC (tc j)) : CT l yX1_read cX1_read 3 (some .int) rm_X1_read G [.ref (p 0), .ref (t 0)] ((wX1 G p pz pp pn ph pr pe) ++ ((wX4 G t tc en) ++ [])) (some (.int ((p_read tc en ph pr pe).1))) (fun _ => ((wX1 G p ((p_read tc en ph pr pe).2.1) ((p_read tc en ph pr pe).2.2.1) ((p_read tc en ph pr pe).2.2.2.1) ((p_read tc en ph pr pe).2.2.2.2.1) ((p_read tc en ph pr pe).2.2.2.2.2.1) ((p_read tc en ph pr pe).2.2.2.2.2.2)) ++ ((wX4 G t tc en) ++ []))) := by
  refine gMet (by decide) (Nat.le_of_ble_eq_true rfl) (fun X hX C hr hin E => ?_)
  clear hX
  refine (show gW G X ((wX1 G p pz pp pn ph pr pe) ++ ((wX4 G t tc en) ++ [])) 0 0 0 [(0, .ref (p 0)), (1, .ref (t 0))] [] from ?_)
  refine x_aload_n C 0 rfl dX1_read_0 rfl ?_
  refine x_iconst (v := (nI 0)) C dX1_read_1 (by decide) ?_
  refine x_put (k := 1) (ws' := ((wX1 G p 0 pp pn ph pr pe) ++ ((wX4 G t tc en) ++ []))) C dX1_read_2 layX1 tyX1 tyX1_ok nmX1 fl_X1_20 0 rfl rfl (by decide) rfl rfl rfl rfl (Nat.le_of_ble_eq_true rfl) rfl ?_
  refine x_aload_n C 0 rfl dX1_read_5 rfl ?_
  refine x_iconst (v := (nI 0)) C dX1_read_6 (by decide) ?_
  refine x_callVd (As := [.int (nI 0)]) (rest := []) C dX1_read_7 (c_X1_moveTo (gX.l X) G p 0 pp pn ph pr pe 0 ) ml_X1_28 im_X1_moveTo sl_X1_moveTo in_X1 cd_X1_moveTo hd_X1_moveTo 0 rfl rfl rfl rfl (Nat.le_of_ble_eq_true rfl) ⟨Nat.le_of_ble_eq_true rfl, Nat.le_of_ble_eq_true rfl⟩ [] ((wX4 G t tc en) ++ []) (by simp only [List.append_assoc, List.nil_append, List.cons_append]) (ws' := ((wX1 G p 0 0 (-1) ph pr pe) ++ ((wX4 G t tc en) ++ []))) (by simp only [List.append_assoc, List.nil_append, List.cons_append]) (st' := []) rfl ⟨rfl, rfl⟩ ⟨Nat.le_of_ble_eq_true rfl, Nat.le_of_ble_eq_true rfl⟩ ?_
  refine x_iconst (v := (nI 0)) C dX1_read_10 (by decide) ?_
  refine x_istore_n (lv' := [(2, .int (nI 0)), (0, .ref (p 0)), (1, .ref (t 0))]) C dX1_read_11 rfl (by decide) rfl ?_
  have L1 : ∀ (fu : Nat) (i : Nat) (z1 : Nat) (z2 : Nat) (z3 : Int32) (z4 : Int32) (z5 : Int32) (z6 : Nat → Int32), i + fu = en → (p_readR tc en fu i (z1, z2, z3, z4, z5, z6) = p_readR tc en en 0 (0, 0, -1, ph, pr, pe)) → (okP (z1, z2, z3, z4, z5, z6) i) → gW G X ((wX1 G p z1 z2 z3 z4 z5 z6) ++ ((wX4 G t tc en) ++ [])) 0 0 12 [(2, .int (nI i)), (0, .ref (p 0)), (1, .ref (t 0))] [] := by
    intro fu
    induction fu with
    | zero =>
      intro i z1 z2 z3 z4 z5 z6 hn hr9 hP
      have hi9 : i = en := by omega
      have hP1 : z1 ≤ i := hP.1
      have hP2 : ¬ z3 = -1 → z1 + 1 ≤ i := hP.2.1
      have hP3 : z2 < 4 := hP.2.2
      refine x_iload_n C 0 rfl dX1_read_12 rfl ?_
      refine x_aload_n C 2 rfl dX1_read_13 rfl ?_
      refine x_callVd (As := []) (rest := [.int (nI i)]) C dX1_read_14 (c_X4_length (gX.l X) G t tc en ) ml_X1_32 im_X4_length sl_X4_length in_X4 cd_X4_length hd_X4_length 0 rfl rfl rfl rfl (Nat.le_of_ble_eq_true rfl) ⟨Nat.le_of_ble_eq_true rfl, Nat.le_of_ble_eq_true rfl⟩ (wX1 G p z1 z2 z3 z4 z5 z6) [] (by simp only [List.append_assoc, List.nil_append, List.cons_append]) (ws' := ((wX1 G p z1 z2 z3 z4 z5 z6) ++ ((wX4 G t tc en) ++ []))) (by simp only [List.append_assoc, List.nil_append, List.cons_append]) (st' := [.int (nI en), .int (nI i)]) rfl ⟨rfl, rfl⟩ ⟨Nat.le_of_ble_eq_true rfl, Nat.le_of_ble_eq_true rfl⟩ ?_
      refine x_icmp_geN (a := i) (b := en) (tgt := 40) C dX1_read_17 (by decide) (by omega) (by omega) (fun c2 => ?_) (fun c2 => False.elim (by omega))
      refine x_aload_n C 1 rfl dX1_read_40 rfl ?_
      refine x_get (k := 2) (v := .int (nI z2)) C dX1_read_41 layX1 fl_X1_46 0 rfl rfl (by decide) rfl ?_
      refine x_iconst (v := (nI 3)) C dX1_read_44 (by decide) ?_
      refine x_icmp_neN (a := z2) (b := 3) (tgt := 56) C dX1_read_45 (by decide) (by omega) (by omega) (fun c3 => ?_) (fun c3 => ?_)
      · refine x_aload_n C 2 rfl dX1_read_56 rfl ?_
        refine x_callVd (As := []) (rest := []) C dX1_read_57 (c_X4_length (gX.l X) G t tc en ) ml_X1_32 im_X4_length sl_X4_length in_X4 cd_X4_length hd_X4_length 0 rfl rfl rfl rfl (Nat.le_of_ble_eq_true rfl) ⟨Nat.le_of_ble_eq_true rfl, Nat.le_of_ble_eq_true rfl⟩ (wX1 G p z1 z2 z3 z4 z5 z6) [] (by simp only [List.append_assoc, List.nil_append, List.cons_append]) (ws' := ((wX1 G p z1 z2 z3 z4 z5 z6) ++ ((wX4 G t tc en) ++ []))) (by simp only [List.append_assoc, List.nil_append, List.cons_append]) (st' := [.int (nI en)]) rfl ⟨rfl, rfl⟩ ⟨Nat.le_of_ble_eq_true rfl, Nat.le_of_ble_eq_true rfl⟩ ?_
        exact x_iret C hr E dX1_read_60 (fun _ => 0) (by rw [p_read, ← hr9, p_readR, p_end]; first | rw [if_neg c3] | rw [if_pos c2, if_pos c3]) (by rw [p_read, ← hr9, p_readR, p_end]; first | rw [if_neg c3] | rw [if_pos c2, if_pos c3])
      · refine x_aload_n C 1 rfl dX1_read_48 rfl ?_
        refine x_get (k := 3) (v := .int z3) C dX1_read_49 layX1 fl_X1_49 0 rfl rfl (by decide) rfl ?_
        refine x_iconst (v := (-1)) C dX1_read_52 (by decide) ?_
        refine x_icmp_ne (x := z3) (y := (-1)) (tgt := 61) C dX1_read_53 (by decide) (fun c4 => ?_) (fun c4 => ?_)
        · have hz60 : z1 < 60 := by
            have hq : z1 + 1 ≤ i := hP2 (by assumption)
            omega
          refine x_aload_n C 1 rfl dX1_read_61 rfl ?_
          refine x_callVd (As := []) (rest := []) C dX1_read_62 (c_X1_addEntry (gX.l X) G p z1 z2 z3 z4 z5 z6 (by omega)) ml_X1_52 im_X1_addEntry sl_X1_addEntry in_X1 cd_X1_addEntry hd_X1_addEntry 0 rfl rfl rfl rfl (Nat.le_of_ble_eq_true rfl) ⟨Nat.le_of_ble_eq_true rfl, Nat.le_of_ble_eq_true rfl⟩ [] ((wX4 G t tc en) ++ []) (by simp only [List.append_assoc, List.nil_append, List.cons_append]) (ws' := ((wX1 G p (z1 + 1) z2 z3 z4 z5 (upd (upd (upd z6 z1 z4) (60 + z1) z5) (120 + z1) z3)) ++ ((wX4 G t tc en) ++ []))) (by simp only [List.append_assoc, List.nil_append, List.cons_append]) (st' := []) rfl ⟨rfl, rfl⟩ ⟨Nat.le_of_ble_eq_true rfl, Nat.le_of_ble_eq_true rfl⟩ ?_
          refine x_bipush (v := (-5)) C dX1_read_65 (by decide) ?_
          exact x_iret C hr E dX1_read_67 (fun _ => 0) (by rw [p_read, ← hr9, p_readR, p_end, if_pos c3, if_neg c4]) (by rw [p_read, ← hr9, p_readR, p_end, if_pos c3, if_neg c4]; rfl)
        · refine x_aload_n C 2 rfl dX1_read_56 rfl ?_
          refine x_callVd (As := []) (rest := []) C dX1_read_57 (c_X4_length (gX.l X) G t tc en ) ml_X1_32 im_X4_length sl_X4_length in_X4 cd_X4_length hd_X4_length 0 rfl rfl rfl rfl (Nat.le_of_ble_eq_true rfl) ⟨Nat.le_of_ble_eq_true rfl, Nat.le_of_ble_eq_true rfl⟩ (wX1 G p z1 z2 z3 z4 z5 z6) [] (by simp only [List.append_assoc, List.nil_append, List.cons_append]) (ws' := ((wX1 G p z1 z2 z3 z4 z5 z6) ++ ((wX4 G t tc en) ++ []))) (by simp only [List.append_assoc, List.nil_append, List.cons_append]) (st' := [.int (nI en)]) rfl ⟨rfl, rfl⟩ ⟨Nat.le_of_ble_eq_true rfl, Nat.le_of_ble_eq_true rfl⟩ ?_
          exact x_iret C hr E dX1_read_60 (fun _ => 0) (by rw [p_read, ← hr9, p_readR, p_end]; first | rw [if_neg c4] | rw [if_pos c3, if_pos c4]) (by rw [p_read, ← hr9, p_readR, p_end]; first | rw [if_neg c4] | rw [if_pos c3, if_pos c4])
    | succ fu ih =>
      intro i z1 z2 z3 z4 z5 z6 hn hr9 hP
      have hP1 : z1 ≤ i := hP.1
      have hP3 : z2 < 4 := hP.2.2
      refine x_iload_n C 0 rfl dX1_read_12 rfl ?_
      refine x_aload_n C 2 rfl dX1_read_13 rfl ?_
      refine x_callVd (As := []) (rest := [.int (nI i)]) C dX1_read_14 (c_X4_length (gX.l X) G t tc en ) ml_X1_32 im_X4_length sl_X4_length in_X4 cd_X4_length hd_X4_length 0 rfl rfl rfl rfl (Nat.le_of_ble_eq_true rfl) ⟨Nat.le_of_ble_eq_true rfl, Nat.le_of_ble_eq_true rfl⟩ (wX1 G p z1 z2 z3 z4 z5 z6) [] (by simp only [List.append_assoc, List.nil_append, List.cons_append]) (ws' := ((wX1 G p z1 z2 z3 z4 z5 z6) ++ ((wX4 G t tc en) ++ []))) (by simp only [List.append_assoc, List.nil_append, List.cons_append]) (st' := [.int (nI en), .int (nI i)]) rfl ⟨rfl, rfl⟩ ⟨Nat.le_of_ble_eq_true rfl, Nat.le_of_ble_eq_true rfl⟩ ?_
      refine x_icmp_geN (a := i) (b := en) (tgt := 40) C dX1_read_17 (by decide) (by omega) (by omega) (fun c5 => False.elim (by omega)) (fun c5 => ?_)
      refine x_aload_n C 1 rfl dX1_read_20 rfl ?_
      refine x_aload_n C 2 rfl dX1_read_21 rfl ?_
      refine x_iload_n C 0 rfl dX1_read_22 rfl ?_
      refine x_callVd (As := [.int (nI i)]) (rest := [.ref (p 0)]) C dX1_read_23 (c_X4_characterAt (gX.l X) G t tc en i (by omega) (hch i (by omega))) ml_X1_38 im_X4_characterAt sl_X4_characterAt in_X4 cd_X4_characterAt hd_X4_characterAt 0 rfl rfl rfl rfl (Nat.le_of_ble_eq_true rfl) ⟨Nat.le_of_ble_eq_true rfl, Nat.le_of_ble_eq_true rfl⟩ (wX1 G p z1 z2 z3 z4 z5 z6) [] (by simp only [List.append_assoc, List.nil_append, List.cons_append]) (ws' := ((wX1 G p z1 z2 z3 z4 z5 z6) ++ ((wX4 G t tc en) ++ []))) (by simp only [List.append_assoc, List.nil_append, List.cons_append]) (st' := [.int (tc i), .ref (p 0)]) rfl ⟨rfl, rfl⟩ ⟨Nat.le_of_ble_eq_true rfl, Nat.le_of_ble_eq_true rfl⟩ ?_
      refine x_callVd (As := [.int (tc i)]) (rest := []) C dX1_read_26 (c_X1_accepts (gX.l X) G p z1 z2 z3 z4 z5 z6 (tc i) (by omega) (by omega)) ml_X1_42 im_X1_accepts sl_X1_accepts in_X1 cd_X1_accepts hd_X1_accepts 0 rfl rfl rfl rfl (Nat.le_of_ble_eq_true rfl) ⟨Nat.le_of_ble_eq_true rfl, Nat.le_of_ble_eq_true rfl⟩ [] ((wX4 G t tc en) ++ []) (by simp only [List.append_assoc, List.nil_append, List.cons_append]) (ws' := ((wX1 G p ((p_acc (z1, z2, z3, z4, z5, z6) (tc i)).2.1) ((p_acc (z1, z2, z3, z4, z5, z6) (tc i)).2.2.1) ((p_acc (z1, z2, z3, z4, z5, z6) (tc i)).2.2.2.1) ((p_acc (z1, z2, z3, z4, z5, z6) (tc i)).2.2.2.2.1) ((p_acc (z1, z2, z3, z4, z5, z6) (tc i)).2.2.2.2.2.1) ((p_acc (z1, z2, z3, z4, z5, z6) (tc i)).2.2.2.2.2.2)) ++ ((wX4 G t tc en) ++ []))) (by simp only [List.append_assoc, List.nil_append, List.cons_append]) (st' := [.int ((p_acc (z1, z2, z3, z4, z5, z6) (tc i)).1)]) rfl ⟨rfl, rfl⟩ ⟨Nat.le_of_ble_eq_true rfl, Nat.le_of_ble_eq_true rfl⟩ ?_
      refine x_if_ne (x := ((p_acc (z1, z2, z3, z4, z5, z6) (tc i)).1)) (tgt := 34) C dX1_read_29 (by decide) (fun c6 => ?_) (fun c6 => ?_)
      · refine x_iinc (v := (nI (i + 1))) (lv' := [(2, .int (nI (i + 1))), (0, .ref (p 0)), (1, .ref (t 0))]) C 0 rfl dX1_read_34 (by rw [show Int32.ofInt 1 = nI 1 from rfl]; exact nI_add _ _) (by decide) rfl ?_
        refine x_goto (tgt := 12) C dX1_read_37 (by decide) ?_
        exact ih (i + 1) ((p_acc (z1, z2, z3, z4, z5, z6) (tc i)).2.1) ((p_acc (z1, z2, z3, z4, z5, z6) (tc i)).2.2.1) ((p_acc (z1, z2, z3, z4, z5, z6) (tc i)).2.2.2.1) ((p_acc (z1, z2, z3, z4, z5, z6) (tc i)).2.2.2.2.1) ((p_acc (z1, z2, z3, z4, z5, z6) (tc i)).2.2.2.2.2.1) ((p_acc (z1, z2, z3, z4, z5, z6) (tc i)).2.2.2.2.2.2) (by omega) (by rw [← hr9, p_readR, if_neg c6]) (by exact okP_acc hP)
      · refine x_iload_n C 0 rfl dX1_read_32 rfl ?_
        exact x_iret C hr E dX1_read_33 (fun _ => 0) (by rw [p_read, ← hr9, p_readR, if_pos c6]) (by rw [p_read, ← hr9, p_readR, if_pos c6])
  exact L1 en 0 0 0 (-1) ph pr pe (by omega) (by rfl) (by exact ⟨Nat.le_refl _, fun hn => absurd rfl hn, (by decide : 0 < 4)⟩)
theorem c_P_read (l : Launch) (G : gG) (p : Nat → Nat) (pz pp : Nat) (pn ph pr : Int32) (pe : Nat → Int32) (t : Nat → Nat) (tc : Nat → Int32) (en : Nat) (hen : en ≤ 60) (hch : ∀ j, j < 60 → okC (tc j)) : CT l yX1_read cX1_read 3 (some .int) rm_X1_read G [.ref (p 0), .ref (t 0)] (wX1 G p pz pp pn ph pr pe ++ wX4 G t tc en) (some (.int (p_read tc en ph pr pe).1)) (fun _ => (wX1 G p (p_read tc en ph pr pe).2.1 (p_read tc en ph pr pe).2.2.1 (p_read tc en ph pr pe).2.2.2.1 (p_read tc en ph pr pe).2.2.2.2.1 (p_read tc en ph pr pe).2.2.2.2.2.1 (p_read tc en ph pr pe).2.2.2.2.2.2 ++ wX4 G t tc en)) := c_X1_read l G p pz pp pn ph pr pe t tc en hen hch
