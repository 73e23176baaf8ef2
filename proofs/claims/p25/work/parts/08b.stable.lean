def rm_X2_giveLessons : Room := { frames := 4, cells := 0, slots := 0, locals := 100 }
set_option maxRecDepth 100000 in
set_option maxHeartbeats 4000000 in
theorem c_X2_giveLessons (l : Launch) (G : gG) (a : Nat → Nat) (ti : Nat) (se ho ri bo : Nat → Int32) (bc : Nat) (fs : Nat → Int32) (fc : Nat) (fa : Int32)  (hbc : bc ≤ 40) (hfc : fc + 40 < 2 ^ 30) (hrd : ∀ j, j < bc → okR (bo (80 + j))) : CT l yX2_giveLessons cX2_giveLessons 5 (some .int) rm_X2_giveLessons G [.ref (a 0), .int fa] (wS G a ti se ho ri bo bc fs fc) (some (.int ((c_gLL se fa ti (ho, ri, fs, fc, bo, 0, 0) bc).2.2.2.2.2.1))) (fun _ => (wS G a ti se ((c_gLL se fa ti (ho, ri, fs, fc, bo, 0, 0) bc).1) ((c_gLL se fa ti (ho, ri, fs, fc, bo, 0, 0) bc).2.1) ((c_gLL se fa ti (ho, ri, fs, fc, bo, 0, 0) bc).2.2.2.2.1) ((c_gLL se fa ti (ho, ri, fs, fc, bo, 0, 0) bc).2.2.2.2.2.2) ((c_gLL se fa ti (ho, ri, fs, fc, bo, 0, 0) bc).2.2.1) ((c_gLL se fa ti (ho, ri, fs, fc, bo, 0, 0) bc).2.2.2.1))) := by
  refine gMet (by decide) (Nat.le_of_ble_eq_true rfl) (fun X hX C hr hin E => ?_)
  clear hX
  refine (show gW G X (wS G a ti se ho ri bo bc fs fc) 0 0 0 [(0, .ref (a 0)), (1, .int fa)] [] from ?_)
  refine x_iconst (v := (nI 0)) C dX2_giveLessons_0 (by decide) ?_
  refine x_istore_n (lv' := [(2, .int (nI 0)), (0, .ref (a 0)), (1, .int fa)]) C dX2_giveLessons_1 rfl (by decide) rfl ?_
  refine x_iconst (v := (nI 0)) C dX2_giveLessons_2 (by decide) ?_
  refine x_istore_n (lv' := [(3, .int (nI 0)), (2, .int (nI 0)), (0, .ref (a 0)), (1, .int fa)]) C dX2_giveLessons_3 rfl (by decide) rfl ?_
  refine x_iconst (v := (nI 0)) C dX2_giveLessons_4 (by decide) ?_
  refine x_istore (lv' := [(4, .int (nI 0)), (3, .int (nI 0)), (2, .int (nI 0)), (0, .ref (a 0)), (1, .int fa)]) C dX2_giveLessons_5 (by decide) rfl ?_
  have L1 : ∀ (fu : Nat) (i : Nat) (tk : Int32) (wa : Nat) (ho1 : Nat → Int32) (ri1 : Nat → Int32) (bo1 : Nat → Int32) (fs1 : Nat → Int32) (fc1 : Nat), i + fu = bc → ((ho1, ri1, fs1, fc1, bo1, tk, wa) = c_gLL se fa ti (ho, ri, fs, fc, bo, 0, 0) i) → (fc1 ≤ fc + i) → (wa ≤ i) → (∀ j, i ≤ j → j < bc → okR (bo1 (80 + j))) → gW G X (wS G a ti se ho1 ri1 bo1 bc fs1 fc1) 0 0 7 [(4, .int (nI i)), (3, .int (nI wa)), (2, .int tk), (0, .ref (a 0)), (1, .int fa)] [] := by
    intro fu
    induction fu with
    | zero =>
      intro i tk wa ho1 ri1 bo1 fs1 fc1 hn hst hfc1 hwa hrr
      have hi : i = bc := by omega
      refine x_iload C 0 rfl dX2_giveLessons_7 ?_
      refine x_aload_n C 3 rfl dX2_giveLessons_9 rfl ?_
      refine x_get (k := 5) (v := .int (nI bc)) C dX2_giveLessons_10 layX2 fl_X2_52 0 rfl rfl (by decide) rfl ?_
      refine x_icmp_geN (a := i) (b := bc) (tgt := 74) C dX2_giveLessons_13 (by decide) (by omega) (by omega) (fun c2 => ?_) (fun c2 => False.elim (by omega))
      refine x_aload_n C 3 rfl dX2_giveLessons_74 rfl ?_
      refine x_iload_n C 1 rfl dX2_giveLessons_75 rfl ?_
      refine x_put (k := 5) (ws' := (wS G a ti se ho1 ri1 bo1 wa fs1 fc1)) C dX2_giveLessons_76 layX2 tyX2 tyX2_ok nmX2 fl_X2_52 0 rfl rfl (by decide) rfl rfl rfl rfl (Nat.le_of_ble_eq_true rfl) rfl ?_
      refine x_iload_n C 2 rfl dX2_giveLessons_79 rfl ?_
      exact x_iret C hr E dX2_giveLessons_80 (fun _ => 0) (by rw [hi] at hst; rw [← hst]) (by rw [hi] at hst; rw [← hst])
    | succ fu ih =>
      intro i tk wa ho1 ri1 bo1 fs1 fc1 hn hst hfc1 hwa hrr
      refine x_iload C 0 rfl dX2_giveLessons_7 ?_
      refine x_aload_n C 3 rfl dX2_giveLessons_9 rfl ?_
      refine x_get (k := 5) (v := .int (nI bc)) C dX2_giveLessons_10 layX2 fl_X2_52 0 rfl rfl (by decide) rfl ?_
      refine x_icmp_geN (a := i) (b := bc) (tgt := 74) C dX2_giveLessons_13 (by decide) (by omega) (by omega) (fun c3 => False.elim (by omega)) (fun c3 => ?_)
      refine x_aload_n C 3 rfl dX2_giveLessons_16 rfl ?_
      refine x_iload C 0 rfl dX2_giveLessons_17 ?_
      refine x_iconst (v := (nI 0)) C dX2_giveLessons_19 (by decide) ?_
      refine x_callVd (As := [.int (nI i), .int (nI 0)]) (rest := []) C dX2_giveLessons_20 (c_X2_isBooked (gX.l X) G a ti se ho1 ri1 bo1 bc fs1 fc1 i 0 (by omega)) ml_X2_77 im_X2_isBooked sl_X2_isBooked in_X2 cd_X2_isBooked hd_X2_isBooked 0 rfl rfl rfl rfl (Nat.le_of_ble_eq_true rfl) ⟨Nat.le_of_ble_eq_true rfl, Nat.le_of_ble_eq_true rfl⟩ (List.take 0 (wS G a ti se ho1 ri1 bo1 bc fs1 fc1)) (List.drop 11 (wS G a ti se ho1 ri1 bo1 bc fs1 fc1)) rfl (ws' := (wS G a ti se ho1 ri1 bo1 bc fs1 fc1)) rfl (st' := [.int (bI (bo1 i = nI (ti + 0)))]) rfl ⟨rfl, rfl⟩ ⟨Nat.le_of_ble_eq_true rfl, Nat.le_of_ble_eq_true rfl⟩ ?_
      refine x_if_eqB (P := bo1 i = nI (ti + 0)) (tgt := 48) C dX2_giveLessons_23 (by decide) (fun c4 => ?_) (fun c4 => ?_)
      · refine x_iload_n C 1 rfl dX2_giveLessons_48 rfl ?_
        refine x_iload C 0 rfl dX2_giveLessons_49 ?_
        refine x_icmp_geN (a := wa) (b := i) (tgt := 65) C dX2_giveLessons_51 (by decide) (by omega) (by omega) (fun c5 => ?_) (fun c5 => ?_)
        · refine x_iinc (v := (nI (wa + 1))) (lv' := [(3, .int (nI (wa + 1))), (4, .int (nI i)), (2, .int tk), (0, .ref (a 0)), (1, .int fa)]) C 1 rfl dX2_giveLessons_65 (by rw [show Int32.ofInt 1 = nI 1 from rfl]; exact nI_add _ _) (by decide) rfl ?_
          refine x_iinc (v := (nI (i + 1))) (lv' := [(4, .int (nI (i + 1))), (3, .int (nI (wa + 1))), (2, .int tk), (0, .ref (a 0)), (1, .int fa)]) C 1 rfl dX2_giveLessons_68 (by rw [show Int32.ofInt 1 = nI 1 from rfl]; exact nI_add _ _) (by decide) rfl ?_
          refine x_goto (tgt := 7) C dX2_giveLessons_71 (by decide) ?_
          exact ih (i + 1) tk (wa + 1) ho1 ri1 bo1 fs1 fc1 (by omega) (by simp only [c_gLL, ← hst, c_gLS, c_gLG, c3, c4, c5,  if_true, if_false, ite_true, ite_false, and_true, true_and, and_false, false_and, or_true, true_or, or_false, false_or, not_true_eq_false, not_false_eq_true, and_self, or_self]) (by first | omega | exact Nat.le_trans (c_give_fc _ _ _ _ _ _ _ _) (by omega)) (by omega) (by intro j h1 h2; first | exact hrr j (by omega) h2 | (rw [mvC_r (by omega) (by omega)]; exact hrr j (by omega) h2))
        · refine x_aload_n C 3 rfl dX2_giveLessons_54 rfl ?_
          refine x_get (k := 4) (v := .ref (a 7)) C dX2_giveLessons_55 layX2 fl_X2_26 0 rfl rfl (by decide) rfl ?_
          refine x_iload C 0 rfl dX2_giveLessons_58 ?_
          refine x_iload_n C 1 rfl dX2_giveLessons_60 rfl ?_
          refine x_iconst (v := (nI 3)) C dX2_giveLessons_61 (by decide) ?_
          refine x_callVd (As := [.int (nI i), .int (nI wa), .int (nI 3)]) (rest := []) C dX2_giveLessons_62 (c_X3_moveColumn (gX.l X) G (a 7) (a 8) bo1 i wa (by omega) (by omega)) ml_X2_96 im_X3_moveColumn sl_X3_moveColumn in_X3 cd_X3_moveColumn hd_X3_moveColumn 0 rfl rfl rfl rfl (Nat.le_of_ble_eq_true rfl) ⟨Nat.le_of_ble_eq_true rfl, Nat.le_of_ble_eq_true rfl⟩ (List.take 7 (wS G a ti se ho1 ri1 bo1 bc fs1 fc1)) (List.drop 9 (wS G a ti se ho1 ri1 bo1 bc fs1 fc1)) rfl (ws' := (wS G a ti se ho1 ri1 (mvC bo1 40 i wa 3) bc fs1 fc1)) rfl (st' := []) rfl ⟨rfl, rfl⟩ ⟨Nat.le_of_ble_eq_true rfl, Nat.le_of_ble_eq_true rfl⟩ ?_
          refine x_iinc (v := (nI (wa + 1))) (lv' := [(3, .int (nI (wa + 1))), (4, .int (nI i)), (2, .int tk), (0, .ref (a 0)), (1, .int fa)]) C 1 rfl dX2_giveLessons_65 (by rw [show Int32.ofInt 1 = nI 1 from rfl]; exact nI_add _ _) (by decide) rfl ?_
          refine x_iinc (v := (nI (i + 1))) (lv' := [(4, .int (nI (i + 1))), (3, .int (nI (wa + 1))), (2, .int tk), (0, .ref (a 0)), (1, .int fa)]) C 1 rfl dX2_giveLessons_68 (by rw [show Int32.ofInt 1 = nI 1 from rfl]; exact nI_add _ _) (by decide) rfl ?_
          refine x_goto (tgt := 7) C dX2_giveLessons_71 (by decide) ?_
          exact ih (i + 1) tk (wa + 1) ho1 ri1 (mvC bo1 40 i wa 3) fs1 fc1 (by omega) (by simp only [c_gLL, ← hst, c_gLS, c_gLG, c3, c4, c5,  if_true, if_false, ite_true, ite_false, and_true, true_and, and_false, false_and, or_true, true_or, or_false, false_or, not_true_eq_false, not_false_eq_true, and_self, or_self]) (by first | omega | exact Nat.le_trans (c_give_fc _ _ _ _ _ _ _ _) (by omega)) (by omega) (by intro j h1 h2; first | exact hrr j (by omega) h2 | (rw [mvC_r (by omega) (by omega)]; exact hrr j (by omega) h2))
      · have hri := hrr i (Nat.le_refl _) (by omega)
        refine x_iload_n C 2 rfl dX2_giveLessons_26 rfl ?_
        refine x_aload_n C 3 rfl dX2_giveLessons_27 rfl ?_
        refine x_aload_n C 3 rfl dX2_giveLessons_28 rfl ?_
        refine x_get (k := 4) (v := .ref (a 7)) C dX2_giveLessons_29 layX2 fl_X2_26 0 rfl rfl (by decide) rfl ?_
        refine x_iconst (v := (nI 2)) C dX2_giveLessons_32 (by decide) ?_
        refine x_iload C 0 rfl dX2_giveLessons_33 ?_
        refine x_callVd (As := [.int (nI 2), .int (nI i)]) (rest := [.ref (a 0), .int tk]) C dX2_giveLessons_35 (c_X3_at (gX.l X) G (a 7) (a 8) 40 120 bo1 2 i (80 + i) (by omega) (by omega) (by omega) (by omega) (by omega)) ml_X2_58 im_X3_at sl_X3_at in_X3 cd_X3_at hd_X3_at 0 rfl rfl rfl rfl (Nat.le_of_ble_eq_true rfl) ⟨Nat.le_of_ble_eq_true rfl, Nat.le_of_ble_eq_true rfl⟩ (List.take 7 (wS G a ti se ho1 ri1 bo1 bc fs1 fc1)) (List.drop 9 (wS G a ti se ho1 ri1 bo1 bc fs1 fc1)) rfl (ws' := (wS G a ti se ho1 ri1 bo1 bc fs1 fc1)) rfl (st' := [.int (bo1 (80 + i)), .ref (a 0), .int tk]) rfl ⟨rfl, rfl⟩ ⟨Nat.le_of_ble_eq_true rfl, Nat.le_of_ble_eq_true rfl⟩ ?_
        refine x_top (y := (nI (nC (bo1 (80 + i))))) hri.2 ?_
        refine x_iload_n C 4 rfl dX2_giveLessons_38 rfl ?_
        refine x_iload_n C 2 rfl dX2_giveLessons_39 rfl ?_
        refine x_callVd (As := [.int (nI (nC (bo1 (80 + i)))), .int fa, .int tk]) (rest := [.int tk]) C dX2_giveLessons_40 (c_X2_giveLesson (gX.l X) G a ti se ho1 ri1 bo1 bc fs1 fc1 (nC (bo1 (80 + i))) fa tk hri.1 (by omega)) ml_X2_123 im_X2_giveLesson sl_X2_giveLesson in_X2 cd_X2_giveLesson hd_X2_giveLesson 0 rfl rfl rfl rfl (Nat.le_of_ble_eq_true rfl) ⟨Nat.le_of_ble_eq_true rfl, Nat.le_of_ble_eq_true rfl⟩ (List.take 0 (wS G a ti se ho1 ri1 bo1 bc fs1 fc1)) (List.drop 11 (wS G a ti se ho1 ri1 bo1 bc fs1 fc1)) rfl (ws' := (wS G a ti se ((c_give se ho1 ri1 fs1 fc1 ti (nC (bo1 (80 + i))) (c_best se ho1 ri1 (nC (bo1 (80 + i))) fa tk)).1) ((c_give se ho1 ri1 fs1 fc1 ti (nC (bo1 (80 + i))) (c_best se ho1 ri1 (nC (bo1 (80 + i))) fa tk)).2.1) bo1 bc ((c_give se ho1 ri1 fs1 fc1 ti (nC (bo1 (80 + i))) (c_best se ho1 ri1 (nC (bo1 (80 + i))) fa tk)).2.2.1) ((c_give se ho1 ri1 fs1 fc1 ti (nC (bo1 (80 + i))) (c_best se ho1 ri1 (nC (bo1 (80 + i))) fa tk)).2.2.2))) rfl (st' := [.int (c_giveT (c_best se ho1 ri1 (nC (bo1 (80 + i))) fa tk)), .int tk]) rfl ⟨rfl, rfl⟩ ⟨Nat.le_of_ble_eq_true rfl, Nat.le_of_ble_eq_true rfl⟩ ?_
        refine x_ior (x := tk) (y := (c_giveT (c_best se ho1 ri1 (nC (bo1 (80 + i))) fa tk))) C dX2_giveLessons_43 ?_
        refine x_istore_n (lv' := [(2, .int (tk ||| (c_giveT (c_best se ho1 ri1 (nC (bo1 (80 + i))) fa tk)))), (4, .int (nI i)), (3, .int (nI wa)), (0, .ref (a 0)), (1, .int fa)]) C dX2_giveLessons_44 rfl (by decide) rfl ?_
        refine x_goto (tgt := 68) C dX2_giveLessons_45 (by decide) ?_
        refine x_iinc (v := (nI (i + 1))) (lv' := [(4, .int (nI (i + 1))), (2, .int (tk ||| (c_giveT (c_best se ho1 ri1 (nC (bo1 (80 + i))) fa tk)))), (3, .int (nI wa)), (0, .ref (a 0)), (1, .int fa)]) C 1 rfl dX2_giveLessons_68 (by rw [show Int32.ofInt 1 = nI 1 from rfl]; exact nI_add _ _) (by decide) rfl ?_
        refine x_goto (tgt := 7) C dX2_giveLessons_71 (by decide) ?_
        refine x_lv [0, 2, 1, 3, 4] (lv' := [(4, .int (nI (i + 1))), (3, .int (nI wa)), (2, .int (tk ||| (c_giveT (c_best se ho1 ri1 (nC (bo1 (80 + i))) fa tk)))), (0, .ref (a 0)), (1, .int fa)]) rfl ?_
        exact ih (i + 1) (tk ||| (c_giveT (c_best se ho1 ri1 (nC (bo1 (80 + i))) fa tk))) wa ((c_give se ho1 ri1 fs1 fc1 ti (nC (bo1 (80 + i))) (c_best se ho1 ri1 (nC (bo1 (80 + i))) fa tk)).1) ((c_give se ho1 ri1 fs1 fc1 ti (nC (bo1 (80 + i))) (c_best se ho1 ri1 (nC (bo1 (80 + i))) fa tk)).2.1) bo1 ((c_give se ho1 ri1 fs1 fc1 ti (nC (bo1 (80 + i))) (c_best se ho1 ri1 (nC (bo1 (80 + i))) fa tk)).2.2.1) ((c_give se ho1 ri1 fs1 fc1 ti (nC (bo1 (80 + i))) (c_best se ho1 ri1 (nC (bo1 (80 + i))) fa tk)).2.2.2) (by omega) (by simp only [c_gLL, ← hst, c_gLS, c_gLG, c3, c4,  if_true, if_false, ite_true, ite_false, and_true, true_and, and_false, false_and, or_true, true_or, or_false, false_or, not_true_eq_false, not_false_eq_true, and_self, or_self]) (by first | omega | exact Nat.le_trans (c_give_fc _ _ _ _ _ _ _ _) (by omega)) (by omega) (by intro j h1 h2; first | exact hrr j (by omega) h2 | (rw [mvC_r (by omega) (by omega)]; exact hrr j (by omega) h2))
  exact L1 bc 0 0 0 ho ri bo fs fc (by omega) (by rfl) (by exact Nat.le_refl _) (by exact Nat.le_refl _) (by exact fun j _ h2 => hrd j h2)
def rm_X2_passHour : Room := { frames := 5, cells := 0, slots := 0, locals := 124 }
set_option maxRecDepth 100000 in
set_option maxHeartbeats 4000000 in
theorem c_X2_passHour1 (l : Launch) (G : gG) (a : Nat → Nat) (ti : Nat) (se ho ri bo : Nat → Int32) (bc : Nat) (fs : Nat → Int32) (fc : Nat)  (ht : ti < 2 ^ 30) (hbc : bc ≤ 40) (hfc : fc + 40 < 2 ^ 30) (hrd : ∀ j, j < bc → okR (bo (80 + j))) : CT l yX2_passHour cX2_passHour 5 none rm_X2_passHour G [.ref (a 0), .int (nI 1)] (wS G a ti se ho ri bo bc fs fc) none (fun _ => (wS G a (ti + 1) se (c_hrHo se ho ri bo bc fs fc ti) ((c_hrL se ho ri bo bc fs fc ti).2.1) ((c_hrL se ho ri bo bc fs fc ti).2.2.2.2.1) ((c_hrL se ho ri bo bc fs fc ti).2.2.2.2.2.2) ((c_hrL se ho ri bo bc fs fc ti).2.2.1) ((c_hrL se ho ri bo bc fs fc ti).2.2.2.1))) := by
  refine gMet (by decide) (Nat.le_of_ble_eq_true rfl) (fun X hX C hr hin E => ?_)
  clear hX
  refine (show gW G X (wS G a ti se ho ri bo bc fs fc) 0 0 0 [(0, .ref (a 0)), (1, .int (nI 1))] [] from ?_)
  refine x_aload_n C 0 rfl dX2_passHour_0 rfl ?_
  refine x_callVd (As := []) (rest := []) C dX2_passHour_1 (c_X2_farriersHorse (gX.l X) G a ti se ho ri bo bc fs fc (by omega)) ml_X2_110 im_X2_farriersHorse sl_X2_farriersHorse in_X2 cd_X2_farriersHorse hd_X2_farriersHorse 0 rfl rfl rfl rfl (Nat.le_of_ble_eq_true rfl) ⟨Nat.le_of_ble_eq_true rfl, Nat.le_of_ble_eq_true rfl⟩ (List.take 0 (wS G a ti se ho ri bo bc fs fc)) (List.drop 11 (wS G a ti se ho ri bo bc fs fc)) rfl (ws' := (wS G a ti se ho ri bo bc fs fc)) rfl (st' := [.int (c_far se ho ti)]) rfl ⟨rfl, rfl⟩ ⟨Nat.le_of_ble_eq_true rfl, Nat.le_of_ble_eq_true rfl⟩ ?_
  refine x_gen (fun f f_e => ?_)
  have hf : okH f := f_e ▸ c_far_ok _ _ _
  refine x_istore_n (lv' := [(2, .int f), (0, .ref (a 0)), (1, .int (nI 1))]) C dX2_passHour_4 rfl (by decide) rfl ?_
  refine x_iload_n C 2 rfl dX2_passHour_5 rfl ?_
  refine x_if_eqN (a := 1) (tgt := 17) C dX2_passHour_6 (by decide) (by omega) (fun c1 => False.elim (by omega)) (fun c1 => ?_)
  refine x_aload_n C 1 rfl dX2_passHour_9 rfl ?_
  refine x_iload_n C 0 rfl dX2_passHour_10 rfl ?_
  refine x_callVd (As := [.int f]) (rest := []) C dX2_passHour_11 (c_X2_giveLessons (gX.l X) G a ti se ho ri bo bc fs fc f (by omega) (by omega) hrd) ml_X2_114 im_X2_giveLessons sl_X2_giveLessons in_X2 cd_X2_giveLessons hd_X2_giveLessons 0 rfl rfl rfl rfl (Nat.le_of_ble_eq_true rfl) ⟨Nat.le_of_ble_eq_true rfl, Nat.le_of_ble_eq_true rfl⟩ (List.take 0 (wS G a ti se ho ri bo bc fs fc)) (List.drop 11 (wS G a ti se ho ri bo bc fs fc)) rfl (ws' := (wS G a ti se ((c_gLL se f ti (ho, ri, fs, fc, bo, 0, 0) bc).1) ((c_gLL se f ti (ho, ri, fs, fc, bo, 0, 0) bc).2.1) ((c_gLL se f ti (ho, ri, fs, fc, bo, 0, 0) bc).2.2.2.2.1) ((c_gLL se f ti (ho, ri, fs, fc, bo, 0, 0) bc).2.2.2.2.2.2) ((c_gLL se f ti (ho, ri, fs, fc, bo, 0, 0) bc).2.2.1) ((c_gLL se f ti (ho, ri, fs, fc, bo, 0, 0) bc).2.2.2.1))) rfl (st' := [.int ((c_gLL se f ti (ho, ri, fs, fc, bo, 0, 0) bc).2.2.2.2.2.1)]) rfl ⟨rfl, rfl⟩ ⟨Nat.le_of_ble_eq_true rfl, Nat.le_of_ble_eq_true rfl⟩ ?_
  refine x_goto (tgt := 18) C dX2_passHour_14 (by decide) ?_
  refine x_istore_n (lv' := [(3, .int ((c_gLL se f ti (ho, ri, fs, fc, bo, 0, 0) bc).2.2.2.2.2.1)), (2, .int f), (0, .ref (a 0)), (1, .int (nI 1))]) C dX2_passHour_18 rfl (by decide) rfl ?_
  refine x_iconst (v := (nI 0)) C dX2_passHour_19 (by decide) ?_
  refine x_istore (lv' := [(4, .int (nI 0)), (3, .int ((c_gLL se f ti (ho, ri, fs, fc, bo, 0, 0) bc).2.2.2.2.2.1)), (2, .int f), (0, .ref (a 0)), (1, .int (nI 1))]) C dX2_passHour_20 (by decide) rfl ?_
  have L2 : ∀ (fu : Nat) (h : Nat) (g : Nat → Int32), h + fu = 10 → (g = c_restL (c_gLL se f ti (ho, ri, fs, fc, bo, 0, 0) bc).2.2.2.2.2.1 ti (c_gLL se f ti (ho, ri, fs, fc, bo, 0, 0) bc).1 h) → gW G X (wS G a ti se g ((c_gLL se f ti (ho, ri, fs, fc, bo, 0, 0) bc).2.1) ((c_gLL se f ti (ho, ri, fs, fc, bo, 0, 0) bc).2.2.2.2.1) ((c_gLL se f ti (ho, ri, fs, fc, bo, 0, 0) bc).2.2.2.2.2.2) ((c_gLL se f ti (ho, ri, fs, fc, bo, 0, 0) bc).2.2.1) ((c_gLL se f ti (ho, ri, fs, fc, bo, 0, 0) bc).2.2.2.1)) 0 0 22 [(4, .int (nI h)), (3, .int ((c_gLL se f ti (ho, ri, fs, fc, bo, 0, 0) bc).2.2.2.2.2.1)), (2, .int f), (0, .ref (a 0)), (1, .int (nI 1))] [] := by
    intro fu
    induction fu with
    | zero =>
      intro h g hn hg
      have hi : h = 10 := by omega
      refine x_iload C 0 rfl dX2_passHour_22 ?_
      refine x_bipush (v := (nI 10)) C dX2_passHour_24 (by decide) ?_
      refine x_icmp_geN (a := h) (b := 10) (tgt := 116) C dX2_passHour_26 (by decide) (by omega) (by omega) (fun c3 => ?_) (fun c3 => False.elim (by omega))
      refine x_iload_n C 2 rfl dX2_passHour_116 rfl ?_
      refine x_bipush (v := (-5)) C dX2_passHour_117 (by decide) ?_
      refine x_icmp_eq (x := f) (y := (-5)) (tgt := 143) C dX2_passHour_119 (by decide) (fun c4 => ?_) (fun c4 => ?_)
      · refine x_aload_n C 3 rfl dX2_passHour_143 rfl ?_
        refine x_dup C rfl dX2_passHour_144 ?_
        refine x_get (k := 0) (v := .int (nI ti)) C dX2_passHour_145 layX2 fl_X2_44 0 rfl rfl (by decide) rfl ?_
        refine x_iconst (v := (nI 1)) C dX2_passHour_148 (by decide) ?_
        refine x_iaddN C dX2_passHour_149 ?_
        refine x_put (k := 0) (ws' := (wS G a (ti + 1) se g ((c_gLL se f ti (ho, ri, fs, fc, bo, 0, 0) bc).2.1) ((c_gLL se f ti (ho, ri, fs, fc, bo, 0, 0) bc).2.2.2.2.1) ((c_gLL se f ti (ho, ri, fs, fc, bo, 0, 0) bc).2.2.2.2.2.2) ((c_gLL se f ti (ho, ri, fs, fc, bo, 0, 0) bc).2.2.1) ((c_gLL se f ti (ho, ri, fs, fc, bo, 0, 0) bc).2.2.2.1))) C dX2_passHour_150 layX2 tyX2 tyX2_ok nmX2 fl_X2_44 0 rfl rfl (by decide) rfl rfl rfl rfl (Nat.le_of_ble_eq_true rfl) rfl ?_
        exact x_vret C hr E dX2_passHour_153 (fun _ => 0) (by rw [hi] at hg; rw [c_hrHo, c_hrL, ← f_e, ← hg, c_shoe]; first | rw [if_pos (by assumption)] | rw [if_neg (by assumption)])
      · have hfn : nC f < 10 ∧ f = nI (nC f) := by
          rcases hf with h9 | h9
          · exact absurd h9 (by assumption)
          · exact h9
        refine x_aload_n C 3 rfl dX2_passHour_122 rfl ?_
        refine x_get (k := 2) (v := .ref (a 3)) C dX2_passHour_123 layX2 fl_X2_20 0 rfl rfl (by decide) rfl ?_
        refine x_iconst (v := (nI 3)) C dX2_passHour_126 (by decide) ?_
        refine x_iload_n C 2 rfl dX2_passHour_127 rfl ?_
        refine x_top (y := (nI (nC f))) hfn.2 ?_
        refine x_iconst (v := (nI 0)) C dX2_passHour_128 (by decide) ?_
        refine x_callVd (As := [.int (nI 3), .int (nI (nC f)), .int (nI 0)]) (rest := []) C dX2_passHour_129 (c_X3_put (gX.l X) G (a 3) (a 4) 10 90 g 3 (nC f) (30 + (nC f)) 0 (by omega) (by omega) (by omega) (by omega) (by omega)) ml_X2_40 im_X3_put sl_X3_put in_X3 cd_X3_put hd_X3_put 0 rfl rfl rfl rfl (Nat.le_of_ble_eq_true rfl) ⟨Nat.le_of_ble_eq_true rfl, Nat.le_of_ble_eq_true rfl⟩ (List.take 3 (wS G a ti se g ((c_gLL se f ti (ho, ri, fs, fc, bo, 0, 0) bc).2.1) ((c_gLL se f ti (ho, ri, fs, fc, bo, 0, 0) bc).2.2.2.2.1) ((c_gLL se f ti (ho, ri, fs, fc, bo, 0, 0) bc).2.2.2.2.2.2) ((c_gLL se f ti (ho, ri, fs, fc, bo, 0, 0) bc).2.2.1) ((c_gLL se f ti (ho, ri, fs, fc, bo, 0, 0) bc).2.2.2.1))) (List.drop 5 (wS G a ti se g ((c_gLL se f ti (ho, ri, fs, fc, bo, 0, 0) bc).2.1) ((c_gLL se f ti (ho, ri, fs, fc, bo, 0, 0) bc).2.2.2.2.1) ((c_gLL se f ti (ho, ri, fs, fc, bo, 0, 0) bc).2.2.2.2.2.2) ((c_gLL se f ti (ho, ri, fs, fc, bo, 0, 0) bc).2.2.1) ((c_gLL se f ti (ho, ri, fs, fc, bo, 0, 0) bc).2.2.2.1))) rfl (ws' := (wS G a ti se (upd g (30 + (nC f)) 0) ((c_gLL se f ti (ho, ri, fs, fc, bo, 0, 0) bc).2.1) ((c_gLL se f ti (ho, ri, fs, fc, bo, 0, 0) bc).2.2.2.2.1) ((c_gLL se f ti (ho, ri, fs, fc, bo, 0, 0) bc).2.2.2.2.2.2) ((c_gLL se f ti (ho, ri, fs, fc, bo, 0, 0) bc).2.2.1) ((c_gLL se f ti (ho, ri, fs, fc, bo, 0, 0) bc).2.2.2.1))) rfl (st' := []) rfl ⟨rfl, rfl⟩ ⟨Nat.le_of_ble_eq_true rfl, Nat.le_of_ble_eq_true rfl⟩ ?_
        refine x_aload_n C 3 rfl dX2_passHour_132 rfl ?_
        refine x_get (k := 2) (v := .ref (a 3)) C dX2_passHour_133 layX2 fl_X2_20 0 rfl rfl (by decide) rfl ?_
        refine x_bipush (v := (nI 8)) C dX2_passHour_136 (by decide) ?_
        refine x_iload_n C 2 rfl dX2_passHour_138 rfl ?_
        refine x_top (y := (nI (nC f))) hfn.2 ?_
        refine x_iconst (v := (nI 1)) C dX2_passHour_139 (by decide) ?_
        refine x_callVd (As := [.int (nI 8), .int (nI (nC f)), .int (nI 1)]) (rest := []) C dX2_passHour_140 (c_X3_add (gX.l X) G (a 3) (a 4) 10 90 (upd g (30 + (nC f)) 0) 8 (nC f) (80 + (nC f)) 1 (by omega) (by omega) (by omega) (by omega) (by omega)) ml_X2_117 im_X3_add sl_X3_add in_X3 cd_X3_add hd_X3_add 0 rfl rfl rfl rfl (Nat.le_of_ble_eq_true rfl) ⟨Nat.le_of_ble_eq_true rfl, Nat.le_of_ble_eq_true rfl⟩ (List.take 3 (wS G a ti se (upd g (30 + (nC f)) 0) ((c_gLL se f ti (ho, ri, fs, fc, bo, 0, 0) bc).2.1) ((c_gLL se f ti (ho, ri, fs, fc, bo, 0, 0) bc).2.2.2.2.1) ((c_gLL se f ti (ho, ri, fs, fc, bo, 0, 0) bc).2.2.2.2.2.2) ((c_gLL se f ti (ho, ri, fs, fc, bo, 0, 0) bc).2.2.1) ((c_gLL se f ti (ho, ri, fs, fc, bo, 0, 0) bc).2.2.2.1))) (List.drop 5 (wS G a ti se (upd g (30 + (nC f)) 0) ((c_gLL se f ti (ho, ri, fs, fc, bo, 0, 0) bc).2.1) ((c_gLL se f ti (ho, ri, fs, fc, bo, 0, 0) bc).2.2.2.2.1) ((c_gLL se f ti (ho, ri, fs, fc, bo, 0, 0) bc).2.2.2.2.2.2) ((c_gLL se f ti (ho, ri, fs, fc, bo, 0, 0) bc).2.2.1) ((c_gLL se f ti (ho, ri, fs, fc, bo, 0, 0) bc).2.2.2.1))) rfl (ws' := (wS G a ti se (upd (upd g (30 + (nC f)) 0) (80 + (nC f)) ((upd g (30 + (nC f)) 0) (80 + (nC f)) + 1)) ((c_gLL se f ti (ho, ri, fs, fc, bo, 0, 0) bc).2.1) ((c_gLL se f ti (ho, ri, fs, fc, bo, 0, 0) bc).2.2.2.2.1) ((c_gLL se f ti (ho, ri, fs, fc, bo, 0, 0) bc).2.2.2.2.2.2) ((c_gLL se f ti (ho, ri, fs, fc, bo, 0, 0) bc).2.2.1) ((c_gLL se f ti (ho, ri, fs, fc, bo, 0, 0) bc).2.2.2.1))) rfl (st' := []) rfl ⟨rfl, rfl⟩ ⟨Nat.le_of_ble_eq_true rfl, Nat.le_of_ble_eq_true rfl⟩ ?_
        refine x_aload_n C 3 rfl dX2_passHour_143 rfl ?_
        refine x_dup C rfl dX2_passHour_144 ?_
        refine x_get (k := 0) (v := .int (nI ti)) C dX2_passHour_145 layX2 fl_X2_44 0 rfl rfl (by decide) rfl ?_
        refine x_iconst (v := (nI 1)) C dX2_passHour_148 (by decide) ?_
        refine x_iaddN C dX2_passHour_149 ?_
        refine x_put (k := 0) (ws' := (wS G a (ti + 1) se (upd (upd g (30 + (nC f)) 0) (80 + (nC f)) ((upd g (30 + (nC f)) 0) (80 + (nC f)) + 1)) ((c_gLL se f ti (ho, ri, fs, fc, bo, 0, 0) bc).2.1) ((c_gLL se f ti (ho, ri, fs, fc, bo, 0, 0) bc).2.2.2.2.1) ((c_gLL se f ti (ho, ri, fs, fc, bo, 0, 0) bc).2.2.2.2.2.2) ((c_gLL se f ti (ho, ri, fs, fc, bo, 0, 0) bc).2.2.1) ((c_gLL se f ti (ho, ri, fs, fc, bo, 0, 0) bc).2.2.2.1))) C dX2_passHour_150 layX2 tyX2 tyX2_ok nmX2 fl_X2_44 0 rfl rfl (by decide) rfl rfl rfl rfl (Nat.le_of_ble_eq_true rfl) rfl ?_
        exact x_vret C hr E dX2_passHour_153 (fun _ => 0) (by rw [hi] at hg; rw [c_hrHo, c_hrL, ← f_e, ← hg, c_shoe]; first | rw [if_pos (by assumption)] | rw [if_neg (by assumption)])
    | succ fu ih =>
      intro h g hn hg
      refine x_iload C 0 rfl dX2_passHour_22 ?_
      refine x_bipush (v := (nI 10)) C dX2_passHour_24 (by decide) ?_
      refine x_icmp_geN (a := h) (b := 10) (tgt := 116) C dX2_passHour_26 (by decide) (by omega) (by omega) (fun c5 => False.elim (by omega)) (fun c5 => ?_)
      refine x_iload_n C 1 rfl dX2_passHour_29 rfl ?_
      refine x_iload C 0 rfl dX2_passHour_30 ?_
      refine x_ishr (x := ((c_gLL se f ti (ho, ri, fs, fc, bo, 0, 0) bc).2.2.2.2.2.1)) (y := (nI h)) C dX2_passHour_32 ?_
      refine x_iconst (v := (nI 1)) C dX2_passHour_33 (by decide) ?_
      refine x_iand (x := (((c_gLL se f ti (ho, ri, fs, fc, bo, 0, 0) bc).2.2.2.2.2.1) >>> ((nI h) &&& 31))) (y := 1) C dX2_passHour_34 ?_
      refine x_iconst (v := (nI 1)) C dX2_passHour_35 (by decide) ?_
      refine x_icmp_ne (x := ((((c_gLL se f ti (ho, ri, fs, fc, bo, 0, 0) bc).2.2.2.2.2.1) >>> ((nI h) &&& 31)) &&& 1)) (y := 1) (tgt := 64) C dX2_passHour_36 (by decide) (fun c6 => ?_) (fun c6 => ?_)
      · refine x_aload_n C 3 rfl dX2_passHour_64 rfl ?_
        refine x_get (k := 2) (v := .ref (a 3)) C dX2_passHour_65 layX2 fl_X2_20 0 rfl rfl (by decide) rfl ?_
        refine x_iconst (v := (nI 2)) C dX2_passHour_68 (by decide) ?_
        refine x_iload C 0 rfl dX2_passHour_69 ?_
        refine x_iconst (v := (nI 1)) C dX2_passHour_71 (by decide) ?_
        refine x_callVd (As := [.int (nI 2), .int (nI h), .int (nI 1)]) (rest := []) C dX2_passHour_72 (c_X3_takeAway (gX.l X) G (a 3) (a 4) 10 90 g 2 h (20 + h) 1 (by omega) (by omega) (by omega) (by omega) (by omega)) ml_X2_120 im_X3_takeAway sl_X3_takeAway in_X3 cd_X3_takeAway hd_X3_takeAway 0 rfl rfl rfl rfl (Nat.le_of_ble_eq_true rfl) ⟨Nat.le_of_ble_eq_true rfl, Nat.le_of_ble_eq_true rfl⟩ (List.take 3 (wS G a ti se g ((c_gLL se f ti (ho, ri, fs, fc, bo, 0, 0) bc).2.1) ((c_gLL se f ti (ho, ri, fs, fc, bo, 0, 0) bc).2.2.2.2.1) ((c_gLL se f ti (ho, ri, fs, fc, bo, 0, 0) bc).2.2.2.2.2.2) ((c_gLL se f ti (ho, ri, fs, fc, bo, 0, 0) bc).2.2.1) ((c_gLL se f ti (ho, ri, fs, fc, bo, 0, 0) bc).2.2.2.1))) (List.drop 5 (wS G a ti se g ((c_gLL se f ti (ho, ri, fs, fc, bo, 0, 0) bc).2.1) ((c_gLL se f ti (ho, ri, fs, fc, bo, 0, 0) bc).2.2.2.2.1) ((c_gLL se f ti (ho, ri, fs, fc, bo, 0, 0) bc).2.2.2.2.2.2) ((c_gLL se f ti (ho, ri, fs, fc, bo, 0, 0) bc).2.2.1) ((c_gLL se f ti (ho, ri, fs, fc, bo, 0, 0) bc).2.2.2.1))) rfl (ws' := (wS G a ti se (upd g (20 + h) (mxI 0 (g (20 + h) - 1))) ((c_gLL se f ti (ho, ri, fs, fc, bo, 0, 0) bc).2.1) ((c_gLL se f ti (ho, ri, fs, fc, bo, 0, 0) bc).2.2.2.2.1) ((c_gLL se f ti (ho, ri, fs, fc, bo, 0, 0) bc).2.2.2.2.2.2) ((c_gLL se f ti (ho, ri, fs, fc, bo, 0, 0) bc).2.2.1) ((c_gLL se f ti (ho, ri, fs, fc, bo, 0, 0) bc).2.2.2.1))) rfl (st' := []) rfl ⟨rfl, rfl⟩ ⟨Nat.le_of_ble_eq_true rfl, Nat.le_of_ble_eq_true rfl⟩ ?_
        refine x_aload_n C 3 rfl dX2_passHour_75 rfl ?_
        refine x_get (k := 2) (v := .ref (a 3)) C dX2_passHour_76 layX2 fl_X2_20 0 rfl rfl (by decide) rfl ?_
        refine x_iconst (v := (nI 5)) C dX2_passHour_79 (by decide) ?_
        refine x_iload C 0 rfl dX2_passHour_80 ?_
        refine x_iconst (v := (nI 1)) C dX2_passHour_82 (by decide) ?_
        refine x_callVd (As := [.int (nI 5), .int (nI h), .int (nI 1)]) (rest := []) C dX2_passHour_83 (c_X3_takeAway (gX.l X) G (a 3) (a 4) 10 90 (upd g (20 + h) (mxI 0 (g (20 + h) - 1))) 5 h (50 + h) 1 (by omega) (by omega) (by omega) (by omega) (by omega)) ml_X2_120 im_X3_takeAway sl_X3_takeAway in_X3 cd_X3_takeAway hd_X3_takeAway 0 rfl rfl rfl rfl (Nat.le_of_ble_eq_true rfl) ⟨Nat.le_of_ble_eq_true rfl, Nat.le_of_ble_eq_true rfl⟩ (List.take 3 (wS G a ti se (upd g (20 + h) (mxI 0 (g (20 + h) - 1))) ((c_gLL se f ti (ho, ri, fs, fc, bo, 0, 0) bc).2.1) ((c_gLL se f ti (ho, ri, fs, fc, bo, 0, 0) bc).2.2.2.2.1) ((c_gLL se f ti (ho, ri, fs, fc, bo, 0, 0) bc).2.2.2.2.2.2) ((c_gLL se f ti (ho, ri, fs, fc, bo, 0, 0) bc).2.2.1) ((c_gLL se f ti (ho, ri, fs, fc, bo, 0, 0) bc).2.2.2.1))) (List.drop 5 (wS G a ti se (upd g (20 + h) (mxI 0 (g (20 + h) - 1))) ((c_gLL se f ti (ho, ri, fs, fc, bo, 0, 0) bc).2.1) ((c_gLL se f ti (ho, ri, fs, fc, bo, 0, 0) bc).2.2.2.2.1) ((c_gLL se f ti (ho, ri, fs, fc, bo, 0, 0) bc).2.2.2.2.2.2) ((c_gLL se f ti (ho, ri, fs, fc, bo, 0, 0) bc).2.2.1) ((c_gLL se f ti (ho, ri, fs, fc, bo, 0, 0) bc).2.2.2.1))) rfl (ws' := (wS G a ti se (upd (upd g (20 + h) (mxI 0 (g (20 + h) - 1))) (50 + h) (mxI 0 ((upd g (20 + h) (mxI 0 (g (20 + h) - 1))) (50 + h) - 1))) ((c_gLL se f ti (ho, ri, fs, fc, bo, 0, 0) bc).2.1) ((c_gLL se f ti (ho, ri, fs, fc, bo, 0, 0) bc).2.2.2.2.1) ((c_gLL se f ti (ho, ri, fs, fc, bo, 0, 0) bc).2.2.2.2.2.2) ((c_gLL se f ti (ho, ri, fs, fc, bo, 0, 0) bc).2.2.1) ((c_gLL se f ti (ho, ri, fs, fc, bo, 0, 0) bc).2.2.2.1))) rfl (st' := []) rfl ⟨rfl, rfl⟩ ⟨Nat.le_of_ble_eq_true rfl, Nat.le_of_ble_eq_true rfl⟩ ?_
        refine x_aload_n C 3 rfl dX2_passHour_86 rfl ?_
        refine x_get (k := 0) (v := .int (nI ti)) C dX2_passHour_87 layX2 fl_X2_44 0 rfl rfl (by decide) rfl ?_
        refine x_bipush (v := (nI 10)) C dX2_passHour_90 (by decide) ?_
        refine x_iremN C dX2_passHour_92 (by omega) (by omega) (by omega) ?_
        refine x_bipush (v := (nI 9)) C dX2_passHour_93 (by decide) ?_
        refine x_icmp_neN (a := (ti % 10)) (b := 9) (tgt := 110) C dX2_passHour_95 (by decide) (by omega) (by omega) (fun c7 => ?_) (fun c7 => ?_)
        · refine x_iinc (v := (nI (h + 1))) (lv' := [(4, .int (nI (h + 1))), (3, .int ((c_gLL se f ti (ho, ri, fs, fc, bo, 0, 0) bc).2.2.2.2.2.1)), (2, .int f), (0, .ref (a 0)), (1, .int (nI 1))]) C 0 rfl dX2_passHour_110 (by rw [show Int32.ofInt 1 = nI 1 from rfl]; exact nI_add _ _) (by decide) rfl ?_
          refine x_goto (tgt := 22) C dX2_passHour_113 (by decide) ?_
          exact ih (h + 1) (upd (upd g (20 + h) (mxI 0 (g (20 + h) - 1))) (50 + h) (mxI 0 ((upd g (20 + h) (mxI 0 (g (20 + h) - 1))) (50 + h) - 1))) (by omega) (by simp only [c_restL, ← hg, c_r1, c_r2, c_in, c5, c6, c7,  if_true, if_false, ite_true, ite_false, and_true, true_and, and_false, false_and, or_true, true_or, or_false, false_or, not_true_eq_false, not_false_eq_true, and_self, or_self] <;> rfl)
        · refine x_aload_n C 3 rfl dX2_passHour_98 rfl ?_
          refine x_get (k := 2) (v := .ref (a 3)) C dX2_passHour_99 layX2 fl_X2_20 0 rfl rfl (by decide) rfl ?_
          refine x_iconst (v := (nI 2)) C dX2_passHour_102 (by decide) ?_
          refine x_iload C 0 rfl dX2_passHour_103 ?_
          refine x_bipush (v := (nI 8)) C dX2_passHour_105 (by decide) ?_
          refine x_callVd (As := [.int (nI 2), .int (nI h), .int (nI 8)]) (rest := []) C dX2_passHour_107 (c_X3_takeAway (gX.l X) G (a 3) (a 4) 10 90 (upd (upd g (20 + h) (mxI 0 (g (20 + h) - 1))) (50 + h) (mxI 0 ((upd g (20 + h) (mxI 0 (g (20 + h) - 1))) (50 + h) - 1))) 2 h (20 + h) 8 (by omega) (by omega) (by omega) (by omega) (by omega)) ml_X2_120 im_X3_takeAway sl_X3_takeAway in_X3 cd_X3_takeAway hd_X3_takeAway 0 rfl rfl rfl rfl (Nat.le_of_ble_eq_true rfl) ⟨Nat.le_of_ble_eq_true rfl, Nat.le_of_ble_eq_true rfl⟩ (List.take 3 (wS G a ti se (upd (upd g (20 + h) (mxI 0 (g (20 + h) - 1))) (50 + h) (mxI 0 ((upd g (20 + h) (mxI 0 (g (20 + h) - 1))) (50 + h) - 1))) ((c_gLL se f ti (ho, ri, fs, fc, bo, 0, 0) bc).2.1) ((c_gLL se f ti (ho, ri, fs, fc, bo, 0, 0) bc).2.2.2.2.1) ((c_gLL se f ti (ho, ri, fs, fc, bo, 0, 0) bc).2.2.2.2.2.2) ((c_gLL se f ti (ho, ri, fs, fc, bo, 0, 0) bc).2.2.1) ((c_gLL se f ti (ho, ri, fs, fc, bo, 0, 0) bc).2.2.2.1))) (List.drop 5 (wS G a ti se (upd (upd g (20 + h) (mxI 0 (g (20 + h) - 1))) (50 + h) (mxI 0 ((upd g (20 + h) (mxI 0 (g (20 + h) - 1))) (50 + h) - 1))) ((c_gLL se f ti (ho, ri, fs, fc, bo, 0, 0) bc).2.1) ((c_gLL se f ti (ho, ri, fs, fc, bo, 0, 0) bc).2.2.2.2.1) ((c_gLL se f ti (ho, ri, fs, fc, bo, 0, 0) bc).2.2.2.2.2.2) ((c_gLL se f ti (ho, ri, fs, fc, bo, 0, 0) bc).2.2.1) ((c_gLL se f ti (ho, ri, fs, fc, bo, 0, 0) bc).2.2.2.1))) rfl (ws' := (wS G a ti se (upd (upd (upd g (20 + h) (mxI 0 (g (20 + h) - 1))) (50 + h) (mxI 0 ((upd g (20 + h) (mxI 0 (g (20 + h) - 1))) (50 + h) - 1))) (20 + h) (mxI 0 ((upd (upd g (20 + h) (mxI 0 (g (20 + h) - 1))) (50 + h) (mxI 0 ((upd g (20 + h) (mxI 0 (g (20 + h) - 1))) (50 + h) - 1))) (20 + h) - 8))) ((c_gLL se f ti (ho, ri, fs, fc, bo, 0, 0) bc).2.1) ((c_gLL se f ti (ho, ri, fs, fc, bo, 0, 0) bc).2.2.2.2.1) ((c_gLL se f ti (ho, ri, fs, fc, bo, 0, 0) bc).2.2.2.2.2.2) ((c_gLL se f ti (ho, ri, fs, fc, bo, 0, 0) bc).2.2.1) ((c_gLL se f ti (ho, ri, fs, fc, bo, 0, 0) bc).2.2.2.1))) rfl (st' := []) rfl ⟨rfl, rfl⟩ ⟨Nat.le_of_ble_eq_true rfl, Nat.le_of_ble_eq_true rfl⟩ ?_
          refine x_iinc (v := (nI (h + 1))) (lv' := [(4, .int (nI (h + 1))), (3, .int ((c_gLL se f ti (ho, ri, fs, fc, bo, 0, 0) bc).2.2.2.2.2.1)), (2, .int f), (0, .ref (a 0)), (1, .int (nI 1))]) C 0 rfl dX2_passHour_110 (by rw [show Int32.ofInt 1 = nI 1 from rfl]; exact nI_add _ _) (by decide) rfl ?_
          refine x_goto (tgt := 22) C dX2_passHour_113 (by decide) ?_
          exact ih (h + 1) (upd (upd (upd g (20 + h) (mxI 0 (g (20 + h) - 1))) (50 + h) (mxI 0 ((upd g (20 + h) (mxI 0 (g (20 + h) - 1))) (50 + h) - 1))) (20 + h) (mxI 0 ((upd (upd g (20 + h) (mxI 0 (g (20 + h) - 1))) (50 + h) (mxI 0 ((upd g (20 + h) (mxI 0 (g (20 + h) - 1))) (50 + h) - 1))) (20 + h) - 8))) (by omega) (by simp only [c_restL, ← hg, c_r1, c_r2, c_in, c5, c6, c7,  if_true, if_false, ite_true, ite_false, and_true, true_and, and_false, false_and, or_true, true_or, or_false, false_or, not_true_eq_false, not_false_eq_true, and_self, or_self] <;> rfl)
      · refine x_aload_n C 3 rfl dX2_passHour_39 rfl ?_
        refine x_get (k := 2) (v := .ref (a 3)) C dX2_passHour_40 layX2 fl_X2_20 0 rfl rfl (by decide) rfl ?_
        refine x_iconst (v := (nI 2)) C dX2_passHour_43 (by decide) ?_
        refine x_iload C 0 rfl dX2_passHour_44 ?_
        refine x_iconst (v := (nI 1)) C dX2_passHour_46 (by decide) ?_
        refine x_callVd (As := [.int (nI 2), .int (nI h), .int (nI 1)]) (rest := []) C dX2_passHour_47 (c_X3_add (gX.l X) G (a 3) (a 4) 10 90 g 2 h (20 + h) 1 (by omega) (by omega) (by omega) (by omega) (by omega)) ml_X2_117 im_X3_add sl_X3_add in_X3 cd_X3_add hd_X3_add 0 rfl rfl rfl rfl (Nat.le_of_ble_eq_true rfl) ⟨Nat.le_of_ble_eq_true rfl, Nat.le_of_ble_eq_true rfl⟩ (List.take 3 (wS G a ti se g ((c_gLL se f ti (ho, ri, fs, fc, bo, 0, 0) bc).2.1) ((c_gLL se f ti (ho, ri, fs, fc, bo, 0, 0) bc).2.2.2.2.1) ((c_gLL se f ti (ho, ri, fs, fc, bo, 0, 0) bc).2.2.2.2.2.2) ((c_gLL se f ti (ho, ri, fs, fc, bo, 0, 0) bc).2.2.1) ((c_gLL se f ti (ho, ri, fs, fc, bo, 0, 0) bc).2.2.2.1))) (List.drop 5 (wS G a ti se g ((c_gLL se f ti (ho, ri, fs, fc, bo, 0, 0) bc).2.1) ((c_gLL se f ti (ho, ri, fs, fc, bo, 0, 0) bc).2.2.2.2.1) ((c_gLL se f ti (ho, ri, fs, fc, bo, 0, 0) bc).2.2.2.2.2.2) ((c_gLL se f ti (ho, ri, fs, fc, bo, 0, 0) bc).2.2.1) ((c_gLL se f ti (ho, ri, fs, fc, bo, 0, 0) bc).2.2.2.1))) rfl (ws' := (wS G a ti se (upd g (20 + h) (g (20 + h) + 1)) ((c_gLL se f ti (ho, ri, fs, fc, bo, 0, 0) bc).2.1) ((c_gLL se f ti (ho, ri, fs, fc, bo, 0, 0) bc).2.2.2.2.1) ((c_gLL se f ti (ho, ri, fs, fc, bo, 0, 0) bc).2.2.2.2.2.2) ((c_gLL se f ti (ho, ri, fs, fc, bo, 0, 0) bc).2.2.1) ((c_gLL se f ti (ho, ri, fs, fc, bo, 0, 0) bc).2.2.2.1))) rfl (st' := []) rfl ⟨rfl, rfl⟩ ⟨Nat.le_of_ble_eq_true rfl, Nat.le_of_ble_eq_true rfl⟩ ?_
        refine x_aload_n C 3 rfl dX2_passHour_50 rfl ?_
        refine x_get (k := 2) (v := .ref (a 3)) C dX2_passHour_51 layX2 fl_X2_20 0 rfl rfl (by decide) rfl ?_
        refine x_iconst (v := (nI 3)) C dX2_passHour_54 (by decide) ?_
        refine x_iload C 0 rfl dX2_passHour_55 ?_
        refine x_iconst (v := (nI 1)) C dX2_passHour_57 (by decide) ?_
        refine x_callVd (As := [.int (nI 3), .int (nI h), .int (nI 1)]) (rest := []) C dX2_passHour_58 (c_X3_add (gX.l X) G (a 3) (a 4) 10 90 (upd g (20 + h) (g (20 + h) + 1)) 3 h (30 + h) 1 (by omega) (by omega) (by omega) (by omega) (by omega)) ml_X2_117 im_X3_add sl_X3_add in_X3 cd_X3_add hd_X3_add 0 rfl rfl rfl rfl (Nat.le_of_ble_eq_true rfl) ⟨Nat.le_of_ble_eq_true rfl, Nat.le_of_ble_eq_true rfl⟩ (List.take 3 (wS G a ti se (upd g (20 + h) (g (20 + h) + 1)) ((c_gLL se f ti (ho, ri, fs, fc, bo, 0, 0) bc).2.1) ((c_gLL se f ti (ho, ri, fs, fc, bo, 0, 0) bc).2.2.2.2.1) ((c_gLL se f ti (ho, ri, fs, fc, bo, 0, 0) bc).2.2.2.2.2.2) ((c_gLL se f ti (ho, ri, fs, fc, bo, 0, 0) bc).2.2.1) ((c_gLL se f ti (ho, ri, fs, fc, bo, 0, 0) bc).2.2.2.1))) (List.drop 5 (wS G a ti se (upd g (20 + h) (g (20 + h) + 1)) ((c_gLL se f ti (ho, ri, fs, fc, bo, 0, 0) bc).2.1) ((c_gLL se f ti (ho, ri, fs, fc, bo, 0, 0) bc).2.2.2.2.1) ((c_gLL se f ti (ho, ri, fs, fc, bo, 0, 0) bc).2.2.2.2.2.2) ((c_gLL se f ti (ho, ri, fs, fc, bo, 0, 0) bc).2.2.1) ((c_gLL se f ti (ho, ri, fs, fc, bo, 0, 0) bc).2.2.2.1))) rfl (ws' := (wS G a ti se (upd (upd g (20 + h) (g (20 + h) + 1)) (30 + h) ((upd g (20 + h) (g (20 + h) + 1)) (30 + h) + 1)) ((c_gLL se f ti (ho, ri, fs, fc, bo, 0, 0) bc).2.1) ((c_gLL se f ti (ho, ri, fs, fc, bo, 0, 0) bc).2.2.2.2.1) ((c_gLL se f ti (ho, ri, fs, fc, bo, 0, 0) bc).2.2.2.2.2.2) ((c_gLL se f ti (ho, ri, fs, fc, bo, 0, 0) bc).2.2.1) ((c_gLL se f ti (ho, ri, fs, fc, bo, 0, 0) bc).2.2.2.1))) rfl (st' := []) rfl ⟨rfl, rfl⟩ ⟨Nat.le_of_ble_eq_true rfl, Nat.le_of_ble_eq_true rfl⟩ ?_
        refine x_goto (tgt := 86) C dX2_passHour_61 (by decide) ?_
        refine x_aload_n C 3 rfl dX2_passHour_86 rfl ?_
        refine x_get (k := 0) (v := .int (nI ti)) C dX2_passHour_87 layX2 fl_X2_44 0 rfl rfl (by decide) rfl ?_
        refine x_bipush (v := (nI 10)) C dX2_passHour_90 (by decide) ?_
        refine x_iremN C dX2_passHour_92 (by omega) (by omega) (by omega) ?_
        refine x_bipush (v := (nI 9)) C dX2_passHour_93 (by decide) ?_
        refine x_icmp_neN (a := (ti % 10)) (b := 9) (tgt := 110) C dX2_passHour_95 (by decide) (by omega) (by omega) (fun c8 => ?_) (fun c8 => ?_)
        · refine x_iinc (v := (nI (h + 1))) (lv' := [(4, .int (nI (h + 1))), (3, .int ((c_gLL se f ti (ho, ri, fs, fc, bo, 0, 0) bc).2.2.2.2.2.1)), (2, .int f), (0, .ref (a 0)), (1, .int (nI 1))]) C 0 rfl dX2_passHour_110 (by rw [show Int32.ofInt 1 = nI 1 from rfl]; exact nI_add _ _) (by decide) rfl ?_
          refine x_goto (tgt := 22) C dX2_passHour_113 (by decide) ?_
          exact ih (h + 1) (upd (upd g (20 + h) (g (20 + h) + 1)) (30 + h) ((upd g (20 + h) (g (20 + h) + 1)) (30 + h) + 1)) (by omega) (by simp only [c_restL, ← hg, c_r1, c_r2, c_in, c5, c6, c8,  if_true, if_false, ite_true, ite_false, and_true, true_and, and_false, false_and, or_true, true_or, or_false, false_or, not_true_eq_false, not_false_eq_true, and_self, or_self] <;> rfl)
        · refine x_aload_n C 3 rfl dX2_passHour_98 rfl ?_
          refine x_get (k := 2) (v := .ref (a 3)) C dX2_passHour_99 layX2 fl_X2_20 0 rfl rfl (by decide) rfl ?_
          refine x_iconst (v := (nI 2)) C dX2_passHour_102 (by decide) ?_
          refine x_iload C 0 rfl dX2_passHour_103 ?_
          refine x_bipush (v := (nI 8)) C dX2_passHour_105 (by decide) ?_
          refine x_callVd (As := [.int (nI 2), .int (nI h), .int (nI 8)]) (rest := []) C dX2_passHour_107 (c_X3_takeAway (gX.l X) G (a 3) (a 4) 10 90 (upd (upd g (20 + h) (g (20 + h) + 1)) (30 + h) ((upd g (20 + h) (g (20 + h) + 1)) (30 + h) + 1)) 2 h (20 + h) 8 (by omega) (by omega) (by omega) (by omega) (by omega)) ml_X2_120 im_X3_takeAway sl_X3_takeAway in_X3 cd_X3_takeAway hd_X3_takeAway 0 rfl rfl rfl rfl (Nat.le_of_ble_eq_true rfl) ⟨Nat.le_of_ble_eq_true rfl, Nat.le_of_ble_eq_true rfl⟩ (List.take 3 (wS G a ti se (upd (upd g (20 + h) (g (20 + h) + 1)) (30 + h) ((upd g (20 + h) (g (20 + h) + 1)) (30 + h) + 1)) ((c_gLL se f ti (ho, ri, fs, fc, bo, 0, 0) bc).2.1) ((c_gLL se f ti (ho, ri, fs, fc, bo, 0, 0) bc).2.2.2.2.1) ((c_gLL se f ti (ho, ri, fs, fc, bo, 0, 0) bc).2.2.2.2.2.2) ((c_gLL se f ti (ho, ri, fs, fc, bo, 0, 0) bc).2.2.1) ((c_gLL se f ti (ho, ri, fs, fc, bo, 0, 0) bc).2.2.2.1))) (List.drop 5 (wS G a ti se (upd (upd g (20 + h) (g (20 + h) + 1)) (30 + h) ((upd g (20 + h) (g (20 + h) + 1)) (30 + h) + 1)) ((c_gLL se f ti (ho, ri, fs, fc, bo, 0, 0) bc).2.1) ((c_gLL se f ti (ho, ri, fs, fc, bo, 0, 0) bc).2.2.2.2.1) ((c_gLL se f ti (ho, ri, fs, fc, bo, 0, 0) bc).2.2.2.2.2.2) ((c_gLL se f ti (ho, ri, fs, fc, bo, 0, 0) bc).2.2.1) ((c_gLL se f ti (ho, ri, fs, fc, bo, 0, 0) bc).2.2.2.1))) rfl (ws' := (wS G a ti se (upd (upd (upd g (20 + h) (g (20 + h) + 1)) (30 + h) ((upd g (20 + h) (g (20 + h) + 1)) (30 + h) + 1)) (20 + h) (mxI 0 ((upd (upd g (20 + h) (g (20 + h) + 1)) (30 + h) ((upd g (20 + h) (g (20 + h) + 1)) (30 + h) + 1)) (20 + h) - 8))) ((c_gLL se f ti (ho, ri, fs, fc, bo, 0, 0) bc).2.1) ((c_gLL se f ti (ho, ri, fs, fc, bo, 0, 0) bc).2.2.2.2.1) ((c_gLL se f ti (ho, ri, fs, fc, bo, 0, 0) bc).2.2.2.2.2.2) ((c_gLL se f ti (ho, ri, fs, fc, bo, 0, 0) bc).2.2.1) ((c_gLL se f ti (ho, ri, fs, fc, bo, 0, 0) bc).2.2.2.1))) rfl (st' := []) rfl ⟨rfl, rfl⟩ ⟨Nat.le_of_ble_eq_true rfl, Nat.le_of_ble_eq_true rfl⟩ ?_
          refine x_iinc (v := (nI (h + 1))) (lv' := [(4, .int (nI (h + 1))), (3, .int ((c_gLL se f ti (ho, ri, fs, fc, bo, 0, 0) bc).2.2.2.2.2.1)), (2, .int f), (0, .ref (a 0)), (1, .int (nI 1))]) C 0 rfl dX2_passHour_110 (by rw [show Int32.ofInt 1 = nI 1 from rfl]; exact nI_add _ _) (by decide) rfl ?_
          refine x_goto (tgt := 22) C dX2_passHour_113 (by decide) ?_
          exact ih (h + 1) (upd (upd (upd g (20 + h) (g (20 + h) + 1)) (30 + h) ((upd g (20 + h) (g (20 + h) + 1)) (30 + h) + 1)) (20 + h) (mxI 0 ((upd (upd g (20 + h) (g (20 + h) + 1)) (30 + h) ((upd g (20 + h) (g (20 + h) + 1)) (30 + h) + 1)) (20 + h) - 8))) (by omega) (by simp only [c_restL, ← hg, c_r1, c_r2, c_in, c5, c6, c8,  if_true, if_false, ite_true, ite_false, and_true, true_and, and_false, false_and, or_true, true_or, or_false, false_or, not_true_eq_false, not_false_eq_true, and_self, or_self] <;> rfl)
  exact L2 10 0 ((c_gLL se f ti (ho, ri, fs, fc, bo, 0, 0) bc).1) (by omega) (by rfl)
set_option maxRecDepth 100000 in
set_option maxHeartbeats 4000000 in
theorem c_X2_passHour0 (l : Launch) (G : gG) (a : Nat → Nat) (ti : Nat) (se ho ri bo : Nat → Int32) (bc : Nat) (fs : Nat → Int32) (fc : Nat)  (ht : ti < 2 ^ 30) : CT l yX2_passHour cX2_passHour 5 none rm_X2_passHour G [.ref (a 0), .int (nI 0)] (wS G a ti se ho ri bo bc fs fc) none (fun _ => (wS G a (ti + 1) se (c_hr0 se ho ti) ri bo bc fs fc)) := by
  refine gMet (by decide) (Nat.le_of_ble_eq_true rfl) (fun X hX C hr hin E => ?_)
  clear hX
  refine (show gW G X (wS G a ti se ho ri bo bc fs fc) 0 0 0 [(0, .ref (a 0)), (1, .int (nI 0))] [] from ?_)
  refine x_aload_n C 0 rfl dX2_passHour_0 rfl ?_
  refine x_callVd (As := []) (rest := []) C dX2_passHour_1 (c_X2_farriersHorse (gX.l X) G a ti se ho ri bo bc fs fc (by omega)) ml_X2_110 im_X2_farriersHorse sl_X2_farriersHorse in_X2 cd_X2_farriersHorse hd_X2_farriersHorse 0 rfl rfl rfl rfl (Nat.le_of_ble_eq_true rfl) ⟨Nat.le_of_ble_eq_true rfl, Nat.le_of_ble_eq_true rfl⟩ (List.take 0 (wS G a ti se ho ri bo bc fs fc)) (List.drop 11 (wS G a ti se ho ri bo bc fs fc)) rfl (ws' := (wS G a ti se ho ri bo bc fs fc)) rfl (st' := [.int (c_far se ho ti)]) rfl ⟨rfl, rfl⟩ ⟨Nat.le_of_ble_eq_true rfl, Nat.le_of_ble_eq_true rfl⟩ ?_
  refine x_gen (fun f f_e => ?_)
  have hf : okH f := f_e ▸ c_far_ok _ _ _
  refine x_istore_n (lv' := [(2, .int f), (0, .ref (a 0)), (1, .int (nI 0))]) C dX2_passHour_4 rfl (by decide) rfl ?_
  refine x_iload_n C 2 rfl dX2_passHour_5 rfl ?_
  refine x_if_eqN (a := 0) (tgt := 17) C dX2_passHour_6 (by decide) (by omega) (fun c1 => ?_) (fun c1 => False.elim (by omega))
  refine x_iconst (v := (nI 0)) C dX2_passHour_17 (by decide) ?_
  refine x_istore_n (lv' := [(3, .int (nI 0)), (2, .int f), (0, .ref (a 0)), (1, .int (nI 0))]) C dX2_passHour_18 rfl (by decide) rfl ?_
  refine x_iconst (v := (nI 0)) C dX2_passHour_19 (by decide) ?_
  refine x_istore (lv' := [(4, .int (nI 0)), (3, .int (nI 0)), (2, .int f), (0, .ref (a 0)), (1, .int (nI 0))]) C dX2_passHour_20 (by decide) rfl ?_
  have L2 : ∀ (fu : Nat) (h : Nat) (g : Nat → Int32), h + fu = 10 → (g = c_restL 0 ti ho h) → gW G X (wS G a ti se g ri bo bc fs fc) 0 0 22 [(4, .int (nI h)), (3, .int (nI 0)), (2, .int f), (0, .ref (a 0)), (1, .int (nI 0))] [] := by
    intro fu
    induction fu with
    | zero =>
      intro h g hn hg
      have hi : h = 10 := by omega
      refine x_iload C 0 rfl dX2_passHour_22 ?_
      refine x_bipush (v := (nI 10)) C dX2_passHour_24 (by decide) ?_
      refine x_icmp_geN (a := h) (b := 10) (tgt := 116) C dX2_passHour_26 (by decide) (by omega) (by omega) (fun c3 => ?_) (fun c3 => False.elim (by omega))
      refine x_iload_n C 2 rfl dX2_passHour_116 rfl ?_
      refine x_bipush (v := (-5)) C dX2_passHour_117 (by decide) ?_
      refine x_icmp_eq (x := f) (y := (-5)) (tgt := 143) C dX2_passHour_119 (by decide) (fun c4 => ?_) (fun c4 => ?_)
      · refine x_aload_n C 3 rfl dX2_passHour_143 rfl ?_
        refine x_dup C rfl dX2_passHour_144 ?_
        refine x_get (k := 0) (v := .int (nI ti)) C dX2_passHour_145 layX2 fl_X2_44 0 rfl rfl (by decide) rfl ?_
        refine x_iconst (v := (nI 1)) C dX2_passHour_148 (by decide) ?_
        refine x_iaddN C dX2_passHour_149 ?_
        refine x_put (k := 0) (ws' := (wS G a (ti + 1) se g ri bo bc fs fc)) C dX2_passHour_150 layX2 tyX2 tyX2_ok nmX2 fl_X2_44 0 rfl rfl (by decide) rfl rfl rfl rfl (Nat.le_of_ble_eq_true rfl) rfl ?_
        exact x_vret C hr E dX2_passHour_153 (fun _ => 0) (by rw [hi] at hg; rw [c_hr0, ← f_e, ← hg, c_shoe]; first | rw [if_pos (by assumption)] | rw [if_neg (by assumption)])
      · have hfn : nC f < 10 ∧ f = nI (nC f) := by
          rcases hf with h9 | h9
          · exact absurd h9 (by assumption)
          · exact h9
        refine x_aload_n C 3 rfl dX2_passHour_122 rfl ?_
        refine x_get (k := 2) (v := .ref (a 3)) C dX2_passHour_123 layX2 fl_X2_20 0 rfl rfl (by decide) rfl ?_
        refine x_iconst (v := (nI 3)) C dX2_passHour_126 (by decide) ?_
        refine x_iload_n C 2 rfl dX2_passHour_127 rfl ?_
        refine x_top (y := (nI (nC f))) hfn.2 ?_
        refine x_iconst (v := (nI 0)) C dX2_passHour_128 (by decide) ?_
        refine x_callVd (As := [.int (nI 3), .int (nI (nC f)), .int (nI 0)]) (rest := []) C dX2_passHour_129 (c_X3_put (gX.l X) G (a 3) (a 4) 10 90 g 3 (nC f) (30 + (nC f)) 0 (by omega) (by omega) (by omega) (by omega) (by omega)) ml_X2_40 im_X3_put sl_X3_put in_X3 cd_X3_put hd_X3_put 0 rfl rfl rfl rfl (Nat.le_of_ble_eq_true rfl) ⟨Nat.le_of_ble_eq_true rfl, Nat.le_of_ble_eq_true rfl⟩ (List.take 3 (wS G a ti se g ri bo bc fs fc)) (List.drop 5 (wS G a ti se g ri bo bc fs fc)) rfl (ws' := (wS G a ti se (upd g (30 + (nC f)) 0) ri bo bc fs fc)) rfl (st' := []) rfl ⟨rfl, rfl⟩ ⟨Nat.le_of_ble_eq_true rfl, Nat.le_of_ble_eq_true rfl⟩ ?_
        refine x_aload_n C 3 rfl dX2_passHour_132 rfl ?_
        refine x_get (k := 2) (v := .ref (a 3)) C dX2_passHour_133 layX2 fl_X2_20 0 rfl rfl (by decide) rfl ?_
        refine x_bipush (v := (nI 8)) C dX2_passHour_136 (by decide) ?_
        refine x_iload_n C 2 rfl dX2_passHour_138 rfl ?_
        refine x_top (y := (nI (nC f))) hfn.2 ?_
        refine x_iconst (v := (nI 1)) C dX2_passHour_139 (by decide) ?_
        refine x_callVd (As := [.int (nI 8), .int (nI (nC f)), .int (nI 1)]) (rest := []) C dX2_passHour_140 (c_X3_add (gX.l X) G (a 3) (a 4) 10 90 (upd g (30 + (nC f)) 0) 8 (nC f) (80 + (nC f)) 1 (by omega) (by omega) (by omega) (by omega) (by omega)) ml_X2_117 im_X3_add sl_X3_add in_X3 cd_X3_add hd_X3_add 0 rfl rfl rfl rfl (Nat.le_of_ble_eq_true rfl) ⟨Nat.le_of_ble_eq_true rfl, Nat.le_of_ble_eq_true rfl⟩ (List.take 3 (wS G a ti se (upd g (30 + (nC f)) 0) ri bo bc fs fc)) (List.drop 5 (wS G a ti se (upd g (30 + (nC f)) 0) ri bo bc fs fc)) rfl (ws' := (wS G a ti se (upd (upd g (30 + (nC f)) 0) (80 + (nC f)) ((upd g (30 + (nC f)) 0) (80 + (nC f)) + 1)) ri bo bc fs fc)) rfl (st' := []) rfl ⟨rfl, rfl⟩ ⟨Nat.le_of_ble_eq_true rfl, Nat.le_of_ble_eq_true rfl⟩ ?_
        refine x_aload_n C 3 rfl dX2_passHour_143 rfl ?_
        refine x_dup C rfl dX2_passHour_144 ?_
        refine x_get (k := 0) (v := .int (nI ti)) C dX2_passHour_145 layX2 fl_X2_44 0 rfl rfl (by decide) rfl ?_
        refine x_iconst (v := (nI 1)) C dX2_passHour_148 (by decide) ?_
        refine x_iaddN C dX2_passHour_149 ?_
        refine x_put (k := 0) (ws' := (wS G a (ti + 1) se (upd (upd g (30 + (nC f)) 0) (80 + (nC f)) ((upd g (30 + (nC f)) 0) (80 + (nC f)) + 1)) ri bo bc fs fc)) C dX2_passHour_150 layX2 tyX2 tyX2_ok nmX2 fl_X2_44 0 rfl rfl (by decide) rfl rfl rfl rfl (Nat.le_of_ble_eq_true rfl) rfl ?_
        exact x_vret C hr E dX2_passHour_153 (fun _ => 0) (by rw [hi] at hg; rw [c_hr0, ← f_e, ← hg, c_shoe]; first | rw [if_pos (by assumption)] | rw [if_neg (by assumption)])
    | succ fu ih =>
      intro h g hn hg
      refine x_iload C 0 rfl dX2_passHour_22 ?_
      refine x_bipush (v := (nI 10)) C dX2_passHour_24 (by decide) ?_
      refine x_icmp_geN (a := h) (b := 10) (tgt := 116) C dX2_passHour_26 (by decide) (by omega) (by omega) (fun c5 => False.elim (by omega)) (fun c5 => ?_)
      refine x_iload_n C 1 rfl dX2_passHour_29 rfl ?_
      refine x_iload C 0 rfl dX2_passHour_30 ?_
      refine x_ishr (x := 0) (y := (nI h)) C dX2_passHour_32 ?_
      refine x_iconst (v := (nI 1)) C dX2_passHour_33 (by decide) ?_
      refine x_iand (x := (0 >>> ((nI h) &&& 31))) (y := 1) C dX2_passHour_34 ?_
      refine x_iconst (v := (nI 1)) C dX2_passHour_35 (by decide) ?_
      refine x_icmp_ne (x := ((0 >>> ((nI h) &&& 31)) &&& 1)) (y := 1) (tgt := 64) C dX2_passHour_36 (by decide) (fun c6 => ?_) (fun c6 => ?_)
      · refine x_aload_n C 3 rfl dX2_passHour_64 rfl ?_
        refine x_get (k := 2) (v := .ref (a 3)) C dX2_passHour_65 layX2 fl_X2_20 0 rfl rfl (by decide) rfl ?_
        refine x_iconst (v := (nI 2)) C dX2_passHour_68 (by decide) ?_
        refine x_iload C 0 rfl dX2_passHour_69 ?_
        refine x_iconst (v := (nI 1)) C dX2_passHour_71 (by decide) ?_
        refine x_callVd (As := [.int (nI 2), .int (nI h), .int (nI 1)]) (rest := []) C dX2_passHour_72 (c_X3_takeAway (gX.l X) G (a 3) (a 4) 10 90 g 2 h (20 + h) 1 (by omega) (by omega) (by omega) (by omega) (by omega)) ml_X2_120 im_X3_takeAway sl_X3_takeAway in_X3 cd_X3_takeAway hd_X3_takeAway 0 rfl rfl rfl rfl (Nat.le_of_ble_eq_true rfl) ⟨Nat.le_of_ble_eq_true rfl, Nat.le_of_ble_eq_true rfl⟩ (List.take 3 (wS G a ti se g ri bo bc fs fc)) (List.drop 5 (wS G a ti se g ri bo bc fs fc)) rfl (ws' := (wS G a ti se (upd g (20 + h) (mxI 0 (g (20 + h) - 1))) ri bo bc fs fc)) rfl (st' := []) rfl ⟨rfl, rfl⟩ ⟨Nat.le_of_ble_eq_true rfl, Nat.le_of_ble_eq_true rfl⟩ ?_
        refine x_aload_n C 3 rfl dX2_passHour_75 rfl ?_
        refine x_get (k := 2) (v := .ref (a 3)) C dX2_passHour_76 layX2 fl_X2_20 0 rfl rfl (by decide) rfl ?_
        refine x_iconst (v := (nI 5)) C dX2_passHour_79 (by decide) ?_
        refine x_iload C 0 rfl dX2_passHour_80 ?_
        refine x_iconst (v := (nI 1)) C dX2_passHour_82 (by decide) ?_
        refine x_callVd (As := [.int (nI 5), .int (nI h), .int (nI 1)]) (rest := []) C dX2_passHour_83 (c_X3_takeAway (gX.l X) G (a 3) (a 4) 10 90 (upd g (20 + h) (mxI 0 (g (20 + h) - 1))) 5 h (50 + h) 1 (by omega) (by omega) (by omega) (by omega) (by omega)) ml_X2_120 im_X3_takeAway sl_X3_takeAway in_X3 cd_X3_takeAway hd_X3_takeAway 0 rfl rfl rfl rfl (Nat.le_of_ble_eq_true rfl) ⟨Nat.le_of_ble_eq_true rfl, Nat.le_of_ble_eq_true rfl⟩ (List.take 3 (wS G a ti se (upd g (20 + h) (mxI 0 (g (20 + h) - 1))) ri bo bc fs fc)) (List.drop 5 (wS G a ti se (upd g (20 + h) (mxI 0 (g (20 + h) - 1))) ri bo bc fs fc)) rfl (ws' := (wS G a ti se (upd (upd g (20 + h) (mxI 0 (g (20 + h) - 1))) (50 + h) (mxI 0 ((upd g (20 + h) (mxI 0 (g (20 + h) - 1))) (50 + h) - 1))) ri bo bc fs fc)) rfl (st' := []) rfl ⟨rfl, rfl⟩ ⟨Nat.le_of_ble_eq_true rfl, Nat.le_of_ble_eq_true rfl⟩ ?_
        refine x_aload_n C 3 rfl dX2_passHour_86 rfl ?_
        refine x_get (k := 0) (v := .int (nI ti)) C dX2_passHour_87 layX2 fl_X2_44 0 rfl rfl (by decide) rfl ?_
        refine x_bipush (v := (nI 10)) C dX2_passHour_90 (by decide) ?_
        refine x_iremN C dX2_passHour_92 (by omega) (by omega) (by omega) ?_
        refine x_bipush (v := (nI 9)) C dX2_passHour_93 (by decide) ?_
        refine x_icmp_neN (a := (ti % 10)) (b := 9) (tgt := 110) C dX2_passHour_95 (by decide) (by omega) (by omega) (fun c7 => ?_) (fun c7 => ?_)
        · refine x_iinc (v := (nI (h + 1))) (lv' := [(4, .int (nI (h + 1))), (3, .int (nI 0)), (2, .int f), (0, .ref (a 0)), (1, .int (nI 0))]) C 0 rfl dX2_passHour_110 (by rw [show Int32.ofInt 1 = nI 1 from rfl]; exact nI_add _ _) (by decide) rfl ?_
          refine x_goto (tgt := 22) C dX2_passHour_113 (by decide) ?_
          exact ih (h + 1) (upd (upd g (20 + h) (mxI 0 (g (20 + h) - 1))) (50 + h) (mxI 0 ((upd g (20 + h) (mxI 0 (g (20 + h) - 1))) (50 + h) - 1))) (by omega) (by simp only [c_restL, ← hg, c_r1, c_r2, c_in, c5, c6, c7,  if_true, if_false, ite_true, ite_false, and_true, true_and, and_false, false_and, or_true, true_or, or_false, false_or, not_true_eq_false, not_false_eq_true, and_self, or_self] <;> rfl)
        · refine x_aload_n C 3 rfl dX2_passHour_98 rfl ?_
          refine x_get (k := 2) (v := .ref (a 3)) C dX2_passHour_99 layX2 fl_X2_20 0 rfl rfl (by decide) rfl ?_
          refine x_iconst (v := (nI 2)) C dX2_passHour_102 (by decide) ?_
          refine x_iload C 0 rfl dX2_passHour_103 ?_
          refine x_bipush (v := (nI 8)) C dX2_passHour_105 (by decide) ?_
          refine x_callVd (As := [.int (nI 2), .int (nI h), .int (nI 8)]) (rest := []) C dX2_passHour_107 (c_X3_takeAway (gX.l X) G (a 3) (a 4) 10 90 (upd (upd g (20 + h) (mxI 0 (g (20 + h) - 1))) (50 + h) (mxI 0 ((upd g (20 + h) (mxI 0 (g (20 + h) - 1))) (50 + h) - 1))) 2 h (20 + h) 8 (by omega) (by omega) (by omega) (by omega) (by omega)) ml_X2_120 im_X3_takeAway sl_X3_takeAway in_X3 cd_X3_takeAway hd_X3_takeAway 0 rfl rfl rfl rfl (Nat.le_of_ble_eq_true rfl) ⟨Nat.le_of_ble_eq_true rfl, Nat.le_of_ble_eq_true rfl⟩ (List.take 3 (wS G a ti se (upd (upd g (20 + h) (mxI 0 (g (20 + h) - 1))) (50 + h) (mxI 0 ((upd g (20 + h) (mxI 0 (g (20 + h) - 1))) (50 + h) - 1))) ri bo bc fs fc)) (List.drop 5 (wS G a ti se (upd (upd g (20 + h) (mxI 0 (g (20 + h) - 1))) (50 + h) (mxI 0 ((upd g (20 + h) (mxI 0 (g (20 + h) - 1))) (50 + h) - 1))) ri bo bc fs fc)) rfl (ws' := (wS G a ti se (upd (upd (upd g (20 + h) (mxI 0 (g (20 + h) - 1))) (50 + h) (mxI 0 ((upd g (20 + h) (mxI 0 (g (20 + h) - 1))) (50 + h) - 1))) (20 + h) (mxI 0 ((upd (upd g (20 + h) (mxI 0 (g (20 + h) - 1))) (50 + h) (mxI 0 ((upd g (20 + h) (mxI 0 (g (20 + h) - 1))) (50 + h) - 1))) (20 + h) - 8))) ri bo bc fs fc)) rfl (st' := []) rfl ⟨rfl, rfl⟩ ⟨Nat.le_of_ble_eq_true rfl, Nat.le_of_ble_eq_true rfl⟩ ?_
          refine x_iinc (v := (nI (h + 1))) (lv' := [(4, .int (nI (h + 1))), (3, .int (nI 0)), (2, .int f), (0, .ref (a 0)), (1, .int (nI 0))]) C 0 rfl dX2_passHour_110 (by rw [show Int32.ofInt 1 = nI 1 from rfl]; exact nI_add _ _) (by decide) rfl ?_
          refine x_goto (tgt := 22) C dX2_passHour_113 (by decide) ?_
          exact ih (h + 1) (upd (upd (upd g (20 + h) (mxI 0 (g (20 + h) - 1))) (50 + h) (mxI 0 ((upd g (20 + h) (mxI 0 (g (20 + h) - 1))) (50 + h) - 1))) (20 + h) (mxI 0 ((upd (upd g (20 + h) (mxI 0 (g (20 + h) - 1))) (50 + h) (mxI 0 ((upd g (20 + h) (mxI 0 (g (20 + h) - 1))) (50 + h) - 1))) (20 + h) - 8))) (by omega) (by simp only [c_restL, ← hg, c_r1, c_r2, c_in, c5, c6, c7,  if_true, if_false, ite_true, ite_false, and_true, true_and, and_false, false_and, or_true, true_or, or_false, false_or, not_true_eq_false, not_false_eq_true, and_self, or_self] <;> rfl)
      · refine x_aload_n C 3 rfl dX2_passHour_39 rfl ?_
        refine x_get (k := 2) (v := .ref (a 3)) C dX2_passHour_40 layX2 fl_X2_20 0 rfl rfl (by decide) rfl ?_
        refine x_iconst (v := (nI 2)) C dX2_passHour_43 (by decide) ?_
        refine x_iload C 0 rfl dX2_passHour_44 ?_
        refine x_iconst (v := (nI 1)) C dX2_passHour_46 (by decide) ?_
        refine x_callVd (As := [.int (nI 2), .int (nI h), .int (nI 1)]) (rest := []) C dX2_passHour_47 (c_X3_add (gX.l X) G (a 3) (a 4) 10 90 g 2 h (20 + h) 1 (by omega) (by omega) (by omega) (by omega) (by omega)) ml_X2_117 im_X3_add sl_X3_add in_X3 cd_X3_add hd_X3_add 0 rfl rfl rfl rfl (Nat.le_of_ble_eq_true rfl) ⟨Nat.le_of_ble_eq_true rfl, Nat.le_of_ble_eq_true rfl⟩ (List.take 3 (wS G a ti se g ri bo bc fs fc)) (List.drop 5 (wS G a ti se g ri bo bc fs fc)) rfl (ws' := (wS G a ti se (upd g (20 + h) (g (20 + h) + 1)) ri bo bc fs fc)) rfl (st' := []) rfl ⟨rfl, rfl⟩ ⟨Nat.le_of_ble_eq_true rfl, Nat.le_of_ble_eq_true rfl⟩ ?_
        refine x_aload_n C 3 rfl dX2_passHour_50 rfl ?_
        refine x_get (k := 2) (v := .ref (a 3)) C dX2_passHour_51 layX2 fl_X2_20 0 rfl rfl (by decide) rfl ?_
        refine x_iconst (v := (nI 3)) C dX2_passHour_54 (by decide) ?_
        refine x_iload C 0 rfl dX2_passHour_55 ?_
        refine x_iconst (v := (nI 1)) C dX2_passHour_57 (by decide) ?_
        refine x_callVd (As := [.int (nI 3), .int (nI h), .int (nI 1)]) (rest := []) C dX2_passHour_58 (c_X3_add (gX.l X) G (a 3) (a 4) 10 90 (upd g (20 + h) (g (20 + h) + 1)) 3 h (30 + h) 1 (by omega) (by omega) (by omega) (by omega) (by omega)) ml_X2_117 im_X3_add sl_X3_add in_X3 cd_X3_add hd_X3_add 0 rfl rfl rfl rfl (Nat.le_of_ble_eq_true rfl) ⟨Nat.le_of_ble_eq_true rfl, Nat.le_of_ble_eq_true rfl⟩ (List.take 3 (wS G a ti se (upd g (20 + h) (g (20 + h) + 1)) ri bo bc fs fc)) (List.drop 5 (wS G a ti se (upd g (20 + h) (g (20 + h) + 1)) ri bo bc fs fc)) rfl (ws' := (wS G a ti se (upd (upd g (20 + h) (g (20 + h) + 1)) (30 + h) ((upd g (20 + h) (g (20 + h) + 1)) (30 + h) + 1)) ri bo bc fs fc)) rfl (st' := []) rfl ⟨rfl, rfl⟩ ⟨Nat.le_of_ble_eq_true rfl, Nat.le_of_ble_eq_true rfl⟩ ?_
        refine x_goto (tgt := 86) C dX2_passHour_61 (by decide) ?_
        refine x_aload_n C 3 rfl dX2_passHour_86 rfl ?_
        refine x_get (k := 0) (v := .int (nI ti)) C dX2_passHour_87 layX2 fl_X2_44 0 rfl rfl (by decide) rfl ?_
        refine x_bipush (v := (nI 10)) C dX2_passHour_90 (by decide) ?_
        refine x_iremN C dX2_passHour_92 (by omega) (by omega) (by omega) ?_
        refine x_bipush (v := (nI 9)) C dX2_passHour_93 (by decide) ?_
        refine x_icmp_neN (a := (ti % 10)) (b := 9) (tgt := 110) C dX2_passHour_95 (by decide) (by omega) (by omega) (fun c8 => ?_) (fun c8 => ?_)
        · refine x_iinc (v := (nI (h + 1))) (lv' := [(4, .int (nI (h + 1))), (3, .int (nI 0)), (2, .int f), (0, .ref (a 0)), (1, .int (nI 0))]) C 0 rfl dX2_passHour_110 (by rw [show Int32.ofInt 1 = nI 1 from rfl]; exact nI_add _ _) (by decide) rfl ?_
          refine x_goto (tgt := 22) C dX2_passHour_113 (by decide) ?_
          exact ih (h + 1) (upd (upd g (20 + h) (g (20 + h) + 1)) (30 + h) ((upd g (20 + h) (g (20 + h) + 1)) (30 + h) + 1)) (by omega) (by simp only [c_restL, ← hg, c_r1, c_r2, c_in, c5, c6, c8,  if_true, if_false, ite_true, ite_false, and_true, true_and, and_false, false_and, or_true, true_or, or_false, false_or, not_true_eq_false, not_false_eq_true, and_self, or_self] <;> rfl)
        · refine x_aload_n C 3 rfl dX2_passHour_98 rfl ?_
          refine x_get (k := 2) (v := .ref (a 3)) C dX2_passHour_99 layX2 fl_X2_20 0 rfl rfl (by decide) rfl ?_
          refine x_iconst (v := (nI 2)) C dX2_passHour_102 (by decide) ?_
          refine x_iload C 0 rfl dX2_passHour_103 ?_
          refine x_bipush (v := (nI 8)) C dX2_passHour_105 (by decide) ?_
          refine x_callVd (As := [.int (nI 2), .int (nI h), .int (nI 8)]) (rest := []) C dX2_passHour_107 (c_X3_takeAway (gX.l X) G (a 3) (a 4) 10 90 (upd (upd g (20 + h) (g (20 + h) + 1)) (30 + h) ((upd g (20 + h) (g (20 + h) + 1)) (30 + h) + 1)) 2 h (20 + h) 8 (by omega) (by omega) (by omega) (by omega) (by omega)) ml_X2_120 im_X3_takeAway sl_X3_takeAway in_X3 cd_X3_takeAway hd_X3_takeAway 0 rfl rfl rfl rfl (Nat.le_of_ble_eq_true rfl) ⟨Nat.le_of_ble_eq_true rfl, Nat.le_of_ble_eq_true rfl⟩ (List.take 3 (wS G a ti se (upd (upd g (20 + h) (g (20 + h) + 1)) (30 + h) ((upd g (20 + h) (g (20 + h) + 1)) (30 + h) + 1)) ri bo bc fs fc)) (List.drop 5 (wS G a ti se (upd (upd g (20 + h) (g (20 + h) + 1)) (30 + h) ((upd g (20 + h) (g (20 + h) + 1)) (30 + h) + 1)) ri bo bc fs fc)) rfl (ws' := (wS G a ti se (upd (upd (upd g (20 + h) (g (20 + h) + 1)) (30 + h) ((upd g (20 + h) (g (20 + h) + 1)) (30 + h) + 1)) (20 + h) (mxI 0 ((upd (upd g (20 + h) (g (20 + h) + 1)) (30 + h) ((upd g (20 + h) (g (20 + h) + 1)) (30 + h) + 1)) (20 + h) - 8))) ri bo bc fs fc)) rfl (st' := []) rfl ⟨rfl, rfl⟩ ⟨Nat.le_of_ble_eq_true rfl, Nat.le_of_ble_eq_true rfl⟩ ?_
          refine x_iinc (v := (nI (h + 1))) (lv' := [(4, .int (nI (h + 1))), (3, .int (nI 0)), (2, .int f), (0, .ref (a 0)), (1, .int (nI 0))]) C 0 rfl dX2_passHour_110 (by rw [show Int32.ofInt 1 = nI 1 from rfl]; exact nI_add _ _) (by decide) rfl ?_
          refine x_goto (tgt := 22) C dX2_passHour_113 (by decide) ?_
          exact ih (h + 1) (upd (upd (upd g (20 + h) (g (20 + h) + 1)) (30 + h) ((upd g (20 + h) (g (20 + h) + 1)) (30 + h) + 1)) (20 + h) (mxI 0 ((upd (upd g (20 + h) (g (20 + h) + 1)) (30 + h) ((upd g (20 + h) (g (20 + h) + 1)) (30 + h) + 1)) (20 + h) - 8))) (by omega) (by simp only [c_restL, ← hg, c_r1, c_r2, c_in, c5, c6, c8,  if_true, if_false, ite_true, ite_false, and_true, true_and, and_false, false_and, or_true, true_or, or_false, false_or, not_true_eq_false, not_false_eq_true, and_self, or_self] <;> rfl)
  exact L2 10 0 ho (by omega) (by rfl)
