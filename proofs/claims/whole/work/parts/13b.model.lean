def rm_X6_pass : Room := { frames := 7, cells := 0, slots := 0, locals := 167 }
set_option maxRecDepth 100000 in
set_option maxHeartbeats 600000 in
theorem c_X6_pass (l : Launch) (G : gG) (a : Nat → Nat) (s as_ hi : Nat → Int32) (kn : Nat) (sn : Nat → Int32) (ik : Int32) (tx : Nat → Int32) (ln : Nat) (it wl : Nat → Int32) (sp : Nat) (iw : Int32) (rs : Nat) (er : Int32) (h : Int32)  (hM : okM s) (hk : kn ≤ 4) : CT l yX6_pass cX6_pass 4 (some .int) rm_X6_pass G [.ref (a 0), .int h] (wM G a s as_ hi kn sn ik tx ln it wl sp iw rs er) (some (.int ((mX_pass s hi kn it wl h).1))) (fun _ => (wM G a ((mX_pass s hi kn it wl h).2.1) as_ ((mX_pass s hi kn it wl h).2.2.1) ((mX_pass s hi kn it wl h).2.2.2.1) sn ik tx ln ((mX_pass s hi kn it wl h).2.2.2.2.1) ((mX_pass s hi kn it wl h).2.2.2.2.2) sp iw rs er)) := by
  refine gMet (by decide) (Nat.le_of_ble_eq_true rfl) (fun X hX C hr hin E => ?_)
  clear hX
  refine (show gW G X (wM G a s as_ hi kn sn ik tx ln it wl sp iw rs er) 0 0 0 [(0, .ref (a 0)), (1, .int h)] [] from ?_)
  refine x_iload_n C 1 rfl dX6_pass_0 rfl ?_
  refine x_iconst (v := (nI 1)) C dX6_pass_1 (by decide) ?_
  refine x_bipush (v := (nI 99)) C dX6_pass_2 (by decide) ?_
  refine x_callSd (As := [.int h, .int (nI 1), .int (nI 99)]) (rest := []) C dX6_pass_4 (c_X6_in (gX.l X) G h 1 99 ) ml_X6_38 st_X6_in in_X6 cd_X6_in hd_X6_in rfl rfl (Nat.le_of_ble_eq_true rfl) ⟨Nat.le_of_ble_eq_true rfl, Nat.le_of_ble_eq_true rfl⟩ [] (wM G a s as_ hi kn sn ik tx ln it wl sp iw rs er) rfl (ws' := (wM G a s as_ hi kn sn ik tx ln it wl sp iw rs er)) rfl (st' := [.int (bI (¬ (h < 1) ∧ ¬ (99 < h)))]) rfl ⟨rfl, rfl⟩ ⟨Nat.le_of_ble_eq_true rfl, Nat.le_of_ble_eq_true rfl⟩ ?_
  refine x_if_neB (P := ¬ (h < 1) ∧ ¬ (99 < h)) (tgt := 13) C dX6_pass_7 (by decide) (fun c1 => ?_) (fun c1 => ?_)
  · have hN := g_in2 (x := h) (lo := 1) (n := 99) (by decide) (by decide) (by assumption)
    refine x_aload_n C 0 rfl dX6_pass_13 rfl ?_
    refine x_get (k := 0) (v := .ref (a 1)) C dX6_pass_14 layX6 fl_X6_7 0 rfl rfl (by decide) rfl ?_
    refine x_iconst (v := (nI 0)) C dX6_pass_17 (by decide) ?_
    refine x_iald (j := 0) C dX6_pass_18 1 rfl rfl (by omega) (by omega) ?_
    refine x_iload_n C 1 rfl dX6_pass_19 rfl ?_
    refine x_iadd (x := (s 0)) (y := h) C dX6_pass_20 ?_
    refine x_sipush (v := (nI 9999)) C dX6_pass_21 (by decide) ?_
    refine x_icmp_le (x := ((s 0) + h)) (y := 9999) (tgt := 30) C dX6_pass_24 (by decide) (fun c2 => ?_) (fun c2 => ?_)
    · refine x_aload_n C 0 rfl dX6_pass_30 rfl ?_
      refine x_callVd (As := []) (rest := []) C dX6_pass_31 (c_X6_record (gX.l X) G a s as_ hi kn sn ik tx ln it wl sp iw rs er (by omega)) ml_X6_99 im_X6_record sl_X6_record in_X6 cd_X6_record hd_X6_record 0 rfl rfl rfl rfl (Nat.le_of_ble_eq_true rfl) ⟨Nat.le_of_ble_eq_true rfl, Nat.le_of_ble_eq_true rfl⟩ (List.take 0 (wM G a s as_ hi kn sn ik tx ln it wl sp iw rs er)) (List.drop 8 (wM G a s as_ hi kn sn ik tx ln it wl sp iw rs er)) rfl (ws' := (wM G a s as_ (m_recH s hi kn) (m_recK kn) sn ik tx ln it wl sp iw rs er)) rfl (st' := []) rfl ⟨rfl, rfl⟩ ⟨Nat.le_of_ble_eq_true rfl, Nat.le_of_ble_eq_true rfl⟩ ?_
      refine x_iconst (v := (nI 0)) C dX6_pass_34 (by decide) ?_
      refine x_istore_n (lv' := [(2, .int (nI 0)), (0, .ref (a 0)), (1, .int h)]) C dX6_pass_35 rfl (by decide) rfl ?_
      refine x_iconst (v := (nI 0)) C dX6_pass_36 (by decide) ?_
      refine x_istore_n (lv' := [(3, .int (nI 0)), (2, .int (nI 0)), (0, .ref (a 0)), (1, .int h)]) C dX6_pass_37 rfl (by decide) rfl ?_
      have L3 : ∀ (fu : Nat) (k : Nat) (acc : Int32) (s1 : Nat → Int32) (it1 : Nat → Int32) (w1 : Nat → Int32), k + fu = nC h → ((s1, it1, w1, acc) = m_pL (s, it, wl, 0) k) → (okM s1) → gW G X (wM G a s1 as_ (m_recH s hi kn) (m_recK kn) sn ik tx ln it1 w1 sp iw rs er) 0 0 38 [(3, .int (nI k)), (2, .int acc), (0, .ref (a 0)), (1, .int h)] [] := by
        intro fu
        induction fu with
        | zero =>
          intro k acc s1 it1 w1 hn hp hM1
          have hk9 : k = nC h := by omega
          have hp9 : (s1, it1, w1, acc) = m_pL (s, it, wl, 0) (nC h) := by rw [hp, hk9]
          refine x_iload_n C 0 rfl dX6_pass_38 rfl ?_
          refine x_iload_n C 3 rfl dX6_pass_39 rfl ?_
          refine x_top (y := (nI (nC h))) hN.2.2 ?_
          refine x_icmp_geN (a := k) (b := (nC h)) (tgt := 57) C dX6_pass_40 (by decide) (by omega) (by omega) (fun c4 => ?_) (fun c4 => False.elim (by omega))
          refine x_iload_n C 1 rfl dX6_pass_57 rfl ?_
          exact x_iret C hr E dX6_pass_58 (fun _ => 0) (by rw [mX_pass, if_pos c1, if_neg c2, ← hp9]) (by rw [mX_pass, if_pos c1, if_neg c2, ← hp9])
        | succ fu ih =>
          intro k acc s1 it1 w1 hn hp hM1
          refine x_iload_n C 0 rfl dX6_pass_38 rfl ?_
          refine x_iload_n C 3 rfl dX6_pass_39 rfl ?_
          refine x_top (y := (nI (nC h))) hN.2.2 ?_
          refine x_icmp_geN (a := k) (b := (nC h)) (tgt := 57) C dX6_pass_40 (by decide) (by omega) (by omega) (fun c5 => False.elim (by omega)) (fun c5 => ?_)
          refine x_iload_n C 1 rfl dX6_pass_43 rfl ?_
          refine x_aload_n C 2 rfl dX6_pass_44 rfl ?_
          refine x_iconst (v := (nI 1)) C dX6_pass_45 (by decide) ?_
          refine x_callVd (As := [.int (nI 1)]) (rest := [.int acc]) C dX6_pass_46 (c_X6_hour1 (gX.l X) G a s1 as_ (m_recH s hi kn) (m_recK kn) sn ik tx ln it1 w1 sp iw rs er hM1.1 hM1.2.1 hM1.2.2.1 hM1.2.2.2) ml_X6_132 im_X6_hour sl_X6_hour in_X6 cd_X6_hour hd_X6_hour 0 rfl rfl rfl rfl (Nat.le_of_ble_eq_true rfl) ⟨Nat.le_of_ble_eq_true rfl, Nat.le_of_ble_eq_true rfl⟩ (List.take 0 (wM G a s1 as_ (m_recH s hi kn) (m_recK kn) sn ik tx ln it1 w1 sp iw rs er)) (List.drop 8 (wM G a s1 as_ (m_recH s hi kn) (m_recK kn) sn ik tx ln it1 w1 sp iw rs er)) rfl (ws' := (wM G a (m_h1S s1 it1 w1) as_ (m_recH s hi kn) (m_recK kn) sn ik tx ln ((m_h1G s1 it1).2.1) (m_wlL s1 w1 10) sp iw rs er)) rfl (st' := [.int ((m_h1G s1 it1).2.2.1), .int acc]) rfl ⟨rfl, rfl⟩ ⟨Nat.le_of_ble_eq_true rfl, Nat.le_of_ble_eq_true rfl⟩ ?_
          refine x_iadd (x := acc) (y := ((m_h1G s1 it1).2.2.1)) C dX6_pass_49 ?_
          refine x_istore_n (lv' := [(2, .int (acc + ((m_h1G s1 it1).2.2.1))), (3, .int (nI k)), (0, .ref (a 0)), (1, .int h)]) C dX6_pass_50 rfl (by decide) rfl ?_
          refine x_iinc (v := (nI (k + 1))) (lv' := [(3, .int (nI (k + 1))), (2, .int (acc + ((m_h1G s1 it1).2.2.1))), (0, .ref (a 0)), (1, .int h)]) C 1 rfl dX6_pass_51 (by rw [show Int32.ofInt 1 = nI 1 from rfl]; exact nI_add _ _) (by decide) rfl ?_
          refine x_goto (tgt := 38) C dX6_pass_54 (by decide) ?_
          exact ih (k + 1) (acc + ((m_h1G s1 it1).2.2.1)) (m_h1S s1 it1 w1) ((m_h1G s1 it1).2.1) (m_wlL s1 w1 10) (by omega) (by rw [m_pL, ← hp]; rfl) (by exact okM_h1 hM1)
      exact L3 (nC h) 0 0 s it wl (by omega) (by rfl) (by exact hM)
    · refine x_bipush (v := (-3)) C dX6_pass_27 (by decide) ?_
      exact x_iret C hr E dX6_pass_29 (fun _ => 0) (by simp only [mX_pass, m_in, c1, c2,  if_true, if_false, ite_true, ite_false, and_true, true_and, and_false, false_and, or_true, true_or, or_false, false_or, not_true_eq_false, not_false_eq_true, and_self, or_self]) (by simp only [mX_pass, m_in, c1, c2,  if_true, if_false, ite_true, ite_false, and_true, true_and, and_false, false_and, or_true, true_or, or_false, false_or, not_true_eq_false, not_false_eq_true, and_self, or_self])
  · refine x_bipush (v := (-2)) C dX6_pass_10 (by decide) ?_
    exact x_iret C hr E dX6_pass_12 (fun _ => 0) (by simp only [mX_pass, m_in, c1,  if_true, if_false, ite_true, ite_false, and_true, true_and, and_false, false_and, or_true, true_or, or_false, false_or, not_true_eq_false, not_false_eq_true, and_self, or_self]) (by simp only [mX_pass, m_in, c1,  if_true, if_false, ite_true, ite_false, and_true, true_and, and_false, false_and, or_true, true_or, or_false, false_or, not_true_eq_false, not_false_eq_true, and_self, or_self])
def rm_X6_takenIn : Room := { frames := 7, cells := 0, slots := 0, locals := 167 }
set_option maxRecDepth 100000 in
set_option maxHeartbeats 600000 in
theorem c_X6_takenIn (l : Launch) (G : gG) (a : Nat → Nat) (s as_ hi : Nat → Int32) (kn : Nat) (sn : Nat → Int32) (ik : Int32) (tx : Nat → Int32) (ln : Nat) (it wl : Nat → Int32) (sp : Nat) (iw : Int32) (rs : Nat) (er : Int32) (h r : Int32)  (hM : okM s) : CT l yX6_takenIn cX6_takenIn 5 (some .int) rm_X6_takenIn G [.ref (a 0), .int h, .int r] (wM G a s as_ hi kn sn ik tx ln it wl sp iw rs er) (some (.int ((mX_takenIn s as_ it wl h r).1))) (fun _ => (wM G a ((mX_takenIn s as_ it wl h r).2.1) ((mX_takenIn s as_ it wl h r).2.2.1) hi kn sn ik tx ln ((mX_takenIn s as_ it wl h r).2.2.2.1) ((mX_takenIn s as_ it wl h r).2.2.2.2) sp iw rs er)) := by
  refine gMet (by decide) (Nat.le_of_ble_eq_true rfl) (fun X hX C hr hin E => ?_)
  clear hX
  refine (show gW G X (wM G a s as_ hi kn sn ik tx ln it wl sp iw rs er) 0 0 0 [(0, .ref (a 0)), (1, .int h), (2, .int r)] [] from ?_)
  refine x_iload_n C 1 rfl dX6_takenIn_0 rfl ?_
  refine x_callSd (As := [.int h]) (rest := []) C dX6_takenIn_1 (c_X6_isHorse (gX.l X) G h ) ml_X6_95 st_X6_isHorse in_X6 cd_X6_isHorse hd_X6_isHorse rfl rfl (Nat.le_of_ble_eq_true rfl) ⟨Nat.le_of_ble_eq_true rfl, Nat.le_of_ble_eq_true rfl⟩ [] (wM G a s as_ hi kn sn ik tx ln it wl sp iw rs er) rfl (ws' := (wM G a s as_ hi kn sn ik tx ln it wl sp iw rs er)) rfl (st' := [.int (bI (¬ (h < 0) ∧ ¬ (9 < h)))]) rfl ⟨rfl, rfl⟩ ⟨Nat.le_of_ble_eq_true rfl, Nat.le_of_ble_eq_true rfl⟩ ?_
  refine x_if_eqB (P := ¬ (h < 0) ∧ ¬ (9 < h)) (tgt := 14) C dX6_takenIn_4 (by decide) (fun c1 => ?_) (fun c1 => ?_)
  · refine x_iconst (v := (-1)) C dX6_takenIn_14 (by decide) ?_
    exact x_iret C hr E dX6_takenIn_15 (fun _ => 0) (by simp only [mX_takenIn, m_in, c1,  if_true, if_false, ite_true, ite_false, and_true, true_and, and_false, false_and, or_true, true_or, or_false, false_or, not_true_eq_false, not_false_eq_true, and_self, or_self]) (by simp only [mX_takenIn, m_in, c1,  if_true, if_false, ite_true, ite_false, and_true, true_and, and_false, false_and, or_true, true_or, or_false, false_or, not_true_eq_false, not_false_eq_true, and_self, or_self])
  · refine x_iload_n C 2 rfl dX6_takenIn_7 rfl ?_
    refine x_callSd (As := [.int r]) (rest := []) C dX6_takenIn_8 (c_X6_isRider (gX.l X) G r ) ml_X6_102 st_X6_isRider in_X6 cd_X6_isRider hd_X6_isRider rfl rfl (Nat.le_of_ble_eq_true rfl) ⟨Nat.le_of_ble_eq_true rfl, Nat.le_of_ble_eq_true rfl⟩ [] (wM G a s as_ hi kn sn ik tx ln it wl sp iw rs er) rfl (ws' := (wM G a s as_ hi kn sn ik tx ln it wl sp iw rs er)) rfl (st' := [.int (bI (¬ (r < 0) ∧ ¬ (11 < r)))]) rfl ⟨rfl, rfl⟩ ⟨Nat.le_of_ble_eq_true rfl, Nat.le_of_ble_eq_true rfl⟩ ?_
    refine x_if_neB (P := ¬ (r < 0) ∧ ¬ (11 < r)) (tgt := 16) C dX6_takenIn_11 (by decide) (fun c2 => ?_) (fun c2 => ?_)
    · have hN := g_in (x := h) (n := 9) (by decide) (by assumption)
      have hR := g_in (x := r) (n := 11) (by decide) (by assumption)
      refine x_aload_n C 0 rfl dX6_takenIn_16 rfl ?_
      refine x_callVd (As := []) (rest := []) C dX6_takenIn_17 (c_X6_putAside (gX.l X) G a s as_ hi kn sn ik tx ln it wl sp iw rs er ) ml_X6_123 im_X6_putAside sl_X6_putAside in_X6 cd_X6_putAside hd_X6_putAside 0 rfl rfl rfl rfl (Nat.le_of_ble_eq_true rfl) ⟨Nat.le_of_ble_eq_true rfl, Nat.le_of_ble_eq_true rfl⟩ (List.take 0 (wM G a s as_ hi kn sn ik tx ln it wl sp iw rs er)) (List.drop 8 (wM G a s as_ hi kn sn ik tx ln it wl sp iw rs er)) rfl (ws' := (wM G a s (cpL s as_ 0 0 378) hi kn sn ik tx ln it wl sp iw rs er)) rfl (st' := []) rfl ⟨rfl, rfl⟩ ⟨Nat.le_of_ble_eq_true rfl, Nat.le_of_ble_eq_true rfl⟩ ?_
      refine x_iconst (v := (nI 0)) C dX6_takenIn_20 (by decide) ?_
      refine x_istore_n (lv' := [(3, .int (nI 0)), (0, .ref (a 0)), (1, .int h), (2, .int r)]) C dX6_takenIn_21 rfl (by decide) rfl ?_
      refine x_iconst (v := (nI 0)) C dX6_takenIn_22 (by decide) ?_
      refine x_istore (lv' := [(4, .int (nI 0)), (3, .int (nI 0)), (0, .ref (a 0)), (1, .int h), (2, .int r)]) C dX6_takenIn_23 (by decide) rfl ?_
      have L3 : ∀ (fu : Nat) (n : Nat) (k : Int32) (s1 : Nat → Int32) (it1 : Nat → Int32) (w1 : Nat → Int32), n + fu = 201 → (m_tkR (nC h) (nC r) fu n (s1, it1, w1) = m_tk s it wl h r) → (okM s1) → gW G X (wM G a s1 (cpL s as_ 0 0 378) hi kn sn ik tx ln it1 w1 sp iw rs er) 0 0 25 [(4, .int k), (3, .int (nI n)), (0, .ref (a 0)), (1, .int h), (2, .int r)] [] := by
        intro fu
        induction fu with
        | zero =>
          intro n k s1 it1 w1 hn hr9 hM1
          refine x_iload_n C 1 rfl dX6_takenIn_25 rfl ?_
          refine x_sipush (v := (nI 200)) C dX6_takenIn_26 (by decide) ?_
          refine x_icmp_gtN (a := n) (b := 200) (tgt := 61) C dX6_takenIn_29 (by decide) (by omega) (by omega) (fun c4 => ?_) (fun c4 => False.elim (by omega))
          refine x_aload_n C 2 rfl dX6_takenIn_61 rfl ?_
          refine x_callVd (As := []) (rest := []) C dX6_takenIn_62 (c_X6_putBack (gX.l X) G a s1 (cpL s as_ 0 0 378) hi kn sn ik tx ln it1 w1 sp iw rs er ) ml_X6_172 im_X6_putBack sl_X6_putBack in_X6 cd_X6_putBack hd_X6_putBack 0 rfl rfl rfl rfl (Nat.le_of_ble_eq_true rfl) ⟨Nat.le_of_ble_eq_true rfl, Nat.le_of_ble_eq_true rfl⟩ (List.take 0 (wM G a s1 (cpL s as_ 0 0 378) hi kn sn ik tx ln it1 w1 sp iw rs er)) (List.drop 8 (wM G a s1 (cpL s as_ 0 0 378) hi kn sn ik tx ln it1 w1 sp iw rs er)) rfl (ws' := (wM G a (cpL (cpL s as_ 0 0 378) s1 0 0 378) (cpL s as_ 0 0 378) hi kn sn ik tx ln it1 w1 sp iw rs er)) rfl (st' := []) rfl ⟨rfl, rfl⟩ ⟨Nat.le_of_ble_eq_true rfl, Nat.le_of_ble_eq_true rfl⟩ ?_
          refine x_iload_n C 1 rfl dX6_takenIn_65 rfl ?_
          refine x_sipush (v := (nI 200)) C dX6_takenIn_66 (by decide) ?_
          refine x_icmp_leN (a := n) (b := 200) (tgt := 77) C dX6_takenIn_69 (by decide) (by omega) (by omega) (fun c5 => False.elim (c5 c4)) (fun c5 => ?_)
          refine x_bipush (v := (-5)) C dX6_takenIn_72 (by decide) ?_
          refine x_goto (tgt := 78) C dX6_takenIn_74 (by decide) ?_
          exact x_iret C hr E dX6_takenIn_78 (fun _ => 0) (by simp only [mX_takenIn, m_in, c1, c2, ← hr9, m_tkR, c4,  if_true, if_false, ite_true, ite_false, and_true, true_and, and_false, false_and, or_true, true_or, or_false, false_or, not_true_eq_false, not_false_eq_true, and_self, or_self] <;> rfl) (by simp only [mX_takenIn, m_in, c1, c2, ← hr9, m_tkR, c4,  if_true, if_false, ite_true, ite_false, and_true, true_and, and_false, false_and, or_true, true_or, or_false, false_or, not_true_eq_false, not_false_eq_true, and_self, or_self])
        | succ fu ih =>
          intro n k s1 it1 w1 hn hr9 hM1
          refine x_iload_n C 1 rfl dX6_takenIn_25 rfl ?_
          refine x_sipush (v := (nI 200)) C dX6_takenIn_26 (by decide) ?_
          refine x_icmp_gtN (a := n) (b := 200) (tgt := 61) C dX6_takenIn_29 (by decide) (by omega) (by omega) (fun c6 => False.elim (by omega)) (fun c6 => ?_)
          refine x_aload_n C 2 rfl dX6_takenIn_32 rfl ?_
          refine x_iload_n C 3 rfl dX6_takenIn_33 rfl ?_
          refine x_top (y := (nI (nC h))) hN.2 ?_
          refine x_iload_n C 4 rfl dX6_takenIn_34 rfl ?_
          refine x_top (y := (nI (nC r))) hR.2 ?_
          refine x_aload_n C 2 rfl dX6_takenIn_35 rfl ?_
          refine x_callVd (As := []) (rest := [.int (nI (nC r)), .int (nI (nC h)), .ref (a 0)]) C dX6_takenIn_36 (c_X6_shodHorse (gX.l X) G a s1 (cpL s as_ 0 0 378) hi kn sn ik tx ln it1 w1 sp iw rs er hM1.1) ml_X6_82 im_X6_shodHorse sl_X6_shodHorse in_X6 cd_X6_shodHorse hd_X6_shodHorse 0 rfl rfl rfl rfl (Nat.le_of_ble_eq_true rfl) ⟨Nat.le_of_ble_eq_true rfl, Nat.le_of_ble_eq_true rfl⟩ (List.take 0 (wM G a s1 (cpL s as_ 0 0 378) hi kn sn ik tx ln it1 w1 sp iw rs er)) (List.drop 8 (wM G a s1 (cpL s as_ 0 0 378) hi kn sn ik tx ln it1 w1 sp iw rs er)) rfl (ws' := (wM G a s1 (cpL s as_ 0 0 378) hi kn sn ik tx ln it1 w1 sp iw rs er)) rfl (st' := [.int (m_shod s1), .int (nI (nC r)), .int (nI (nC h)), .ref (a 0)]) rfl ⟨rfl, rfl⟩ ⟨Nat.le_of_ble_eq_true rfl, Nat.le_of_ble_eq_true rfl⟩ ?_
          refine x_callVd (As := [.int (nI (nC h)), .int (nI (nC r)), .int (m_shod s1)]) (rest := []) C dX6_takenIn_39 (c_X6_hindrance (gX.l X) G a s1 (cpL s as_ 0 0 378) hi kn sn ik tx ln it1 w1 sp iw rs er (nC h) (nC r) (m_shod s1) (by omega) (by omega)) ml_X6_54 im_X6_hindrance sl_X6_hindrance in_X6 cd_X6_hindrance hd_X6_hindrance 0 rfl rfl rfl rfl (Nat.le_of_ble_eq_true rfl) ⟨Nat.le_of_ble_eq_true rfl, Nat.le_of_ble_eq_true rfl⟩ (List.take 0 (wM G a s1 (cpL s as_ 0 0 378) hi kn sn ik tx ln it1 w1 sp iw rs er)) (List.drop 8 (wM G a s1 (cpL s as_ 0 0 378) hi kn sn ik tx ln it1 w1 sp iw rs er)) rfl (ws' := (wM G a s1 (cpL s as_ 0 0 378) hi kn sn ik tx ln it1 w1 sp iw rs er)) rfl (st' := [.int (m_hind s1 (nC h) (nC r) (m_shod s1))]) rfl ⟨rfl, rfl⟩ ⟨Nat.le_of_ble_eq_true rfl, Nat.le_of_ble_eq_true rfl⟩ ?_
          refine x_if_eq (x := (m_hind s1 (nC h) (nC r) (m_shod s1))) (tgt := 61) C dX6_takenIn_42 (by decide) (fun c7 => ?_) (fun c7 => ?_)
          · refine x_aload_n C 2 rfl dX6_takenIn_61 rfl ?_
            refine x_callVd (As := []) (rest := []) C dX6_takenIn_62 (c_X6_putBack (gX.l X) G a s1 (cpL s as_ 0 0 378) hi kn sn ik tx ln it1 w1 sp iw rs er ) ml_X6_172 im_X6_putBack sl_X6_putBack in_X6 cd_X6_putBack hd_X6_putBack 0 rfl rfl rfl rfl (Nat.le_of_ble_eq_true rfl) ⟨Nat.le_of_ble_eq_true rfl, Nat.le_of_ble_eq_true rfl⟩ (List.take 0 (wM G a s1 (cpL s as_ 0 0 378) hi kn sn ik tx ln it1 w1 sp iw rs er)) (List.drop 8 (wM G a s1 (cpL s as_ 0 0 378) hi kn sn ik tx ln it1 w1 sp iw rs er)) rfl (ws' := (wM G a (cpL (cpL s as_ 0 0 378) s1 0 0 378) (cpL s as_ 0 0 378) hi kn sn ik tx ln it1 w1 sp iw rs er)) rfl (st' := []) rfl ⟨rfl, rfl⟩ ⟨Nat.le_of_ble_eq_true rfl, Nat.le_of_ble_eq_true rfl⟩ ?_
            refine x_iload_n C 1 rfl dX6_takenIn_65 rfl ?_
            refine x_sipush (v := (nI 200)) C dX6_takenIn_66 (by decide) ?_
            refine x_icmp_leN (a := n) (b := 200) (tgt := 77) C dX6_takenIn_69 (by decide) (by omega) (by omega) (fun c8 => ?_) (fun c8 => False.elim (c6 c8))
            refine x_iload_n C 1 rfl dX6_takenIn_77 rfl ?_
            exact x_iret C hr E dX6_takenIn_78 (fun _ => 0) (by simp only [mX_takenIn, m_in, c1, c2, ← hr9, m_tkR, c6, c7,  if_true, if_false, ite_true, ite_false, and_true, true_and, and_false, false_and, or_true, true_or, or_false, false_or, not_true_eq_false, not_false_eq_true, and_self, or_self] <;> rfl) (by simp only [mX_takenIn, m_in, c1, c2, ← hr9, m_tkR, c6, c7,  if_true, if_false, ite_true, ite_false, and_true, true_and, and_false, false_and, or_true, true_or, or_false, false_or, not_true_eq_false, not_false_eq_true, and_self, or_self])
          · refine x_iload C 0 rfl dX6_takenIn_45 ?_
            refine x_aload_n C 2 rfl dX6_takenIn_47 rfl ?_
            refine x_iconst (v := (nI 0)) C dX6_takenIn_48 (by decide) ?_
            refine x_callVd (As := [.int (nI 0)]) (rest := [.int k]) C dX6_takenIn_49 (c_X6_hour0 (gX.l X) G a s1 (cpL s as_ 0 0 378) hi kn sn ik tx ln it1 w1 sp iw rs er hM1.1) ml_X6_132 im_X6_hour sl_X6_hour in_X6 cd_X6_hour hd_X6_hour 0 rfl rfl rfl rfl (Nat.le_of_ble_eq_true rfl) ⟨Nat.le_of_ble_eq_true rfl, Nat.le_of_ble_eq_true rfl⟩ (List.take 0 (wM G a s1 (cpL s as_ 0 0 378) hi kn sn ik tx ln it1 w1 sp iw rs er)) (List.drop 8 (wM G a s1 (cpL s as_ 0 0 378) hi kn sn ik tx ln it1 w1 sp iw rs er)) rfl (ws' := (wM G a (m_h0S s1 it1 w1) (cpL s as_ 0 0 378) hi kn sn ik tx ln (zeL it1 10) (m_wlL s1 w1 10) sp iw rs er)) rfl (st' := [.int 0, .int k]) rfl ⟨rfl, rfl⟩ ⟨Nat.le_of_ble_eq_true rfl, Nat.le_of_ble_eq_true rfl⟩ ?_
            refine x_iadd (x := k) (y := 0) C dX6_takenIn_52 ?_
            refine x_istore (lv' := [(4, .int (k + 0)), (3, .int (nI n)), (0, .ref (a 0)), (1, .int h), (2, .int r)]) C dX6_takenIn_53 (by decide) rfl ?_
            refine x_iinc (v := (nI (n + 1))) (lv' := [(3, .int (nI (n + 1))), (4, .int (k + 0)), (0, .ref (a 0)), (1, .int h), (2, .int r)]) C 1 rfl dX6_takenIn_55 (by rw [show Int32.ofInt 1 = nI 1 from rfl]; exact nI_add _ _) (by decide) rfl ?_
            refine x_goto (tgt := 25) C dX6_takenIn_58 (by decide) ?_
            refine x_lv [1, 0, 2, 3, 4] (lv' := [(4, .int (k + 0)), (3, .int (nI (n + 1))), (0, .ref (a 0)), (1, .int h), (2, .int r)]) rfl ?_
            exact ih (n + 1) (k + 0) (m_h0S s1 it1 w1) (zeL it1 10) (m_wlL s1 w1 10) (by omega) (by rw [← hr9, m_tkR, if_neg c7]; rfl) (by exact okM_h0 hM1)
      exact L3 201 0 0 s it wl (by omega) (by rfl) (by exact hM)
    · refine x_iconst (v := (-1)) C dX6_takenIn_14 (by decide) ?_
      exact x_iret C hr E dX6_takenIn_15 (fun _ => 0) (by simp only [mX_takenIn, m_in, c1, c2,  if_true, if_false, ite_true, ite_false, and_true, true_and, and_false, false_and, or_true, true_or, or_false, false_or, not_true_eq_false, not_false_eq_true, and_self, or_self]) (by simp only [mX_takenIn, m_in, c1, c2,  if_true, if_false, ite_true, ite_false, and_true, true_and, and_false, false_and, or_true, true_or, or_false, false_or, not_true_eq_false, not_false_eq_true, and_self, or_self])
def rm_X6_ifPassed : Room := { frames := 7, cells := 0, slots := 0, locals := 167 }
set_option maxRecDepth 100000 in
set_option maxHeartbeats 600000 in
theorem c_X6_ifPassed (l : Launch) (G : gG) (a : Nat → Nat) (s as_ hi : Nat → Int32) (kn : Nat) (sn : Nat → Int32) (ik : Int32) (tx : Nat → Int32) (ln : Nat) (it wl : Nat → Int32) (sp : Nat) (iw : Int32) (rs : Nat) (er : Int32) (h w : Int32)  (hM : okM s) : CT l yX6_ifPassed cX6_ifPassed 7 (some .int) rm_X6_ifPassed G [.ref (a 0), .int h, .int w] (wM G a s as_ hi kn sn ik tx ln it wl sp iw rs er) (some (.int ((mX_ifPassed s as_ it wl h w).1))) (fun _ => (wM G a ((mX_ifPassed s as_ it wl h w).2.1) ((mX_ifPassed s as_ it wl h w).2.2.1) hi kn sn ik tx ln ((mX_ifPassed s as_ it wl h w).2.2.2.1) ((mX_ifPassed s as_ it wl h w).2.2.2.2) sp iw rs er)) := by
  refine gMet (by decide) (Nat.le_of_ble_eq_true rfl) (fun X hX C hr hin E => ?_)
  clear hX
  refine (show gW G X (wM G a s as_ hi kn sn ik tx ln it wl sp iw rs er) 0 0 0 [(0, .ref (a 0)), (1, .int h), (2, .int w)] [] from ?_)
  refine x_iload_n C 1 rfl dX6_ifPassed_0 rfl ?_
  refine x_iconst (v := (nI 1)) C dX6_ifPassed_1 (by decide) ?_
  refine x_bipush (v := (nI 99)) C dX6_ifPassed_2 (by decide) ?_
  refine x_callSd (As := [.int h, .int (nI 1), .int (nI 99)]) (rest := []) C dX6_ifPassed_4 (c_X6_in (gX.l X) G h 1 99 ) ml_X6_38 st_X6_in in_X6 cd_X6_in hd_X6_in rfl rfl (Nat.le_of_ble_eq_true rfl) ⟨Nat.le_of_ble_eq_true rfl, Nat.le_of_ble_eq_true rfl⟩ [] (wM G a s as_ hi kn sn ik tx ln it wl sp iw rs er) rfl (ws' := (wM G a s as_ hi kn sn ik tx ln it wl sp iw rs er)) rfl (st' := [.int (bI (¬ (h < 1) ∧ ¬ (99 < h)))]) rfl ⟨rfl, rfl⟩ ⟨Nat.le_of_ble_eq_true rfl, Nat.le_of_ble_eq_true rfl⟩ ?_
  refine x_if_eqB (P := ¬ (h < 1) ∧ ¬ (99 < h)) (tgt := 19) C dX6_ifPassed_7 (by decide) (fun c1 => ?_) (fun c1 => ?_)
  · refine x_bipush (v := (-2)) C dX6_ifPassed_19 (by decide) ?_
    exact x_iret C hr E dX6_ifPassed_21 (fun _ => 0) (by simp only [mX_ifPassed, m_in, c1,  if_true, if_false, ite_true, ite_false, and_true, true_and, and_false, false_and, or_true, true_or, or_false, false_or, not_true_eq_false, not_false_eq_true, and_self, or_self]) (by simp only [mX_ifPassed, m_in, c1,  if_true, if_false, ite_true, ite_false, and_true, true_and, and_false, false_and, or_true, true_or, or_false, false_or, not_true_eq_false, not_false_eq_true, and_self, or_self])
  · refine x_iload_n C 2 rfl dX6_ifPassed_10 rfl ?_
    refine x_iconst (v := (nI 0)) C dX6_ifPassed_11 (by decide) ?_
    refine x_iconst (v := (nI 3)) C dX6_ifPassed_12 (by decide) ?_
    refine x_callSd (As := [.int w, .int (nI 0), .int (nI 3)]) (rest := []) C dX6_ifPassed_13 (c_X6_in (gX.l X) G w 0 3 ) ml_X6_38 st_X6_in in_X6 cd_X6_in hd_X6_in rfl rfl (Nat.le_of_ble_eq_true rfl) ⟨Nat.le_of_ble_eq_true rfl, Nat.le_of_ble_eq_true rfl⟩ [] (wM G a s as_ hi kn sn ik tx ln it wl sp iw rs er) rfl (ws' := (wM G a s as_ hi kn sn ik tx ln it wl sp iw rs er)) rfl (st' := [.int (bI (¬ (w < 0) ∧ ¬ (3 < w)))]) rfl ⟨rfl, rfl⟩ ⟨Nat.le_of_ble_eq_true rfl, Nat.le_of_ble_eq_true rfl⟩ ?_
    refine x_if_neB (P := ¬ (w < 0) ∧ ¬ (3 < w)) (tgt := 22) C dX6_ifPassed_16 (by decide) (fun c2 => ?_) (fun c2 => ?_)
    · have hN := g_in2 (x := h) (lo := 1) (n := 99) (by decide) (by decide) (by assumption)
      refine x_aload_n C 0 rfl dX6_ifPassed_22 rfl ?_
      refine x_callVd (As := []) (rest := []) C dX6_ifPassed_23 (c_X6_putAside (gX.l X) G a s as_ hi kn sn ik tx ln it wl sp iw rs er ) ml_X6_123 im_X6_putAside sl_X6_putAside in_X6 cd_X6_putAside hd_X6_putAside 0 rfl rfl rfl rfl (Nat.le_of_ble_eq_true rfl) ⟨Nat.le_of_ble_eq_true rfl, Nat.le_of_ble_eq_true rfl⟩ (List.take 0 (wM G a s as_ hi kn sn ik tx ln it wl sp iw rs er)) (List.drop 8 (wM G a s as_ hi kn sn ik tx ln it wl sp iw rs er)) rfl (ws' := (wM G a s (cpL s as_ 0 0 378) hi kn sn ik tx ln it wl sp iw rs er)) rfl (st' := []) rfl ⟨rfl, rfl⟩ ⟨Nat.le_of_ble_eq_true rfl, Nat.le_of_ble_eq_true rfl⟩ ?_
      refine x_iconst (v := (nI 0)) C dX6_ifPassed_26 (by decide) ?_
      refine x_istore_n (lv' := [(3, .int (nI 0)), (0, .ref (a 0)), (1, .int h), (2, .int w)]) C dX6_ifPassed_27 rfl (by decide) rfl ?_
      refine x_iconst (v := (nI 0)) C dX6_ifPassed_28 (by decide) ?_
      refine x_istore (lv' := [(4, .int (nI 0)), (3, .int (nI 0)), (0, .ref (a 0)), (1, .int h), (2, .int w)]) C dX6_ifPassed_29 (by decide) rfl ?_
      have L3 : ∀ (fu : Nat) (k : Nat) (acc : Int32) (s1 : Nat → Int32) (it1 : Nat → Int32) (w1 : Nat → Int32), k + fu = nC h → ((s1, it1, w1, acc) = m_pL (s, it, wl, 0) k) → (okM s1) → gW G X (wM G a s1 (cpL s as_ 0 0 378) hi kn sn ik tx ln it1 w1 sp iw rs er) 0 0 31 [(4, .int (nI k)), (3, .int acc), (0, .ref (a 0)), (1, .int h), (2, .int w)] [] := by
        intro fu
        induction fu with
        | zero =>
          intro k acc s1 it1 w1 hn hp hM1
          have hk9 : k = nC h := by omega
          have hp9 : (s1, it1, w1, acc) = m_pL (s, it, wl, 0) (nC h) := by rw [hp, hk9]
          refine x_iload C 0 rfl dX6_ifPassed_31 ?_
          refine x_iload_n C 3 rfl dX6_ifPassed_33 rfl ?_
          refine x_top (y := (nI (nC h))) hN.2.2 ?_
          refine x_icmp_geN (a := k) (b := (nC h)) (tgt := 51) C dX6_ifPassed_34 (by decide) (by omega) (by omega) (fun c4 => ?_) (fun c4 => False.elim (by omega))
          refine x_aload_n C 2 rfl dX6_ifPassed_51 rfl ?_
          refine x_get (k := 0) (v := .ref (a 1)) C dX6_ifPassed_52 layX6 fl_X6_7 0 rfl rfl (by decide) rfl ?_
          refine x_sipush (v := (nI 315)) C dX6_ifPassed_55 (by decide) ?_
          refine x_iald (j := 315) C dX6_ifPassed_58 1 rfl rfl (by omega) (by omega) ?_
          refine x_aload_n C 2 rfl dX6_ifPassed_59 rfl ?_
          refine x_get (k := 1) (v := .ref (a 2)) C dX6_ifPassed_60 layX6 fl_X6_13 0 rfl rfl (by decide) rfl ?_
          refine x_sipush (v := (nI 315)) C dX6_ifPassed_63 (by decide) ?_
          refine x_iald (j := 315) C dX6_ifPassed_66 2 rfl rfl (by omega) (by omega) ?_
          refine x_isub (x := (s1 315)) (y := ((cpL s as_ 0 0 378) 315)) C dX6_ifPassed_67 ?_
          refine x_istore (lv' := [(4, .int ((s1 315) - ((cpL s as_ 0 0 378) 315))), (3, .int acc), (0, .ref (a 0)), (1, .int h), (2, .int w)]) C dX6_ifPassed_68 (by decide) rfl ?_
          refine x_aload_n C 2 rfl dX6_ifPassed_70 rfl ?_
          refine x_get (k := 0) (v := .ref (a 1)) C dX6_ifPassed_71 layX6 fl_X6_7 0 rfl rfl (by decide) rfl ?_
          refine x_sipush (v := (nI 314)) C dX6_ifPassed_74 (by decide) ?_
          refine x_iald (j := 314) C dX6_ifPassed_77 1 rfl rfl (by omega) (by omega) ?_
          refine x_aload_n C 2 rfl dX6_ifPassed_78 rfl ?_
          refine x_get (k := 1) (v := .ref (a 2)) C dX6_ifPassed_79 layX6 fl_X6_13 0 rfl rfl (by decide) rfl ?_
          refine x_sipush (v := (nI 314)) C dX6_ifPassed_82 (by decide) ?_
          refine x_iald (j := 314) C dX6_ifPassed_85 2 rfl rfl (by omega) (by omega) ?_
          refine x_isub (x := (s1 314)) (y := ((cpL s as_ 0 0 378) 314)) C dX6_ifPassed_86 ?_
          refine x_istore (lv' := [(5, .int ((s1 314) - ((cpL s as_ 0 0 378) 314))), (4, .int ((s1 315) - ((cpL s as_ 0 0 378) 315))), (3, .int acc), (0, .ref (a 0)), (1, .int h), (2, .int w)]) C dX6_ifPassed_87 (by decide) rfl ?_
          refine x_aload_n C 3 rfl dX6_ifPassed_89 rfl ?_
          refine x_callVd (As := []) (rest := []) C dX6_ifPassed_90 (c_X6_lameHorses (gX.l X) G a s1 (cpL s as_ 0 0 378) hi kn sn ik tx ln it1 w1 sp iw rs er ) ml_X6_184 im_X6_lameHorses sl_X6_lameHorses in_X6 cd_X6_lameHorses hd_X6_lameHorses 0 rfl rfl rfl rfl (Nat.le_of_ble_eq_true rfl) ⟨Nat.le_of_ble_eq_true rfl, Nat.le_of_ble_eq_true rfl⟩ (List.take 0 (wM G a s1 (cpL s as_ 0 0 378) hi kn sn ik tx ln it1 w1 sp iw rs er)) (List.drop 8 (wM G a s1 (cpL s as_ 0 0 378) hi kn sn ik tx ln it1 w1 sp iw rs er)) rfl (ws' := (wM G a s1 (cpL s as_ 0 0 378) hi kn sn ik tx ln it1 w1 sp iw rs er)) rfl (st' := [.int (m_lame s1 10)]) rfl ⟨rfl, rfl⟩ ⟨Nat.le_of_ble_eq_true rfl, Nat.le_of_ble_eq_true rfl⟩ ?_
          refine x_istore (lv' := [(6, .int (m_lame s1 10)), (5, .int ((s1 314) - ((cpL s as_ 0 0 378) 314))), (4, .int ((s1 315) - ((cpL s as_ 0 0 378) 315))), (3, .int acc), (0, .ref (a 0)), (1, .int h), (2, .int w)]) C dX6_ifPassed_93 (by decide) rfl ?_
          refine x_aload_n C 4 rfl dX6_ifPassed_95 rfl ?_
          refine x_callVd (As := []) (rest := []) C dX6_ifPassed_96 (c_X6_putBack (gX.l X) G a s1 (cpL s as_ 0 0 378) hi kn sn ik tx ln it1 w1 sp iw rs er ) ml_X6_172 im_X6_putBack sl_X6_putBack in_X6 cd_X6_putBack hd_X6_putBack 0 rfl rfl rfl rfl (Nat.le_of_ble_eq_true rfl) ⟨Nat.le_of_ble_eq_true rfl, Nat.le_of_ble_eq_true rfl⟩ (List.take 0 (wM G a s1 (cpL s as_ 0 0 378) hi kn sn ik tx ln it1 w1 sp iw rs er)) (List.drop 8 (wM G a s1 (cpL s as_ 0 0 378) hi kn sn ik tx ln it1 w1 sp iw rs er)) rfl (ws' := (wM G a (cpL (cpL s as_ 0 0 378) s1 0 0 378) (cpL s as_ 0 0 378) hi kn sn ik tx ln it1 w1 sp iw rs er)) rfl (st' := []) rfl ⟨rfl, rfl⟩ ⟨Nat.le_of_ble_eq_true rfl, Nat.le_of_ble_eq_true rfl⟩ ?_
          refine x_iload_n C 6 rfl dX6_ifPassed_99 rfl ?_
          refine x_if_ne (x := w) (tgt := 107) C dX6_ifPassed_100 (by decide) (fun c5 => ?_) (fun c5 => ?_)
          · refine x_iload_n C 6 rfl dX6_ifPassed_107 rfl ?_
            refine x_iconst (v := (nI 1)) C dX6_ifPassed_108 (by decide) ?_
            refine x_icmp_ne (x := w) (y := 1) (tgt := 117) C dX6_ifPassed_109 (by decide) (fun c6 => ?_) (fun c6 => ?_)
            · refine x_iload_n C 6 rfl dX6_ifPassed_117 rfl ?_
              refine x_iconst (v := (nI 2)) C dX6_ifPassed_118 (by decide) ?_
              refine x_icmp_ne (x := w) (y := 2) (tgt := 127) C dX6_ifPassed_119 (by decide) (fun c7 => ?_) (fun c7 => ?_)
              · refine x_iload C 0 rfl dX6_ifPassed_127 ?_
                exact x_iret C hr E dX6_ifPassed_129 (fun _ => 0) (by simp (config := {decide := true}) only [mX_ifPassed, m_in, c1, c2, m_if, ← hp9, c4, c5, c6, c7,  if_true, if_false, ite_true, ite_false, and_true, true_and, and_false, false_and, or_true, true_or, or_false, false_or, not_true_eq_false, not_false_eq_true, and_self, or_self]) (by simp (config := {decide := true}) only [mX_ifPassed, m_in, c1, c2, m_if, ← hp9, c4, c5, c6, c7,  if_true, if_false, ite_true, ite_false, and_true, true_and, and_false, false_and, or_true, true_or, or_false, false_or, not_true_eq_false, not_false_eq_true, and_self, or_self])
              · refine x_iload C 1 rfl dX6_ifPassed_122 ?_
                refine x_goto (tgt := 129) C dX6_ifPassed_124 (by decide) ?_
                exact x_iret C hr E dX6_ifPassed_129 (fun _ => 0) (by simp (config := {decide := true}) only [mX_ifPassed, m_in, c1, c2, m_if, ← hp9, c4, c5, c6, c7,  if_true, if_false, ite_true, ite_false, and_true, true_and, and_false, false_and, or_true, true_or, or_false, false_or, not_true_eq_false, not_false_eq_true, and_self, or_self]) (by simp (config := {decide := true}) only [mX_ifPassed, m_in, c1, c2, m_if, ← hp9, c4, c5, c6, c7,  if_true, if_false, ite_true, ite_false, and_true, true_and, and_false, false_and, or_true, true_or, or_false, false_or, not_true_eq_false, not_false_eq_true, and_self, or_self])
            · refine x_iload C 2 rfl dX6_ifPassed_112 ?_
              refine x_goto (tgt := 129) C dX6_ifPassed_114 (by decide) ?_
              exact x_iret C hr E dX6_ifPassed_129 (fun _ => 0) (by simp (config := {decide := true}) only [mX_ifPassed, m_in, c1, c2, m_if, ← hp9, c4, c5, c6,  if_true, if_false, ite_true, ite_false, and_true, true_and, and_false, false_and, or_true, true_or, or_false, false_or, not_true_eq_false, not_false_eq_true, and_self, or_self]) (by simp (config := {decide := true}) only [mX_ifPassed, m_in, c1, c2, m_if, ← hp9, c4, c5, c6,  if_true, if_false, ite_true, ite_false, and_true, true_and, and_false, false_and, or_true, true_or, or_false, false_or, not_true_eq_false, not_false_eq_true, and_self, or_self])
          · refine x_iload_n C 3 rfl dX6_ifPassed_103 rfl ?_
            refine x_goto (tgt := 129) C dX6_ifPassed_104 (by decide) ?_
            exact x_iret C hr E dX6_ifPassed_129 (fun _ => 0) (by simp (config := {decide := true}) only [mX_ifPassed, m_in, c1, c2, m_if, ← hp9, c4, c5,  if_true, if_false, ite_true, ite_false, and_true, true_and, and_false, false_and, or_true, true_or, or_false, false_or, not_true_eq_false, not_false_eq_true, and_self, or_self]) (by simp (config := {decide := true}) only [mX_ifPassed, m_in, c1, c2, m_if, ← hp9, c4, c5,  if_true, if_false, ite_true, ite_false, and_true, true_and, and_false, false_and, or_true, true_or, or_false, false_or, not_true_eq_false, not_false_eq_true, and_self, or_self])
        | succ fu ih =>
          intro k acc s1 it1 w1 hn hp hM1
          refine x_iload C 0 rfl dX6_ifPassed_31 ?_
          refine x_iload_n C 3 rfl dX6_ifPassed_33 rfl ?_
          refine x_top (y := (nI (nC h))) hN.2.2 ?_
          refine x_icmp_geN (a := k) (b := (nC h)) (tgt := 51) C dX6_ifPassed_34 (by decide) (by omega) (by omega) (fun c8 => False.elim (by omega)) (fun c8 => ?_)
          refine x_iload_n C 1 rfl dX6_ifPassed_37 rfl ?_
          refine x_aload_n C 2 rfl dX6_ifPassed_38 rfl ?_
          refine x_iconst (v := (nI 1)) C dX6_ifPassed_39 (by decide) ?_
          refine x_callVd (As := [.int (nI 1)]) (rest := [.int acc]) C dX6_ifPassed_40 (c_X6_hour1 (gX.l X) G a s1 (cpL s as_ 0 0 378) hi kn sn ik tx ln it1 w1 sp iw rs er hM1.1 hM1.2.1 hM1.2.2.1 hM1.2.2.2) ml_X6_132 im_X6_hour sl_X6_hour in_X6 cd_X6_hour hd_X6_hour 0 rfl rfl rfl rfl (Nat.le_of_ble_eq_true rfl) ⟨Nat.le_of_ble_eq_true rfl, Nat.le_of_ble_eq_true rfl⟩ (List.take 0 (wM G a s1 (cpL s as_ 0 0 378) hi kn sn ik tx ln it1 w1 sp iw rs er)) (List.drop 8 (wM G a s1 (cpL s as_ 0 0 378) hi kn sn ik tx ln it1 w1 sp iw rs er)) rfl (ws' := (wM G a (m_h1S s1 it1 w1) (cpL s as_ 0 0 378) hi kn sn ik tx ln ((m_h1G s1 it1).2.1) (m_wlL s1 w1 10) sp iw rs er)) rfl (st' := [.int ((m_h1G s1 it1).2.2.1), .int acc]) rfl ⟨rfl, rfl⟩ ⟨Nat.le_of_ble_eq_true rfl, Nat.le_of_ble_eq_true rfl⟩ ?_
          refine x_iadd (x := acc) (y := ((m_h1G s1 it1).2.2.1)) C dX6_ifPassed_43 ?_
          refine x_istore_n (lv' := [(3, .int (acc + ((m_h1G s1 it1).2.2.1))), (4, .int (nI k)), (0, .ref (a 0)), (1, .int h), (2, .int w)]) C dX6_ifPassed_44 rfl (by decide) rfl ?_
          refine x_iinc (v := (nI (k + 1))) (lv' := [(4, .int (nI (k + 1))), (3, .int (acc + ((m_h1G s1 it1).2.2.1))), (0, .ref (a 0)), (1, .int h), (2, .int w)]) C 1 rfl dX6_ifPassed_45 (by rw [show Int32.ofInt 1 = nI 1 from rfl]; exact nI_add _ _) (by decide) rfl ?_
          refine x_goto (tgt := 31) C dX6_ifPassed_48 (by decide) ?_
          exact ih (k + 1) (acc + ((m_h1G s1 it1).2.2.1)) (m_h1S s1 it1 w1) ((m_h1G s1 it1).2.1) (m_wlL s1 w1 10) (by omega) (by rw [m_pL, ← hp]; rfl) (by exact okM_h1 hM1)
      exact L3 (nC h) 0 0 s it wl (by omega) (by rfl) (by exact hM)
    · refine x_bipush (v := (-2)) C dX6_ifPassed_19 (by decide) ?_
      exact x_iret C hr E dX6_ifPassed_21 (fun _ => 0) (by simp only [mX_ifPassed, m_in, c1, c2,  if_true, if_false, ite_true, ite_false, and_true, true_and, and_false, false_and, or_true, true_or, or_false, false_or, not_true_eq_false, not_false_eq_true, and_self, or_self]) (by simp only [mX_ifPassed, m_in, c1, c2,  if_true, if_false, ite_true, ite_false, and_true, true_and, and_false, false_and, or_true, true_or, or_false, false_or, not_true_eq_false, not_false_eq_true, and_self, or_self])
def rm_X6_busiest : Room := { frames := 2, cells := 0, slots := 0, locals := 45 }
set_option maxRecDepth 100000 in
set_option maxHeartbeats 600000 in
theorem c_X6_busiest (l : Launch) (G : gG) (a : Nat → Nat) (s as_ hi : Nat → Int32) (kn : Nat) (sn : Nat → Int32) (ik : Int32) (tx : Nat → Int32) (ln : Nat) (it wl : Nat → Int32) (sp : Nat) (iw : Int32) (rs : Nat) (er : Int32)  (hB : okB (s 192)) : CT l yX6_busiest cX6_busiest 6 (some .int) rm_X6_busiest G [.ref (a 0)] (wM G a s as_ hi kn sn ik tx ln it wl sp iw rs er) (some (.int ((m_busL s 100).1))) (fun _ => (wM G a s as_ hi kn sn ik tx ln it wl sp iw rs er)) := by
  refine gMet (by decide) (Nat.le_of_ble_eq_true rfl) (fun X hX C hr hin E => ?_)
  clear hX
  refine (show gW G X (wM G a s as_ hi kn sn ik tx ln it wl sp iw rs er) 0 0 0 [(0, .ref (a 0))] [] from ?_)
  refine x_bipush (v := (-5)) C dX6_busiest_0 (by decide) ?_
  refine x_istore_n (lv' := [(1, .int (-5)), (0, .ref (a 0))]) C dX6_busiest_2 rfl (by decide) rfl ?_
  refine x_iconst (v := (nI 0)) C dX6_busiest_3 (by decide) ?_
  refine x_istore_n (lv' := [(2, .int (nI 0)), (1, .int (-5)), (0, .ref (a 0))]) C dX6_busiest_4 rfl (by decide) rfl ?_
  refine x_iconst (v := (nI 0)) C dX6_busiest_5 (by decide) ?_
  refine x_istore_n (lv' := [(3, .int (nI 0)), (2, .int (nI 0)), (1, .int (-5)), (0, .ref (a 0))]) C dX6_busiest_6 rfl (by decide) rfl ?_
  have L1 : ∀ (fu : Nat) (i : Nat) (f : Int32) (g : Int32), i + fu = 100 → ((f, g) = m_busL s i) → gW G X (wM G a s as_ hi kn sn ik tx ln it wl sp iw rs er) 0 0 7 [(3, .int (nI i)), (2, .int g), (1, .int f), (0, .ref (a 0))] [] := by
    intro fu
    induction fu with
    | zero =>
      intro i f g hn ha
      have hi9 : i = 100 := by omega
      refine x_iload_n C 0 rfl dX6_busiest_7 rfl ?_
      refine x_bipush (v := (nI 100)) C dX6_busiest_8 (by decide) ?_
      refine x_icmp_geN (a := i) (b := 100) (tgt := 79) C dX6_busiest_10 (by decide) (by omega) (by omega) (fun c2 => ?_) (fun c2 => False.elim (by omega))
      refine x_iload_n C 2 rfl dX6_busiest_79 rfl ?_
      exact x_iret C hr E dX6_busiest_80 (fun _ => 0) (by rw [hi9] at ha; rw [← ha]) rfl
    | succ fu ih =>
      intro i f g hn ha
      refine x_iload_n C 0 rfl dX6_busiest_7 rfl ?_
      refine x_bipush (v := (nI 100)) C dX6_busiest_8 (by decide) ?_
      refine x_icmp_geN (a := i) (b := 100) (tgt := 79) C dX6_busiest_10 (by decide) (by omega) (by omega) (fun c3 => False.elim (by omega)) (fun c3 => ?_)
      refine x_aload_n C 3 rfl dX6_busiest_13 rfl ?_
      refine x_get (k := 0) (v := .ref (a 1)) C dX6_busiest_14 layX6 fl_X6_7 0 rfl rfl (by decide) rfl ?_
      refine x_iconst (v := (nI 0)) C dX6_busiest_17 (by decide) ?_
      refine x_iald (j := 0) C dX6_busiest_18 1 rfl rfl (by omega) (by omega) ?_
      refine x_iload_n C 0 rfl dX6_busiest_19 rfl ?_
      refine x_iadd (x := (s 0)) (y := (nI i)) C dX6_busiest_20 ?_
      refine x_istore (lv' := [(4, .int ((s 0) + (nI i))), (3, .int (nI i)), (2, .int g), (1, .int f), (0, .ref (a 0))]) C dX6_busiest_21 (by decide) rfl ?_
      refine x_aload_n C 4 rfl dX6_busiest_23 rfl ?_
      refine x_iload C 0 rfl dX6_busiest_24 ?_
      refine x_iconst (v := (nI 0)) C dX6_busiest_26 (by decide) ?_
      refine x_callVd (As := [.int ((s 0) + (nI i)), .int (nI 0)]) (rest := []) C dX6_busiest_27 (c_X6_bookedFor (gX.l X) G a s as_ hi kn sn ik tx ln it wl sp iw rs er ((s 0) + (nI i)) 0 hB) ml_X6_120 im_X6_bookedFor sl_X6_bookedFor in_X6 cd_X6_bookedFor hd_X6_bookedFor 0 rfl rfl rfl rfl (Nat.le_of_ble_eq_true rfl) ⟨Nat.le_of_ble_eq_true rfl, Nat.le_of_ble_eq_true rfl⟩ (List.take 0 (wM G a s as_ hi kn sn ik tx ln it wl sp iw rs er)) (List.drop 8 (wM G a s as_ hi kn sn ik tx ln it wl sp iw rs er)) rfl (ws' := (wM G a s as_ hi kn sn ik tx ln it wl sp iw rs er)) rfl (st' := [.int (m_bf s ((s 0) + (nI i)) 0 (nC (s 192)))]) rfl ⟨rfl, rfl⟩ ⟨Nat.le_of_ble_eq_true rfl, Nat.le_of_ble_eq_true rfl⟩ ?_
      refine x_aload_n C 4 rfl dX6_busiest_30 rfl ?_
      refine x_iload C 0 rfl dX6_busiest_31 ?_
      refine x_iconst (v := (nI 1)) C dX6_busiest_33 (by decide) ?_
      refine x_callVd (As := [.int ((s 0) + (nI i)), .int (nI 1)]) (rest := [.int (m_bf s ((s 0) + (nI i)) 0 (nC (s 192)))]) C dX6_busiest_34 (c_X6_bookedFor (gX.l X) G a s as_ hi kn sn ik tx ln it wl sp iw rs er ((s 0) + (nI i)) 1 hB) ml_X6_120 im_X6_bookedFor sl_X6_bookedFor in_X6 cd_X6_bookedFor hd_X6_bookedFor 0 rfl rfl rfl rfl (Nat.le_of_ble_eq_true rfl) ⟨Nat.le_of_ble_eq_true rfl, Nat.le_of_ble_eq_true rfl⟩ (List.take 0 (wM G a s as_ hi kn sn ik tx ln it wl sp iw rs er)) (List.drop 8 (wM G a s as_ hi kn sn ik tx ln it wl sp iw rs er)) rfl (ws' := (wM G a s as_ hi kn sn ik tx ln it wl sp iw rs er)) rfl (st' := [.int (m_bf s ((s 0) + (nI i)) 1 (nC (s 192))), .int (m_bf s ((s 0) + (nI i)) 0 (nC (s 192)))]) rfl ⟨rfl, rfl⟩ ⟨Nat.le_of_ble_eq_true rfl, Nat.le_of_ble_eq_true rfl⟩ ?_
      refine x_iadd (x := (m_bf s ((s 0) + (nI i)) 0 (nC (s 192)))) (y := (m_bf s ((s 0) + (nI i)) 1 (nC (s 192)))) C dX6_busiest_37 ?_
      refine x_aload_n C 4 rfl dX6_busiest_38 rfl ?_
      refine x_iload C 0 rfl dX6_busiest_39 ?_
      refine x_iconst (v := (nI 2)) C dX6_busiest_41 (by decide) ?_
      refine x_callVd (As := [.int ((s 0) + (nI i)), .int (nI 2)]) (rest := [.int ((m_bf s ((s 0) + (nI i)) 0 (nC (s 192))) + (m_bf s ((s 0) + (nI i)) 1 (nC (s 192))))]) C dX6_busiest_42 (c_X6_bookedFor (gX.l X) G a s as_ hi kn sn ik tx ln it wl sp iw rs er ((s 0) + (nI i)) 2 hB) ml_X6_120 im_X6_bookedFor sl_X6_bookedFor in_X6 cd_X6_bookedFor hd_X6_bookedFor 0 rfl rfl rfl rfl (Nat.le_of_ble_eq_true rfl) ⟨Nat.le_of_ble_eq_true rfl, Nat.le_of_ble_eq_true rfl⟩ (List.take 0 (wM G a s as_ hi kn sn ik tx ln it wl sp iw rs er)) (List.drop 8 (wM G a s as_ hi kn sn ik tx ln it wl sp iw rs er)) rfl (ws' := (wM G a s as_ hi kn sn ik tx ln it wl sp iw rs er)) rfl (st' := [.int (m_bf s ((s 0) + (nI i)) 2 (nC (s 192))), .int ((m_bf s ((s 0) + (nI i)) 0 (nC (s 192))) + (m_bf s ((s 0) + (nI i)) 1 (nC (s 192))))]) rfl ⟨rfl, rfl⟩ ⟨Nat.le_of_ble_eq_true rfl, Nat.le_of_ble_eq_true rfl⟩ ?_
      refine x_iadd (x := ((m_bf s ((s 0) + (nI i)) 0 (nC (s 192))) + (m_bf s ((s 0) + (nI i)) 1 (nC (s 192))))) (y := (m_bf s ((s 0) + (nI i)) 2 (nC (s 192)))) C dX6_busiest_45 ?_
      refine x_istore (lv' := [(5, .int (((m_bf s ((s 0) + (nI i)) 0 (nC (s 192))) + (m_bf s ((s 0) + (nI i)) 1 (nC (s 192)))) + (m_bf s ((s 0) + (nI i)) 2 (nC (s 192))))), (4, .int ((s 0) + (nI i))), (3, .int (nI i)), (2, .int g), (1, .int f), (0, .ref (a 0))]) C dX6_busiest_46 (by decide) rfl ?_
      refine x_iload C 0 rfl dX6_busiest_48 ?_
      refine x_iload_n C 3 rfl dX6_busiest_50 rfl ?_
      refine x_icmp_le (x := (((m_bf s ((s 0) + (nI i)) 0 (nC (s 192))) + (m_bf s ((s 0) + (nI i)) 1 (nC (s 192)))) + (m_bf s ((s 0) + (nI i)) 2 (nC (s 192))))) (y := g) (tgt := 58) C dX6_busiest_51 (by decide) (fun c4 => ?_) (fun c4 => ?_)
      · refine x_iload_n C 4 rfl dX6_busiest_58 rfl ?_
        refine x_istore_n (lv' := [(1, .int f), (5, .int (((m_bf s ((s 0) + (nI i)) 0 (nC (s 192))) + (m_bf s ((s 0) + (nI i)) 1 (nC (s 192)))) + (m_bf s ((s 0) + (nI i)) 2 (nC (s 192))))), (4, .int ((s 0) + (nI i))), (3, .int (nI i)), (2, .int g), (0, .ref (a 0))]) C dX6_busiest_59 rfl (by decide) rfl ?_
        refine x_iload C 1 rfl dX6_busiest_60 ?_
        refine x_iload_n C 4 rfl dX6_busiest_62 rfl ?_
        refine x_icmp_le (x := (((m_bf s ((s 0) + (nI i)) 0 (nC (s 192))) + (m_bf s ((s 0) + (nI i)) 1 (nC (s 192)))) + (m_bf s ((s 0) + (nI i)) 2 (nC (s 192))))) (y := g) (tgt := 71) C dX6_busiest_63 (by decide) (fun c5 => ?_) (fun c5 => False.elim (c4 c5))
        refine x_iload_n C 4 rfl dX6_busiest_71 rfl ?_
        refine x_istore_n (lv' := [(2, .int g), (1, .int f), (5, .int (((m_bf s ((s 0) + (nI i)) 0 (nC (s 192))) + (m_bf s ((s 0) + (nI i)) 1 (nC (s 192)))) + (m_bf s ((s 0) + (nI i)) 2 (nC (s 192))))), (4, .int ((s 0) + (nI i))), (3, .int (nI i)), (0, .ref (a 0))]) C dX6_busiest_72 rfl (by decide) rfl ?_
        refine x_iinc (v := (nI (i + 1))) (lv' := [(3, .int (nI (i + 1))), (2, .int g), (1, .int f), (5, .int (((m_bf s ((s 0) + (nI i)) 0 (nC (s 192))) + (m_bf s ((s 0) + (nI i)) 1 (nC (s 192)))) + (m_bf s ((s 0) + (nI i)) 2 (nC (s 192))))), (4, .int ((s 0) + (nI i))), (0, .ref (a 0))]) C 4 rfl dX6_busiest_73 (by rw [show Int32.ofInt 1 = nI 1 from rfl]; exact nI_add _ _) (by decide) rfl ?_
        refine x_goto (tgt := 7) C dX6_busiest_76 (by decide) ?_
        refine x_lv [0, 1, 2, 5] (lv' := [(3, .int (nI (i + 1))), (2, .int g), (1, .int f), (0, .ref (a 0))]) rfl ?_
        exact ih (i + 1) f g (by omega) (by simp only [m_busL, ← ha, m_its, c3, c4,  if_true, if_false, ite_true, ite_false, and_true, true_and, and_false, false_and, or_true, true_or, or_false, false_or, not_true_eq_false, not_false_eq_true, and_self, or_self])
      · refine x_iload_n C 2 rfl dX6_busiest_54 rfl ?_
        refine x_goto (tgt := 59) C dX6_busiest_55 (by decide) ?_
        refine x_istore_n (lv' := [(1, .int (nI i)), (5, .int (((m_bf s ((s 0) + (nI i)) 0 (nC (s 192))) + (m_bf s ((s 0) + (nI i)) 1 (nC (s 192)))) + (m_bf s ((s 0) + (nI i)) 2 (nC (s 192))))), (4, .int ((s 0) + (nI i))), (3, .int (nI i)), (2, .int g), (0, .ref (a 0))]) C dX6_busiest_59 rfl (by decide) rfl ?_
        refine x_iload C 1 rfl dX6_busiest_60 ?_
        refine x_iload_n C 4 rfl dX6_busiest_62 rfl ?_
        refine x_icmp_le (x := (((m_bf s ((s 0) + (nI i)) 0 (nC (s 192))) + (m_bf s ((s 0) + (nI i)) 1 (nC (s 192)))) + (m_bf s ((s 0) + (nI i)) 2 (nC (s 192))))) (y := g) (tgt := 71) C dX6_busiest_63 (by decide) (fun c6 => False.elim (c6 c4)) (fun c6 => ?_)
        refine x_iload C 1 rfl dX6_busiest_66 ?_
        refine x_goto (tgt := 72) C dX6_busiest_68 (by decide) ?_
        refine x_istore_n (lv' := [(2, .int (((m_bf s ((s 0) + (nI i)) 0 (nC (s 192))) + (m_bf s ((s 0) + (nI i)) 1 (nC (s 192)))) + (m_bf s ((s 0) + (nI i)) 2 (nC (s 192))))), (1, .int (nI i)), (5, .int (((m_bf s ((s 0) + (nI i)) 0 (nC (s 192))) + (m_bf s ((s 0) + (nI i)) 1 (nC (s 192)))) + (m_bf s ((s 0) + (nI i)) 2 (nC (s 192))))), (4, .int ((s 0) + (nI i))), (3, .int (nI i)), (0, .ref (a 0))]) C dX6_busiest_72 rfl (by decide) rfl ?_
        refine x_iinc (v := (nI (i + 1))) (lv' := [(3, .int (nI (i + 1))), (2, .int (((m_bf s ((s 0) + (nI i)) 0 (nC (s 192))) + (m_bf s ((s 0) + (nI i)) 1 (nC (s 192)))) + (m_bf s ((s 0) + (nI i)) 2 (nC (s 192))))), (1, .int (nI i)), (5, .int (((m_bf s ((s 0) + (nI i)) 0 (nC (s 192))) + (m_bf s ((s 0) + (nI i)) 1 (nC (s 192)))) + (m_bf s ((s 0) + (nI i)) 2 (nC (s 192))))), (4, .int ((s 0) + (nI i))), (0, .ref (a 0))]) C 4 rfl dX6_busiest_73 (by rw [show Int32.ofInt 1 = nI 1 from rfl]; exact nI_add _ _) (by decide) rfl ?_
        refine x_goto (tgt := 7) C dX6_busiest_76 (by decide) ?_
        refine x_lv [0, 1, 2, 5] (lv' := [(3, .int (nI (i + 1))), (2, .int (((m_bf s ((s 0) + (nI i)) 0 (nC (s 192))) + (m_bf s ((s 0) + (nI i)) 1 (nC (s 192)))) + (m_bf s ((s 0) + (nI i)) 2 (nC (s 192))))), (1, .int (nI i)), (0, .ref (a 0))]) rfl ?_
        exact ih (i + 1) (nI i) (((m_bf s ((s 0) + (nI i)) 0 (nC (s 192))) + (m_bf s ((s 0) + (nI i)) 1 (nC (s 192)))) + (m_bf s ((s 0) + (nI i)) 2 (nC (s 192)))) (by omega) (by simp only [m_busL, ← ha, m_its, c3, c4,  if_true, if_false, ite_true, ite_false, and_true, true_and, and_false, false_and, or_true, true_or, or_false, false_or, not_true_eq_false, not_false_eq_true, and_self, or_self])
  exact L1 100 0 (-5) 0 (by omega) (by rfl)
def rm_X6_count : Room := { frames := 2, cells := 0, slots := 0, locals := 44 }
set_option maxRecDepth 100000 in
set_option maxHeartbeats 600000 in
theorem c_X6_count (l : Launch) (G : gG) (a : Nat → Nat) (s as_ hi : Nat → Int32) (kn : Nat) (sn : Nat → Int32) (ik : Int32) (tx : Nat → Int32) (ln : Nat) (it wl : Nat → Int32) (sp : Nat) (iw : Int32) (rs : Nat) (er : Int32) (w : Int32)  (hz : ¬ s 191 = 0) : CT l yX6_count cX6_count 2 (some .int) rm_X6_count G [.ref (a 0), .int w] (wM G a s as_ hi kn sn ik tx ln it wl sp iw rs er) (some (.int (mX_count s kn ln w))) (fun _ => (wM G a s as_ hi kn sn ik tx ln it wl sp iw rs er)) := by
  refine gMet (by decide) (Nat.le_of_ble_eq_true rfl) (fun X hX C hr hin E => ?_)
  clear hX
  refine (show gW G X (wM G a s as_ hi kn sn ik tx ln it wl sp iw rs er) 0 0 0 [(0, .ref (a 0)), (1, .int w)] [] from ?_)
  refine x_iload_n C 1 rfl dX6_count_0 rfl ?_
  refine x_bipush (v := (nI 12)) C dX6_count_1 (by decide) ?_
  refine x_bipush (v := (nI 16)) C dX6_count_3 (by decide) ?_
  refine x_callSd (As := [.int w, .int (nI 12), .int (nI 16)]) (rest := []) C dX6_count_5 (c_X6_in (gX.l X) G w 12 16 ) ml_X6_38 st_X6_in in_X6 cd_X6_in hd_X6_in rfl rfl (Nat.le_of_ble_eq_true rfl) ⟨Nat.le_of_ble_eq_true rfl, Nat.le_of_ble_eq_true rfl⟩ [] (wM G a s as_ hi kn sn ik tx ln it wl sp iw rs er) rfl (ws' := (wM G a s as_ hi kn sn ik tx ln it wl sp iw rs er)) rfl (st' := [.int (bI (¬ (w < 12) ∧ ¬ (16 < w)))]) rfl ⟨rfl, rfl⟩ ⟨Nat.le_of_ble_eq_true rfl, Nat.le_of_ble_eq_true rfl⟩ ?_
  refine x_if_eqB (P := ¬ (w < 12) ∧ ¬ (16 < w)) (tgt := 25) C dX6_count_8 (by decide) (fun c1 => ?_) (fun c1 => ?_)
  · refine x_iload_n C 1 rfl dX6_count_25 rfl ?_
    rcases g_cases w 19 (by decide) with c2 | ⟨c2j, c2b, c2⟩
    · refine x_tabO (tgt := 212) C dX6_count_26 c2 (by decide) ?_
      refine x_bipush (v := (-2)) C dX6_count_212 (by decide) ?_
      exact x_iret C hr E dX6_count_214 (fun _ => 0) (by first | (rw [mX_count, if_neg c1, if_pos (by assumption)]) | (rw [mX_count, if_neg c1, if_neg (by decide)]; rfl)) rfl
    · have c2d : c2j = 0 ∨ c2j = 1 ∨ c2j = 2 ∨ c2j = 3 ∨ c2j = 4 ∨ c2j = 5 ∨ c2j = 6 ∨ c2j = 7 ∨ c2j = 8 ∨ c2j = 9 ∨ c2j = 10 ∨ c2j = 11 ∨ c2j = 12 ∨ c2j = 13 ∨ c2j = 14 ∨ c2j = 15 ∨ c2j = 16 ∨ c2j = 17 ∨ c2j = 18 := by omega
      rcases c2d with rfl | rfl | rfl | rfl | rfl | rfl | rfl | rfl | rfl | rfl | rfl | rfl | rfl | rfl | rfl | rfl | rfl | rfl | rfl
      · subst c2
        refine x_tabI (tgt := 116) C 0 dX6_count_26 rfl (by decide) (by decide) rfl (by decide) ?_
        refine x_aload_n C 0 rfl dX6_count_116 rfl ?_
        refine x_get (k := 0) (v := .ref (a 1)) C dX6_count_117 layX6 fl_X6_7 0 rfl rfl (by decide) rfl ?_
        refine x_iconst (v := (nI 0)) C dX6_count_120 (by decide) ?_
        refine x_iald (j := 0) C dX6_count_121 1 rfl rfl (by omega) (by omega) ?_
        exact x_iret C hr E dX6_count_122 (fun _ => 0) (by rw [mX_count, if_neg c1, if_neg (by decide)]; rfl) rfl
      · subst c2
        refine x_tabI (tgt := 123) C 1 dX6_count_26 rfl (by decide) (by decide) rfl (by decide) ?_
        refine x_aload_n C 0 rfl dX6_count_123 rfl ?_
        refine x_get (k := 0) (v := .ref (a 1)) C dX6_count_124 layX6 fl_X6_7 0 rfl rfl (by decide) rfl ?_
        refine x_iconst (v := (nI 0)) C dX6_count_127 (by decide) ?_
        refine x_iald (j := 0) C dX6_count_128 1 rfl rfl (by omega) (by omega) ?_
        refine x_bipush (v := (nI 10)) C dX6_count_129 (by decide) ?_
        refine x_idiv (x := (s 0)) (y := 10) C (by decide) dX6_count_131 ?_
        exact x_iret C hr E dX6_count_132 (fun _ => 0) (by rw [mX_count, if_neg c1, if_neg (by decide)]; rfl) rfl
      · subst c2
        refine x_tabI (tgt := 133) C 2 dX6_count_26 rfl (by decide) (by decide) rfl (by decide) ?_
        refine x_aload_n C 0 rfl dX6_count_133 rfl ?_
        refine x_get (k := 0) (v := .ref (a 1)) C dX6_count_134 layX6 fl_X6_7 0 rfl rfl (by decide) rfl ?_
        refine x_iconst (v := (nI 0)) C dX6_count_137 (by decide) ?_
        refine x_iald (j := 0) C dX6_count_138 1 rfl rfl (by omega) (by omega) ?_
        refine x_bipush (v := (nI 10)) C dX6_count_139 (by decide) ?_
        refine x_irem (x := (s 0)) (y := 10) C (by decide) dX6_count_141 ?_
        exact x_iret C hr E dX6_count_142 (fun _ => 0) (by rw [mX_count, if_neg c1, if_neg (by decide)]; rfl) rfl
      · subst c2
        refine x_tabI (tgt := 143) C 3 dX6_count_26 rfl (by decide) (by decide) rfl (by decide) ?_
        refine x_aload_n C 0 rfl dX6_count_143 rfl ?_
        refine x_get (k := 0) (v := .ref (a 1)) C dX6_count_144 layX6 fl_X6_7 0 rfl rfl (by decide) rfl ?_
        refine x_sipush (v := (nI 192)) C dX6_count_147 (by decide) ?_
        refine x_iald (j := 192) C dX6_count_150 1 rfl rfl (by omega) (by omega) ?_
        exact x_iret C hr E dX6_count_151 (fun _ => 0) (by rw [mX_count, if_neg c1, if_neg (by decide)]; rfl) rfl
      · subst c2
        refine x_tabI (tgt := 152) C 4 dX6_count_26 rfl (by decide) (by decide) rfl (by decide) ?_
        refine x_aload_n C 0 rfl dX6_count_152 rfl ?_
        refine x_get (k := 0) (v := .ref (a 1)) C dX6_count_153 layX6 fl_X6_7 0 rfl rfl (by decide) rfl ?_
        refine x_sipush (v := (nI 313)) C dX6_count_156 (by decide) ?_
        refine x_iload_n C 1 rfl dX6_count_159 rfl ?_
        refine x_iaddN C dX6_count_160 ?_
        refine x_iconst (v := (nI 4)) C dX6_count_161 (by decide) ?_
        refine x_isubN C dX6_count_162 (by omega) ?_
        refine x_iald (j := 313) C dX6_count_163 1 rfl rfl (by omega) (by omega) ?_
        exact x_iret C hr E dX6_count_164 (fun _ => 0) (by rw [mX_count, if_neg c1, if_neg (by decide)]; rfl) rfl
      · subst c2
        refine x_tabI (tgt := 152) C 5 dX6_count_26 rfl (by decide) (by decide) rfl (by decide) ?_
        refine x_aload_n C 0 rfl dX6_count_152 rfl ?_
        refine x_get (k := 0) (v := .ref (a 1)) C dX6_count_153 layX6 fl_X6_7 0 rfl rfl (by decide) rfl ?_
        refine x_sipush (v := (nI 313)) C dX6_count_156 (by decide) ?_
        refine x_iload_n C 1 rfl dX6_count_159 rfl ?_
        refine x_iaddN C dX6_count_160 ?_
        refine x_iconst (v := (nI 4)) C dX6_count_161 (by decide) ?_
        refine x_isubN C dX6_count_162 (by omega) ?_
        refine x_iald (j := 314) C dX6_count_163 1 rfl rfl (by omega) (by omega) ?_
        exact x_iret C hr E dX6_count_164 (fun _ => 0) (by rw [mX_count, if_neg c1, if_neg (by decide)]; rfl) rfl
      · subst c2
        refine x_tabI (tgt := 152) C 6 dX6_count_26 rfl (by decide) (by decide) rfl (by decide) ?_
        refine x_aload_n C 0 rfl dX6_count_152 rfl ?_
        refine x_get (k := 0) (v := .ref (a 1)) C dX6_count_153 layX6 fl_X6_7 0 rfl rfl (by decide) rfl ?_
        refine x_sipush (v := (nI 313)) C dX6_count_156 (by decide) ?_
        refine x_iload_n C 1 rfl dX6_count_159 rfl ?_
        refine x_iaddN C dX6_count_160 ?_
        refine x_iconst (v := (nI 4)) C dX6_count_161 (by decide) ?_
        refine x_isubN C dX6_count_162 (by omega) ?_
        refine x_iald (j := 315) C dX6_count_163 1 rfl rfl (by omega) (by omega) ?_
        exact x_iret C hr E dX6_count_164 (fun _ => 0) (by rw [mX_count, if_neg c1, if_neg (by decide)]; rfl) rfl
      · subst c2
        refine x_tabI (tgt := 165) C 7 dX6_count_26 rfl (by decide) (by decide) rfl (by decide) ?_
        refine x_aload_n C 0 rfl dX6_count_165 rfl ?_
        refine x_callVd (As := []) (rest := []) C dX6_count_166 (c_X6_lameHorses (gX.l X) G a s as_ hi kn sn ik tx ln it wl sp iw rs er ) ml_X6_184 im_X6_lameHorses sl_X6_lameHorses in_X6 cd_X6_lameHorses hd_X6_lameHorses 0 rfl rfl rfl rfl (Nat.le_of_ble_eq_true rfl) ⟨Nat.le_of_ble_eq_true rfl, Nat.le_of_ble_eq_true rfl⟩ (List.take 0 (wM G a s as_ hi kn sn ik tx ln it wl sp iw rs er)) (List.drop 8 (wM G a s as_ hi kn sn ik tx ln it wl sp iw rs er)) rfl (ws' := (wM G a s as_ hi kn sn ik tx ln it wl sp iw rs er)) rfl (st' := [.int (m_lame s 10)]) rfl ⟨rfl, rfl⟩ ⟨Nat.le_of_ble_eq_true rfl, Nat.le_of_ble_eq_true rfl⟩ ?_
        exact x_iret C hr E dX6_count_169 (fun _ => 0) (by rw [mX_count, if_neg c1, if_neg (by decide)]; rfl) rfl
      · subst c2
        refine x_tabI (tgt := 170) C 8 dX6_count_26 rfl (by decide) (by decide) rfl (by decide) ?_
        refine x_aload_n C 0 rfl dX6_count_170 rfl ?_
        refine x_get (k := 0) (v := .ref (a 1)) C dX6_count_171 layX6 fl_X6_7 0 rfl rfl (by decide) rfl ?_
        refine x_sipush (v := (nI 316)) C dX6_count_174 (by decide) ?_
        refine x_iald (j := 316) C dX6_count_177 1 rfl rfl (by omega) (by omega) ?_
        exact x_iret C hr E dX6_count_178 (fun _ => 0) (by rw [mX_count, if_neg c1, if_neg (by decide)]; rfl) rfl
      · subst c2
        refine x_tabI (tgt := 179) C 9 dX6_count_26 rfl (by decide) (by decide) rfl (by decide) ?_
        refine x_aload_n C 0 rfl dX6_count_179 rfl ?_
        refine x_callVd (As := []) (rest := []) C dX6_count_180 (c_X6_tiredness (gX.l X) G a s as_ hi kn sn ik tx ln it wl sp iw rs er ) ml_X6_187 im_X6_tiredness sl_X6_tiredness in_X6 cd_X6_tiredness hd_X6_tiredness 0 rfl rfl rfl rfl (Nat.le_of_ble_eq_true rfl) ⟨Nat.le_of_ble_eq_true rfl, Nat.le_of_ble_eq_true rfl⟩ (List.take 0 (wM G a s as_ hi kn sn ik tx ln it wl sp iw rs er)) (List.drop 8 (wM G a s as_ hi kn sn ik tx ln it wl sp iw rs er)) rfl (ws' := (wM G a s as_ hi kn sn ik tx ln it wl sp iw rs er)) rfl (st' := [.int (m_tir s 10)]) rfl ⟨rfl, rfl⟩ ⟨Nat.le_of_ble_eq_true rfl, Nat.le_of_ble_eq_true rfl⟩ ?_
        exact x_iret C hr E dX6_count_183 (fun _ => 0) (by rw [mX_count, if_neg c1, if_neg (by decide)]; rfl) rfl
      · subst c2
        refine x_tabI (tgt := 184) C 10 dX6_count_26 rfl (by decide) (by decide) rfl (by decide) ?_
        refine x_aload_n C 0 rfl dX6_count_184 rfl ?_
        refine x_callVd (As := []) (rest := []) C dX6_count_185 (c_X6_isFarrierThere (gX.l X) G a s as_ hi kn sn ik tx ln it wl sp iw rs er hz) ml_X6_46 im_X6_isFarrierThere sl_X6_isFarrierThere in_X6 cd_X6_isFarrierThere hd_X6_isFarrierThere 0 rfl rfl rfl rfl (Nat.le_of_ble_eq_true rfl) ⟨Nat.le_of_ble_eq_true rfl, Nat.le_of_ble_eq_true rfl⟩ (List.take 0 (wM G a s as_ hi kn sn ik tx ln it wl sp iw rs er)) (List.drop 8 (wM G a s as_ hi kn sn ik tx ln it wl sp iw rs er)) rfl (ws' := (wM G a s as_ hi kn sn ik tx ln it wl sp iw rs er)) rfl (st' := [.int (bI (m_there s))]) rfl ⟨rfl, rfl⟩ ⟨Nat.le_of_ble_eq_true rfl, Nat.le_of_ble_eq_true rfl⟩ ?_
        refine x_if_eqB (P := m_there s) (tgt := 195) C dX6_count_188 (by decide) (fun c3 => ?_) (fun c3 => ?_)
        · refine x_iconst (v := (nI 0)) C dX6_count_195 (by decide) ?_
          exact x_iret C hr E dX6_count_196 (fun _ => 0) (by rw [mX_count, if_neg c1, if_neg (by decide)]; first | exact (bI_t (by assumption)).symm | exact (bI_f (by assumption)).symm) rfl
        · refine x_iconst (v := (nI 1)) C dX6_count_191 (by decide) ?_
          refine x_goto (tgt := 196) C dX6_count_192 (by decide) ?_
          exact x_iret C hr E dX6_count_196 (fun _ => 0) (by rw [mX_count, if_neg c1, if_neg (by decide)]; first | exact (bI_t (by assumption)).symm | exact (bI_f (by assumption)).symm) rfl
      · subst c2
        refine x_tabI (tgt := 197) C 11 dX6_count_26 rfl (by decide) (by decide) rfl (by decide) ?_
        refine x_aload_n C 0 rfl dX6_count_197 rfl ?_
        refine x_callVd (As := []) (rest := []) C dX6_count_198 (c_X6_shodHorse (gX.l X) G a s as_ hi kn sn ik tx ln it wl sp iw rs er hz) ml_X6_82 im_X6_shodHorse sl_X6_shodHorse in_X6 cd_X6_shodHorse hd_X6_shodHorse 0 rfl rfl rfl rfl (Nat.le_of_ble_eq_true rfl) ⟨Nat.le_of_ble_eq_true rfl, Nat.le_of_ble_eq_true rfl⟩ (List.take 0 (wM G a s as_ hi kn sn ik tx ln it wl sp iw rs er)) (List.drop 8 (wM G a s as_ hi kn sn ik tx ln it wl sp iw rs er)) rfl (ws' := (wM G a s as_ hi kn sn ik tx ln it wl sp iw rs er)) rfl (st' := [.int (m_shod s)]) rfl ⟨rfl, rfl⟩ ⟨Nat.le_of_ble_eq_true rfl, Nat.le_of_ble_eq_true rfl⟩ ?_
        exact x_iret C hr E dX6_count_201 (fun _ => 0) (by rw [mX_count, if_neg c1, if_neg (by decide)]; rfl) rfl
      · subst c2
        refine x_tabI (tgt := 212) C 12 dX6_count_26 rfl (by decide) (by decide) rfl (by decide) ?_
        refine x_bipush (v := (-2)) C dX6_count_212 (by decide) ?_
        exact x_iret C hr E dX6_count_214 (fun _ => 0) (by first | (rw [mX_count, if_neg c1, if_pos (by assumption)]) | (rw [mX_count, if_neg c1, if_neg (by decide)]; rfl)) rfl
      · subst c2
        refine x_tabI (tgt := 212) C 13 dX6_count_26 rfl (by decide) (by decide) rfl (by decide) ?_
        refine x_bipush (v := (-2)) C dX6_count_212 (by decide) ?_
        exact x_iret C hr E dX6_count_214 (fun _ => 0) (by first | (rw [mX_count, if_neg c1, if_pos (by assumption)]) | (rw [mX_count, if_neg c1, if_neg (by decide)]; rfl)) rfl
      · subst c2
        refine x_tabI (tgt := 212) C 14 dX6_count_26 rfl (by decide) (by decide) rfl (by decide) ?_
        refine x_bipush (v := (-2)) C dX6_count_212 (by decide) ?_
        exact x_iret C hr E dX6_count_214 (fun _ => 0) (by first | (rw [mX_count, if_neg c1, if_pos (by assumption)]) | (rw [mX_count, if_neg c1, if_neg (by decide)]; rfl)) rfl
      · subst c2
        refine x_tabI (tgt := 212) C 15 dX6_count_26 rfl (by decide) (by decide) rfl (by decide) ?_
        refine x_bipush (v := (-2)) C dX6_count_212 (by decide) ?_
        exact x_iret C hr E dX6_count_214 (fun _ => 0) (by first | (rw [mX_count, if_neg c1, if_pos (by assumption)]) | (rw [mX_count, if_neg c1, if_neg (by decide)]; rfl)) rfl
      · subst c2
        refine x_tabI (tgt := 212) C 16 dX6_count_26 rfl (by decide) (by decide) rfl (by decide) ?_
        refine x_bipush (v := (-2)) C dX6_count_212 (by decide) ?_
        exact x_iret C hr E dX6_count_214 (fun _ => 0) (by first | (rw [mX_count, if_neg c1, if_pos (by assumption)]) | (rw [mX_count, if_neg c1, if_neg (by decide)]; rfl)) rfl
      · subst c2
        refine x_tabI (tgt := 202) C 17 dX6_count_26 rfl (by decide) (by decide) rfl (by decide) ?_
        refine x_aload_n C 0 rfl dX6_count_202 rfl ?_
        refine x_get (k := 3) (v := .int (nI kn)) C dX6_count_203 layX6 fl_X6_42 0 rfl rfl (by decide) rfl ?_
        exact x_iret C hr E dX6_count_206 (fun _ => 0) (by rw [mX_count, if_neg c1, if_neg (by decide)]; rfl) rfl
      · subst c2
        refine x_tabI (tgt := 207) C 18 dX6_count_26 rfl (by decide) (by decide) rfl (by decide) ?_
        refine x_aload_n C 0 rfl dX6_count_207 rfl ?_
        refine x_get (k := 7) (v := .int (nI ln)) C dX6_count_208 layX6 fl_X6_136 0 rfl rfl (by decide) rfl ?_
        exact x_iret C hr E dX6_count_211 (fun _ => 0) (by rw [mX_count, if_neg c1, if_neg (by decide)]; rfl) rfl
  · have hN := g_in2 (x := w) (lo := 12) (n := 16) (by decide) (by decide) (by assumption)
    refine x_aload_n C 0 rfl dX6_count_11 rfl ?_
    refine x_get (k := 0) (v := .ref (a 1)) C dX6_count_12 layX6 fl_X6_7 0 rfl rfl (by decide) rfl ?_
    refine x_sipush (v := (nI 187)) C dX6_count_15 (by decide) ?_
    refine x_iload_n C 1 rfl dX6_count_18 rfl ?_
    refine x_top (y := (nI (nC w))) hN.2.2 ?_
    refine x_iaddN C dX6_count_19 ?_
    refine x_bipush (v := (nI 12)) C dX6_count_20 (by decide) ?_
    refine x_isubN C dX6_count_22 (by omega) ?_
    refine x_iald (j := ((187 + (nC w)) - 12)) C dX6_count_23 1 rfl rfl (by omega) (by omega) ?_
    exact x_iret C hr E dX6_count_24 (fun _ => 0) (by rw [mX_count, if_pos c1]) rfl
