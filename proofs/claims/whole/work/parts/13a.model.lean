theorem g_in2 {x : Int32} {lo n : Nat} (hlo : lo < 2 ^ 31) (hn : n + 1 < 2 ^ 31) (h : ¬ x < nI lo ∧ ¬ nI n < x) : lo ≤ nC x ∧ nC x < n + 1 ∧ x = nI (nC x) := by
  have h0 : ¬ x < 0 := fun h1 => h.1 (by
    rw [Int32.lt_iff_toInt_lt] at h1 ⊢
    have e := nI_toInt hlo
    have e0 : (0 : Int32).toInt = 0 := by decide
    omega)
  obtain ⟨j, hj, rfl⟩ := nI_of h0
  have h2 := mt (nI_ltI (a := n) (b := j) (by omega) hj).mpr h.2
  have h3 := mt (nI_ltI (a := j) (b := lo) hj hlo).mpr h.1
  rw [nC_nI hj]
  exact ⟨by omega, by omega, rfl⟩
theorem g_nn {x : Int32} (h : ¬ x < 0) : nC x < 2 ^ 31 ∧ x = nI (nC x) := by
  obtain ⟨j, hj, rfl⟩ := nI_of h
  rw [nC_nI hj]
  exact ⟨hj, rfl⟩
def mX_type (tx : Nat → Int32) (ln : Nat) (c : Int32) : Int32 × (Nat → Int32) × Nat := if ln = 60 then (-3, tx, ln) else (nI (ln + 1), upd tx ln c, ln + 1)
def mX_undo (s hi : Nat → Int32) (kn : Nat) : Int32 × (Nat → Int32) × Nat := if kn = 0 then (-5, s, kn) else (nI (kn - 1), cpL hi s (378 * (kn - 1)) 0 378, kn - 1)
def mX_restore (s hi sn : Nat → Int32) (kn : Nat) (ik : Int32) : m_R4 := if ik = 0 then (-5, s, hi, kn) else ((cpL sn s 0 0 378) 0, cpL sn s 0 0 378, m_recH s hi kn, m_recK kn)
def m_ridN (s : Nat → Int32) (r k : Nat) : Int32 := if k < 3 then s (8 * r + 91 + k) else if k = 3 then m_can s r else if k < 8 then s (8 * r + 91 + (k - 1)) else if k = 8 then m_bof s (nI r) (nC (s 192)) else s (8 * r + 98)
def mX_rider (s : Nat → Int32) (r w : Int32) : Int32 := if m_in r 0 11 then (if w.toInt < 0 ∨ 10 ≤ w.toInt then -2 else m_ridN s (nC r) (nC w)) else -1
def m_cntN (s : Nat → Int32) (kn ln k : Nat) : Int32 := if k = 0 then s 0 else if k = 1 then s 0 / 10 else if k = 2 then iR (s 0) 10 else if k = 3 then s 192 else if k = 4 then s 313 else if k = 5 then s 314 else if k = 6 then s 315 else if k = 7 then m_lame s 10 else if k = 8 then s 316 else if k = 9 then m_tir s 10 else if k = 10 then bI (m_there s) else if k = 11 then m_shod s else if k = 17 then nI kn else if k = 18 then nI ln else -2
def mX_count (s : Nat → Int32) (kn ln : Nat) (w : Int32) : Int32 := if m_in w 12 16 then s (187 + nC w - 12) else if w.toInt < 0 ∨ 19 ≤ w.toInt then -2 else m_cntN s kn ln (nC w)
def rm_X6_type : Room := { frames := 0, cells := 0, slots := 0, locals := 0 }
set_option maxRecDepth 100000 in
set_option maxHeartbeats 600000 in
theorem c_X6_type (l : Launch) (G : gG) (a : Nat → Nat) (s as_ hi : Nat → Int32) (kn : Nat) (sn : Nat → Int32) (ik : Int32) (tx : Nat → Int32) (ln : Nat) (it wl : Nat → Int32) (sp : Nat) (iw : Int32) (rs : Nat) (er : Int32) (c : Int32)  (hln : ln ≤ 60) : CT l yX6_type cX6_type 2 (some .int) rm_X6_type G [.ref (a 0), .int c] (wM G a s as_ hi kn sn ik tx ln it wl sp iw rs er) (some (.int ((mX_type tx ln c).1))) (fun _ => (wM G a s as_ hi kn sn ik ((mX_type tx ln c).2.1) ((mX_type tx ln c).2.2) it wl sp iw rs er)) := by
  refine gMet (by decide) (Nat.le_of_ble_eq_true rfl) (fun X hX C hr hin E => ?_)
  clear hX
  refine (show gW G X (wM G a s as_ hi kn sn ik tx ln it wl sp iw rs er) 0 0 0 [(0, .ref (a 0)), (1, .int c)] [] from ?_)
  refine x_aload_n C 0 rfl dX6_type_0 rfl ?_
  refine x_get (k := 7) (v := .int (nI ln)) C dX6_type_1 layX6 fl_X6_136 0 rfl rfl (by decide) rfl ?_
  refine x_bipush (v := (nI 60)) C dX6_type_4 (by decide) ?_
  refine x_icmp_neN (a := ln) (b := 60) (tgt := 12) C dX6_type_6 (by decide) (by omega) (by omega) (fun c1 => ?_) (fun c1 => ?_)
  · refine x_aload_n C 0 rfl dX6_type_12 rfl ?_
    refine x_get (k := 6) (v := .ref (a 5)) C dX6_type_13 layX6 fl_X6_22 0 rfl rfl (by decide) rfl ?_
    refine x_aload_n C 0 rfl dX6_type_16 rfl ?_
    refine x_get (k := 7) (v := .int (nI ln)) C dX6_type_17 layX6 fl_X6_136 0 rfl rfl (by decide) rfl ?_
    refine x_iload_n C 1 rfl dX6_type_20 rfl ?_
    refine x_iast (j := ln) (x := c) (ws' := (wM G a s as_ hi kn sn ik (upd tx ln c) ln it wl sp iw rs er)) C dX6_type_21 5 rfl rfl (by omega) (by omega) rfl ?_
    refine x_aload_n C 0 rfl dX6_type_22 rfl ?_
    refine x_dup C rfl dX6_type_23 ?_
    refine x_get (k := 7) (v := .int (nI ln)) C dX6_type_24 layX6 fl_X6_136 0 rfl rfl (by decide) rfl ?_
    refine x_iconst (v := (nI 1)) C dX6_type_27 (by decide) ?_
    refine x_iaddN C dX6_type_28 ?_
    refine x_put (k := 7) (ws' := (wM G a s as_ hi kn sn ik (upd tx ln c) (ln + 1) it wl sp iw rs er)) C dX6_type_29 layX6 tyX6 tyX6_ok nmX6 fl_X6_136 0 rfl rfl (by decide) rfl rfl rfl rfl (Nat.le_of_ble_eq_true rfl) rfl ?_
    refine x_aload_n C 0 rfl dX6_type_32 rfl ?_
    refine x_get (k := 7) (v := .int (nI (ln + 1))) C dX6_type_33 layX6 fl_X6_136 0 rfl rfl (by decide) rfl ?_
    exact x_iret C hr E dX6_type_36 (fun _ => 0) (by simp only [mX_type, c1,  if_true, if_false, ite_true, ite_false, and_true, true_and, and_false, false_and, or_true, true_or, or_false, false_or, not_true_eq_false, not_false_eq_true, and_self, or_self]) (by simp only [mX_type, c1,  if_true, if_false, ite_true, ite_false, and_true, true_and, and_false, false_and, or_true, true_or, or_false, false_or, not_true_eq_false, not_false_eq_true, and_self, or_self])
  · refine x_bipush (v := (-3)) C dX6_type_9 (by decide) ?_
    exact x_iret C hr E dX6_type_11 (fun _ => 0) (by simp only [mX_type, c1,  if_true, if_false, ite_true, ite_false, and_true, true_and, and_false, false_and, or_true, true_or, or_false, false_or, not_true_eq_false, not_false_eq_true, and_self, or_self]) (by simp only [mX_type, c1,  if_true, if_false, ite_true, ite_false, and_true, true_and, and_false, false_and, or_true, true_or, or_false, false_or, not_true_eq_false, not_false_eq_true, and_self, or_self])
def rm_X6_clearText : Room := { frames := 0, cells := 0, slots := 0, locals := 0 }
set_option maxRecDepth 100000 in
set_option maxHeartbeats 600000 in
theorem c_X6_clearText (l : Launch) (G : gG) (a : Nat → Nat) (s as_ hi : Nat → Int32) (kn : Nat) (sn : Nat → Int32) (ik : Int32) (tx : Nat → Int32) (ln : Nat) (it wl : Nat → Int32) (sp : Nat) (iw : Int32) (rs : Nat) (er : Int32)  : CT l yX6_clearText cX6_clearText 2 (some .int) rm_X6_clearText G [.ref (a 0)] (wM G a s as_ hi kn sn ik tx ln it wl sp iw rs er) (some (.int (nI ln))) (fun _ => (wM G a s as_ hi kn sn ik tx 0 it wl sp iw rs er)) := by
  refine gMet (by decide) (Nat.le_of_ble_eq_true rfl) (fun X hX C hr hin E => ?_)
  clear hX
  refine (show gW G X (wM G a s as_ hi kn sn ik tx ln it wl sp iw rs er) 0 0 0 [(0, .ref (a 0))] [] from ?_)
  refine x_aload_n C 0 rfl dX6_clearText_0 rfl ?_
  refine x_get (k := 7) (v := .int (nI ln)) C dX6_clearText_1 layX6 fl_X6_136 0 rfl rfl (by decide) rfl ?_
  refine x_istore_n (lv' := [(1, .int (nI ln)), (0, .ref (a 0))]) C dX6_clearText_4 rfl (by decide) rfl ?_
  refine x_aload_n C 1 rfl dX6_clearText_5 rfl ?_
  refine x_iconst (v := (nI 0)) C dX6_clearText_6 (by decide) ?_
  refine x_put (k := 7) (ws' := (wM G a s as_ hi kn sn ik tx 0 it wl sp iw rs er)) C dX6_clearText_7 layX6 tyX6 tyX6_ok nmX6 fl_X6_136 0 rfl rfl (by decide) rfl rfl rfl rfl (Nat.le_of_ble_eq_true rfl) rfl ?_
  refine x_iload_n C 0 rfl dX6_clearText_10 rfl ?_
  exact x_iret C hr E dX6_clearText_11 (fun _ => 0) rfl rfl
def rm_X6_undo : Room := { frames := 0, cells := 0, slots := 0, locals := 0 }
set_option maxRecDepth 100000 in
set_option maxHeartbeats 600000 in
theorem c_X6_undo (l : Launch) (G : gG) (a : Nat → Nat) (s as_ hi : Nat → Int32) (kn : Nat) (sn : Nat → Int32) (ik : Int32) (tx : Nat → Int32) (ln : Nat) (it wl : Nat → Int32) (sp : Nat) (iw : Int32) (rs : Nat) (er : Int32)  (hk : kn ≤ 4) : CT l yX6_undo cX6_undo 2 (some .int) rm_X6_undo G [.ref (a 0)] (wM G a s as_ hi kn sn ik tx ln it wl sp iw rs er) (some (.int ((mX_undo s hi kn).1))) (fun _ => (wM G a ((mX_undo s hi kn).2.1) as_ hi ((mX_undo s hi kn).2.2) sn ik tx ln it wl sp iw rs er)) := by
  refine gMet (by decide) (Nat.le_of_ble_eq_true rfl) (fun X hX C hr hin E => ?_)
  clear hX
  refine (show gW G X (wM G a s as_ hi kn sn ik tx ln it wl sp iw rs er) 0 0 0 [(0, .ref (a 0))] [] from ?_)
  refine x_aload_n C 0 rfl dX6_undo_0 rfl ?_
  refine x_get (k := 3) (v := .int (nI kn)) C dX6_undo_1 layX6 fl_X6_42 0 rfl rfl (by decide) rfl ?_
  refine x_if_neN (a := kn) (tgt := 10) C dX6_undo_4 (by decide) (by omega) (fun c1 => ?_) (fun c1 => ?_)
  · refine x_aload_n C 0 rfl dX6_undo_10 rfl ?_
    refine x_dup C rfl dX6_undo_11 ?_
    refine x_get (k := 3) (v := .int (nI kn)) C dX6_undo_12 layX6 fl_X6_42 0 rfl rfl (by decide) rfl ?_
    refine x_iconst (v := (nI 1)) C dX6_undo_15 (by decide) ?_
    refine x_isubN C dX6_undo_16 (by omega) ?_
    refine x_put (k := 3) (ws' := (wM G a s as_ hi (kn - 1) sn ik tx ln it wl sp iw rs er)) C dX6_undo_17 layX6 tyX6 tyX6_ok nmX6 fl_X6_42 0 rfl rfl (by decide) rfl rfl rfl rfl (Nat.le_of_ble_eq_true rfl) rfl ?_
    refine x_iconst (v := (nI 0)) C dX6_undo_20 (by decide) ?_
    refine x_istore_n (lv' := [(1, .int (nI 0)), (0, .ref (a 0))]) C dX6_undo_21 rfl (by decide) rfl ?_
    have L2 : ∀ (fu : Nat) (i : Nat) (g : Nat → Int32), i + fu = 378 → (g = cpL hi s (378 * (kn - 1)) 0 i) → gW G X (wM G a g as_ hi (kn - 1) sn ik tx ln it wl sp iw rs er) 0 0 22 [(1, .int (nI i)), (0, .ref (a 0))] [] := by
      intro fu
      induction fu with
      | zero =>
        intro i g hn ha
        have hi9 : i = 378 := by omega
        refine x_iload_n C 0 rfl dX6_undo_22 rfl ?_
        refine x_sipush (v := (nI 378)) C dX6_undo_23 (by decide) ?_
        refine x_icmp_geN (a := i) (b := 378) (tgt := 56) C dX6_undo_26 (by decide) (by omega) (by omega) (fun c3 => ?_) (fun c3 => False.elim (by omega))
        refine x_aload_n C 1 rfl dX6_undo_56 rfl ?_
        refine x_get (k := 3) (v := .int (nI (kn - 1))) C dX6_undo_57 layX6 fl_X6_42 0 rfl rfl (by decide) rfl ?_
        exact x_iret C hr E dX6_undo_60 (fun _ => 0) (by rw [mX_undo, if_neg (by assumption)]) (by rw [ha, hi9, mX_undo, if_neg c1])
      | succ fu ih =>
        intro i g hn ha
        refine x_iload_n C 0 rfl dX6_undo_22 rfl ?_
        refine x_sipush (v := (nI 378)) C dX6_undo_23 (by decide) ?_
        refine x_icmp_geN (a := i) (b := 378) (tgt := 56) C dX6_undo_26 (by decide) (by omega) (by omega) (fun c4 => False.elim (by omega)) (fun c4 => ?_)
        refine x_aload_n C 1 rfl dX6_undo_29 rfl ?_
        refine x_get (k := 0) (v := .ref (a 1)) C dX6_undo_30 layX6 fl_X6_7 0 rfl rfl (by decide) rfl ?_
        refine x_iload_n C 0 rfl dX6_undo_33 rfl ?_
        refine x_aload_n C 1 rfl dX6_undo_34 rfl ?_
        refine x_get (k := 2) (v := .ref (a 3)) C dX6_undo_35 layX6 fl_X6_16 0 rfl rfl (by decide) rfl ?_
        refine x_sipush (v := (nI 378)) C dX6_undo_38 (by decide) ?_
        refine x_aload_n C 1 rfl dX6_undo_41 rfl ?_
        refine x_get (k := 3) (v := .int (nI (kn - 1))) C dX6_undo_42 layX6 fl_X6_42 0 rfl rfl (by decide) rfl ?_
        refine x_imulN C dX6_undo_45 ?_
        refine x_iload_n C 0 rfl dX6_undo_46 rfl ?_
        refine x_iaddN C dX6_undo_47 ?_
        refine x_iald (j := ((378 * (kn - 1)) + i)) C dX6_undo_48 3 rfl rfl (by omega) (by omega) ?_
        refine x_iast (j := i) (x := (hi ((378 * (kn - 1)) + i))) (ws' := (wM G a (upd g i (hi ((378 * (kn - 1)) + i))) as_ hi (kn - 1) sn ik tx ln it wl sp iw rs er)) C dX6_undo_49 1 rfl rfl (by omega) (by omega) rfl ?_
        refine x_iinc (v := (nI (i + 1))) (lv' := [(1, .int (nI (i + 1))), (0, .ref (a 0))]) C 0 rfl dX6_undo_50 (by rw [show Int32.ofInt 1 = nI 1 from rfl]; exact nI_add _ _) (by decide) rfl ?_
        refine x_goto (tgt := 22) C dX6_undo_53 (by decide) ?_
        exact ih (i + 1) (upd g i (hi ((378 * (kn - 1)) + i))) (by omega) (by rw [ha]; simp only [cpL, Nat.zero_add])
    exact L2 378 0 s (by omega) (by rfl)
  · refine x_bipush (v := (-5)) C dX6_undo_7 (by decide) ?_
    exact x_iret C hr E dX6_undo_9 (fun _ => 0) (by rw [mX_undo, if_pos (by assumption)]) (by rw [mX_undo, if_pos (by assumption)])
def rm_X6_keep : Room := { frames := 0, cells := 0, slots := 0, locals := 0 }
set_option maxRecDepth 100000 in
set_option maxHeartbeats 600000 in
theorem c_X6_keep (l : Launch) (G : gG) (a : Nat → Nat) (s as_ hi : Nat → Int32) (kn : Nat) (sn : Nat → Int32) (ik : Int32) (tx : Nat → Int32) (ln : Nat) (it wl : Nat → Int32) (sp : Nat) (iw : Int32) (rs : Nat) (er : Int32)  : CT l yX6_keep cX6_keep 2 (some .int) rm_X6_keep G [.ref (a 0)] (wM G a s as_ hi kn sn ik tx ln it wl sp iw rs er) (some (.int (s 0))) (fun _ => (wM G a s as_ hi kn (cpL s sn 0 0 378) 1 tx ln it wl sp iw rs er)) := by
  refine gMet (by decide) (Nat.le_of_ble_eq_true rfl) (fun X hX C hr hin E => ?_)
  clear hX
  refine (show gW G X (wM G a s as_ hi kn sn ik tx ln it wl sp iw rs er) 0 0 0 [(0, .ref (a 0))] [] from ?_)
  refine x_iconst (v := (nI 0)) C dX6_keep_0 (by decide) ?_
  refine x_istore_n (lv' := [(1, .int (nI 0)), (0, .ref (a 0))]) C dX6_keep_1 rfl (by decide) rfl ?_
  have L1 : ∀ (fu : Nat) (i : Nat) (g : Nat → Int32), i + fu = 378 → (g = cpL s sn 0 0 i) → gW G X (wM G a s as_ hi kn g ik tx ln it wl sp iw rs er) 0 0 2 [(1, .int (nI i)), (0, .ref (a 0))] [] := by
    intro fu
    induction fu with
    | zero =>
      intro i g hn ha
      have hi9 : i = 378 := by omega
      refine x_iload_n C 0 rfl dX6_keep_2 rfl ?_
      refine x_sipush (v := (nI 378)) C dX6_keep_3 (by decide) ?_
      refine x_icmp_geN (a := i) (b := 378) (tgt := 27) C dX6_keep_6 (by decide) (by omega) (by omega) (fun c2 => ?_) (fun c2 => False.elim (by omega))
      refine x_aload_n C 1 rfl dX6_keep_27 rfl ?_
      refine x_iconst (v := (nI 1)) C dX6_keep_28 (by decide) ?_
      refine x_put (k := 5) (ws' := (wM G a s as_ hi kn g 1 tx ln it wl sp iw rs er)) C dX6_keep_29 layX6 tyX6 tyX6_ok nmX6 fl_X6_175 0 rfl rfl (by decide) rfl rfl rfl rfl (Nat.le_of_ble_eq_true rfl) rfl ?_
      refine x_aload_n C 1 rfl dX6_keep_32 rfl ?_
      refine x_get (k := 0) (v := .ref (a 1)) C dX6_keep_33 layX6 fl_X6_7 0 rfl rfl (by decide) rfl ?_
      refine x_iconst (v := (nI 0)) C dX6_keep_36 (by decide) ?_
      refine x_iald (j := 0) C dX6_keep_37 1 rfl rfl (by omega) (by omega) ?_
      exact x_iret C hr E dX6_keep_38 (fun _ => 0) rfl (by rw [ha, hi9])
    | succ fu ih =>
      intro i g hn ha
      refine x_iload_n C 0 rfl dX6_keep_2 rfl ?_
      refine x_sipush (v := (nI 378)) C dX6_keep_3 (by decide) ?_
      refine x_icmp_geN (a := i) (b := 378) (tgt := 27) C dX6_keep_6 (by decide) (by omega) (by omega) (fun c3 => False.elim (by omega)) (fun c3 => ?_)
      refine x_aload_n C 1 rfl dX6_keep_9 rfl ?_
      refine x_get (k := 4) (v := .ref (a 4)) C dX6_keep_10 layX6 fl_X6_19 0 rfl rfl (by decide) rfl ?_
      refine x_iload_n C 0 rfl dX6_keep_13 rfl ?_
      refine x_aload_n C 1 rfl dX6_keep_14 rfl ?_
      refine x_get (k := 0) (v := .ref (a 1)) C dX6_keep_15 layX6 fl_X6_7 0 rfl rfl (by decide) rfl ?_
      refine x_iload_n C 0 rfl dX6_keep_18 rfl ?_
      refine x_iald (j := i) C dX6_keep_19 1 rfl rfl (by omega) (by omega) ?_
      refine x_iast (j := i) (x := (s i)) (ws' := (wM G a s as_ hi kn (upd g i (s i)) ik tx ln it wl sp iw rs er)) C dX6_keep_20 4 rfl rfl (by omega) (by omega) rfl ?_
      refine x_iinc (v := (nI (i + 1))) (lv' := [(1, .int (nI (i + 1))), (0, .ref (a 0))]) C 0 rfl dX6_keep_21 (by rw [show Int32.ofInt 1 = nI 1 from rfl]; exact nI_add _ _) (by decide) rfl ?_
      refine x_goto (tgt := 2) C dX6_keep_24 (by decide) ?_
      exact ih (i + 1) (upd g i (s i)) (by omega) (by rw [ha]; simp only [cpL, mvL, Nat.zero_add])
  exact L1 378 0 sn (by omega) (by rfl)
def rm_X6_restore : Room := { frames := 1, cells := 0, slots := 0, locals := 21 }
set_option maxRecDepth 100000 in
set_option maxHeartbeats 600000 in
theorem c_X6_restore (l : Launch) (G : gG) (a : Nat → Nat) (s as_ hi : Nat → Int32) (kn : Nat) (sn : Nat → Int32) (ik : Int32) (tx : Nat → Int32) (ln : Nat) (it wl : Nat → Int32) (sp : Nat) (iw : Int32) (rs : Nat) (er : Int32)  (hk : kn ≤ 4) : CT l yX6_restore cX6_restore 2 (some .int) rm_X6_restore G [.ref (a 0)] (wM G a s as_ hi kn sn ik tx ln it wl sp iw rs er) (some (.int ((mX_restore s hi sn kn ik).1))) (fun _ => (wM G a ((mX_restore s hi sn kn ik).2.1) as_ ((mX_restore s hi sn kn ik).2.2.1) ((mX_restore s hi sn kn ik).2.2.2) sn ik tx ln it wl sp iw rs er)) := by
  refine gMet (by decide) (Nat.le_of_ble_eq_true rfl) (fun X hX C hr hin E => ?_)
  clear hX
  refine (show gW G X (wM G a s as_ hi kn sn ik tx ln it wl sp iw rs er) 0 0 0 [(0, .ref (a 0))] [] from ?_)
  refine x_aload_n C 0 rfl dX6_restore_0 rfl ?_
  refine x_get (k := 5) (v := .int ik) C dX6_restore_1 layX6 fl_X6_175 0 rfl rfl (by decide) rfl ?_
  refine x_if_ne (x := ik) (tgt := 10) C dX6_restore_4 (by decide) (fun c1 => ?_) (fun c1 => ?_)
  · refine x_aload_n C 0 rfl dX6_restore_10 rfl ?_
    refine x_callVd (As := []) (rest := []) C dX6_restore_11 (c_X6_record (gX.l X) G a s as_ hi kn sn ik tx ln it wl sp iw rs er (by omega)) ml_X6_99 im_X6_record sl_X6_record in_X6 cd_X6_record hd_X6_record 0 rfl rfl rfl rfl (Nat.le_of_ble_eq_true rfl) ⟨Nat.le_of_ble_eq_true rfl, Nat.le_of_ble_eq_true rfl⟩ (List.take 0 (wM G a s as_ hi kn sn ik tx ln it wl sp iw rs er)) (List.drop 8 (wM G a s as_ hi kn sn ik tx ln it wl sp iw rs er)) rfl (ws' := (wM G a s as_ (m_recH s hi kn) (m_recK kn) sn ik tx ln it wl sp iw rs er)) rfl (st' := []) rfl ⟨rfl, rfl⟩ ⟨Nat.le_of_ble_eq_true rfl, Nat.le_of_ble_eq_true rfl⟩ ?_
    refine x_iconst (v := (nI 0)) C dX6_restore_14 (by decide) ?_
    refine x_istore_n (lv' := [(1, .int (nI 0)), (0, .ref (a 0))]) C dX6_restore_15 rfl (by decide) rfl ?_
    have L2 : ∀ (fu : Nat) (i : Nat) (g : Nat → Int32), i + fu = 378 → (g = cpL sn s 0 0 i) → gW G X (wM G a g as_ (m_recH s hi kn) (m_recK kn) sn ik tx ln it wl sp iw rs er) 0 0 16 [(1, .int (nI i)), (0, .ref (a 0))] [] := by
      intro fu
      induction fu with
      | zero =>
        intro i g hn ha
        have hi9 : i = 378 := by omega
        refine x_iload_n C 0 rfl dX6_restore_16 rfl ?_
        refine x_sipush (v := (nI 378)) C dX6_restore_17 (by decide) ?_
        refine x_icmp_geN (a := i) (b := 378) (tgt := 41) C dX6_restore_20 (by decide) (by omega) (by omega) (fun c3 => ?_) (fun c3 => False.elim (by omega))
        refine x_aload_n C 1 rfl dX6_restore_41 rfl ?_
        refine x_get (k := 0) (v := .ref (a 1)) C dX6_restore_42 layX6 fl_X6_7 0 rfl rfl (by decide) rfl ?_
        refine x_iconst (v := (nI 0)) C dX6_restore_45 (by decide) ?_
        refine x_iald (j := 0) C dX6_restore_46 1 rfl rfl (by omega) (by omega) ?_
        exact x_iret C hr E dX6_restore_47 (fun _ => 0) (by rw [ha, hi9, mX_restore, if_neg c1]) (by rw [ha, hi9, mX_restore, if_neg c1])
      | succ fu ih =>
        intro i g hn ha
        refine x_iload_n C 0 rfl dX6_restore_16 rfl ?_
        refine x_sipush (v := (nI 378)) C dX6_restore_17 (by decide) ?_
        refine x_icmp_geN (a := i) (b := 378) (tgt := 41) C dX6_restore_20 (by decide) (by omega) (by omega) (fun c4 => False.elim (by omega)) (fun c4 => ?_)
        refine x_aload_n C 1 rfl dX6_restore_23 rfl ?_
        refine x_get (k := 0) (v := .ref (a 1)) C dX6_restore_24 layX6 fl_X6_7 0 rfl rfl (by decide) rfl ?_
        refine x_iload_n C 0 rfl dX6_restore_27 rfl ?_
        refine x_aload_n C 1 rfl dX6_restore_28 rfl ?_
        refine x_get (k := 4) (v := .ref (a 4)) C dX6_restore_29 layX6 fl_X6_19 0 rfl rfl (by decide) rfl ?_
        refine x_iload_n C 0 rfl dX6_restore_32 rfl ?_
        refine x_iald (j := i) C dX6_restore_33 4 rfl rfl (by omega) (by omega) ?_
        refine x_iast (j := i) (x := (sn i)) (ws' := (wM G a (upd g i (sn i)) as_ (m_recH s hi kn) (m_recK kn) sn ik tx ln it wl sp iw rs er)) C dX6_restore_34 1 rfl rfl (by omega) (by omega) rfl ?_
        refine x_iinc (v := (nI (i + 1))) (lv' := [(1, .int (nI (i + 1))), (0, .ref (a 0))]) C 0 rfl dX6_restore_35 (by rw [show Int32.ofInt 1 = nI 1 from rfl]; exact nI_add _ _) (by decide) rfl ?_
        refine x_goto (tgt := 16) C dX6_restore_38 (by decide) ?_
        exact ih (i + 1) (upd g i (sn i)) (by omega) (by rw [ha]; simp only [cpL, mvL, Nat.zero_add])
    exact L2 378 0 s (by omega) (by rfl)
  · refine x_bipush (v := (-5)) C dX6_restore_7 (by decide) ?_
    exact x_iret C hr E dX6_restore_9 (fun _ => 0) (by rw [mX_restore, if_pos (by assumption)]) (by rw [mX_restore, if_pos (by assumption)])
def rm_X6_horse : Room := { frames := 2, cells := 0, slots := 0, locals := 42 }
set_option maxRecDepth 100000 in
set_option maxHeartbeats 600000 in
theorem c_X6_horse (l : Launch) (G : gG) (a : Nat → Nat) (s as_ hi : Nat → Int32) (kn : Nat) (sn : Nat → Int32) (ik : Int32) (tx : Nat → Int32) (ln : Nat) (it wl : Nat → Int32) (sp : Nat) (iw : Int32) (rs : Nat) (er : Int32) (h w : Int32)  : CT l yX6_horse cX6_horse 3 (some .int) rm_X6_horse G [.ref (a 0), .int h, .int w] (wM G a s as_ hi kn sn ik tx ln it wl sp iw rs er) (some (.int (mX_horse s h w))) (fun _ => (wM G a s as_ hi kn sn ik tx ln it wl sp iw rs er)) := by
  refine gMet (by decide) (Nat.le_of_ble_eq_true rfl) (fun X hX C hr hin E => ?_)
  clear hX
  refine (show gW G X (wM G a s as_ hi kn sn ik tx ln it wl sp iw rs er) 0 0 0 [(0, .ref (a 0)), (1, .int h), (2, .int w)] [] from ?_)
  refine x_iload_n C 1 rfl dX6_horse_0 rfl ?_
  refine x_callSd (As := [.int h]) (rest := []) C dX6_horse_1 (c_X6_isHorse (gX.l X) G h ) ml_X6_95 st_X6_isHorse in_X6 cd_X6_isHorse hd_X6_isHorse rfl rfl (Nat.le_of_ble_eq_true rfl) ⟨Nat.le_of_ble_eq_true rfl, Nat.le_of_ble_eq_true rfl⟩ [] (wM G a s as_ hi kn sn ik tx ln it wl sp iw rs er) rfl (ws' := (wM G a s as_ hi kn sn ik tx ln it wl sp iw rs er)) rfl (st' := [.int (bI (¬ (h < 0) ∧ ¬ (9 < h)))]) rfl ⟨rfl, rfl⟩ ⟨Nat.le_of_ble_eq_true rfl, Nat.le_of_ble_eq_true rfl⟩ ?_
  refine x_if_neB (P := ¬ (h < 0) ∧ ¬ (9 < h)) (tgt := 9) C dX6_horse_4 (by decide) (fun c1 => ?_) (fun c1 => ?_)
  · have hN := g_in (x := h) (n := 9) (by decide) (by assumption)
    refine x_iload_n C 2 rfl dX6_horse_9 rfl ?_
    refine x_iconst (v := (nI 0)) C dX6_horse_10 (by decide) ?_
    refine x_bipush (v := (nI 8)) C dX6_horse_11 (by decide) ?_
    refine x_callSd (As := [.int w, .int (nI 0), .int (nI 8)]) (rest := []) C dX6_horse_13 (c_X6_in (gX.l X) G w 0 8 ) ml_X6_38 st_X6_in in_X6 cd_X6_in hd_X6_in rfl rfl (Nat.le_of_ble_eq_true rfl) ⟨Nat.le_of_ble_eq_true rfl, Nat.le_of_ble_eq_true rfl⟩ [] (wM G a s as_ hi kn sn ik tx ln it wl sp iw rs er) rfl (ws' := (wM G a s as_ hi kn sn ik tx ln it wl sp iw rs er)) rfl (st' := [.int (bI (¬ (w < 0) ∧ ¬ (8 < w)))]) rfl ⟨rfl, rfl⟩ ⟨Nat.le_of_ble_eq_true rfl, Nat.le_of_ble_eq_true rfl⟩ ?_
    refine x_if_eqB (P := ¬ (w < 0) ∧ ¬ (8 < w)) (tgt := 32) C dX6_horse_16 (by decide) (fun c2 => ?_) (fun c2 => ?_)
    · refine x_bipush (v := (-2)) C dX6_horse_32 (by decide) ?_
      exact x_iret C hr E dX6_horse_34 (fun _ => 0) (by simp only [mX_horse, m_in, c1, c2,  if_true, if_false, ite_true, ite_false, and_true, true_and, and_false, false_and, or_true, true_or, or_false, false_or, not_true_eq_false, not_false_eq_true, and_self, or_self]) rfl
    · have hW := g_in (x := w) (n := 8) (by decide) (by assumption)
      refine x_aload_n C 0 rfl dX6_horse_19 rfl ?_
      refine x_get (k := 0) (v := .ref (a 1)) C dX6_horse_20 layX6 fl_X6_7 0 rfl rfl (by decide) rfl ?_
      refine x_iload_n C 1 rfl dX6_horse_23 rfl ?_
      refine x_top (y := (nI (nC h))) hN.2 ?_
      refine x_iload_n C 2 rfl dX6_horse_24 rfl ?_
      refine x_top (y := (nI (nC w))) hW.2 ?_
      refine x_callSd (As := [.int (nI (nC h)), .int (nI (nC w))]) (rest := [.ref (a 1)]) C dX6_horse_25 (c_X6_of (gX.l X) G (nC h) (nC w) (9 * (nC h) + 1 + (nC w)) (by omega)) ml_X6_31 st_X6_of in_X6 cd_X6_of hd_X6_of rfl rfl (Nat.le_of_ble_eq_true rfl) ⟨Nat.le_of_ble_eq_true rfl, Nat.le_of_ble_eq_true rfl⟩ [] (wM G a s as_ hi kn sn ik tx ln it wl sp iw rs er) rfl (ws' := (wM G a s as_ hi kn sn ik tx ln it wl sp iw rs er)) rfl (st' := [.int (nI (9 * (nC h) + 1 + (nC w))), .ref (a 1)]) rfl ⟨rfl, rfl⟩ ⟨Nat.le_of_ble_eq_true rfl, Nat.le_of_ble_eq_true rfl⟩ ?_
      refine x_iald (j := (9 * (nC h) + 1 + (nC w))) C dX6_horse_28 1 rfl rfl (by omega) (by omega) ?_
      refine x_goto (tgt := 34) C dX6_horse_29 (by decide) ?_
      exact x_iret C hr E dX6_horse_34 (fun _ => 0) (by simp only [mX_horse, m_in, c1, c2,  if_true, if_false, ite_true, ite_false, and_true, true_and, and_false, false_and, or_true, true_or, or_false, false_or, not_true_eq_false, not_false_eq_true, and_self, or_self]) rfl
  · refine x_iconst (v := (-1)) C dX6_horse_7 (by decide) ?_
    exact x_iret C hr E dX6_horse_8 (fun _ => 0) (by simp only [mX_horse, m_in, c1,  if_true, if_false, ite_true, ite_false, and_true, true_and, and_false, false_and, or_true, true_or, or_false, false_or, not_true_eq_false, not_false_eq_true, and_self, or_self]) rfl
def rm_X6_rider : Room := { frames := 2, cells := 0, slots := 0, locals := 44 }
set_option maxRecDepth 100000 in
set_option maxHeartbeats 600000 in
theorem c_X6_rider (l : Launch) (G : gG) (a : Nat → Nat) (s as_ hi : Nat → Int32) (kn : Nat) (sn : Nat → Int32) (ik : Int32) (tx : Nat → Int32) (ln : Nat) (it wl : Nat → Int32) (sp : Nat) (iw : Int32) (rs : Nat) (er : Int32) (r w : Int32)  (hB : okB (s 192)) : CT l yX6_rider cX6_rider 3 (some .int) rm_X6_rider G [.ref (a 0), .int r, .int w] (wM G a s as_ hi kn sn ik tx ln it wl sp iw rs er) (some (.int (mX_rider s r w))) (fun _ => (wM G a s as_ hi kn sn ik tx ln it wl sp iw rs er)) := by
  refine gMet (by decide) (Nat.le_of_ble_eq_true rfl) (fun X hX C hr hin E => ?_)
  clear hX
  refine (show gW G X (wM G a s as_ hi kn sn ik tx ln it wl sp iw rs er) 0 0 0 [(0, .ref (a 0)), (1, .int r), (2, .int w)] [] from ?_)
  refine x_iload_n C 1 rfl dX6_rider_0 rfl ?_
  refine x_callSd (As := [.int r]) (rest := []) C dX6_rider_1 (c_X6_isRider (gX.l X) G r ) ml_X6_102 st_X6_isRider in_X6 cd_X6_isRider hd_X6_isRider rfl rfl (Nat.le_of_ble_eq_true rfl) ⟨Nat.le_of_ble_eq_true rfl, Nat.le_of_ble_eq_true rfl⟩ [] (wM G a s as_ hi kn sn ik tx ln it wl sp iw rs er) rfl (ws' := (wM G a s as_ hi kn sn ik tx ln it wl sp iw rs er)) rfl (st' := [.int (bI (¬ (r < 0) ∧ ¬ (11 < r)))]) rfl ⟨rfl, rfl⟩ ⟨Nat.le_of_ble_eq_true rfl, Nat.le_of_ble_eq_true rfl⟩ ?_
  refine x_if_neB (P := ¬ (r < 0) ∧ ¬ (11 < r)) (tgt := 9) C dX6_rider_4 (by decide) (fun c1 => ?_) (fun c1 => ?_)
  · have hN := g_in (x := r) (n := 11) (by decide) (by assumption)
    refine x_iload_n C 2 rfl dX6_rider_9 rfl ?_
    rcases g_cases w 10 (by decide) with c2 | ⟨c2j, c2b, c2⟩
    · refine x_tabO (tgt := 112) C dX6_rider_10 c2 (by decide) ?_
      refine x_bipush (v := (-2)) C dX6_rider_112 (by decide) ?_
      exact x_iret C hr E dX6_rider_114 (fun _ => 0) (by rw [mX_rider, if_pos c1, if_pos (by assumption)]) rfl
    · have c2d : c2j = 0 ∨ c2j = 1 ∨ c2j = 2 ∨ c2j = 3 ∨ c2j = 4 ∨ c2j = 5 ∨ c2j = 6 ∨ c2j = 7 ∨ c2j = 8 ∨ c2j = 9 := by omega
      rcases c2d with rfl | rfl | rfl | rfl | rfl | rfl | rfl | rfl | rfl | rfl
      · subst c2
        refine x_tabI (tgt := 64) C 0 dX6_rider_10 rfl (by decide) (by decide) rfl (by decide) ?_
        refine x_aload_n C 0 rfl dX6_rider_64 rfl ?_
        refine x_get (k := 0) (v := .ref (a 1)) C dX6_rider_65 layX6 fl_X6_7 0 rfl rfl (by decide) rfl ?_
        refine x_iload_n C 1 rfl dX6_rider_68 rfl ?_
        refine x_top (y := (nI (nC r))) hN.2 ?_
        refine x_iload_n C 2 rfl dX6_rider_69 rfl ?_
        refine x_callSd (As := [.int (nI (nC r)), .int (nI 0)]) (rest := [.ref (a 1)]) C dX6_rider_70 (c_X6_ofRider (gX.l X) G (nC r) 0 (8 * (nC r) + 91) (by omega)) ml_X6_35 st_X6_ofRider in_X6 cd_X6_ofRider hd_X6_ofRider rfl rfl (Nat.le_of_ble_eq_true rfl) ⟨Nat.le_of_ble_eq_true rfl, Nat.le_of_ble_eq_true rfl⟩ [] (wM G a s as_ hi kn sn ik tx ln it wl sp iw rs er) rfl (ws' := (wM G a s as_ hi kn sn ik tx ln it wl sp iw rs er)) rfl (st' := [.int (nI (8 * (nC r) + 91)), .ref (a 1)]) rfl ⟨rfl, rfl⟩ ⟨Nat.le_of_ble_eq_true rfl, Nat.le_of_ble_eq_true rfl⟩ ?_
        refine x_iald (j := (8 * (nC r) + 91)) C dX6_rider_73 1 rfl rfl (by omega) (by omega) ?_
        exact x_iret C hr E dX6_rider_74 (fun _ => 0) (by rw [mX_rider, if_pos c1, if_neg (by decide)]; rfl) rfl
      · subst c2
        refine x_tabI (tgt := 64) C 1 dX6_rider_10 rfl (by decide) (by decide) rfl (by decide) ?_
        refine x_aload_n C 0 rfl dX6_rider_64 rfl ?_
        refine x_get (k := 0) (v := .ref (a 1)) C dX6_rider_65 layX6 fl_X6_7 0 rfl rfl (by decide) rfl ?_
        refine x_iload_n C 1 rfl dX6_rider_68 rfl ?_
        refine x_top (y := (nI (nC r))) hN.2 ?_
        refine x_iload_n C 2 rfl dX6_rider_69 rfl ?_
        refine x_callSd (As := [.int (nI (nC r)), .int (nI 1)]) (rest := [.ref (a 1)]) C dX6_rider_70 (c_X6_ofRider (gX.l X) G (nC r) 1 (8 * (nC r) + 92) (by omega)) ml_X6_35 st_X6_ofRider in_X6 cd_X6_ofRider hd_X6_ofRider rfl rfl (Nat.le_of_ble_eq_true rfl) ⟨Nat.le_of_ble_eq_true rfl, Nat.le_of_ble_eq_true rfl⟩ [] (wM G a s as_ hi kn sn ik tx ln it wl sp iw rs er) rfl (ws' := (wM G a s as_ hi kn sn ik tx ln it wl sp iw rs er)) rfl (st' := [.int (nI (8 * (nC r) + 92)), .ref (a 1)]) rfl ⟨rfl, rfl⟩ ⟨Nat.le_of_ble_eq_true rfl, Nat.le_of_ble_eq_true rfl⟩ ?_
        refine x_iald (j := (8 * (nC r) + 92)) C dX6_rider_73 1 rfl rfl (by omega) (by omega) ?_
        exact x_iret C hr E dX6_rider_74 (fun _ => 0) (by rw [mX_rider, if_pos c1, if_neg (by decide)]; rfl) rfl
      · subst c2
        refine x_tabI (tgt := 64) C 2 dX6_rider_10 rfl (by decide) (by decide) rfl (by decide) ?_
        refine x_aload_n C 0 rfl dX6_rider_64 rfl ?_
        refine x_get (k := 0) (v := .ref (a 1)) C dX6_rider_65 layX6 fl_X6_7 0 rfl rfl (by decide) rfl ?_
        refine x_iload_n C 1 rfl dX6_rider_68 rfl ?_
        refine x_top (y := (nI (nC r))) hN.2 ?_
        refine x_iload_n C 2 rfl dX6_rider_69 rfl ?_
        refine x_callSd (As := [.int (nI (nC r)), .int (nI 2)]) (rest := [.ref (a 1)]) C dX6_rider_70 (c_X6_ofRider (gX.l X) G (nC r) 2 (8 * (nC r) + 93) (by omega)) ml_X6_35 st_X6_ofRider in_X6 cd_X6_ofRider hd_X6_ofRider rfl rfl (Nat.le_of_ble_eq_true rfl) ⟨Nat.le_of_ble_eq_true rfl, Nat.le_of_ble_eq_true rfl⟩ [] (wM G a s as_ hi kn sn ik tx ln it wl sp iw rs er) rfl (ws' := (wM G a s as_ hi kn sn ik tx ln it wl sp iw rs er)) rfl (st' := [.int (nI (8 * (nC r) + 93)), .ref (a 1)]) rfl ⟨rfl, rfl⟩ ⟨Nat.le_of_ble_eq_true rfl, Nat.le_of_ble_eq_true rfl⟩ ?_
        refine x_iald (j := (8 * (nC r) + 93)) C dX6_rider_73 1 rfl rfl (by omega) (by omega) ?_
        exact x_iret C hr E dX6_rider_74 (fun _ => 0) (by rw [mX_rider, if_pos c1, if_neg (by decide)]; rfl) rfl
      · subst c2
        refine x_tabI (tgt := 75) C 3 dX6_rider_10 rfl (by decide) (by decide) rfl (by decide) ?_
        refine x_aload_n C 0 rfl dX6_rider_75 rfl ?_
        refine x_iload_n C 1 rfl dX6_rider_76 rfl ?_
        refine x_top (y := (nI (nC r))) hN.2 ?_
        refine x_callVd (As := [.int (nI (nC r))]) (rest := []) C dX6_rider_77 (c_X6_can (gX.l X) G a s as_ hi kn sn ik tx ln it wl sp iw rs er (nC r) (by omega)) ml_X6_50 im_X6_can sl_X6_can in_X6 cd_X6_can hd_X6_can 0 rfl rfl rfl rfl (Nat.le_of_ble_eq_true rfl) ⟨Nat.le_of_ble_eq_true rfl, Nat.le_of_ble_eq_true rfl⟩ (List.take 0 (wM G a s as_ hi kn sn ik tx ln it wl sp iw rs er)) (List.drop 8 (wM G a s as_ hi kn sn ik tx ln it wl sp iw rs er)) rfl (ws' := (wM G a s as_ hi kn sn ik tx ln it wl sp iw rs er)) rfl (st' := [.int (m_can s (nC r))]) rfl ⟨rfl, rfl⟩ ⟨Nat.le_of_ble_eq_true rfl, Nat.le_of_ble_eq_true rfl⟩ ?_
        exact x_iret C hr E dX6_rider_80 (fun _ => 0) (by rw [mX_rider, if_pos c1, if_neg (by decide)]; rfl) rfl
      · subst c2
        refine x_tabI (tgt := 81) C 4 dX6_rider_10 rfl (by decide) (by decide) rfl (by decide) ?_
        refine x_aload_n C 0 rfl dX6_rider_81 rfl ?_
        refine x_get (k := 0) (v := .ref (a 1)) C dX6_rider_82 layX6 fl_X6_7 0 rfl rfl (by decide) rfl ?_
        refine x_iload_n C 1 rfl dX6_rider_85 rfl ?_
        refine x_top (y := (nI (nC r))) hN.2 ?_
        refine x_iload_n C 2 rfl dX6_rider_86 rfl ?_
        refine x_iconst (v := (nI 1)) C dX6_rider_87 (by decide) ?_
        refine x_isubN C dX6_rider_88 (by omega) ?_
        refine x_callSd (As := [.int (nI (nC r)), .int (nI 3)]) (rest := [.ref (a 1)]) C dX6_rider_89 (c_X6_ofRider (gX.l X) G (nC r) 3 (8 * (nC r) + 94) (by omega)) ml_X6_35 st_X6_ofRider in_X6 cd_X6_ofRider hd_X6_ofRider rfl rfl (Nat.le_of_ble_eq_true rfl) ⟨Nat.le_of_ble_eq_true rfl, Nat.le_of_ble_eq_true rfl⟩ [] (wM G a s as_ hi kn sn ik tx ln it wl sp iw rs er) rfl (ws' := (wM G a s as_ hi kn sn ik tx ln it wl sp iw rs er)) rfl (st' := [.int (nI (8 * (nC r) + 94)), .ref (a 1)]) rfl ⟨rfl, rfl⟩ ⟨Nat.le_of_ble_eq_true rfl, Nat.le_of_ble_eq_true rfl⟩ ?_
        refine x_iald (j := (8 * (nC r) + 94)) C dX6_rider_92 1 rfl rfl (by omega) (by omega) ?_
        exact x_iret C hr E dX6_rider_93 (fun _ => 0) (by rw [mX_rider, if_pos c1, if_neg (by decide)]; rfl) rfl
      · subst c2
        refine x_tabI (tgt := 81) C 5 dX6_rider_10 rfl (by decide) (by decide) rfl (by decide) ?_
        refine x_aload_n C 0 rfl dX6_rider_81 rfl ?_
        refine x_get (k := 0) (v := .ref (a 1)) C dX6_rider_82 layX6 fl_X6_7 0 rfl rfl (by decide) rfl ?_
        refine x_iload_n C 1 rfl dX6_rider_85 rfl ?_
        refine x_top (y := (nI (nC r))) hN.2 ?_
        refine x_iload_n C 2 rfl dX6_rider_86 rfl ?_
        refine x_iconst (v := (nI 1)) C dX6_rider_87 (by decide) ?_
        refine x_isubN C dX6_rider_88 (by omega) ?_
        refine x_callSd (As := [.int (nI (nC r)), .int (nI 4)]) (rest := [.ref (a 1)]) C dX6_rider_89 (c_X6_ofRider (gX.l X) G (nC r) 4 (8 * (nC r) + 95) (by omega)) ml_X6_35 st_X6_ofRider in_X6 cd_X6_ofRider hd_X6_ofRider rfl rfl (Nat.le_of_ble_eq_true rfl) ⟨Nat.le_of_ble_eq_true rfl, Nat.le_of_ble_eq_true rfl⟩ [] (wM G a s as_ hi kn sn ik tx ln it wl sp iw rs er) rfl (ws' := (wM G a s as_ hi kn sn ik tx ln it wl sp iw rs er)) rfl (st' := [.int (nI (8 * (nC r) + 95)), .ref (a 1)]) rfl ⟨rfl, rfl⟩ ⟨Nat.le_of_ble_eq_true rfl, Nat.le_of_ble_eq_true rfl⟩ ?_
        refine x_iald (j := (8 * (nC r) + 95)) C dX6_rider_92 1 rfl rfl (by omega) (by omega) ?_
        exact x_iret C hr E dX6_rider_93 (fun _ => 0) (by rw [mX_rider, if_pos c1, if_neg (by decide)]; rfl) rfl
      · subst c2
        refine x_tabI (tgt := 81) C 6 dX6_rider_10 rfl (by decide) (by decide) rfl (by decide) ?_
        refine x_aload_n C 0 rfl dX6_rider_81 rfl ?_
        refine x_get (k := 0) (v := .ref (a 1)) C dX6_rider_82 layX6 fl_X6_7 0 rfl rfl (by decide) rfl ?_
        refine x_iload_n C 1 rfl dX6_rider_85 rfl ?_
        refine x_top (y := (nI (nC r))) hN.2 ?_
        refine x_iload_n C 2 rfl dX6_rider_86 rfl ?_
        refine x_iconst (v := (nI 1)) C dX6_rider_87 (by decide) ?_
        refine x_isubN C dX6_rider_88 (by omega) ?_
        refine x_callSd (As := [.int (nI (nC r)), .int (nI 5)]) (rest := [.ref (a 1)]) C dX6_rider_89 (c_X6_ofRider (gX.l X) G (nC r) 5 (8 * (nC r) + 96) (by omega)) ml_X6_35 st_X6_ofRider in_X6 cd_X6_ofRider hd_X6_ofRider rfl rfl (Nat.le_of_ble_eq_true rfl) ⟨Nat.le_of_ble_eq_true rfl, Nat.le_of_ble_eq_true rfl⟩ [] (wM G a s as_ hi kn sn ik tx ln it wl sp iw rs er) rfl (ws' := (wM G a s as_ hi kn sn ik tx ln it wl sp iw rs er)) rfl (st' := [.int (nI (8 * (nC r) + 96)), .ref (a 1)]) rfl ⟨rfl, rfl⟩ ⟨Nat.le_of_ble_eq_true rfl, Nat.le_of_ble_eq_true rfl⟩ ?_
        refine x_iald (j := (8 * (nC r) + 96)) C dX6_rider_92 1 rfl rfl (by omega) (by omega) ?_
        exact x_iret C hr E dX6_rider_93 (fun _ => 0) (by rw [mX_rider, if_pos c1, if_neg (by decide)]; rfl) rfl
      · subst c2
        refine x_tabI (tgt := 81) C 7 dX6_rider_10 rfl (by decide) (by decide) rfl (by decide) ?_
        refine x_aload_n C 0 rfl dX6_rider_81 rfl ?_
        refine x_get (k := 0) (v := .ref (a 1)) C dX6_rider_82 layX6 fl_X6_7 0 rfl rfl (by decide) rfl ?_
        refine x_iload_n C 1 rfl dX6_rider_85 rfl ?_
        refine x_top (y := (nI (nC r))) hN.2 ?_
        refine x_iload_n C 2 rfl dX6_rider_86 rfl ?_
        refine x_iconst (v := (nI 1)) C dX6_rider_87 (by decide) ?_
        refine x_isubN C dX6_rider_88 (by omega) ?_
        refine x_callSd (As := [.int (nI (nC r)), .int (nI 6)]) (rest := [.ref (a 1)]) C dX6_rider_89 (c_X6_ofRider (gX.l X) G (nC r) 6 (8 * (nC r) + 97) (by omega)) ml_X6_35 st_X6_ofRider in_X6 cd_X6_ofRider hd_X6_ofRider rfl rfl (Nat.le_of_ble_eq_true rfl) ⟨Nat.le_of_ble_eq_true rfl, Nat.le_of_ble_eq_true rfl⟩ [] (wM G a s as_ hi kn sn ik tx ln it wl sp iw rs er) rfl (ws' := (wM G a s as_ hi kn sn ik tx ln it wl sp iw rs er)) rfl (st' := [.int (nI (8 * (nC r) + 97)), .ref (a 1)]) rfl ⟨rfl, rfl⟩ ⟨Nat.le_of_ble_eq_true rfl, Nat.le_of_ble_eq_true rfl⟩ ?_
        refine x_iald (j := (8 * (nC r) + 97)) C dX6_rider_92 1 rfl rfl (by omega) (by omega) ?_
        exact x_iret C hr E dX6_rider_93 (fun _ => 0) (by rw [mX_rider, if_pos c1, if_neg (by decide)]; rfl) rfl
      · subst c2
        refine x_tabI (tgt := 94) C 8 dX6_rider_10 rfl (by decide) (by decide) rfl (by decide) ?_
        refine x_aload_n C 0 rfl dX6_rider_94 rfl ?_
        refine x_iload_n C 1 rfl dX6_rider_95 rfl ?_
        refine x_callVd (As := [.int r]) (rest := []) C dX6_rider_96 (c_X6_bookingsOf (gX.l X) G a s as_ hi kn sn ik tx ln it wl sp iw rs er r hB) ml_X6_178 im_X6_bookingsOf sl_X6_bookingsOf in_X6 cd_X6_bookingsOf hd_X6_bookingsOf 0 rfl rfl rfl rfl (Nat.le_of_ble_eq_true rfl) ⟨Nat.le_of_ble_eq_true rfl, Nat.le_of_ble_eq_true rfl⟩ (List.take 0 (wM G a s as_ hi kn sn ik tx ln it wl sp iw rs er)) (List.drop 8 (wM G a s as_ hi kn sn ik tx ln it wl sp iw rs er)) rfl (ws' := (wM G a s as_ hi kn sn ik tx ln it wl sp iw rs er)) rfl (st' := [.int (m_bof s r (nC (s 192)))]) rfl ⟨rfl, rfl⟩ ⟨Nat.le_of_ble_eq_true rfl, Nat.le_of_ble_eq_true rfl⟩ ?_
        exact x_iret C hr E dX6_rider_99 (fun _ => 0) (by rw [mX_rider, if_pos c1, if_neg (by decide)]; exact congrArg (fun q => m_bof s q (nC (s 192))) hN.2) rfl
      · subst c2
        refine x_tabI (tgt := 100) C 9 dX6_rider_10 rfl (by decide) (by decide) rfl (by decide) ?_
        refine x_aload_n C 0 rfl dX6_rider_100 rfl ?_
        refine x_get (k := 0) (v := .ref (a 1)) C dX6_rider_101 layX6 fl_X6_7 0 rfl rfl (by decide) rfl ?_
        refine x_iload_n C 1 rfl dX6_rider_104 rfl ?_
        refine x_top (y := (nI (nC r))) hN.2 ?_
        refine x_bipush (v := (nI 7)) C dX6_rider_105 (by decide) ?_
        refine x_callSd (As := [.int (nI (nC r)), .int (nI 7)]) (rest := [.ref (a 1)]) C dX6_rider_107 (c_X6_ofRider (gX.l X) G (nC r) 7 (8 * (nC r) + 98) (by omega)) ml_X6_35 st_X6_ofRider in_X6 cd_X6_ofRider hd_X6_ofRider rfl rfl (Nat.le_of_ble_eq_true rfl) ⟨Nat.le_of_ble_eq_true rfl, Nat.le_of_ble_eq_true rfl⟩ [] (wM G a s as_ hi kn sn ik tx ln it wl sp iw rs er) rfl (ws' := (wM G a s as_ hi kn sn ik tx ln it wl sp iw rs er)) rfl (st' := [.int (nI (8 * (nC r) + 98)), .ref (a 1)]) rfl ⟨rfl, rfl⟩ ⟨Nat.le_of_ble_eq_true rfl, Nat.le_of_ble_eq_true rfl⟩ ?_
        refine x_iald (j := (8 * (nC r) + 98)) C dX6_rider_110 1 rfl rfl (by omega) (by omega) ?_
        exact x_iret C hr E dX6_rider_111 (fun _ => 0) (by rw [mX_rider, if_pos c1, if_neg (by decide)]; rfl) rfl
  · refine x_iconst (v := (-1)) C dX6_rider_7 (by decide) ?_
    exact x_iret C hr E dX6_rider_8 (fun _ => 0) (by simp only [mX_rider, m_in, c1,  if_true, if_false, ite_true, ite_false, and_true, true_and, and_false, false_and, or_true, true_or, or_false, false_or, not_true_eq_false, not_false_eq_true, and_self, or_self]) rfl
def rm_X6_lesson : Room := { frames := 2, cells := 0, slots := 0, locals := 46 }
set_option maxRecDepth 100000 in
set_option maxHeartbeats 600000 in
theorem c_X6_lesson (l : Launch) (G : gG) (a : Nat → Nat) (s as_ hi : Nat → Int32) (kn : Nat) (sn : Nat → Int32) (ik : Int32) (tx : Nat → Int32) (ln : Nat) (it wl : Nat → Int32) (sp : Nat) (iw : Int32) (rs : Nat) (er : Int32) (h g w : Int32)  (hB : okB (s 192)) : CT l yX6_lesson cX6_lesson 6 (some .int) rm_X6_lesson G [.ref (a 0), .int h, .int g, .int w] (wM G a s as_ hi kn sn ik tx ln it wl sp iw rs er) (some (.int (mX_lesson s h g w))) (fun _ => (wM G a s as_ hi kn sn ik tx ln it wl sp iw rs er)) := by
  refine gMet (by decide) (Nat.le_of_ble_eq_true rfl) (fun X hX C hr hin E => ?_)
  clear hX
  refine (show gW G X (wM G a s as_ hi kn sn ik tx ln it wl sp iw rs er) 0 0 0 [(0, .ref (a 0)), (1, .int h), (2, .int g), (3, .int w)] [] from ?_)
  refine x_iload_n C 2 rfl dX6_lesson_0 rfl ?_
  refine x_callSd (As := [.int g]) (rest := []) C dX6_lesson_1 (c_X6_isRing (gX.l X) G g ) ml_X6_111 st_X6_isRing in_X6 cd_X6_isRing hd_X6_isRing rfl rfl (Nat.le_of_ble_eq_true rfl) ⟨Nat.le_of_ble_eq_true rfl, Nat.le_of_ble_eq_true rfl⟩ [] (wM G a s as_ hi kn sn ik tx ln it wl sp iw rs er) rfl (ws' := (wM G a s as_ hi kn sn ik tx ln it wl sp iw rs er)) rfl (st' := [.int (bI (¬ (g < 0) ∧ ¬ (2 < g)))]) rfl ⟨rfl, rfl⟩ ⟨Nat.le_of_ble_eq_true rfl, Nat.le_of_ble_eq_true rfl⟩ ?_
  refine x_if_neB (P := ¬ (g < 0) ∧ ¬ (2 < g)) (tgt := 9) C dX6_lesson_4 (by decide) (fun c1 => ?_) (fun c1 => ?_)
  · refine x_iload_n C 1 rfl dX6_lesson_9 rfl ?_
    refine x_callSd (As := [.int h]) (rest := []) C dX6_lesson_10 (c_X6_isAhead (gX.l X) G h ) ml_X6_114 st_X6_isAhead in_X6 cd_X6_isAhead hd_X6_isAhead rfl rfl (Nat.le_of_ble_eq_true rfl) ⟨Nat.le_of_ble_eq_true rfl, Nat.le_of_ble_eq_true rfl⟩ [] (wM G a s as_ hi kn sn ik tx ln it wl sp iw rs er) rfl (ws' := (wM G a s as_ hi kn sn ik tx ln it wl sp iw rs er)) rfl (st' := [.int (bI (¬ (h < 0) ∧ ¬ (99 < h)))]) rfl ⟨rfl, rfl⟩ ⟨Nat.le_of_ble_eq_true rfl, Nat.le_of_ble_eq_true rfl⟩ ?_
    refine x_if_eqB (P := ¬ (h < 0) ∧ ¬ (99 < h)) (tgt := 25) C dX6_lesson_13 (by decide) (fun c2 => ?_) (fun c2 => ?_)
    · refine x_bipush (v := (-2)) C dX6_lesson_25 (by decide) ?_
      exact x_iret C hr E dX6_lesson_27 (fun _ => 0) (by simp (config := {decide := true}) only [mX_lesson, m_in, c1, c2,  if_true, if_false, ite_true, ite_false, and_true, true_and, and_false, false_and, or_true, true_or, or_false, false_or, not_true_eq_false, not_false_eq_true, and_self, or_self]) rfl
    · refine x_iload_n C 3 rfl dX6_lesson_16 rfl ?_
      refine x_iconst (v := (nI 0)) C dX6_lesson_17 (by decide) ?_
      refine x_iconst (v := (nI 2)) C dX6_lesson_18 (by decide) ?_
      refine x_callSd (As := [.int w, .int (nI 0), .int (nI 2)]) (rest := []) C dX6_lesson_19 (c_X6_in (gX.l X) G w 0 2 ) ml_X6_38 st_X6_in in_X6 cd_X6_in hd_X6_in rfl rfl (Nat.le_of_ble_eq_true rfl) ⟨Nat.le_of_ble_eq_true rfl, Nat.le_of_ble_eq_true rfl⟩ [] (wM G a s as_ hi kn sn ik tx ln it wl sp iw rs er) rfl (ws' := (wM G a s as_ hi kn sn ik tx ln it wl sp iw rs er)) rfl (st' := [.int (bI (¬ (w < 0) ∧ ¬ (2 < w)))]) rfl ⟨rfl, rfl⟩ ⟨Nat.le_of_ble_eq_true rfl, Nat.le_of_ble_eq_true rfl⟩ ?_
      refine x_if_neB (P := ¬ (w < 0) ∧ ¬ (2 < w)) (tgt := 28) C dX6_lesson_22 (by decide) (fun c3 => ?_) (fun c3 => ?_)
      · refine x_aload_n C 0 rfl dX6_lesson_28 rfl ?_
        refine x_get (k := 0) (v := .ref (a 1)) C dX6_lesson_29 layX6 fl_X6_7 0 rfl rfl (by decide) rfl ?_
        refine x_iconst (v := (nI 0)) C dX6_lesson_32 (by decide) ?_
        refine x_iald (j := 0) C dX6_lesson_33 1 rfl rfl (by omega) (by omega) ?_
        refine x_iload_n C 1 rfl dX6_lesson_34 rfl ?_
        refine x_iadd (x := (s 0)) (y := h) C dX6_lesson_35 ?_
        refine x_istore (lv' := [(4, .int ((s 0) + h)), (0, .ref (a 0)), (1, .int h), (2, .int g), (3, .int w)]) C dX6_lesson_36 (by decide) rfl ?_
        refine x_aload_n C 1 rfl dX6_lesson_38 rfl ?_
        refine x_iload C 0 rfl dX6_lesson_39 ?_
        refine x_iload_n C 3 rfl dX6_lesson_41 rfl ?_
        refine x_callVd (As := [.int ((s 0) + h), .int g]) (rest := []) C dX6_lesson_42 (c_X6_bookedFor (gX.l X) G a s as_ hi kn sn ik tx ln it wl sp iw rs er ((s 0) + h) g hB) ml_X6_120 im_X6_bookedFor sl_X6_bookedFor in_X6 cd_X6_bookedFor hd_X6_bookedFor 0 rfl rfl rfl rfl (Nat.le_of_ble_eq_true rfl) ⟨Nat.le_of_ble_eq_true rfl, Nat.le_of_ble_eq_true rfl⟩ (List.take 0 (wM G a s as_ hi kn sn ik tx ln it wl sp iw rs er)) (List.drop 8 (wM G a s as_ hi kn sn ik tx ln it wl sp iw rs er)) rfl (ws' := (wM G a s as_ hi kn sn ik tx ln it wl sp iw rs er)) rfl (st' := [.int (m_bf s ((s 0) + h) g (nC (s 192)))]) rfl ⟨rfl, rfl⟩ ⟨Nat.le_of_ble_eq_true rfl, Nat.le_of_ble_eq_true rfl⟩ ?_
        refine x_istore (lv' := [(5, .int (m_bf s ((s 0) + h) g (nC (s 192)))), (4, .int ((s 0) + h)), (0, .ref (a 0)), (1, .int h), (2, .int g), (3, .int w)]) C dX6_lesson_45 (by decide) rfl ?_
        refine x_iload_n C 5 rfl dX6_lesson_47 rfl ?_
        refine x_if_ne (x := w) (tgt := 56) C dX6_lesson_48 (by decide) (fun c4 => ?_) (fun c4 => ?_)
        · refine x_iload_n C 5 rfl dX6_lesson_56 rfl ?_
          refine x_iconst (v := (nI 1)) C dX6_lesson_57 (by decide) ?_
          refine x_icmp_ne (x := w) (y := 1) (tgt := 70) C dX6_lesson_58 (by decide) (fun c5 => ?_) (fun c5 => ?_)
          · refine x_aload_n C 2 rfl dX6_lesson_70 rfl ?_
            refine x_iload C 1 rfl dX6_lesson_71 ?_
            refine x_iload_n C 4 rfl dX6_lesson_73 rfl ?_
            refine x_callVd (As := [.int ((s 0) + h), .int g]) (rest := []) C dX6_lesson_74 (c_X6_ridersFor (gX.l X) G a s as_ hi kn sn ik tx ln it wl sp iw rs er ((s 0) + h) g hB) ml_X6_181 im_X6_ridersFor sl_X6_ridersFor in_X6 cd_X6_ridersFor hd_X6_ridersFor 0 rfl rfl rfl rfl (Nat.le_of_ble_eq_true rfl) ⟨Nat.le_of_ble_eq_true rfl, Nat.le_of_ble_eq_true rfl⟩ (List.take 0 (wM G a s as_ hi kn sn ik tx ln it wl sp iw rs er)) (List.drop 8 (wM G a s as_ hi kn sn ik tx ln it wl sp iw rs er)) rfl (ws' := (wM G a s as_ hi kn sn ik tx ln it wl sp iw rs er)) rfl (st' := [.int (m_rfor s ((s 0) + h) g (nC (s 192)))]) rfl ⟨rfl, rfl⟩ ⟨Nat.le_of_ble_eq_true rfl, Nat.le_of_ble_eq_true rfl⟩ ?_
            exact x_iret C hr E dX6_lesson_77 (fun _ => 0) (by simp (config := {decide := true}) only [mX_lesson, m_in, c1, c2, c3, c4, c5,  if_true, if_false, ite_true, ite_false, and_true, true_and, and_false, false_and, or_true, true_or, or_false, false_or, not_true_eq_false, not_false_eq_true, and_self, or_self]) rfl
          · refine x_iconst (v := (nI 4)) C dX6_lesson_61 (by decide) ?_
            refine x_iload_n C 4 rfl dX6_lesson_62 rfl ?_
            refine x_isub (x := 4) (y := g) C dX6_lesson_63 ?_
            refine x_iload C 0 rfl dX6_lesson_64 ?_
            refine x_isub (x := (4 - g)) (y := (m_bf s ((s 0) + h) g (nC (s 192)))) C dX6_lesson_66 ?_
            refine x_goto (tgt := 77) C dX6_lesson_67 (by decide) ?_
            exact x_iret C hr E dX6_lesson_77 (fun _ => 0) (by simp (config := {decide := true}) only [mX_lesson, m_in, c1, c2, c3, c4, c5,  if_true, if_false, ite_true, ite_false, and_true, true_and, and_false, false_and, or_true, true_or, or_false, false_or, not_true_eq_false, not_false_eq_true, and_self, or_self]) rfl
        · refine x_iload C 0 rfl dX6_lesson_51 ?_
          refine x_goto (tgt := 77) C dX6_lesson_53 (by decide) ?_
          exact x_iret C hr E dX6_lesson_77 (fun _ => 0) (by simp (config := {decide := true}) only [mX_lesson, m_in, c1, c2, c3, c4,  if_true, if_false, ite_true, ite_false, and_true, true_and, and_false, false_and, or_true, true_or, or_false, false_or, not_true_eq_false, not_false_eq_true, and_self, or_self]) rfl
      · refine x_bipush (v := (-2)) C dX6_lesson_25 (by decide) ?_
        exact x_iret C hr E dX6_lesson_27 (fun _ => 0) (by simp (config := {decide := true}) only [mX_lesson, m_in, c1, c2, c3,  if_true, if_false, ite_true, ite_false, and_true, true_and, and_false, false_and, or_true, true_or, or_false, false_or, not_true_eq_false, not_false_eq_true, and_self, or_self]) rfl
  · refine x_iconst (v := (-1)) C dX6_lesson_7 (by decide) ?_
    exact x_iret C hr E dX6_lesson_8 (fun _ => 0) (by simp (config := {decide := true}) only [mX_lesson, m_in, c1,  if_true, if_false, ite_true, ite_false, and_true, true_and, and_false, false_and, or_true, true_or, or_false, false_or, not_true_eq_false, not_false_eq_true, and_self, or_self]) rfl
def rm_X6_fall : Room := { frames := 1, cells := 0, slots := 0, locals := 22 }
set_option maxRecDepth 100000 in
set_option maxHeartbeats 600000 in
theorem c_X6_fall (l : Launch) (G : gG) (a : Nat → Nat) (s as_ hi : Nat → Int32) (kn : Nat) (sn : Nat → Int32) (ik : Int32) (tx : Nat → Int32) (ln : Nat) (it wl : Nat → Int32) (sp : Nat) (iw : Int32) (rs : Nat) (er : Int32) (k w : Int32)  (hF : okF (s 317)) : CT l yX6_fall cX6_fall 3 (some .int) rm_X6_fall G [.ref (a 0), .int k, .int w] (wM G a s as_ hi kn sn ik tx ln it wl sp iw rs er) (some (.int (mX_fall s k w))) (fun _ => (wM G a s as_ hi kn sn ik tx ln it wl sp iw rs er)) := by
  refine gMet (by decide) (Nat.le_of_ble_eq_true rfl) (fun X hX C hr hin E => ?_)
  clear hX
  refine (show gW G X (wM G a s as_ hi kn sn ik tx ln it wl sp iw rs er) 0 0 0 [(0, .ref (a 0)), (1, .int k), (2, .int w)] [] from ?_)
  have hF1 := hF.1
  refine x_iload_n C 1 rfl dX6_fall_0 rfl ?_
  refine x_if_lt (x := k) (tgt := 13) C dX6_fall_1 (by decide) (fun c1 => ?_) (fun c1 => ?_)
  · refine x_bipush (v := (-2)) C dX6_fall_13 (by decide) ?_
    exact x_iret C hr E dX6_fall_15 (fun _ => 0) (by simp only [mX_fall, m_in, c1,  if_true, if_false, ite_true, ite_false, and_true, true_and, and_false, false_and, or_true, true_or, or_false, false_or, not_true_eq_false, not_false_eq_true, and_self, or_self]) rfl
  · refine x_iload_n C 2 rfl dX6_fall_4 rfl ?_
    refine x_iconst (v := (nI 0)) C dX6_fall_5 (by decide) ?_
    refine x_iconst (v := (nI 2)) C dX6_fall_6 (by decide) ?_
    refine x_callSd (As := [.int w, .int (nI 0), .int (nI 2)]) (rest := []) C dX6_fall_7 (c_X6_in (gX.l X) G w 0 2 ) ml_X6_38 st_X6_in in_X6 cd_X6_in hd_X6_in rfl rfl (Nat.le_of_ble_eq_true rfl) ⟨Nat.le_of_ble_eq_true rfl, Nat.le_of_ble_eq_true rfl⟩ [] (wM G a s as_ hi kn sn ik tx ln it wl sp iw rs er) rfl (ws' := (wM G a s as_ hi kn sn ik tx ln it wl sp iw rs er)) rfl (st' := [.int (bI (¬ (w < 0) ∧ ¬ (2 < w)))]) rfl ⟨rfl, rfl⟩ ⟨Nat.le_of_ble_eq_true rfl, Nat.le_of_ble_eq_true rfl⟩ ?_
    refine x_if_neB (P := ¬ (w < 0) ∧ ¬ (2 < w)) (tgt := 16) C dX6_fall_10 (by decide) (fun c2 => ?_) (fun c2 => ?_)
    · have hK := g_nn (x := k) (by assumption)
      have hW := g_in (x := w) (n := 2) (by decide) (by assumption)
      refine x_iload_n C 1 rfl dX6_fall_16 rfl ?_
      refine x_top (y := (nI (nC k))) hK.2 ?_
      refine x_aload_n C 0 rfl dX6_fall_17 rfl ?_
      refine x_get (k := 0) (v := .ref (a 1)) C dX6_fall_18 layX6 fl_X6_7 0 rfl rfl (by decide) rfl ?_
      refine x_sipush (v := (nI 317)) C dX6_fall_21 (by decide) ?_
      refine x_iald (j := 317) C dX6_fall_24 1 rfl rfl (by omega) (by omega) ?_
      refine x_top (y := (nI (nC (s 317)))) hF.2 ?_
      refine x_icmp_geN (a := (nC k)) (b := (nC (s 317))) (tgt := 45) C dX6_fall_25 (by decide) (by omega) (by omega) (fun c3 => ?_) (fun c3 => ?_)
      · refine x_bipush (v := (-5)) C dX6_fall_45 (by decide) ?_
        exact x_iret C hr E dX6_fall_47 (fun _ => 0) (by simp only [mX_fall, m_in, c1, c2, c3,  if_true, if_false, ite_true, ite_false, and_true, true_and, and_false, false_and, or_true, true_or, or_false, false_or, not_true_eq_false, not_false_eq_true, and_self, or_self]) rfl
      · refine x_aload_n C 0 rfl dX6_fall_28 rfl ?_
        refine x_get (k := 0) (v := .ref (a 1)) C dX6_fall_29 layX6 fl_X6_7 0 rfl rfl (by decide) rfl ?_
        refine x_sipush (v := (nI 318)) C dX6_fall_32 (by decide) ?_
        refine x_iconst (v := (nI 3)) C dX6_fall_35 (by decide) ?_
        refine x_iload_n C 1 rfl dX6_fall_36 rfl ?_
        refine x_top (y := (nI (nC k))) hK.2 ?_
        refine x_imulN C dX6_fall_37 ?_
        refine x_iaddN C dX6_fall_38 ?_
        refine x_iload_n C 2 rfl dX6_fall_39 rfl ?_
        refine x_top (y := (nI (nC w))) hW.2 ?_
        refine x_iaddN C dX6_fall_40 ?_
        refine x_iald (j := ((318 + (3 * (nC k))) + (nC w))) C dX6_fall_41 1 rfl rfl (by omega) (by omega) ?_
        refine x_goto (tgt := 47) C dX6_fall_42 (by decide) ?_
        exact x_iret C hr E dX6_fall_47 (fun _ => 0) (by simp only [mX_fall, m_in, c1, c2, c3,  if_true, if_false, ite_true, ite_false, and_true, true_and, and_false, false_and, or_true, true_or, or_false, false_or, not_true_eq_false, not_false_eq_true, and_self, or_self]) rfl
    · refine x_bipush (v := (-2)) C dX6_fall_13 (by decide) ?_
      exact x_iret C hr E dX6_fall_15 (fun _ => 0) (by simp only [mX_fall, m_in, c1, c2,  if_true, if_false, ite_true, ite_false, and_true, true_and, and_false, false_and, or_true, true_or, or_false, false_or, not_true_eq_false, not_false_eq_true, and_self, or_self]) rfl
def rm_X6_reason : Room := { frames := 2, cells := 0, slots := 0, locals := 44 }
set_option maxRecDepth 100000 in
set_option maxHeartbeats 600000 in
theorem c_X6_reason (l : Launch) (G : gG) (a : Nat → Nat) (s as_ hi : Nat → Int32) (kn : Nat) (sn : Nat → Int32) (ik : Int32) (tx : Nat → Int32) (ln : Nat) (it wl : Nat → Int32) (sp : Nat) (iw : Int32) (rs : Nat) (er : Int32) (h r : Int32)  (hz : ¬ s 191 = 0) : CT l yX6_reason cX6_reason 3 (some .int) rm_X6_reason G [.ref (a 0), .int h, .int r] (wM G a s as_ hi kn sn ik tx ln it wl sp iw rs er) (some (.int (mX_reason s h r))) (fun _ => (wM G a s as_ hi kn sn ik tx ln it wl sp iw rs er)) := by
  refine gMet (by decide) (Nat.le_of_ble_eq_true rfl) (fun X hX C hr hin E => ?_)
  clear hX
  refine (show gW G X (wM G a s as_ hi kn sn ik tx ln it wl sp iw rs er) 0 0 0 [(0, .ref (a 0)), (1, .int h), (2, .int r)] [] from ?_)
  refine x_iload_n C 1 rfl dX6_reason_0 rfl ?_
  refine x_callSd (As := [.int h]) (rest := []) C dX6_reason_1 (c_X6_isHorse (gX.l X) G h ) ml_X6_95 st_X6_isHorse in_X6 cd_X6_isHorse hd_X6_isHorse rfl rfl (Nat.le_of_ble_eq_true rfl) ⟨Nat.le_of_ble_eq_true rfl, Nat.le_of_ble_eq_true rfl⟩ [] (wM G a s as_ hi kn sn ik tx ln it wl sp iw rs er) rfl (ws' := (wM G a s as_ hi kn sn ik tx ln it wl sp iw rs er)) rfl (st' := [.int (bI (¬ (h < 0) ∧ ¬ (9 < h)))]) rfl ⟨rfl, rfl⟩ ⟨Nat.le_of_ble_eq_true rfl, Nat.le_of_ble_eq_true rfl⟩ ?_
  refine x_if_eqB (P := ¬ (h < 0) ∧ ¬ (9 < h)) (tgt := 27) C dX6_reason_4 (by decide) (fun c1 => ?_) (fun c1 => ?_)
  · refine x_iconst (v := (-1)) C dX6_reason_27 (by decide) ?_
    exact x_iret C hr E dX6_reason_28 (fun _ => 0) (by simp only [mX_reason, m_in, c1,  if_true, if_false, ite_true, ite_false, and_true, true_and, and_false, false_and, or_true, true_or, or_false, false_or, not_true_eq_false, not_false_eq_true, and_self, or_self]) rfl
  · refine x_iload_n C 2 rfl dX6_reason_7 rfl ?_
    refine x_callSd (As := [.int r]) (rest := []) C dX6_reason_8 (c_X6_isRider (gX.l X) G r ) ml_X6_102 st_X6_isRider in_X6 cd_X6_isRider hd_X6_isRider rfl rfl (Nat.le_of_ble_eq_true rfl) ⟨Nat.le_of_ble_eq_true rfl, Nat.le_of_ble_eq_true rfl⟩ [] (wM G a s as_ hi kn sn ik tx ln it wl sp iw rs er) rfl (ws' := (wM G a s as_ hi kn sn ik tx ln it wl sp iw rs er)) rfl (st' := [.int (bI (¬ (r < 0) ∧ ¬ (11 < r)))]) rfl ⟨rfl, rfl⟩ ⟨Nat.le_of_ble_eq_true rfl, Nat.le_of_ble_eq_true rfl⟩ ?_
    refine x_if_eqB (P := ¬ (r < 0) ∧ ¬ (11 < r)) (tgt := 27) C dX6_reason_11 (by decide) (fun c2 => ?_) (fun c2 => ?_)
    · refine x_iconst (v := (-1)) C dX6_reason_27 (by decide) ?_
      exact x_iret C hr E dX6_reason_28 (fun _ => 0) (by simp only [mX_reason, m_in, c1, c2,  if_true, if_false, ite_true, ite_false, and_true, true_and, and_false, false_and, or_true, true_or, or_false, false_or, not_true_eq_false, not_false_eq_true, and_self, or_self]) rfl
    · have hN := g_in (x := h) (n := 9) (by decide) (by assumption)
      have hR := g_in (x := r) (n := 11) (by decide) (by assumption)
      refine x_aload_n C 0 rfl dX6_reason_14 rfl ?_
      refine x_iload_n C 1 rfl dX6_reason_15 rfl ?_
      refine x_top (y := (nI (nC h))) hN.2 ?_
      refine x_iload_n C 2 rfl dX6_reason_16 rfl ?_
      refine x_top (y := (nI (nC r))) hR.2 ?_
      refine x_aload_n C 0 rfl dX6_reason_17 rfl ?_
      refine x_callVd (As := []) (rest := [.int (nI (nC r)), .int (nI (nC h)), .ref (a 0)]) C dX6_reason_18 (c_X6_shodHorse (gX.l X) G a s as_ hi kn sn ik tx ln it wl sp iw rs er hz) ml_X6_82 im_X6_shodHorse sl_X6_shodHorse in_X6 cd_X6_shodHorse hd_X6_shodHorse 0 rfl rfl rfl rfl (Nat.le_of_ble_eq_true rfl) ⟨Nat.le_of_ble_eq_true rfl, Nat.le_of_ble_eq_true rfl⟩ (List.take 0 (wM G a s as_ hi kn sn ik tx ln it wl sp iw rs er)) (List.drop 8 (wM G a s as_ hi kn sn ik tx ln it wl sp iw rs er)) rfl (ws' := (wM G a s as_ hi kn sn ik tx ln it wl sp iw rs er)) rfl (st' := [.int (m_shod s), .int (nI (nC r)), .int (nI (nC h)), .ref (a 0)]) rfl ⟨rfl, rfl⟩ ⟨Nat.le_of_ble_eq_true rfl, Nat.le_of_ble_eq_true rfl⟩ ?_
      refine x_callVd (As := [.int (nI (nC h)), .int (nI (nC r)), .int (m_shod s)]) (rest := []) C dX6_reason_21 (c_X6_hindrance (gX.l X) G a s as_ hi kn sn ik tx ln it wl sp iw rs er (nC h) (nC r) (m_shod s) (by omega) (by omega)) ml_X6_54 im_X6_hindrance sl_X6_hindrance in_X6 cd_X6_hindrance hd_X6_hindrance 0 rfl rfl rfl rfl (Nat.le_of_ble_eq_true rfl) ⟨Nat.le_of_ble_eq_true rfl, Nat.le_of_ble_eq_true rfl⟩ (List.take 0 (wM G a s as_ hi kn sn ik tx ln it wl sp iw rs er)) (List.drop 8 (wM G a s as_ hi kn sn ik tx ln it wl sp iw rs er)) rfl (ws' := (wM G a s as_ hi kn sn ik tx ln it wl sp iw rs er)) rfl (st' := [.int (m_hind s (nC h) (nC r) (m_shod s))]) rfl ⟨rfl, rfl⟩ ⟨Nat.le_of_ble_eq_true rfl, Nat.le_of_ble_eq_true rfl⟩ ?_
      refine x_goto (tgt := 28) C dX6_reason_24 (by decide) ?_
      exact x_iret C hr E dX6_reason_28 (fun _ => 0) (by simp only [mX_reason, m_in, c1, c2,  if_true, if_false, ite_true, ite_false, and_true, true_and, and_false, false_and, or_true, true_or, or_false, false_or, not_true_eq_false, not_false_eq_true, and_self, or_self]) rfl
def rm_X6_best : Room := { frames := 4, cells := 0, slots := 0, locals := 94 }
set_option maxRecDepth 100000 in
set_option maxHeartbeats 600000 in
theorem c_X6_best (l : Launch) (G : gG) (a : Nat → Nat) (s as_ hi : Nat → Int32) (kn : Nat) (sn : Nat → Int32) (ik : Int32) (tx : Nat → Int32) (ln : Nat) (it wl : Nat → Int32) (sp : Nat) (iw : Int32) (rs : Nat) (er : Int32) (r : Int32)  (hz : ¬ s 191 = 0) : CT l yX6_best cX6_best 2 (some .int) rm_X6_best G [.ref (a 0), .int r] (wM G a s as_ hi kn sn ik tx ln it wl sp iw rs er) (some (.int (mX_best s it r))) (fun _ => (wM G a s as_ hi kn sn ik tx ln (if m_in r 0 11 then zeL it 10 else it) wl sp iw rs er)) := by
  refine gMet (by decide) (Nat.le_of_ble_eq_true rfl) (fun X hX C hr hin E => ?_)
  clear hX
  refine (show gW G X (wM G a s as_ hi kn sn ik tx ln it wl sp iw rs er) 0 0 0 [(0, .ref (a 0)), (1, .int r)] [] from ?_)
  refine x_iload_n C 1 rfl dX6_best_0 rfl ?_
  refine x_callSd (As := [.int r]) (rest := []) C dX6_best_1 (c_X6_isRider (gX.l X) G r ) ml_X6_102 st_X6_isRider in_X6 cd_X6_isRider hd_X6_isRider rfl rfl (Nat.le_of_ble_eq_true rfl) ⟨Nat.le_of_ble_eq_true rfl, Nat.le_of_ble_eq_true rfl⟩ [] (wM G a s as_ hi kn sn ik tx ln it wl sp iw rs er) rfl (ws' := (wM G a s as_ hi kn sn ik tx ln it wl sp iw rs er)) rfl (st' := [.int (bI (¬ (r < 0) ∧ ¬ (11 < r)))]) rfl ⟨rfl, rfl⟩ ⟨Nat.le_of_ble_eq_true rfl, Nat.le_of_ble_eq_true rfl⟩ ?_
  refine x_if_neB (P := ¬ (r < 0) ∧ ¬ (11 < r)) (tgt := 9) C dX6_best_4 (by decide) (fun c1 => ?_) (fun c1 => ?_)
  · have hR := g_in (x := r) (n := 11) (by decide) (by assumption)
    refine x_aload_n C 0 rfl dX6_best_9 rfl ?_
    refine x_callVd (As := []) (rest := []) C dX6_best_10 (c_X6_frees (gX.l X) G a s as_ hi kn sn ik tx ln it wl sp iw rs er ) ml_X6_86 im_X6_frees sl_X6_frees in_X6 cd_X6_frees hd_X6_frees 0 rfl rfl rfl rfl (Nat.le_of_ble_eq_true rfl) ⟨Nat.le_of_ble_eq_true rfl, Nat.le_of_ble_eq_true rfl⟩ (List.take 0 (wM G a s as_ hi kn sn ik tx ln it wl sp iw rs er)) (List.drop 8 (wM G a s as_ hi kn sn ik tx ln it wl sp iw rs er)) rfl (ws' := (wM G a s as_ hi kn sn ik tx ln (zeL it 10) wl sp iw rs er)) rfl (st' := []) rfl ⟨rfl, rfl⟩ ⟨Nat.le_of_ble_eq_true rfl, Nat.le_of_ble_eq_true rfl⟩ ?_
    refine x_aload_n C 0 rfl dX6_best_13 rfl ?_
    refine x_iload_n C 1 rfl dX6_best_14 rfl ?_
    refine x_top (y := (nI (nC r))) hR.2 ?_
    refine x_aload_n C 0 rfl dX6_best_15 rfl ?_
    refine x_callVd (As := []) (rest := [.int (nI (nC r)), .ref (a 0)]) C dX6_best_16 (c_X6_shodHorse (gX.l X) G a s as_ hi kn sn ik tx ln (zeL it 10) wl sp iw rs er hz) ml_X6_82 im_X6_shodHorse sl_X6_shodHorse in_X6 cd_X6_shodHorse hd_X6_shodHorse 0 rfl rfl rfl rfl (Nat.le_of_ble_eq_true rfl) ⟨Nat.le_of_ble_eq_true rfl, Nat.le_of_ble_eq_true rfl⟩ (List.take 0 (wM G a s as_ hi kn sn ik tx ln (zeL it 10) wl sp iw rs er)) (List.drop 8 (wM G a s as_ hi kn sn ik tx ln (zeL it 10) wl sp iw rs er)) rfl (ws' := (wM G a s as_ hi kn sn ik tx ln (zeL it 10) wl sp iw rs er)) rfl (st' := [.int (m_shod s), .int (nI (nC r)), .ref (a 0)]) rfl ⟨rfl, rfl⟩ ⟨Nat.le_of_ble_eq_true rfl, Nat.le_of_ble_eq_true rfl⟩ ?_
    refine x_callVd (As := [.int (nI (nC r)), .int (m_shod s)]) (rest := []) C dX6_best_19 (c_X6_bestFor (gX.l X) G a s as_ hi kn sn ik tx ln (zeL it 10) wl sp iw rs er (nC r) (m_shod s) (by omega)) ml_X6_61 im_X6_bestFor sl_X6_bestFor in_X6 cd_X6_bestFor hd_X6_bestFor 0 rfl rfl rfl rfl (Nat.le_of_ble_eq_true rfl) ⟨Nat.le_of_ble_eq_true rfl, Nat.le_of_ble_eq_true rfl⟩ (List.take 0 (wM G a s as_ hi kn sn ik tx ln (zeL it 10) wl sp iw rs er)) (List.drop 8 (wM G a s as_ hi kn sn ik tx ln (zeL it 10) wl sp iw rs er)) rfl (ws' := (wM G a s as_ hi kn sn ik tx ln (zeL it 10) wl sp iw rs er)) rfl (st' := [.int (m_best s (zeL it 10) (nC r) (m_shod s))]) rfl ⟨rfl, rfl⟩ ⟨Nat.le_of_ble_eq_true rfl, Nat.le_of_ble_eq_true rfl⟩ ?_
    exact x_iret C hr E dX6_best_22 (fun _ => 0) (by simp only [mX_best, m_in, c1,  if_true, if_false, ite_true, ite_false, and_true, true_and, and_false, false_and, or_true, true_or, or_false, false_or, not_true_eq_false, not_false_eq_true, and_self, or_self]) (by simp only [m_in, c1,  if_true, if_false, ite_true, ite_false, and_true, true_and, and_false, false_and, or_true, true_or, or_false, false_or, not_true_eq_false, not_false_eq_true, and_self, or_self])
  · refine x_iconst (v := (-1)) C dX6_best_7 (by decide) ?_
    exact x_iret C hr E dX6_best_8 (fun _ => 0) (by simp only [mX_best, m_in, c1,  if_true, if_false, ite_true, ite_false, and_true, true_and, and_false, false_and, or_true, true_or, or_false, false_or, not_true_eq_false, not_false_eq_true, and_self, or_self]) (by simp only [m_in, c1,  if_true, if_false, ite_true, ite_false, and_true, true_and, and_false, false_and, or_true, true_or, or_false, false_or, not_true_eq_false, not_false_eq_true, and_self, or_self])
