theorem g_in {x : Int32} {n : Nat} (hn : n + 1 < 2 ^ 31) (h : ¬ x < 0 ∧ ¬ nI n < x) : nC x < n + 1 ∧ x = nI (nC x) := by
  obtain ⟨j, hj, rfl⟩ := nI_of h.1
  have h2 := mt (nI_ltI (a := n) (b := j) (by omega) hj).mpr h.2
  rw [nC_nI hj]
  exact ⟨by omega, rfl⟩
theorem g_out {x : Int32} {n : Nat} (hn : n + 1 < 2 ^ 31) (h : ¬ (x < 0 ∨ nI n < x)) : nC x < n + 1 ∧ x = nI (nC x) := g_in hn ⟨fun h1 => h (Or.inl h1), fun h1 => h (Or.inr h1)⟩
def okB (x : Int32) : Prop := nC x ≤ 40 ∧ x = nI (nC x)
theorem m_shR_out {q : Nat} (hq : q ≤ 320) : ∀ (n : Nat) (f : Nat → Int32), m_shR n (n + 2) f q = f q
  | 0, _ => rfl
  | n + 1, f => by
    show m_shR n (n + 1 + 2 - 1) _ q = f q
    rw [show n + 1 + 2 - 1 = n + 2 by omega, m_shR_out hq n, pk_un (by omega)]
theorem m_falls_out {s : Nat → Int32} {r h q : Nat} (hr : r < 12) (hh : h < 10) (hq : q = 0 ∨ (187 ≤ q ∧ q < 313)) : m_falls s r h q = s q := by
  have e : 3 * (min (nC (s 317) + 1) 20) - 1 = 3 * (min (nC (s 317) + 1) 20) - 3 + 2 := by omega
  unfold m_falls m_inc
  rw [e]
  repeat rw [pk_un (by omega)]
  rw [m_shR_out (by omega), pk_un (by omega)]
theorem m_learns_out {s : Nat → Int32} {r q : Nat} (hr : r < 12) (hq : q = 0 ∨ (187 ≤ q ∧ q < 313) ∨ q = 317) : m_learns s r q = s q := by
  unfold m_learns m_inc
  repeat rw [pk_un (by omega)]
theorem m_strains_out {s : Nat → Int32} {h q : Nat} (hh : h < 10) (hq : q = 0 ∨ (187 ≤ q ∧ q < 313) ∨ q = 317) : m_strains s h q = s q := by
  unfold m_strains m_inc
  split <;> repeat rw [pk_un (by omega)]
theorem m_rd1_out {s : Nat → Int32} {r q : Nat} {f : Int32} (hr : r < 12) (hh : nC f < 10) (hq : q = 0 ∨ (187 ≤ q ∧ q < 313) ∨ q = 317) : m_rd1 s r f q = s q := by
  unfold m_rd1 m_inc
  repeat rw [pk_un (by omega)]
theorem m_rd2_out {s : Nat → Int32} {r q : Nat} {f : Int32} (hr : r < 12) (hh : nC f < 10) (hq : q = 0 ∨ (187 ≤ q ∧ q < 313)) : m_rd2 s r f q = s q := by
  unfold m_rd2
  split
  · rw [m_falls_out hr hh hq, m_rd1_out hr hh (by omega)]
  · rw [m_learns_out hr (by omega), m_rd1_out hr hh (by omega)]
theorem m_rideS_out {s : Nat → Int32} {r q : Nat} {f : Int32} (hr : r < 12) (hf : okH f) (hq : q = 0 ∨ (187 ≤ q ∧ q < 313)) : m_rideS s r f q = s q := by
  unfold m_rideS
  by_cases h : f = -5
  · rw [if_pos h]; unfold m_inc; repeat rw [pk_un (by omega)]
  · have hh : nC f < 10 := by
      rcases hf with h9 | h9
      · exact absurd h9 h
      · exact h9.1
    rw [if_neg h]
    split
    · rw [m_strains_out hh (by omega), m_rd2_out hr hh hq]
    · rw [m_rd2_out hr hh hq]
theorem okF_min {n : Nat} (h : n ≤ 20) : okF (nI n) := by
  unfold okF; rw [nC_nI (by omega)]; exact ⟨h, rfl⟩
theorem m_falls_F {s : Nat → Int32} {r h : Nat} (hr : r < 12) (hh : h < 10) (hF : okF (s 317)) : okF (m_falls s r h 317) := by
  have e : 3 * (min (nC (s 317) + 1) 20) - 1 = 3 * (min (nC (s 317) + 1) 20) - 3 + 2 := by omega
  have e2 : m_falls s r h 317 = s 317 + bI (s 317 < 20) := by
    unfold m_falls m_inc
    rw [e]
    repeat rw [pk_un (by omega)]
    rw [m_shR_out (by omega), pk_us]
  rw [e2, m_fmu hF.2 hF.1]
  exact okF_min (by omega)
theorem m_rideS_F {s : Nat → Int32} {r : Nat} {f : Int32} (hr : r < 12) (hf : okH f) (hF : okF (s 317)) : okF (m_rideS s r f 317) := by
  unfold m_rideS
  by_cases h : f = -5
  · rw [if_pos h]; unfold m_inc; rw [pk_un (by omega), pk_un (by omega)]; exact hF
  · have hh : nC f < 10 := by
      rcases hf with h9 | h9
      · exact absurd h9 h
      · exact h9.1
    have h2 : okF (m_rd2 s r f 317) := by
      unfold m_rd2
      split
      · exact m_falls_F hr hh (by rw [m_rd1_317 hr hh]; exact hF)
      · rw [m_learns_out hr (by omega), m_rd1_317 hr hh]; exact hF
    rw [if_neg h]
    split
    · rw [m_strains_out hh (by omega)]; exact h2
    · exact h2
/-- the row of numbers, who is taken, how many rode, how many wait -/
abbrev m_T4 : Type := (Nat → Int32) × (Nat → Int32) × Int32 × Nat
def m_cp3 (s : Nat → Int32) (i l : Nat) : Nat → Int32 :=
  let a := upd s (3 * l + 193) (s (3 * i + 193))
  let b := upd a (3 * l + 194) (a (3 * i + 194))
  upd b (3 * l + 195) (b (3 * i + 195))
def m_gR (p : m_T4) (i : Nat) : Nat := nC (p.1 (3 * i + 195))
def m_gLS (fa : Int32) (i : Nat) (p : m_T4) : m_T4 := if p.1 (3 * i + 193) = p.1 0 then (m_rideS p.1 (m_gR p i) (m_best p.1 p.2.1 (m_gR p i) fa), m_rideT p.2.1 (m_best p.1 p.2.1 (m_gR p i) fa), p.2.2.1 + bI (¬ (m_best p.1 p.2.1 (m_gR p i) fa = -5)), p.2.2.2) else (m_cp3 p.1 i p.2.2.2, p.2.1, p.2.2.1, p.2.2.2 + 1)
def m_gLL (fa : Int32) (p : m_T4) : Nat → m_T4
  | 0 => p
  | i + 1 => m_gLS fa i (m_gLL fa p i)
theorem m_cp3_out {s : Nat → Int32} {i l q : Nat} (hl : l ≤ i) (hi : i < 40) (hq : q < 193 ∨ 313 ≤ q ∨ 3 * i + 195 < q) : m_cp3 s i l q = s q := by
  unfold m_cp3
  repeat rw [pk_un (by omega)]
def m_gN (s it : Nat → Int32) (fa : Int32) : m_T4 := m_gLL fa (s, it, 0, 0) (nC (s 192))
def m_wlL (s wl : Nat → Int32) : Nat → Nat → Int32
  | 0 => wl
  | i + 1 => upd (m_wlL s wl i) i (s (9 * i + 6))
def m_less (s it : Nat → Int32) (h : Nat) : Int32 := (if it h = 1 then -1 else 1) + nI (if iR (s 0) 10 = 9 then 8 else 0)
def m_rs1 (s it wl : Nat → Int32) (h : Nat) : Nat → Int32 :=
  let a := upd s (9 * h + 3) (if s (9 * h + 3) - m_less s it h < 0 then 0 else s (9 * h + 3) - m_less s it h)
  let b := upd a (9 * h + 4) (a (9 * h + 4) + bI (it h = 1))
  upd b (9 * h + 6) (b (9 * h + 6) - bI (0 < wl h))
def m_rests (s it wl : Nat → Int32) (h : Nat) (fa : Int32) : Nat → Int32 := if nI h = fa then m_inc (m_inc (upd (m_rs1 s it wl h) (9 * h + 4) 0) (9 * h + 9)) 316 else m_rs1 s it wl h
def m_rsL (s it wl : Nat → Int32) (fa : Int32) : Nat → Nat → Int32
  | 0 => s
  | h + 1 => m_rests (m_rsL s it wl fa h) it wl h fa
def m_h1G (s it : Nat → Int32) : m_T4 := m_gN s (zeL it 10) (m_shod s)
def m_h1S (s it wl : Nat → Int32) : Nat → Int32 := m_inc (m_rsL (upd (m_h1G s it).1 192 (nI (m_h1G s it).2.2.2)) (m_h1G s it).2.1 (m_wlL s wl 10) (m_shod s) 10) 0
def m_h0S (s it wl : Nat → Int32) : Nat → Int32 := m_inc (m_rsL s (zeL it 10) (m_wlL s wl 10) (m_shod s) 10) 0
def m_lame (s : Nat → Int32) : Nat → Int32
  | 0 => 0
  | h + 1 => m_lame s h + bI (0 < s (9 * h + 6))
def m_tir (s : Nat → Int32) : Nat → Int32
  | 0 => 0
  | h + 1 => m_tir s h + s (9 * h + 3)
def m_bk (s : Nat → Int32) (tm r : Int32) : Nat → Int32
  | 0 => -5
  | i + 1 => if s (3 * i + 193) = tm ∧ s (3 * i + 195) = r then nI i else m_bk s tm r i
def m_bf (s : Nat → Int32) (tm g : Int32) : Nat → Int32
  | 0 => 0
  | i + 1 => m_bf s tm g i + bI (s (3 * i + 193) = tm ∧ s (3 * i + 194) = g)
def m_bof (s : Nat → Int32) (r : Int32) : Nat → Int32
  | 0 => 0
  | i + 1 => m_bof s r i + bI (s (3 * i + 195) = r)
def m_rfor (s : Nat → Int32) (tm g : Int32) : Nat → Int32
  | 0 => 0
  | i + 1 => m_rfor s tm g i ||| (if s (3 * i + 193) = tm ∧ s (3 * i + 194) = g then (1 : Int32) <<< (s (3 * i + 195) &&& 31) else 0)
theorem m_bk_ok (s : Nat → Int32) (tm r : Int32) : ∀ n, n ≤ 40 → m_bk s tm r n = -5 ∨ (nC (m_bk s tm r n) < n ∧ m_bk s tm r n = nI (nC (m_bk s tm r n)))
  | 0, _ => Or.inl rfl
  | i + 1, hi => by
    have ih := m_bk_ok s tm r i (by omega)
    show (if s (3 * i + 193) = tm ∧ s (3 * i + 195) = r then nI i else m_bk s tm r i) = -5 ∨ _
    simp only [m_bk]
    split
    · exact Or.inr ⟨by rw [nC_nI (by omega)]; omega, by rw [nC_nI (by omega)]⟩
    · rcases ih with ih | ih
      · exact Or.inl ih
      · exact Or.inr ⟨by omega, ih.2⟩
def rm_X6_bookingOf : Room := { frames := 1, cells := 0, slots := 0, locals := 21 }
set_option maxRecDepth 100000 in
set_option maxHeartbeats 600000 in
theorem c_X6_bookingOf (l : Launch) (G : gG) (a : Nat → Nat) (s as_ hi : Nat → Int32) (kn : Nat) (sn : Nat → Int32) (ik : Int32) (tx : Nat → Int32) (ln : Nat) (it wl : Nat → Int32) (sp : Nat) (iw : Int32) (rs : Nat) (er : Int32) (tm r : Int32)  (hB : okB (s 192)) : CT l yX6_bookingOf cX6_bookingOf 6 (some .int) rm_X6_bookingOf G [.ref (a 0), .int tm, .int r] (wM G a s as_ hi kn sn ik tx ln it wl sp iw rs er) (some (.int (m_bk s tm r (nC (s 192))))) (fun _ => (wM G a s as_ hi kn sn ik tx ln it wl sp iw rs er)) := by
  refine gMet (by decide) (Nat.le_of_ble_eq_true rfl) (fun X hX C hr hin E => ?_)
  clear hX
  refine (show gW G X (wM G a s as_ hi kn sn ik tx ln it wl sp iw rs er) 0 0 0 [(0, .ref (a 0)), (1, .int tm), (2, .int r)] [] from ?_)
  have hB1 := hB.1
  refine x_bipush (v := (-5)) C dX6_bookingOf_0 (by decide) ?_
  refine x_istore_n (lv' := [(3, .int (-5)), (0, .ref (a 0)), (1, .int tm), (2, .int r)]) C dX6_bookingOf_2 rfl (by decide) rfl ?_
  refine x_iconst (v := (nI 0)) C dX6_bookingOf_3 (by decide) ?_
  refine x_istore (lv' := [(4, .int (nI 0)), (3, .int (-5)), (0, .ref (a 0)), (1, .int tm), (2, .int r)]) C dX6_bookingOf_4 (by decide) rfl ?_
  have L1 : ∀ (fu : Nat) (i : Nat) (f : Int32), i + fu = nC (s 192) → (f = m_bk s tm r i) → gW G X (wM G a s as_ hi kn sn ik tx ln it wl sp iw rs er) 0 0 6 [(4, .int (nI i)), (3, .int f), (0, .ref (a 0)), (1, .int tm), (2, .int r)] [] := by
    intro fu
    induction fu with
    | zero =>
      intro i f hn ha
      have hi9 : i = nC (s 192) := by omega
      refine x_iload C 0 rfl dX6_bookingOf_6 ?_
      refine x_aload_n C 2 rfl dX6_bookingOf_8 rfl ?_
      refine x_get (k := 0) (v := .ref (a 1)) C dX6_bookingOf_9 layX6 fl_X6_7 0 rfl rfl (by decide) rfl ?_
      refine x_sipush (v := (nI 192)) C dX6_bookingOf_12 (by decide) ?_
      refine x_iald (j := 192) C dX6_bookingOf_15 1 rfl rfl (by omega) (by omega) ?_
      refine x_top (y := (nI (nC (s 192)))) hB.2 ?_
      refine x_icmp_geN (a := i) (b := (nC (s 192))) (tgt := 74) C dX6_bookingOf_16 (by decide) (by omega) (by omega) (fun c2 => ?_) (fun c2 => False.elim (by omega))
      refine x_iload_n C 1 rfl dX6_bookingOf_74 rfl ?_
      exact x_iret C hr E dX6_bookingOf_75 (fun _ => 0) (by rw [ha, hi9]) rfl
    | succ fu ih =>
      intro i f hn ha
      refine x_iload C 0 rfl dX6_bookingOf_6 ?_
      refine x_aload_n C 2 rfl dX6_bookingOf_8 rfl ?_
      refine x_get (k := 0) (v := .ref (a 1)) C dX6_bookingOf_9 layX6 fl_X6_7 0 rfl rfl (by decide) rfl ?_
      refine x_sipush (v := (nI 192)) C dX6_bookingOf_12 (by decide) ?_
      refine x_iald (j := 192) C dX6_bookingOf_15 1 rfl rfl (by omega) (by omega) ?_
      refine x_top (y := (nI (nC (s 192)))) hB.2 ?_
      refine x_icmp_geN (a := i) (b := (nC (s 192))) (tgt := 74) C dX6_bookingOf_16 (by decide) (by omega) (by omega) (fun c3 => False.elim (by omega)) (fun c3 => ?_)
      refine x_aload_n C 2 rfl dX6_bookingOf_19 rfl ?_
      refine x_get (k := 0) (v := .ref (a 1)) C dX6_bookingOf_20 layX6 fl_X6_7 0 rfl rfl (by decide) rfl ?_
      refine x_iload C 0 rfl dX6_bookingOf_23 ?_
      refine x_iconst (v := (nI 0)) C dX6_bookingOf_25 (by decide) ?_
      refine x_callSd (As := [.int (nI i), .int (nI 0)]) (rest := [.ref (a 1)]) C dX6_bookingOf_26 (c_X6_ofBooking (gX.l X) G i 0 (3 * i + 193) (by omega)) ml_X6_75 st_X6_ofBooking in_X6 cd_X6_ofBooking hd_X6_ofBooking rfl rfl (Nat.le_of_ble_eq_true rfl) ⟨Nat.le_of_ble_eq_true rfl, Nat.le_of_ble_eq_true rfl⟩ [] (wM G a s as_ hi kn sn ik tx ln it wl sp iw rs er) rfl (ws' := (wM G a s as_ hi kn sn ik tx ln it wl sp iw rs er)) rfl (st' := [.int (nI (3 * i + 193)), .ref (a 1)]) rfl ⟨rfl, rfl⟩ ⟨Nat.le_of_ble_eq_true rfl, Nat.le_of_ble_eq_true rfl⟩ ?_
      refine x_iald (j := (3 * i + 193)) C dX6_bookingOf_29 1 rfl rfl (by omega) (by omega) ?_
      refine x_iload_n C 3 rfl dX6_bookingOf_30 rfl ?_
      have J6 : ∀ (y7 : Int32) , y7 = bI (((s (3 * i + 193)) = tm) ∧ ((s (3 * i + 195)) = r)) → gW G X (wM G a s as_ hi kn sn ik tx ln it wl sp iw rs er) 0 0 54 [(4, .int (nI i)), (3, .int f), (0, .ref (a 0)), (1, .int tm), (2, .int r)] [.int y7] := by
        intro y7 ey7
        subst ey7
        refine x_istore (lv' := [(5, .int (bI (((s (3 * i + 193)) = tm) ∧ ((s (3 * i + 195)) = r)))), (4, .int (nI i)), (3, .int f), (0, .ref (a 0)), (1, .int tm), (2, .int r)]) C dX6_bookingOf_54 (by decide) rfl ?_
        refine x_iload C 0 rfl dX6_bookingOf_56 ?_
        refine x_if_eqB (P := ((s (3 * i + 193)) = tm) ∧ ((s (3 * i + 195)) = r)) (tgt := 66) C dX6_bookingOf_58 (by decide) (fun c8 => ?_) (fun c8 => ?_)
        · refine x_iload_n C 2 rfl dX6_bookingOf_66 rfl ?_
          refine x_istore_n (lv' := [(3, .int f), (5, .int (bI (((s (3 * i + 193)) = tm) ∧ ((s (3 * i + 195)) = r)))), (4, .int (nI i)), (0, .ref (a 0)), (1, .int tm), (2, .int r)]) C dX6_bookingOf_67 rfl (by decide) rfl ?_
          refine x_iinc (v := (nI (i + 1))) (lv' := [(4, .int (nI (i + 1))), (3, .int f), (5, .int (bI (((s (3 * i + 193)) = tm) ∧ ((s (3 * i + 195)) = r)))), (0, .ref (a 0)), (1, .int tm), (2, .int r)]) C 2 rfl dX6_bookingOf_68 (by rw [show Int32.ofInt 1 = nI 1 from rfl]; exact nI_add _ _) (by decide) rfl ?_
          refine x_goto (tgt := 6) C dX6_bookingOf_71 (by decide) ?_
          refine x_lv [0, 1, 3, 4, 5] (lv' := [(4, .int (nI (i + 1))), (3, .int f), (0, .ref (a 0)), (1, .int tm), (2, .int r)]) rfl ?_
          exact ih (i + 1) f (by omega) (by first | (rw [m_bk, if_pos (by assumption)]) | (rw [m_bk, if_neg (by assumption)]; exact ha))
        · refine x_iload C 1 rfl dX6_bookingOf_61 ?_
          refine x_goto (tgt := 67) C dX6_bookingOf_63 (by decide) ?_
          refine x_istore_n (lv' := [(3, .int (nI i)), (5, .int (bI (((s (3 * i + 193)) = tm) ∧ ((s (3 * i + 195)) = r)))), (4, .int (nI i)), (0, .ref (a 0)), (1, .int tm), (2, .int r)]) C dX6_bookingOf_67 rfl (by decide) rfl ?_
          refine x_iinc (v := (nI (i + 1))) (lv' := [(4, .int (nI (i + 1))), (3, .int (nI i)), (5, .int (bI (((s (3 * i + 193)) = tm) ∧ ((s (3 * i + 195)) = r)))), (0, .ref (a 0)), (1, .int tm), (2, .int r)]) C 2 rfl dX6_bookingOf_68 (by rw [show Int32.ofInt 1 = nI 1 from rfl]; exact nI_add _ _) (by decide) rfl ?_
          refine x_goto (tgt := 6) C dX6_bookingOf_71 (by decide) ?_
          refine x_lv [0, 1, 3, 4, 5] (lv' := [(4, .int (nI (i + 1))), (3, .int (nI i)), (0, .ref (a 0)), (1, .int tm), (2, .int r)]) rfl ?_
          exact ih (i + 1) (nI i) (by omega) (by first | (rw [m_bk, if_pos (by assumption)]) | (rw [m_bk, if_neg (by assumption)]; exact ha))
      refine x_icmp_ne (x := (s (3 * i + 193))) (y := tm) (tgt := 53) C dX6_bookingOf_31 (by decide) (fun c4 => ?_) (fun c4 => ?_)
      · refine x_iconst (v := (nI 0)) C dX6_bookingOf_53 (by decide) ?_
        exact J6 (nI 0) (bI_f (by simp only [c4, if_true, if_false, ite_true, ite_false, and_true, true_and, and_false, false_and, or_true, true_or, or_false, false_or, not_true_eq_false, not_false_eq_true, and_self, or_self] <;> decide)).symm
      · refine x_aload_n C 2 rfl dX6_bookingOf_34 rfl ?_
        refine x_get (k := 0) (v := .ref (a 1)) C dX6_bookingOf_35 layX6 fl_X6_7 0 rfl rfl (by decide) rfl ?_
        refine x_iload C 0 rfl dX6_bookingOf_38 ?_
        refine x_iconst (v := (nI 2)) C dX6_bookingOf_40 (by decide) ?_
        refine x_callSd (As := [.int (nI i), .int (nI 2)]) (rest := [.ref (a 1)]) C dX6_bookingOf_41 (c_X6_ofBooking (gX.l X) G i 2 (3 * i + 195) (by omega)) ml_X6_75 st_X6_ofBooking in_X6 cd_X6_ofBooking hd_X6_ofBooking rfl rfl (Nat.le_of_ble_eq_true rfl) ⟨Nat.le_of_ble_eq_true rfl, Nat.le_of_ble_eq_true rfl⟩ [] (wM G a s as_ hi kn sn ik tx ln it wl sp iw rs er) rfl (ws' := (wM G a s as_ hi kn sn ik tx ln it wl sp iw rs er)) rfl (st' := [.int (nI (3 * i + 195)), .ref (a 1)]) rfl ⟨rfl, rfl⟩ ⟨Nat.le_of_ble_eq_true rfl, Nat.le_of_ble_eq_true rfl⟩ ?_
        refine x_iald (j := (3 * i + 195)) C dX6_bookingOf_44 1 rfl rfl (by omega) (by omega) ?_
        refine x_iload_n C 4 rfl dX6_bookingOf_45 rfl ?_
        refine x_icmp_ne (x := (s (3 * i + 195))) (y := r) (tgt := 53) C dX6_bookingOf_46 (by decide) (fun c5 => ?_) (fun c5 => ?_)
        · refine x_iconst (v := (nI 0)) C dX6_bookingOf_53 (by decide) ?_
          exact J6 (nI 0) (bI_f (by simp only [c4, c5, if_true, if_false, ite_true, ite_false, and_true, true_and, and_false, false_and, or_true, true_or, or_false, false_or, not_true_eq_false, not_false_eq_true, and_self, or_self] <;> decide)).symm
        · refine x_iconst (v := (nI 1)) C dX6_bookingOf_49 (by decide) ?_
          refine x_goto (tgt := 54) C dX6_bookingOf_50 (by decide) ?_
          exact J6 (nI 1) (bI_t (by simp only [c4, c5, if_true, if_false, ite_true, ite_false, and_true, true_and, and_false, false_and, or_true, true_or, or_false, false_or, not_true_eq_false, not_false_eq_true, and_self, or_self] <;> decide)).symm
  exact L1 (nC (s 192)) 0 (-5) (by omega) (by rfl)
def rm_X6_bookedFor : Room := { frames := 1, cells := 0, slots := 0, locals := 21 }
set_option maxRecDepth 100000 in
set_option maxHeartbeats 600000 in
theorem c_X6_bookedFor (l : Launch) (G : gG) (a : Nat → Nat) (s as_ hi : Nat → Int32) (kn : Nat) (sn : Nat → Int32) (ik : Int32) (tx : Nat → Int32) (ln : Nat) (it wl : Nat → Int32) (sp : Nat) (iw : Int32) (rs : Nat) (er : Int32) (tm g : Int32)  (hB : okB (s 192)) : CT l yX6_bookedFor cX6_bookedFor 5 (some .int) rm_X6_bookedFor G [.ref (a 0), .int tm, .int g] (wM G a s as_ hi kn sn ik tx ln it wl sp iw rs er) (some (.int (m_bf s tm g (nC (s 192))))) (fun _ => (wM G a s as_ hi kn sn ik tx ln it wl sp iw rs er)) := by
  refine gMet (by decide) (Nat.le_of_ble_eq_true rfl) (fun X hX C hr hin E => ?_)
  clear hX
  refine (show gW G X (wM G a s as_ hi kn sn ik tx ln it wl sp iw rs er) 0 0 0 [(0, .ref (a 0)), (1, .int tm), (2, .int g)] [] from ?_)
  have hB1 := hB.1
  refine x_iconst (v := (nI 0)) C dX6_bookedFor_0 (by decide) ?_
  refine x_istore_n (lv' := [(3, .int (nI 0)), (0, .ref (a 0)), (1, .int tm), (2, .int g)]) C dX6_bookedFor_1 rfl (by decide) rfl ?_
  refine x_iconst (v := (nI 0)) C dX6_bookedFor_2 (by decide) ?_
  refine x_istore (lv' := [(4, .int (nI 0)), (3, .int (nI 0)), (0, .ref (a 0)), (1, .int tm), (2, .int g)]) C dX6_bookedFor_3 (by decide) rfl ?_
  have L1 : ∀ (fu : Nat) (i : Nat) (f : Int32), i + fu = nC (s 192) → (f = m_bf s tm g i) → gW G X (wM G a s as_ hi kn sn ik tx ln it wl sp iw rs er) 0 0 5 [(4, .int (nI i)), (3, .int f), (0, .ref (a 0)), (1, .int tm), (2, .int g)] [] := by
    intro fu
    induction fu with
    | zero =>
      intro i f hn ha
      have hi9 : i = nC (s 192) := by omega
      refine x_iload C 0 rfl dX6_bookedFor_5 ?_
      refine x_aload_n C 2 rfl dX6_bookedFor_7 rfl ?_
      refine x_get (k := 0) (v := .ref (a 1)) C dX6_bookedFor_8 layX6 fl_X6_7 0 rfl rfl (by decide) rfl ?_
      refine x_sipush (v := (nI 192)) C dX6_bookedFor_11 (by decide) ?_
      refine x_iald (j := 192) C dX6_bookedFor_14 1 rfl rfl (by omega) (by omega) ?_
      refine x_top (y := (nI (nC (s 192)))) hB.2 ?_
      refine x_icmp_geN (a := i) (b := (nC (s 192))) (tgt := 62) C dX6_bookedFor_15 (by decide) (by omega) (by omega) (fun c2 => ?_) (fun c2 => False.elim (by omega))
      refine x_iload_n C 1 rfl dX6_bookedFor_62 rfl ?_
      exact x_iret C hr E dX6_bookedFor_63 (fun _ => 0) (by rw [ha, hi9]) rfl
    | succ fu ih =>
      intro i f hn ha
      refine x_iload C 0 rfl dX6_bookedFor_5 ?_
      refine x_aload_n C 2 rfl dX6_bookedFor_7 rfl ?_
      refine x_get (k := 0) (v := .ref (a 1)) C dX6_bookedFor_8 layX6 fl_X6_7 0 rfl rfl (by decide) rfl ?_
      refine x_sipush (v := (nI 192)) C dX6_bookedFor_11 (by decide) ?_
      refine x_iald (j := 192) C dX6_bookedFor_14 1 rfl rfl (by omega) (by omega) ?_
      refine x_top (y := (nI (nC (s 192)))) hB.2 ?_
      refine x_icmp_geN (a := i) (b := (nC (s 192))) (tgt := 62) C dX6_bookedFor_15 (by decide) (by omega) (by omega) (fun c3 => False.elim (by omega)) (fun c3 => ?_)
      refine x_iload_n C 1 rfl dX6_bookedFor_18 rfl ?_
      refine x_aload_n C 2 rfl dX6_bookedFor_19 rfl ?_
      refine x_get (k := 0) (v := .ref (a 1)) C dX6_bookedFor_20 layX6 fl_X6_7 0 rfl rfl (by decide) rfl ?_
      refine x_iload C 0 rfl dX6_bookedFor_23 ?_
      refine x_iconst (v := (nI 0)) C dX6_bookedFor_25 (by decide) ?_
      refine x_callSd (As := [.int (nI i), .int (nI 0)]) (rest := [.ref (a 1), .int f]) C dX6_bookedFor_26 (c_X6_ofBooking (gX.l X) G i 0 (3 * i + 193) (by omega)) ml_X6_75 st_X6_ofBooking in_X6 cd_X6_ofBooking hd_X6_ofBooking rfl rfl (Nat.le_of_ble_eq_true rfl) ⟨Nat.le_of_ble_eq_true rfl, Nat.le_of_ble_eq_true rfl⟩ [] (wM G a s as_ hi kn sn ik tx ln it wl sp iw rs er) rfl (ws' := (wM G a s as_ hi kn sn ik tx ln it wl sp iw rs er)) rfl (st' := [.int (nI (3 * i + 193)), .ref (a 1), .int f]) rfl ⟨rfl, rfl⟩ ⟨Nat.le_of_ble_eq_true rfl, Nat.le_of_ble_eq_true rfl⟩ ?_
      refine x_iald (j := (3 * i + 193)) C dX6_bookedFor_29 1 rfl rfl (by omega) (by omega) ?_
      refine x_iload_n C 3 rfl dX6_bookedFor_30 rfl ?_
      have J6 : ∀ (y7 : Int32) , y7 = bI (((s (3 * i + 193)) = tm) ∧ ((s (3 * i + 194)) = g)) → gW G X (wM G a s as_ hi kn sn ik tx ln it wl sp iw rs er) 0 0 54 [(4, .int (nI i)), (3, .int f), (0, .ref (a 0)), (1, .int tm), (2, .int g)] [.int y7, .int f] := by
        intro y7 ey7
        subst ey7
        refine x_iadd (x := f) (y := (bI (((s (3 * i + 193)) = tm) ∧ ((s (3 * i + 194)) = g)))) C dX6_bookedFor_54 ?_
        refine x_istore_n (lv' := [(3, .int (f + (bI (((s (3 * i + 193)) = tm) ∧ ((s (3 * i + 194)) = g))))), (4, .int (nI i)), (0, .ref (a 0)), (1, .int tm), (2, .int g)]) C dX6_bookedFor_55 rfl (by decide) rfl ?_
        refine x_iinc (v := (nI (i + 1))) (lv' := [(4, .int (nI (i + 1))), (3, .int (f + (bI (((s (3 * i + 193)) = tm) ∧ ((s (3 * i + 194)) = g))))), (0, .ref (a 0)), (1, .int tm), (2, .int g)]) C 1 rfl dX6_bookedFor_56 (by rw [show Int32.ofInt 1 = nI 1 from rfl]; exact nI_add _ _) (by decide) rfl ?_
        refine x_goto (tgt := 5) C dX6_bookedFor_59 (by decide) ?_
        exact ih (i + 1) (f + (bI (((s (3 * i + 193)) = tm) ∧ ((s (3 * i + 194)) = g)))) (by omega) (by rw [ha]; rfl)
      refine x_icmp_ne (x := (s (3 * i + 193))) (y := tm) (tgt := 53) C dX6_bookedFor_31 (by decide) (fun c4 => ?_) (fun c4 => ?_)
      · refine x_iconst (v := (nI 0)) C dX6_bookedFor_53 (by decide) ?_
        exact J6 (nI 0) (bI_f (by simp only [c4, if_true, if_false, ite_true, ite_false, and_true, true_and, and_false, false_and, or_true, true_or, or_false, false_or, not_true_eq_false, not_false_eq_true, and_self, or_self] <;> decide)).symm
      · refine x_aload_n C 2 rfl dX6_bookedFor_34 rfl ?_
        refine x_get (k := 0) (v := .ref (a 1)) C dX6_bookedFor_35 layX6 fl_X6_7 0 rfl rfl (by decide) rfl ?_
        refine x_iload C 0 rfl dX6_bookedFor_38 ?_
        refine x_iconst (v := (nI 1)) C dX6_bookedFor_40 (by decide) ?_
        refine x_callSd (As := [.int (nI i), .int (nI 1)]) (rest := [.ref (a 1), .int f]) C dX6_bookedFor_41 (c_X6_ofBooking (gX.l X) G i 1 (3 * i + 194) (by omega)) ml_X6_75 st_X6_ofBooking in_X6 cd_X6_ofBooking hd_X6_ofBooking rfl rfl (Nat.le_of_ble_eq_true rfl) ⟨Nat.le_of_ble_eq_true rfl, Nat.le_of_ble_eq_true rfl⟩ [] (wM G a s as_ hi kn sn ik tx ln it wl sp iw rs er) rfl (ws' := (wM G a s as_ hi kn sn ik tx ln it wl sp iw rs er)) rfl (st' := [.int (nI (3 * i + 194)), .ref (a 1), .int f]) rfl ⟨rfl, rfl⟩ ⟨Nat.le_of_ble_eq_true rfl, Nat.le_of_ble_eq_true rfl⟩ ?_
        refine x_iald (j := (3 * i + 194)) C dX6_bookedFor_44 1 rfl rfl (by omega) (by omega) ?_
        refine x_iload_n C 4 rfl dX6_bookedFor_45 rfl ?_
        refine x_icmp_ne (x := (s (3 * i + 194))) (y := g) (tgt := 53) C dX6_bookedFor_46 (by decide) (fun c5 => ?_) (fun c5 => ?_)
        · refine x_iconst (v := (nI 0)) C dX6_bookedFor_53 (by decide) ?_
          exact J6 (nI 0) (bI_f (by simp only [c4, c5, if_true, if_false, ite_true, ite_false, and_true, true_and, and_false, false_and, or_true, true_or, or_false, false_or, not_true_eq_false, not_false_eq_true, and_self, or_self] <;> decide)).symm
        · refine x_iconst (v := (nI 1)) C dX6_bookedFor_49 (by decide) ?_
          refine x_goto (tgt := 54) C dX6_bookedFor_50 (by decide) ?_
          exact J6 (nI 1) (bI_t (by simp only [c4, c5, if_true, if_false, ite_true, ite_false, and_true, true_and, and_false, false_and, or_true, true_or, or_false, false_or, not_true_eq_false, not_false_eq_true, and_self, or_self] <;> decide)).symm
  exact L1 (nC (s 192)) 0 0 (by omega) (by rfl)
def rm_X6_bookingsOf : Room := { frames := 1, cells := 0, slots := 0, locals := 21 }
set_option maxRecDepth 100000 in
set_option maxHeartbeats 600000 in
theorem c_X6_bookingsOf (l : Launch) (G : gG) (a : Nat → Nat) (s as_ hi : Nat → Int32) (kn : Nat) (sn : Nat → Int32) (ik : Int32) (tx : Nat → Int32) (ln : Nat) (it wl : Nat → Int32) (sp : Nat) (iw : Int32) (rs : Nat) (er : Int32) (r : Int32)  (hB : okB (s 192)) : CT l yX6_bookingsOf cX6_bookingsOf 4 (some .int) rm_X6_bookingsOf G [.ref (a 0), .int r] (wM G a s as_ hi kn sn ik tx ln it wl sp iw rs er) (some (.int (m_bof s r (nC (s 192))))) (fun _ => (wM G a s as_ hi kn sn ik tx ln it wl sp iw rs er)) := by
  refine gMet (by decide) (Nat.le_of_ble_eq_true rfl) (fun X hX C hr hin E => ?_)
  clear hX
  refine (show gW G X (wM G a s as_ hi kn sn ik tx ln it wl sp iw rs er) 0 0 0 [(0, .ref (a 0)), (1, .int r)] [] from ?_)
  have hB1 := hB.1
  refine x_iconst (v := (nI 0)) C dX6_bookingsOf_0 (by decide) ?_
  refine x_istore_n (lv' := [(2, .int (nI 0)), (0, .ref (a 0)), (1, .int r)]) C dX6_bookingsOf_1 rfl (by decide) rfl ?_
  refine x_iconst (v := (nI 0)) C dX6_bookingsOf_2 (by decide) ?_
  refine x_istore_n (lv' := [(3, .int (nI 0)), (2, .int (nI 0)), (0, .ref (a 0)), (1, .int r)]) C dX6_bookingsOf_3 rfl (by decide) rfl ?_
  have L1 : ∀ (fu : Nat) (i : Nat) (f : Int32), i + fu = nC (s 192) → (f = m_bof s r i) → gW G X (wM G a s as_ hi kn sn ik tx ln it wl sp iw rs er) 0 0 4 [(3, .int (nI i)), (2, .int f), (0, .ref (a 0)), (1, .int r)] [] := by
    intro fu
    induction fu with
    | zero =>
      intro i f hn ha
      have hi9 : i = nC (s 192) := by omega
      refine x_iload_n C 0 rfl dX6_bookingsOf_4 rfl ?_
      refine x_aload_n C 2 rfl dX6_bookingsOf_5 rfl ?_
      refine x_get (k := 0) (v := .ref (a 1)) C dX6_bookingsOf_6 layX6 fl_X6_7 0 rfl rfl (by decide) rfl ?_
      refine x_sipush (v := (nI 192)) C dX6_bookingsOf_9 (by decide) ?_
      refine x_iald (j := 192) C dX6_bookingsOf_12 1 rfl rfl (by omega) (by omega) ?_
      refine x_top (y := (nI (nC (s 192)))) hB.2 ?_
      refine x_icmp_geN (a := i) (b := (nC (s 192))) (tgt := 44) C dX6_bookingsOf_13 (by decide) (by omega) (by omega) (fun c2 => ?_) (fun c2 => False.elim (by omega))
      refine x_iload_n C 1 rfl dX6_bookingsOf_44 rfl ?_
      exact x_iret C hr E dX6_bookingsOf_45 (fun _ => 0) (by rw [ha, hi9]) rfl
    | succ fu ih =>
      intro i f hn ha
      refine x_iload_n C 0 rfl dX6_bookingsOf_4 rfl ?_
      refine x_aload_n C 2 rfl dX6_bookingsOf_5 rfl ?_
      refine x_get (k := 0) (v := .ref (a 1)) C dX6_bookingsOf_6 layX6 fl_X6_7 0 rfl rfl (by decide) rfl ?_
      refine x_sipush (v := (nI 192)) C dX6_bookingsOf_9 (by decide) ?_
      refine x_iald (j := 192) C dX6_bookingsOf_12 1 rfl rfl (by omega) (by omega) ?_
      refine x_top (y := (nI (nC (s 192)))) hB.2 ?_
      refine x_icmp_geN (a := i) (b := (nC (s 192))) (tgt := 44) C dX6_bookingsOf_13 (by decide) (by omega) (by omega) (fun c3 => False.elim (by omega)) (fun c3 => ?_)
      refine x_iload_n C 1 rfl dX6_bookingsOf_16 rfl ?_
      refine x_aload_n C 2 rfl dX6_bookingsOf_17 rfl ?_
      refine x_get (k := 0) (v := .ref (a 1)) C dX6_bookingsOf_18 layX6 fl_X6_7 0 rfl rfl (by decide) rfl ?_
      refine x_iload_n C 0 rfl dX6_bookingsOf_21 rfl ?_
      refine x_iconst (v := (nI 2)) C dX6_bookingsOf_22 (by decide) ?_
      refine x_callSd (As := [.int (nI i), .int (nI 2)]) (rest := [.ref (a 1), .int f]) C dX6_bookingsOf_23 (c_X6_ofBooking (gX.l X) G i 2 (3 * i + 195) (by omega)) ml_X6_75 st_X6_ofBooking in_X6 cd_X6_ofBooking hd_X6_ofBooking rfl rfl (Nat.le_of_ble_eq_true rfl) ⟨Nat.le_of_ble_eq_true rfl, Nat.le_of_ble_eq_true rfl⟩ [] (wM G a s as_ hi kn sn ik tx ln it wl sp iw rs er) rfl (ws' := (wM G a s as_ hi kn sn ik tx ln it wl sp iw rs er)) rfl (st' := [.int (nI (3 * i + 195)), .ref (a 1), .int f]) rfl ⟨rfl, rfl⟩ ⟨Nat.le_of_ble_eq_true rfl, Nat.le_of_ble_eq_true rfl⟩ ?_
      refine x_iald (j := (3 * i + 195)) C dX6_bookingsOf_26 1 rfl rfl (by omega) (by omega) ?_
      refine x_iload_n C 3 rfl dX6_bookingsOf_27 rfl ?_
      have J5 : ∀ (y6 : Int32) , y6 = bI ((s (3 * i + 195)) = r) → gW G X (wM G a s as_ hi kn sn ik tx ln it wl sp iw rs er) 0 0 36 [(3, .int (nI i)), (2, .int f), (0, .ref (a 0)), (1, .int r)] [.int y6, .int f] := by
        intro y6 ey6
        subst ey6
        refine x_iadd (x := f) (y := (bI ((s (3 * i + 195)) = r))) C dX6_bookingsOf_36 ?_
        refine x_istore_n (lv' := [(2, .int (f + (bI ((s (3 * i + 195)) = r)))), (3, .int (nI i)), (0, .ref (a 0)), (1, .int r)]) C dX6_bookingsOf_37 rfl (by decide) rfl ?_
        refine x_iinc (v := (nI (i + 1))) (lv' := [(3, .int (nI (i + 1))), (2, .int (f + (bI ((s (3 * i + 195)) = r)))), (0, .ref (a 0)), (1, .int r)]) C 1 rfl dX6_bookingsOf_38 (by rw [show Int32.ofInt 1 = nI 1 from rfl]; exact nI_add _ _) (by decide) rfl ?_
        refine x_goto (tgt := 4) C dX6_bookingsOf_41 (by decide) ?_
        exact ih (i + 1) (f + (bI ((s (3 * i + 195)) = r))) (by omega) (by rw [ha]; rfl)
      refine x_icmp_ne (x := (s (3 * i + 195))) (y := r) (tgt := 35) C dX6_bookingsOf_28 (by decide) (fun c4 => ?_) (fun c4 => ?_)
      · refine x_iconst (v := (nI 0)) C dX6_bookingsOf_35 (by decide) ?_
        exact J5 (nI 0) (bI_f (by simp only [c4, if_true, if_false, ite_true, ite_false, and_true, true_and, and_false, false_and, or_true, true_or, or_false, false_or, not_true_eq_false, not_false_eq_true, and_self, or_self] <;> decide)).symm
      · refine x_iconst (v := (nI 1)) C dX6_bookingsOf_31 (by decide) ?_
        refine x_goto (tgt := 36) C dX6_bookingsOf_32 (by decide) ?_
        exact J5 (nI 1) (bI_t (by simp only [c4, if_true, if_false, ite_true, ite_false, and_true, true_and, and_false, false_and, or_true, true_or, or_false, false_or, not_true_eq_false, not_false_eq_true, and_self, or_self] <;> decide)).symm
  exact L1 (nC (s 192)) 0 0 (by omega) (by rfl)
def rm_X6_ridersFor : Room := { frames := 1, cells := 0, slots := 0, locals := 21 }
set_option maxRecDepth 100000 in
set_option maxHeartbeats 600000 in
theorem c_X6_ridersFor (l : Launch) (G : gG) (a : Nat → Nat) (s as_ hi : Nat → Int32) (kn : Nat) (sn : Nat → Int32) (ik : Int32) (tx : Nat → Int32) (ln : Nat) (it wl : Nat → Int32) (sp : Nat) (iw : Int32) (rs : Nat) (er : Int32) (tm g : Int32)  (hB : okB (s 192)) : CT l yX6_ridersFor cX6_ridersFor 6 (some .int) rm_X6_ridersFor G [.ref (a 0), .int tm, .int g] (wM G a s as_ hi kn sn ik tx ln it wl sp iw rs er) (some (.int (m_rfor s tm g (nC (s 192))))) (fun _ => (wM G a s as_ hi kn sn ik tx ln it wl sp iw rs er)) := by
  refine gMet (by decide) (Nat.le_of_ble_eq_true rfl) (fun X hX C hr hin E => ?_)
  clear hX
  refine (show gW G X (wM G a s as_ hi kn sn ik tx ln it wl sp iw rs er) 0 0 0 [(0, .ref (a 0)), (1, .int tm), (2, .int g)] [] from ?_)
  have hB1 := hB.1
  refine x_iconst (v := (nI 0)) C dX6_ridersFor_0 (by decide) ?_
  refine x_istore_n (lv' := [(3, .int (nI 0)), (0, .ref (a 0)), (1, .int tm), (2, .int g)]) C dX6_ridersFor_1 rfl (by decide) rfl ?_
  refine x_iconst (v := (nI 0)) C dX6_ridersFor_2 (by decide) ?_
  refine x_istore (lv' := [(4, .int (nI 0)), (3, .int (nI 0)), (0, .ref (a 0)), (1, .int tm), (2, .int g)]) C dX6_ridersFor_3 (by decide) rfl ?_
  have L1 : ∀ (fu : Nat) (i : Nat) (f : Int32), i + fu = nC (s 192) → (f = m_rfor s tm g i) → gW G X (wM G a s as_ hi kn sn ik tx ln it wl sp iw rs er) 0 0 5 [(4, .int (nI i)), (3, .int f), (0, .ref (a 0)), (1, .int tm), (2, .int g)] [] := by
    intro fu
    induction fu with
    | zero =>
      intro i f hn ha
      have hi9 : i = nC (s 192) := by omega
      refine x_iload C 0 rfl dX6_ridersFor_5 ?_
      refine x_aload_n C 2 rfl dX6_ridersFor_7 rfl ?_
      refine x_get (k := 0) (v := .ref (a 1)) C dX6_ridersFor_8 layX6 fl_X6_7 0 rfl rfl (by decide) rfl ?_
      refine x_sipush (v := (nI 192)) C dX6_ridersFor_11 (by decide) ?_
      refine x_iald (j := 192) C dX6_ridersFor_14 1 rfl rfl (by omega) (by omega) ?_
      refine x_top (y := (nI (nC (s 192)))) hB.2 ?_
      refine x_icmp_geN (a := i) (b := (nC (s 192))) (tgt := 86) C dX6_ridersFor_15 (by decide) (by omega) (by omega) (fun c2 => ?_) (fun c2 => False.elim (by omega))
      refine x_iload_n C 1 rfl dX6_ridersFor_86 rfl ?_
      exact x_iret C hr E dX6_ridersFor_87 (fun _ => 0) (by rw [ha, hi9]) rfl
    | succ fu ih =>
      intro i f hn ha
      refine x_iload C 0 rfl dX6_ridersFor_5 ?_
      refine x_aload_n C 2 rfl dX6_ridersFor_7 rfl ?_
      refine x_get (k := 0) (v := .ref (a 1)) C dX6_ridersFor_8 layX6 fl_X6_7 0 rfl rfl (by decide) rfl ?_
      refine x_sipush (v := (nI 192)) C dX6_ridersFor_11 (by decide) ?_
      refine x_iald (j := 192) C dX6_ridersFor_14 1 rfl rfl (by omega) (by omega) ?_
      refine x_top (y := (nI (nC (s 192)))) hB.2 ?_
      refine x_icmp_geN (a := i) (b := (nC (s 192))) (tgt := 86) C dX6_ridersFor_15 (by decide) (by omega) (by omega) (fun c3 => False.elim (by omega)) (fun c3 => ?_)
      refine x_aload_n C 2 rfl dX6_ridersFor_18 rfl ?_
      refine x_get (k := 0) (v := .ref (a 1)) C dX6_ridersFor_19 layX6 fl_X6_7 0 rfl rfl (by decide) rfl ?_
      refine x_iload C 0 rfl dX6_ridersFor_22 ?_
      refine x_iconst (v := (nI 0)) C dX6_ridersFor_24 (by decide) ?_
      refine x_callSd (As := [.int (nI i), .int (nI 0)]) (rest := [.ref (a 1)]) C dX6_ridersFor_25 (c_X6_ofBooking (gX.l X) G i 0 (3 * i + 193) (by omega)) ml_X6_75 st_X6_ofBooking in_X6 cd_X6_ofBooking hd_X6_ofBooking rfl rfl (Nat.le_of_ble_eq_true rfl) ⟨Nat.le_of_ble_eq_true rfl, Nat.le_of_ble_eq_true rfl⟩ [] (wM G a s as_ hi kn sn ik tx ln it wl sp iw rs er) rfl (ws' := (wM G a s as_ hi kn sn ik tx ln it wl sp iw rs er)) rfl (st' := [.int (nI (3 * i + 193)), .ref (a 1)]) rfl ⟨rfl, rfl⟩ ⟨Nat.le_of_ble_eq_true rfl, Nat.le_of_ble_eq_true rfl⟩ ?_
      refine x_iald (j := (3 * i + 193)) C dX6_ridersFor_28 1 rfl rfl (by omega) (by omega) ?_
      refine x_iload_n C 3 rfl dX6_ridersFor_29 rfl ?_
      have J6 : ∀ (y7 : Int32) , y7 = bI (((s (3 * i + 193)) = tm) ∧ ((s (3 * i + 194)) = g)) → gW G X (wM G a s as_ hi kn sn ik tx ln it wl sp iw rs er) 0 0 53 [(4, .int (nI i)), (3, .int f), (0, .ref (a 0)), (1, .int tm), (2, .int g)] [.int y7] := by
        intro y7 ey7
        subst ey7
        refine x_istore (lv' := [(5, .int (bI (((s (3 * i + 193)) = tm) ∧ ((s (3 * i + 194)) = g)))), (4, .int (nI i)), (3, .int f), (0, .ref (a 0)), (1, .int tm), (2, .int g)]) C dX6_ridersFor_53 (by decide) rfl ?_
        refine x_iload_n C 2 rfl dX6_ridersFor_55 rfl ?_
        refine x_iload C 0 rfl dX6_ridersFor_56 ?_
        have J9 : ∀ (y10 : Int32) , y10 = (if ((s (3 * i + 193)) = tm) ∧ ((s (3 * i + 194)) = g) then (1 <<< ((s (3 * i + 195)) &&& 31)) else 0) → gW G X (wM G a s as_ hi kn sn ik tx ln it wl sp iw rs er) 0 0 78 [(5, .int (bI (((s (3 * i + 193)) = tm) ∧ ((s (3 * i + 194)) = g)))), (4, .int (nI i)), (3, .int f), (0, .ref (a 0)), (1, .int tm), (2, .int g)] [.int y10, .int f] := by
          intro y10 ey10
          subst ey10
          refine x_ior (x := f) (y := (if ((s (3 * i + 193)) = tm) ∧ ((s (3 * i + 194)) = g) then (1 <<< ((s (3 * i + 195)) &&& 31)) else 0)) C dX6_ridersFor_78 ?_
          refine x_istore_n (lv' := [(3, .int (f ||| (if ((s (3 * i + 193)) = tm) ∧ ((s (3 * i + 194)) = g) then (1 <<< ((s (3 * i + 195)) &&& 31)) else 0))), (5, .int (bI (((s (3 * i + 193)) = tm) ∧ ((s (3 * i + 194)) = g)))), (4, .int (nI i)), (0, .ref (a 0)), (1, .int tm), (2, .int g)]) C dX6_ridersFor_79 rfl (by decide) rfl ?_
          refine x_iinc (v := (nI (i + 1))) (lv' := [(4, .int (nI (i + 1))), (3, .int (f ||| (if ((s (3 * i + 193)) = tm) ∧ ((s (3 * i + 194)) = g) then (1 <<< ((s (3 * i + 195)) &&& 31)) else 0))), (5, .int (bI (((s (3 * i + 193)) = tm) ∧ ((s (3 * i + 194)) = g)))), (0, .ref (a 0)), (1, .int tm), (2, .int g)]) C 2 rfl dX6_ridersFor_80 (by rw [show Int32.ofInt 1 = nI 1 from rfl]; exact nI_add _ _) (by decide) rfl ?_
          refine x_goto (tgt := 5) C dX6_ridersFor_83 (by decide) ?_
          refine x_lv [0, 1, 3, 4, 5] (lv' := [(4, .int (nI (i + 1))), (3, .int (f ||| (if ((s (3 * i + 193)) = tm) ∧ ((s (3 * i + 194)) = g) then (1 <<< ((s (3 * i + 195)) &&& 31)) else 0))), (0, .ref (a 0)), (1, .int tm), (2, .int g)]) rfl ?_
          exact ih (i + 1) (f ||| (if ((s (3 * i + 193)) = tm) ∧ ((s (3 * i + 194)) = g) then (1 <<< ((s (3 * i + 195)) &&& 31)) else 0)) (by omega) (by rw [ha]; rfl)
        refine x_if_eqB (P := ((s (3 * i + 193)) = tm) ∧ ((s (3 * i + 194)) = g)) (tgt := 77) C dX6_ridersFor_58 (by decide) (fun c8 => ?_) (fun c8 => ?_)
        · refine x_iconst (v := (nI 0)) C dX6_ridersFor_77 (by decide) ?_
          exact J9 0 (by rw [if_neg c8] <;> rfl)
        · refine x_iconst (v := (nI 1)) C dX6_ridersFor_61 (by decide) ?_
          refine x_aload_n C 3 rfl dX6_ridersFor_62 rfl ?_
          refine x_get (k := 0) (v := .ref (a 1)) C dX6_ridersFor_63 layX6 fl_X6_7 0 rfl rfl (by decide) rfl ?_
          refine x_iload C 1 rfl dX6_ridersFor_66 ?_
          refine x_iconst (v := (nI 2)) C dX6_ridersFor_68 (by decide) ?_
          refine x_callSd (As := [.int (nI i), .int (nI 2)]) (rest := [.ref (a 1), .int (nI 1), .int f]) C dX6_ridersFor_69 (c_X6_ofBooking (gX.l X) G i 2 (3 * i + 195) (by omega)) ml_X6_75 st_X6_ofBooking in_X6 cd_X6_ofBooking hd_X6_ofBooking rfl rfl (Nat.le_of_ble_eq_true rfl) ⟨Nat.le_of_ble_eq_true rfl, Nat.le_of_ble_eq_true rfl⟩ [] (wM G a s as_ hi kn sn ik tx ln it wl sp iw rs er) rfl (ws' := (wM G a s as_ hi kn sn ik tx ln it wl sp iw rs er)) rfl (st' := [.int (nI (3 * i + 195)), .ref (a 1), .int (nI 1), .int f]) rfl ⟨rfl, rfl⟩ ⟨Nat.le_of_ble_eq_true rfl, Nat.le_of_ble_eq_true rfl⟩ ?_
          refine x_iald (j := (3 * i + 195)) C dX6_ridersFor_72 1 rfl rfl (by omega) (by omega) ?_
          refine x_ishl (x := 1) (y := (s (3 * i + 195))) C dX6_ridersFor_73 ?_
          refine x_goto (tgt := 78) C dX6_ridersFor_74 (by decide) ?_
          exact J9 (1 <<< ((s (3 * i + 195)) &&& 31)) (by rw [if_pos c8] <;> rfl)
      refine x_icmp_ne (x := (s (3 * i + 193))) (y := tm) (tgt := 52) C dX6_ridersFor_30 (by decide) (fun c4 => ?_) (fun c4 => ?_)
      · refine x_iconst (v := (nI 0)) C dX6_ridersFor_52 (by decide) ?_
        exact J6 (nI 0) (bI_f (by simp only [c4, if_true, if_false, ite_true, ite_false, and_true, true_and, and_false, false_and, or_true, true_or, or_false, false_or, not_true_eq_false, not_false_eq_true, and_self, or_self] <;> decide)).symm
      · refine x_aload_n C 2 rfl dX6_ridersFor_33 rfl ?_
        refine x_get (k := 0) (v := .ref (a 1)) C dX6_ridersFor_34 layX6 fl_X6_7 0 rfl rfl (by decide) rfl ?_
        refine x_iload C 0 rfl dX6_ridersFor_37 ?_
        refine x_iconst (v := (nI 1)) C dX6_ridersFor_39 (by decide) ?_
        refine x_callSd (As := [.int (nI i), .int (nI 1)]) (rest := [.ref (a 1)]) C dX6_ridersFor_40 (c_X6_ofBooking (gX.l X) G i 1 (3 * i + 194) (by omega)) ml_X6_75 st_X6_ofBooking in_X6 cd_X6_ofBooking hd_X6_ofBooking rfl rfl (Nat.le_of_ble_eq_true rfl) ⟨Nat.le_of_ble_eq_true rfl, Nat.le_of_ble_eq_true rfl⟩ [] (wM G a s as_ hi kn sn ik tx ln it wl sp iw rs er) rfl (ws' := (wM G a s as_ hi kn sn ik tx ln it wl sp iw rs er)) rfl (st' := [.int (nI (3 * i + 194)), .ref (a 1)]) rfl ⟨rfl, rfl⟩ ⟨Nat.le_of_ble_eq_true rfl, Nat.le_of_ble_eq_true rfl⟩ ?_
        refine x_iald (j := (3 * i + 194)) C dX6_ridersFor_43 1 rfl rfl (by omega) (by omega) ?_
        refine x_iload_n C 4 rfl dX6_ridersFor_44 rfl ?_
        refine x_icmp_ne (x := (s (3 * i + 194))) (y := g) (tgt := 52) C dX6_ridersFor_45 (by decide) (fun c5 => ?_) (fun c5 => ?_)
        · refine x_iconst (v := (nI 0)) C dX6_ridersFor_52 (by decide) ?_
          exact J6 (nI 0) (bI_f (by simp only [c4, c5, if_true, if_false, ite_true, ite_false, and_true, true_and, and_false, false_and, or_true, true_or, or_false, false_or, not_true_eq_false, not_false_eq_true, and_self, or_self] <;> decide)).symm
        · refine x_iconst (v := (nI 1)) C dX6_ridersFor_48 (by decide) ?_
          refine x_goto (tgt := 53) C dX6_ridersFor_49 (by decide) ?_
          exact J6 (nI 1) (bI_t (by simp only [c4, c5, if_true, if_false, ite_true, ite_false, and_true, true_and, and_false, false_and, or_true, true_or, or_false, false_or, not_true_eq_false, not_false_eq_true, and_self, or_self] <;> decide)).symm
  exact L1 (nC (s 192)) 0 0 (by omega) (by rfl)
def rm_X6_lameHorses : Room := { frames := 1, cells := 0, slots := 0, locals := 21 }
set_option maxRecDepth 100000 in
set_option maxHeartbeats 600000 in
theorem c_X6_lameHorses (l : Launch) (G : gG) (a : Nat → Nat) (s as_ hi : Nat → Int32) (kn : Nat) (sn : Nat → Int32) (ik : Int32) (tx : Nat → Int32) (ln : Nat) (it wl : Nat → Int32) (sp : Nat) (iw : Int32) (rs : Nat) (er : Int32)  : CT l yX6_lameHorses cX6_lameHorses 3 (some .int) rm_X6_lameHorses G [.ref (a 0)] (wM G a s as_ hi kn sn ik tx ln it wl sp iw rs er) (some (.int (m_lame s 10))) (fun _ => (wM G a s as_ hi kn sn ik tx ln it wl sp iw rs er)) := by
  refine gMet (by decide) (Nat.le_of_ble_eq_true rfl) (fun X hX C hr hin E => ?_)
  clear hX
  refine (show gW G X (wM G a s as_ hi kn sn ik tx ln it wl sp iw rs er) 0 0 0 [(0, .ref (a 0))] [] from ?_)
  refine x_iconst (v := (nI 0)) C dX6_lameHorses_0 (by decide) ?_
  refine x_istore_n (lv' := [(1, .int (nI 0)), (0, .ref (a 0))]) C dX6_lameHorses_1 rfl (by decide) rfl ?_
  refine x_iconst (v := (nI 0)) C dX6_lameHorses_2 (by decide) ?_
  refine x_istore_n (lv' := [(2, .int (nI 0)), (1, .int (nI 0)), (0, .ref (a 0))]) C dX6_lameHorses_3 rfl (by decide) rfl ?_
  have L1 : ∀ (fu : Nat) (i : Nat) (f : Int32), i + fu = 10 → (f = m_lame s i) → gW G X (wM G a s as_ hi kn sn ik tx ln it wl sp iw rs er) 0 0 4 [(2, .int (nI i)), (1, .int f), (0, .ref (a 0))] [] := by
    intro fu
    induction fu with
    | zero =>
      intro i f hn ha
      have hi9 : i = 10 := by omega
      refine x_iload_n C 0 rfl dX6_lameHorses_4 rfl ?_
      refine x_bipush (v := (nI 10)) C dX6_lameHorses_5 (by decide) ?_
      refine x_icmp_geN (a := i) (b := 10) (tgt := 37) C dX6_lameHorses_7 (by decide) (by omega) (by omega) (fun c2 => ?_) (fun c2 => False.elim (by omega))
      refine x_iload_n C 1 rfl dX6_lameHorses_37 rfl ?_
      exact x_iret C hr E dX6_lameHorses_38 (fun _ => 0) (by rw [ha, hi9]) rfl
    | succ fu ih =>
      intro i f hn ha
      refine x_iload_n C 0 rfl dX6_lameHorses_4 rfl ?_
      refine x_bipush (v := (nI 10)) C dX6_lameHorses_5 (by decide) ?_
      refine x_icmp_geN (a := i) (b := 10) (tgt := 37) C dX6_lameHorses_7 (by decide) (by omega) (by omega) (fun c3 => False.elim (by omega)) (fun c3 => ?_)
      refine x_iload_n C 1 rfl dX6_lameHorses_10 rfl ?_
      refine x_aload_n C 2 rfl dX6_lameHorses_11 rfl ?_
      refine x_get (k := 0) (v := .ref (a 1)) C dX6_lameHorses_12 layX6 fl_X6_7 0 rfl rfl (by decide) rfl ?_
      refine x_iload_n C 0 rfl dX6_lameHorses_15 rfl ?_
      refine x_iconst (v := (nI 5)) C dX6_lameHorses_16 (by decide) ?_
      refine x_callSd (As := [.int (nI i), .int (nI 5)]) (rest := [.ref (a 1), .int f]) C dX6_lameHorses_17 (c_X6_of (gX.l X) G i 5 (9 * i + 6) (by omega)) ml_X6_31 st_X6_of in_X6 cd_X6_of hd_X6_of rfl rfl (Nat.le_of_ble_eq_true rfl) ⟨Nat.le_of_ble_eq_true rfl, Nat.le_of_ble_eq_true rfl⟩ [] (wM G a s as_ hi kn sn ik tx ln it wl sp iw rs er) rfl (ws' := (wM G a s as_ hi kn sn ik tx ln it wl sp iw rs er)) rfl (st' := [.int (nI (9 * i + 6)), .ref (a 1), .int f]) rfl ⟨rfl, rfl⟩ ⟨Nat.le_of_ble_eq_true rfl, Nat.le_of_ble_eq_true rfl⟩ ?_
      refine x_iald (j := (9 * i + 6)) C dX6_lameHorses_20 1 rfl rfl (by omega) (by omega) ?_
      have J5 : ∀ (y6 : Int32) , y6 = bI (0 < (s (9 * i + 6))) → gW G X (wM G a s as_ hi kn sn ik tx ln it wl sp iw rs er) 0 0 29 [(2, .int (nI i)), (1, .int f), (0, .ref (a 0))] [.int y6, .int f] := by
        intro y6 ey6
        subst ey6
        refine x_iadd (x := f) (y := (bI (0 < (s (9 * i + 6))))) C dX6_lameHorses_29 ?_
        refine x_istore_n (lv' := [(1, .int (f + (bI (0 < (s (9 * i + 6)))))), (2, .int (nI i)), (0, .ref (a 0))]) C dX6_lameHorses_30 rfl (by decide) rfl ?_
        refine x_iinc (v := (nI (i + 1))) (lv' := [(2, .int (nI (i + 1))), (1, .int (f + (bI (0 < (s (9 * i + 6)))))), (0, .ref (a 0))]) C 1 rfl dX6_lameHorses_31 (by rw [show Int32.ofInt 1 = nI 1 from rfl]; exact nI_add _ _) (by decide) rfl ?_
        refine x_goto (tgt := 4) C dX6_lameHorses_34 (by decide) ?_
        exact ih (i + 1) (f + (bI (0 < (s (9 * i + 6))))) (by omega) (by rw [ha]; rfl)
      refine x_if_le (x := (s (9 * i + 6))) (tgt := 28) C dX6_lameHorses_21 (by decide) (fun c4 => ?_) (fun c4 => ?_)
      · refine x_iconst (v := (nI 0)) C dX6_lameHorses_28 (by decide) ?_
        exact J5 (nI 0) (bI_f (by simp only [c4, if_true, if_false, ite_true, ite_false, and_true, true_and, and_false, false_and, or_true, true_or, or_false, false_or, not_true_eq_false, not_false_eq_true, and_self, or_self] <;> decide)).symm
      · refine x_iconst (v := (nI 1)) C dX6_lameHorses_24 (by decide) ?_
        refine x_goto (tgt := 29) C dX6_lameHorses_25 (by decide) ?_
        exact J5 (nI 1) (bI_t (by simp only [c4, if_true, if_false, ite_true, ite_false, and_true, true_and, and_false, false_and, or_true, true_or, or_false, false_or, not_true_eq_false, not_false_eq_true, and_self, or_self] <;> decide)).symm
  exact L1 10 0 0 (by omega) (by rfl)
def rm_X6_tiredness : Room := { frames := 1, cells := 0, slots := 0, locals := 21 }
set_option maxRecDepth 100000 in
set_option maxHeartbeats 600000 in
theorem c_X6_tiredness (l : Launch) (G : gG) (a : Nat → Nat) (s as_ hi : Nat → Int32) (kn : Nat) (sn : Nat → Int32) (ik : Int32) (tx : Nat → Int32) (ln : Nat) (it wl : Nat → Int32) (sp : Nat) (iw : Int32) (rs : Nat) (er : Int32)  : CT l yX6_tiredness cX6_tiredness 3 (some .int) rm_X6_tiredness G [.ref (a 0)] (wM G a s as_ hi kn sn ik tx ln it wl sp iw rs er) (some (.int (m_tir s 10))) (fun _ => (wM G a s as_ hi kn sn ik tx ln it wl sp iw rs er)) := by
  refine gMet (by decide) (Nat.le_of_ble_eq_true rfl) (fun X hX C hr hin E => ?_)
  clear hX
  refine (show gW G X (wM G a s as_ hi kn sn ik tx ln it wl sp iw rs er) 0 0 0 [(0, .ref (a 0))] [] from ?_)
  refine x_iconst (v := (nI 0)) C dX6_tiredness_0 (by decide) ?_
  refine x_istore_n (lv' := [(1, .int (nI 0)), (0, .ref (a 0))]) C dX6_tiredness_1 rfl (by decide) rfl ?_
  refine x_iconst (v := (nI 0)) C dX6_tiredness_2 (by decide) ?_
  refine x_istore_n (lv' := [(2, .int (nI 0)), (1, .int (nI 0)), (0, .ref (a 0))]) C dX6_tiredness_3 rfl (by decide) rfl ?_
  have L1 : ∀ (fu : Nat) (i : Nat) (f : Int32), i + fu = 10 → (f = m_tir s i) → gW G X (wM G a s as_ hi kn sn ik tx ln it wl sp iw rs er) 0 0 4 [(2, .int (nI i)), (1, .int f), (0, .ref (a 0))] [] := by
    intro fu
    induction fu with
    | zero =>
      intro i f hn ha
      have hi9 : i = 10 := by omega
      refine x_iload_n C 0 rfl dX6_tiredness_4 rfl ?_
      refine x_bipush (v := (nI 10)) C dX6_tiredness_5 (by decide) ?_
      refine x_icmp_geN (a := i) (b := 10) (tgt := 29) C dX6_tiredness_7 (by decide) (by omega) (by omega) (fun c2 => ?_) (fun c2 => False.elim (by omega))
      refine x_iload_n C 1 rfl dX6_tiredness_29 rfl ?_
      exact x_iret C hr E dX6_tiredness_30 (fun _ => 0) (by rw [ha, hi9]) rfl
    | succ fu ih =>
      intro i f hn ha
      refine x_iload_n C 0 rfl dX6_tiredness_4 rfl ?_
      refine x_bipush (v := (nI 10)) C dX6_tiredness_5 (by decide) ?_
      refine x_icmp_geN (a := i) (b := 10) (tgt := 29) C dX6_tiredness_7 (by decide) (by omega) (by omega) (fun c3 => False.elim (by omega)) (fun c3 => ?_)
      refine x_iload_n C 1 rfl dX6_tiredness_10 rfl ?_
      refine x_aload_n C 2 rfl dX6_tiredness_11 rfl ?_
      refine x_get (k := 0) (v := .ref (a 1)) C dX6_tiredness_12 layX6 fl_X6_7 0 rfl rfl (by decide) rfl ?_
      refine x_iload_n C 0 rfl dX6_tiredness_15 rfl ?_
      refine x_iconst (v := (nI 2)) C dX6_tiredness_16 (by decide) ?_
      refine x_callSd (As := [.int (nI i), .int (nI 2)]) (rest := [.ref (a 1), .int f]) C dX6_tiredness_17 (c_X6_of (gX.l X) G i 2 (9 * i + 3) (by omega)) ml_X6_31 st_X6_of in_X6 cd_X6_of hd_X6_of rfl rfl (Nat.le_of_ble_eq_true rfl) ⟨Nat.le_of_ble_eq_true rfl, Nat.le_of_ble_eq_true rfl⟩ [] (wM G a s as_ hi kn sn ik tx ln it wl sp iw rs er) rfl (ws' := (wM G a s as_ hi kn sn ik tx ln it wl sp iw rs er)) rfl (st' := [.int (nI (9 * i + 3)), .ref (a 1), .int f]) rfl ⟨rfl, rfl⟩ ⟨Nat.le_of_ble_eq_true rfl, Nat.le_of_ble_eq_true rfl⟩ ?_
      refine x_iald (j := (9 * i + 3)) C dX6_tiredness_20 1 rfl rfl (by omega) (by omega) ?_
      refine x_iadd (x := f) (y := (s (9 * i + 3))) C dX6_tiredness_21 ?_
      refine x_istore_n (lv' := [(1, .int (f + (s (9 * i + 3)))), (2, .int (nI i)), (0, .ref (a 0))]) C dX6_tiredness_22 rfl (by decide) rfl ?_
      refine x_iinc (v := (nI (i + 1))) (lv' := [(2, .int (nI (i + 1))), (1, .int (f + (s (9 * i + 3)))), (0, .ref (a 0))]) C 1 rfl dX6_tiredness_23 (by rw [show Int32.ofInt 1 = nI 1 from rfl]; exact nI_add _ _) (by decide) rfl ?_
      refine x_goto (tgt := 4) C dX6_tiredness_26 (by decide) ?_
      exact ih (i + 1) (f + (s (9 * i + 3))) (by omega) (by rw [ha]; rfl)
  exact L1 10 0 0 (by omega) (by rfl)
