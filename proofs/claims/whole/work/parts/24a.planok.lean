def okV (m : Nat) (x : Int32) : Prop := nC x < m ∧ x = nI (nC x)
def okE (pe : Nat → Int32) (n : Nat) : Prop := ∀ k, k < n → okV 100 (pe k) ∧ okV 3 (pe (60 + k)) ∧ okV 12 (pe (120 + k))
def okN (pp : Nat) (pn : Int32) : Prop := (pp = 1 ∧ okV 100 pn) ∨ (pp = 2 ∧ okV 3 pn) ∨ (pp = 3 ∧ okV 12 pn)
def okQ (P : c_P) : Prop := okE P.2.2.2.2.2 P.1 ∧ (P.2.2.1 = -1 ∨ okN P.2.1 P.2.2.1) ∧ (2 ≤ P.2.1 → okV 100 P.2.2.2.1) ∧ (P.2.1 = 3 → okV 3 P.2.2.2.2.1)
theorem okV_nI {m n : Nat} (h : n < m) (hm : m < 2 ^ 31) : okV m (nI n) := by
  unfold okV; rw [nC_nI (by omega)]; exact ⟨h, rfl⟩
theorem okV_le {m : Nat} {n : Nat} {x : Int32} (hn : n < 2 ^ 31) (hm : m < 2 ^ 31) (hx : x = nI n) (h : ¬ nI m < x) : okV (m + 1) x := by
  subst hx
  have := mt (nI_ltI (a := m) (b := n) hm hn).mpr h
  unfold okV
  rw [nC_nI hn]
  exact ⟨by omega, rfl⟩
theorem p_val_nI {pn d : Int32} {j : Nat} (hj : j < 10) (hd : d = nI j) (h : pn = -1 ∨ okV 100 pn) : ∃ n, n < 1000 ∧ p_val pn d = nI n := by
  unfold p_val
  by_cases e : pn = -1
  · rw [if_pos e]; exact ⟨j, by omega, hd⟩
  · rcases h with h | h
    · exact absurd h e
    · rw [if_neg e]
      have h1 := h.1
      refine ⟨nC pn * 10 + j, by omega, ?_⟩
      rw [hd, h.2, nC_nI (by omega), show (10 : Int32) = nI 10 from rfl, pk_mul, nI_add]
theorem okN_100 {pp : Nat} {pn : Int32} (h : okN pp pn) : okV 100 pn := by
  rcases h with h | h | h
  · exact h.2
  · exact ⟨by have := h.2.1; omega, h.2.2⟩
  · exact ⟨by have := h.2.1; omega, h.2.2⟩
theorem okQ_digit {P : c_P} {d : Int32} {j : Nat} (hj : j < 10) (hd : d = nI j) (hp : P.2.1 < 4) (h : okQ P) : okQ (p_digit P d).2 := by
  obtain ⟨h1, h2, h3, h4⟩ := h
  obtain ⟨n, hn, hv⟩ := p_val_nI (pn := P.2.2.1) hj hd (h2.imp_right okN_100)
  unfold p_digit
  split
  · exact ⟨h1, h2, h3, h4⟩
  · split
    · exact ⟨h1, h2, h3, h4⟩
    · rename_i hq
      refine ⟨h1, Or.inr ?_, h3, h4⟩
      show okN P.2.1 (p_val P.2.2.1 d)
      rcases (show P.2.1 = 0 ∨ P.2.1 = 1 ∨ P.2.1 = 2 ∨ P.2.1 = 3 by omega) with e | e | e | e
      · rw [e, hv] at hq
        exact absurd ((Int32.lt_iff_toInt_lt).mpr (by rw [nI_toInt (by omega)]; show (-1 : Int) < n; omega)) hq
      · rw [e] at hq ⊢; exact Or.inl ⟨rfl, okV_le (m := 99) (by omega) (by decide) hv hq⟩
      · rw [e] at hq ⊢; exact Or.inr (Or.inl ⟨rfl, okV_le (m := 2) (by omega) (by decide) hv hq⟩)
      · rw [e] at hq ⊢; exact Or.inr (Or.inr ⟨rfl, okV_le (m := 11) (by omega) (by decide) hv hq⟩)
theorem okE_add {P : c_P} (hz : P.1 < 60) (h : okQ P) (hp : P.2.1 = 3) (hn : ¬ P.2.2.1 = -1) : okE (p_addE P).2.2.2.2.2 (p_addE P).1 := by
  obtain ⟨h1, h2, h3, h4⟩ := h
  intro k hk
  have hk : k < P.1 + 1 := hk
  show okV 100 (upd (upd (upd P.2.2.2.2.2 P.1 P.2.2.2.1) (60 + P.1) P.2.2.2.2.1) (120 + P.1) P.2.2.1 k) ∧ okV 3 (upd (upd (upd P.2.2.2.2.2 P.1 P.2.2.2.1) (60 + P.1) P.2.2.2.2.1) (120 + P.1) P.2.2.1 (60 + k)) ∧ okV 12 (upd (upd (upd P.2.2.2.2.2 P.1 P.2.2.2.1) (60 + P.1) P.2.2.2.2.1) (120 + P.1) P.2.2.1 (120 + k))
  by_cases e : k = P.1
  · subst e
    rw [pk_un (by omega), pk_un (by omega), pk_us, pk_un (by omega), pk_us, pk_us]
    refine ⟨h3 (by omega), h4 hp, ?_⟩
    rcases h2 with h2 | h2
    · exact absurd h2 hn
    · rcases h2 with h2 | h2 | h2
      · omega
      · omega
      · exact h2.2
  · rw [pk_un (by omega), pk_un (by omega), pk_un (by omega), pk_un (by omega), pk_un (by omega), pk_un (by omega), pk_un (by omega), pk_un (by omega), pk_un (by omega)]
    exact h1 k (by omega)
theorem okQ_rid {P : c_P} {k : Nat} (hz : P.1 < 60) (h : okQ P) (hp : P.2.1 = 3) (hn : ¬ P.2.2.1 = -1) : okQ (p_rid P k).2 :=
  ⟨okE_add hz h hp hn, Or.inl rfl, fun _ => h.2.2.1 (by omega), fun _ => h.2.2.2 hp⟩
theorem okQ_sign {P : c_P} {c : Int32} (hz : P.1 < 60) (hn : ¬ P.2.2.1 = -1) (h : okQ P) : okQ (p_sign P c).2 := by
  have hN : okN P.2.1 P.2.2.1 := h.2.1.resolve_left hn
  have e3 : okQ (p_sg3 P c).2 := by
    unfold p_sg3
    split
    · rename_i hp
      split
      · exact okQ_rid hz h hp hn
      · split
        · exact okQ_rid hz h hp hn
        · exact h
    · exact h
  have e2 : okQ (p_sg2 P c).2 := by
    unfold p_sg2
    split
    · rename_i hp
      split
      · refine ⟨h.1, Or.inl rfl, fun _ => h.2.2.1 (by omega), fun _ => ?_⟩
        rcases hN with q | q | q
        · omega
        · exact q.2
        · omega
      · exact e3
    · exact e3
  unfold p_sign
  split
  · rename_i hp
    split
    · refine ⟨h.1, Or.inl rfl, fun _ => ?_, fun q => absurd q (show ¬ 2 = 3 by decide)⟩
      rcases hN with q | q | q
      · exact q.2
      · omega
      · omega
    · exact e2
  · exact e2
theorem okQ_acc {P : c_P} {c : Int32} {i : Nat} (hi : i < 60) (hP : okP P i) (h : okQ P) : okQ (p_acc P c).2 := by
  have hz : P.1 < 60 := by have := hP.1; omega
  have e2 : okQ (p_acc2 P c).2 := by
    unfold p_acc2
    split
    · unfold p_start
      split
      · exact ⟨h.1, Or.inl rfl, fun q => absurd q (show ¬ 2 ≤ 1 by decide), fun q => absurd q (show ¬ 1 = 3 by decide)⟩
      · exact h
    · split
      · exact h
      · split
        · exact okQ_sign hz (by assumption) h
        · exact okQ_sign hz (by assumption) h
  unfold p_acc
  split
  · exact e2
  · split
    · exact e2
    · rename_i a b
      obtain ⟨h1, h2, h3⟩ := g_in2 (x := c) (lo := 48) (n := 57) (by decide) (by decide) ⟨a, b⟩
      exact okQ_digit (j := nC c - 48) (by omega) (by rw [h3, nC_nI (by omega)]; exact pk_sub h1) hP.2.2 h
theorem p_readR_ok {tc : Nat → Int32} {en : Nat} (hen : en ≤ 60) : ∀ f i P, i + f = en → okP P i → okQ P → (p_readR tc en f i P).1 = -5 → okE (p_readR tc en f i P).2.2.2.2.2.2 (p_readR tc en f i P).2.1 ∧ (p_readR tc en f i P).2.1 ≤ 60
  | 0, i, P, hi, hP, hQ, hR => by
    have neq : ∀ n, n ≤ 60 → ¬ nI n = -5 := fun n hn e => by
      have := congrArg Int32.toInt e
      rw [nI_toInt (by omega)] at this
      have e5 : (-5 : Int32).toInt = -5 := by decide
      omega
    simp only [p_readR, p_end] at hR ⊢
    split at hR
    · rename_i hp
      split at hR
      · exact absurd hR (neq en hen)
      · rename_i hn
        have hz := hP.2.1 hn
        rw [if_pos hp, if_neg hn]
        exact ⟨okE_add (by omega) hQ hp hn, by show P.1 + 1 ≤ 60; omega⟩
    · exact absurd hR (neq en hen)
  | f + 1, i, P, hi, hP, hQ, hR => by
    have neq : ∀ n, n ≤ 60 → ¬ nI n = -5 := fun n hn e => by
      have := congrArg Int32.toInt e
      rw [nI_toInt (by omega)] at this
      have e5 : (-5 : Int32).toInt = -5 := by decide
      omega
    by_cases e : (p_acc P (tc i)).1 = 0
    · simp only [p_readR, e, if_true] at hR
      exact absurd hR (neq i (by omega))
    · simp only [p_readR, e, if_false] at hR ⊢
      exact p_readR_ok hen f (i + 1) _ (by omega) (okP_acc hP) (okQ_acc (by omega) hP hQ) hR
theorem p_read_ok {tc : Nat → Int32} {en : Nat} {ph pr : Int32} {pe : Nat → Int32} (hen : en ≤ 60) (hR : (p_read tc en ph pr pe).1 = -5) : okE (p_read tc en ph pr pe).2.2.2.2.2.2 (p_read tc en ph pr pe).2.1 ∧ (p_read tc en ph pr pe).2.1 ≤ 60 :=
  p_readR_ok hen en 0 _ (by omega) ⟨Nat.le_refl _, fun hn => absurd rfl hn, (by decide : 0 < 4)⟩ ⟨fun k hk => absurd hk (Nat.not_lt_zero k), Or.inl rfl, fun q => absurd q (show ¬ 2 ≤ 0 by decide), fun q => absurd q (show ¬ 0 = 3 by decide)⟩ hR
def k_planR (pe : Nat → Int32) : Nat → Nat → c_S → Int32 × c_S
  | 0, _, q => (0, q)
  | f + 1, i, q => if k_err q (nC (pe i)) (nC (pe (60 + i))) (nC (pe (120 + i))) = 0 then k_planR pe f (i + 1) (k_addBooking q (nC (pe i)) (pe (60 + i)) (pe (120 + i))) else (k_err q (nC (pe i)) (nC (pe (60 + i))) (nC (pe (120 + i))), q)
def k_planQ (now : c_S) (R : Int32 × c_P) : Int32 × c_S := k_planR R.2.2.2.2.2.2 R.2.1 0 now
def kX_bookPlan (now : c_S) (hs : Nat → c_S) (nx sz : Nat) (R : Int32 × c_P) : k_R := if R.1 = -5 then (if (k_planQ now R).1 = 0 then k_act now (k_planQ now R).2 hs nx sz (nI R.2.1) else k_no now hs nx sz (k_planQ now R).1) else k_no now hs nx sz (-100 - R.1)
def kX_bpA (now ahead : c_S) (R : Int32 × c_P) : c_S := if R.1 = -5 then (k_planQ now R).2 else ahead
