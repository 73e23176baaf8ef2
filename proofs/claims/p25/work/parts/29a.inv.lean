/-! ===== what holds of a stable's numbers after any acts ===== -/
theorem ok_nn {m : Nat} {x : Int32} (h : okV m x) (hm : m ≤ 2 ^ 31) : ¬ x < 0 := by
  obtain ⟨k, hk, rfl⟩ := n_ex h
  exact nI_pos (by omega)
theorem ok_lt {m n : Nat} {x : Int32} (h : okV m x) (hm : m ≤ n) (hn : n < 2 ^ 31) : x < nI n := by
  obtain ⟨k, hk, rfl⟩ := n_ex h
  exact (nI_ltI (by omega) hn).mpr (by omega)
theorem ok_le {m n : Nat} {x y : Int32} (hx : okV m x) (hy : okV n y) (h : nC x ≤ nC y) (hm : m ≤ 2 ^ 31) (hn : n ≤ 2 ^ 31) : ¬ y < x := by
  obtain ⟨a, ha, rfl⟩ := n_ex hx
  obtain ⟨b, hb, rfl⟩ := n_ex hy
  rw [nC_nI (by omega), nC_nI (by omega)] at h
  exact fun c => by have := (nI_ltI (a := b) (b := a) (by omega) (by omega)).mp c; omega
theorem ok_ge {m : Nat} {x : Int32} (h : okV m x) (hm : m < 2 ^ 31) : ¬ nI m < x := by
  obtain ⟨k, hk, rfl⟩ := n_ex h
  exact fun c => by have := (nI_ltI (a := m) (b := k) (by omega) (by omega)).mp c; omega
theorem ok_z {m : Nat} {x : Int32} (h : okV m x) (hm : m ≤ 2 ^ 31) (h0 : ¬ 0 < x) : x = 0 := by
  obtain ⟨k, hk, rfl⟩ := n_ex h
  have : ¬ 0 < k := fun c => h0 ((nI_ltI (a := 0) (b := k) (by omega) (by omega)).mpr c)
  have : k = 0 := by omega
  subst this; rfl
theorem ok_p {m : Nat} {x : Int32} (h : okV m x) (hm : m ≤ 2 ^ 31) : 0 < x ↔ 0 < nC x := by
  obtain ⟨k, hk, rfl⟩ := n_ex h
  rw [nC_nI (by omega)]
  exact nI_ltI (a := 0) (b := k) (by omega) (by omega)
/-- horse h: strength, temper, tiredness, strains, lameness, taken, worn, threw -/
def IH (T : Nat) (ho : Nat → Int32) (h : Nat) : Prop := okV 151 (ho h) ∧ okV 10 (ho (10 + h)) ∧ okV 10 (ho (20 + h)) ∧ okV 3 (ho (40 + h)) ∧ okV 100 (ho (50 + h)) ∧ okV T (ho (60 + h)) ∧ (okV T (ho (30 + h)) ∧ nC (ho (30 + h)) ≤ nC (ho (60 + h))) ∧ (okV T (ho (70 + h)) ∧ nC (ho (70 + h)) ≤ nC (ho (60 + h)))
/-- rider r: weight, skill, fear, rides, lessons in a row, falls, the latest horse -/
def IR (T : Nat) (ri : Nat → Int32) (r : Nat) : Prop := okV 151 (ri r) ∧ okV 10 (ri (12 + r)) ∧ okV 10 (ri (24 + r)) ∧ okV T (ri (60 + r)) ∧ (okV T (ri (48 + r)) ∧ nC (ri (48 + r)) ≤ nC (ri (60 + r))) ∧ (okV T (ri (72 + r)) ∧ nC (ri (72 + r)) ≤ nC (ri (60 + r))) ∧ (ri (108 + r) = -5 ↔ ri (60 + r) = 0)
def ISE (se : Nat → Int32) : Prop := okV 10 (se 0) ∧ okV 100 (se 3) ∧ okV 10 (se 4) ∧ 0 < se 4 ∧ okV 100 (se 1) ∧ okV 100 (se 2)
def ISU (ho ri : Nat → Int32) (fc : Nat) : Prop := sumF ho 60 10 = sumF ri 60 12 ∧ sumF ho 70 10 = sumF ri 72 12 ∧ sumF ri 72 12 = nI fc
def IBO (bo : Nat → Int32) (bc ti : Nat) : Prop := (∀ j, j < bc → (ti ≤ nC (bo j) ∧ okV (ti + 100) (bo j)) ∧ okV 3 (bo (40 + j)) ∧ okR (bo (80 + j))) ∧ ∀ i j, i < j → j < bc → ¬ (bo i = bo j ∧ bo (80 + i) = bo (80 + j))
def IFA (fs : Nat → Int32) (fc t : Nat) : Prop := (∀ k, k < min fc 20 → okV t (fs ((fc - 1 - k) % 20))) ∧ ∀ k, k + 1 < min fc 20 → nC (fs ((fc - 1 - (k + 1)) % 20)) ≤ nC (fs ((fc - 1 - k) % 20))
def INV (q : c_S) : Prop := okS 10000 q ∧ (∀ h, h < 10 → IH (40 * q_ti q + 1) (q_ho q) h) ∧ (∀ r, r < 12 → IR (40 * q_ti q + 1) (q_ri q) r) ∧ ISE (q_se q) ∧ ISU (q_ho q) (q_ri q) (q_fc q) ∧ IBO (q_bo q) (q_bc q) (q_ti q) ∧ IFA (q_fs q) (q_fc q) (q_ti q)
/-- what all riders' bookings sum to -/
def bofS (bo : Nat → Int32) (bc : Nat) : Nat → Int32
  | 0 => 0
  | r + 1 => bofS bo bc r + c_bof bo (nI r) bc
theorem bofS_0 (bo : Nat → Int32) : ∀ n, bofS bo 0 n = 0
  | 0 => rfl
  | n + 1 => by unfold bofS; rw [bofS_0 bo n]; rfl
theorem bofS_1 {bo : Nat → Int32} {i k : Nat} (hk : k < 2 ^ 31) (h : bo (80 + i) = nI k) : ∀ n, n < 2 ^ 31 → bofS bo (i + 1) n = bofS bo i n + if k < n then 1 else 0
  | 0, _ => by rw [if_neg (Nat.not_lt_zero k)]; rfl
  | n + 1, hn => by
    unfold bofS
    rw [bofS_1 hk h n (by omega), show c_bof bo (nI n) (i + 1) = c_bof bo (nI n) i + bI (bo (80 + i) = nI n) from rfl]
    by_cases e : k = n
    · subst e
      rw [if_neg (Nat.lt_irrefl k), if_pos (Nat.lt_succ_self k), bI_t h, Int32.add_zero, Int32.add_assoc]
    · rw [bI_f (fun c => e ((nI_eq hk (by omega)).mp (h.symm.trans c))), Int32.add_zero]
      by_cases c : k < n
      · rw [if_pos c, if_pos (by omega), Int32.add_assoc, Int32.add_assoc, Int32.add_comm (1 : Int32)]
      · rw [if_neg c, if_neg (by omega), Int32.add_zero, Int32.add_zero]
theorem bofS_all {bo : Nat → Int32} : ∀ bc, (∀ j, j < bc → okR (bo (80 + j))) → bofS bo bc 12 = nI bc
  | 0, _ => bofS_0 bo 12
  | i + 1, h => by
    obtain ⟨h1, h2⟩ := h i (by omega)
    rw [bofS_1 (k := nC (bo (80 + i))) (by omega) h2 12 (by omega), if_pos h1, bofS_all i (fun j hj => h j (by omega))]
    exact nI_1 i
theorem abil_eq {ri : Nat → Int32} {r : Nat} : c_abil ri r = if ri (12 + r) - ri (24 + r) < 0 then 0 else ri (12 + r) - ri (24 + r) := by
  unfold c_abil mxI
  generalize ri (12 + r) - ri (24 + r) = z
  by_cases h : 0 < z
  · rw [if_pos h, if_neg (Int32.lt_asymm h)]
  · rw [if_neg h]
    by_cases h2 : z < 0
    · rw [if_pos h2]
    · rw [if_neg h2]
      exact Int32.le_antisymm (Int32.not_lt.mp h2) (Int32.not_lt.mp h)
theorem far_ok {ho : Nat → Int32} : ∀ n, n < 2 ^ 31 → ((c_farL ho n).2 = -5 ∧ (c_farL ho n).1 = 0) ∨ (nC (c_farL ho n).2 < n ∧ (c_farL ho n).2 = nI (nC (c_farL ho n).2) ∧ (c_farL ho n).1 = ho (30 + nC (c_farL ho n).2) ∧ 0 < ho (30 + nC (c_farL ho n).2))
  | 0, _ => Or.inl ⟨rfl, rfl⟩
  | n + 1, hn => by
    have ih := far_ok (ho := ho) n (by omega)
    unfold c_farL
    split
    · rename_i c
      refine Or.inr ?_
      rw [nC_nI (by omega)]
      refine ⟨Nat.lt_succ_self n, rfl, rfl, ?_⟩
      rcases ih with ⟨_, h⟩ | ⟨_, _, h, h0⟩
      · rw [h] at c; exact c
      · rw [h] at c; exact Int32.lt_trans h0 c
    · rcases ih with h | ⟨h1, h2⟩
      · exact Or.inl h
      · exact Or.inr ⟨by omega, h2⟩
/-- the farrier's horse: none, or one with worn shoes, on a day on which the farrier is there -/
theorem far_is {se ho : Nat → Int32} {t : Nat} (h : ¬ c_far se ho t = -5) : c_there se t ∧ nC (c_far se ho t) < 10 ∧ c_far se ho t = nI (nC (c_far se ho t)) ∧ 0 < ho (30 + nC (c_far se ho t)) := by
  unfold c_far at h ⊢
  by_cases c : c_there se t
  · rw [if_pos c] at h ⊢
    rcases far_ok (ho := ho) 10 (by omega) with ⟨e, _⟩ | ⟨h1, h2, h3, h4⟩
    · exact absurd e h
    · exact ⟨c, h1, h2, h4⟩
  · rw [if_neg c] at h
    exact absurd rfl h
