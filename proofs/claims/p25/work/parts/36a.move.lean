/-! ===== bookings that move ===== -/
theorem mv_e (f : Nat → Int32) (i l : Nat) : mvC f 40 i l 3 = upd (upd (upd f l (f i)) (40 + l) (upd f l (f i) (40 + i))) (80 + l) (upd (upd f l (f i)) (40 + l) (upd f l (f i) (40 + i)) (80 + i)) := by
  show upd (upd (upd f (0 * 40 + l) (f (0 * 40 + i))) (1 * 40 + l) (upd f (0 * 40 + l) (f (0 * 40 + i)) (1 * 40 + i))) (2 * 40 + l) (upd (upd f (0 * 40 + l) (f (0 * 40 + i))) (1 * 40 + l) (upd f (0 * 40 + l) (f (0 * 40 + i)) (1 * 40 + i)) (2 * 40 + i)) = _
  rw [show 0 * 40 + l = l by omega, show 0 * 40 + i = i by omega]
theorem mv_0 {f : Nat → Int32} {i l j : Nat} (hi : i < 40) (hl : l < 40) (hj : j < 40) : mvC f 40 i l 3 j = if j = l then f i else f j := by
  rw [mv_e, pk_un (by omega), pk_un (by omega)]
  by_cases h : j = l
  · subst h; rw [pk_us, if_pos rfl]
  · rw [pk_un h, if_neg h]
theorem mv_1 {f : Nat → Int32} {i l j : Nat} (hi : i < 40) (hl : l < 40) (hj : j < 40) : mvC f 40 i l 3 (40 + j) = if j = l then f (40 + i) else f (40 + j) := by
  rw [mv_e, pk_un (by omega)]
  by_cases h : j = l
  · subst h; rw [pk_us, if_pos rfl, pk_un (by omega)]
  · rw [pk_un (by omega), pk_un (by omega), if_neg h]
theorem mv_2 {f : Nat → Int32} {i l j : Nat} (hi : i < 40) (hl : l < 40) (hj : j < 40) : mvC f 40 i l 3 (80 + j) = if j = l then f (80 + i) else f (80 + j) := by
  rw [mv_e]
  by_cases h : j = l
  · subst h; rw [pk_us, if_pos rfl, pk_un (by omega), pk_un (by omega)]
  · rw [pk_un (by omega), pk_un (by omega), pk_un (by omega), if_neg h]
theorem rmR_at : ∀ (n i : Nat) (f : Nat → Int32), 1 ≤ i → i + n ≤ 40 → ∀ j, j < 40 → (c_rmR n i f j = if i ≤ j + 1 ∧ j + 1 < i + n then f (j + 1) else f j) ∧ (c_rmR n i f (40 + j) = if i ≤ j + 1 ∧ j + 1 < i + n then f (40 + (j + 1)) else f (40 + j)) ∧ (c_rmR n i f (80 + j) = if i ≤ j + 1 ∧ j + 1 < i + n then f (80 + (j + 1)) else f (80 + j))
  | 0, i, f, _, _, j, _ => by
    rw [if_neg (by omega), if_neg (by omega), if_neg (by omega)]
    exact ⟨rfl, rfl, rfl⟩
  | n + 1, i, f, h1, h2, j, hj => by
    obtain ⟨e1, e2, e3⟩ := rmR_at n (i + 1) (mvC f 40 i (i - 1) 3) (by omega) (by omega) j hj
    unfold c_rmR
    rw [e1, e2, e3]
    by_cases c : i + 1 ≤ j + 1 ∧ j + 1 < i + 1 + n
    · rw [if_pos c, if_pos c, if_pos c, if_pos (by omega), if_pos (by omega), if_pos (by omega), mv_0 (by omega) (by omega) (by omega), mv_1 (by omega) (by omega) (by omega), mv_2 (by omega) (by omega) (by omega), if_neg (by omega), if_neg (by omega), if_neg (by omega)]
      exact ⟨rfl, rfl, rfl⟩
    · rw [if_neg c, if_neg c, if_neg c, mv_0 (by omega) (by omega) (by omega), mv_1 (by omega) (by omega) (by omega), mv_2 (by omega) (by omega) (by omega)]
      by_cases d : j = i - 1
      · rw [if_pos d, if_pos d, if_pos d, if_pos (by omega), if_pos (by omega), if_pos (by omega), show j + 1 = i by omega]
        exact ⟨rfl, rfl, rfl⟩
      · rw [if_neg d, if_neg d, if_neg d, if_neg (by omega), if_neg (by omega), if_neg (by omega)]
        exact ⟨rfl, rfl, rfl⟩
