/-! ===== who can be taken, on both sides ===== -/
theorem SE_0 {s : Nat → Int32} : SE s 0 = s 187 := SE_at (k := 0) (by omega)
theorem SE_1 {s : Nat → Int32} : SE s 1 = s 188 := SE_at (k := 1) (by omega)
theorem SE_4 {s : Nat → Int32} : SE s 4 = s 191 := SE_at (k := 4) (by omega)
theorem v_hind (s : Nat → Int32) {h r : Nat} (hh : h < 10) (hr : r < 12) (fa : Int32) : c_hind (SE s) (HO s) (RI s) h r fa = m_hind s h r fa := by
  unfold c_hind m_hind
  rw [HO_50 hh, HO_30 hh, HO_20 hh, HO_0 hh, RI_0 hr, SE_0, SE_1]
theorem by3_neg {a b : Int32} : (if a = 0 then b else a) < 0 ↔ (a < 0 ∨ (a = 0 ∧ b < 0)) := by
  by_cases h : a = 0
  · rw [if_pos h]
    constructor
    · exact fun h2 => Or.inr ⟨h, h2⟩
    · rintro (h2 | h2)
      · rw [h] at h2; exact absurd h2 (by decide)
      · exact h2.2
  · rw [if_neg h]
    exact ⟨Or.inl, fun h2 => h2.elim id (fun h3 => absurd h3.1 h)⟩
theorem v_better (s : Nat → Int32) {x y r : Nat} (hx : x < 10) (hy : y < 10) : c_better (HO s) x y (m_can s r) ↔ m_by3 s x y r < 0 := by
  unfold c_better
  rw [HO_10 hx, HO_10 hy, HO_20 hx, HO_20 hy, HO_0 hx, HO_0 hy]
  unfold m_by3 m_by2
  by_cases P : m_can s r < s (9 * x + 2)
  · by_cases Q : m_can s r < s (9 * y + 2)
    · have e : m_by1 s x y r = 0 := by unfold m_by1; rw [bI_t P, bI_t Q]; decide
      rw [e, if_pos rfl, by3_neg]
      constructor
      · rintro (h | h)
        · exact absurd P h.1
        · exact h.2
      · exact fun h => Or.inr ⟨⟨fun _ => Q, fun _ => P⟩, h⟩
    · have e : m_by1 s x y r = 1 := by unfold m_by1; rw [bI_t P, bI_f Q]; decide
      rw [e, if_neg (show ¬ (1 : Int32) = 0 by decide), if_neg (show ¬ (1 : Int32) = 0 by decide)]
      constructor
      · rintro (h | h)
        · exact absurd P h.1
        · exact absurd (h.1.mp P) Q
      · exact fun h => absurd h (by decide)
  · by_cases Q : m_can s r < s (9 * y + 2)
    · have e : m_by1 s x y r = -1 := by unfold m_by1; rw [bI_f P, bI_t Q]; decide
      rw [e, if_neg (show ¬ (-1 : Int32) = 0 by decide), if_neg (show ¬ (-1 : Int32) = 0 by decide)]
      exact ⟨fun _ => by decide, fun _ => Or.inl ⟨P, Q⟩⟩
    · have e : m_by1 s x y r = 0 := by unfold m_by1; rw [bI_f P, bI_f Q]; decide
      rw [e, if_pos rfl, by3_neg]
      constructor
      · rintro (h | h)
        · exact absurd h.2 Q
        · exact h.2
      · exact fun h => Or.inr ⟨⟨fun h2 => absurd h2 P, fun h2 => absurd h2 Q⟩, h⟩
theorem v_bestL (s it : Nat → Int32) {r : Nat} (hr : r < 12) (fa tk : Int32) (hi : ∀ h, h < 10 → c_in tk h = it h) : ∀ n, n ≤ 10 → c_bestL (SE s) (HO s) (RI s) r fa tk n = m_bestL s it r fa n
  | 0, _ => rfl
  | n + 1, hn => by
    have ih := v_bestL s it hr fa tk hi n (by omega)
    have ok := m_bestL_ok s it r fa n (by omega)
    unfold c_bestL m_bestL
    rw [ih]
    generalize m_bestL s it r fa n = f at ok ⊢
    unfold c_bestS m_bestS
    rw [hi n (by omega), v_hind s (by omega) hr, v_can s hr]
    by_cases h1 : it n = 0
    · rw [if_neg (fun h => h h1), if_pos h1]
      by_cases h2 : m_hind s n r fa = 0
      · rw [if_neg (fun h => h h2), if_pos h2]
        by_cases h3 : f = -5
        · rw [if_pos h3, if_pos h3]
        · have hf : nC f < 10 := ok.elim (fun h => absurd h h3) (fun h => h.1)
          rw [if_neg h3, if_neg h3]
          by_cases h4 : m_by3 s n (nC f) r < 0
          · rw [if_pos ((v_better s (by omega) hf).mpr h4), if_pos h4]
          · rw [if_neg (fun h => h4 ((v_better s (by omega) hf).mp h)), if_neg h4]
      · rw [if_pos h2, if_neg h2]
    · rw [if_pos h1, if_neg h1]
theorem v_best (s it : Nat → Int32) {r : Nat} (hr : r < 12) (fa tk : Int32) (hi : ∀ h, h < 10 → c_in tk h = it h) : c_best (SE s) (HO s) (RI s) r fa tk = m_best s it r fa := v_bestL s it hr fa tk hi 10 (Nat.le_refl _)
theorem v_farL (s : Nat → Int32) : ∀ n, n ≤ 10 → c_farL (HO s) n = ((m_shL s n).2, (m_shL s n).1)
  | 0, _ => rfl
  | n + 1, hn => by
    have ih := v_farL s n (by omega)
    unfold c_farL m_shL
    rw [ih, HO_30 (by omega)]
    by_cases h : (m_shL s n).2 < s (9 * n + 4)
    · rw [if_pos h, if_pos h]
    · rw [if_neg h, if_neg h]
theorem v_there {s : Nat → Int32} {t : Nat} (ht : s 0 = nI t) (hb : t < 2 ^ 30) (hs : 0 < s 191) : c_there (SE s) t ↔ m_there s := by
  unfold c_there m_there
  rw [SE_4, ht, show (10 : Int32) = nI 10 from rfl, pk_div (by omega) (by omega) (by omega)]
  exact ⟨fun h => h.2, fun h => ⟨hs, h⟩⟩
theorem v_far {s : Nat → Int32} {t : Nat} (ht : s 0 = nI t) (hb : t < 2 ^ 30) (hs : 0 < s 191) : c_far (SE s) (HO s) t = m_shod s := by
  unfold c_far m_shod
  by_cases h : m_there s
  · rw [if_pos ((v_there ht hb hs).mpr h), if_pos h, v_farL s 10 (Nat.le_refl _)]
  · rw [if_neg (fun h2 => h ((v_there ht hb hs).mp h2)), if_neg h]
theorem v_lame (s : Nat → Int32) : ∀ n, n ≤ 10 → c_lame (HO s) n = m_lame s n
  | 0, _ => rfl
  | n + 1, hn => by
    unfold c_lame m_lame
    rw [v_lame s n (by omega), HO_50 (by omega)]
theorem v_tir (s : Nat → Int32) : ∀ n, n ≤ 10 → sumF (HO s) 20 n = m_tir s n
  | 0, _ => rfl
  | n + 1, hn => by
    unfold sumF m_tir
    rw [v_tir s n (by omega), HO_20 (by omega)]
/-! ===== bookings ===== -/
theorem mv_e (f : Nat → Int32) (i l : Nat) : mvC f 40 i l 3 = upd (upd (upd f l (f i)) (40 + l) (upd f l (f i) (40 + i))) (80 + l) (upd (upd f l (f i)) (40 + l) (upd f l (f i) (40 + i)) (80 + i)) := by
  show upd (upd (upd f (0 * 40 + l) (f (0 * 40 + i))) (1 * 40 + l) (upd f (0 * 40 + l) (f (0 * 40 + i)) (1 * 40 + i))) (2 * 40 + l) (upd (upd f (0 * 40 + l) (f (0 * 40 + i))) (1 * 40 + l) (upd f (0 * 40 + l) (f (0 * 40 + i)) (1 * 40 + i)) (2 * 40 + i)) = _
  rw [show 0 * 40 + l = l by omega, show 0 * 40 + i = i by omega]
theorem mv_0 {f : Nat → Int32} {i l j : Nat} (hi : i < 40) (hl : l < 40) (hj : j < 40) : mvC f 40 i l 3 j = if j = l then f i else f j := by
  rw [mv_e, pk_un (by omega), pk_un (by omega)]
  by_cases h : j = l
  · subst h; rw [pk_us, if_pos rfl]
  · rw [pk_un h, if_neg h]
theorem mv_1 {f : Nat → Int32} {i l j : Nat} (hi : i < 40) (hl : l < 40) (hj : j < 40) : mvC f 40 i l 3 (40 + j) = if j = l then f (40 + i) else f (40 + j) := by
  rw [mv_e, pk_un (by omega)]
  by_cases h : j = l
  · subst h; rw [pk_us, if_pos rfl, pk_un (by omega)]
  · rw [pk_un (by omega), pk_un (by omega), if_neg h]
theorem mv_2 {f : Nat → Int32} {i l j : Nat} (hi : i < 40) (hl : l < 40) (hj : j < 40) : mvC f 40 i l 3 (80 + j) = if j = l then f (80 + i) else f (80 + j) := by
  rw [mv_e]
  by_cases h : j = l
  · subst h; rw [pk_us, if_pos rfl, pk_un (by omega), pk_un (by omega)]
  · rw [pk_un (by omega), pk_un (by omega), pk_un (by omega), if_neg h]
theorem cp_e (s : Nat → Int32) (i l : Nat) : m_cp3 s i l = upd (upd (upd s (3 * l + 193) (s (3 * i + 193))) (3 * l + 194) (upd s (3 * l + 193) (s (3 * i + 193)) (3 * i + 194))) (3 * l + 195) (upd (upd s (3 * l + 193) (s (3 * i + 193))) (3 * l + 194) (upd s (3 * l + 193) (s (3 * i + 193)) (3 * i + 194)) (3 * i + 195)) := rfl
theorem cp_0 {s : Nat → Int32} {i l j : Nat} : m_cp3 s i l (3 * j + 193) = if j = l then s (3 * i + 193) else s (3 * j + 193) := by
  rw [cp_e, pk_un (by omega), pk_un (by omega)]
  by_cases h : j = l
  · subst h; rw [pk_us, if_pos rfl]
  · rw [pk_un (by omega), if_neg h]
theorem cp_1 {s : Nat → Int32} {i l j : Nat} : m_cp3 s i l (3 * j + 194) = if j = l then s (3 * i + 194) else s (3 * j + 194) := by
  rw [cp_e, pk_un (by omega)]
  by_cases h : j = l
  · subst h; rw [pk_us, if_pos rfl, pk_un (by omega)]
  · rw [pk_un (by omega), pk_un (by omega), if_neg h]
theorem cp_2 {s : Nat → Int32} {i l j : Nat} : m_cp3 s i l (3 * j + 195) = if j = l then s (3 * i + 195) else s (3 * j + 195) := by
  rw [cp_e]
  by_cases h : j = l
  · subst h; rw [pk_us, if_pos rfl, pk_un (by omega), pk_un (by omega)]
  · rw [pk_un (by omega), pk_un (by omega), pk_un (by omega), if_neg h]
/-- a booking that waits, moved to the front, on both sides -/
theorem BO_mv {bo s : Nat → Int32} {bc i l : Nat} (H : BO bo bc s) (hb : bc ≤ 40) (hi : i < bc) (hl : l ≤ i) : BO (if l < i then mvC bo 40 i l 3 else bo) bc (m_cp3 s i l) := fun j hj => by
  rw [cp_0, cp_1, cp_2]
  have hJ := H j hj
  have hI := H i hi
  by_cases c : l < i
  · rw [if_pos c, mv_0 (by omega) (by omega) (by omega), mv_1 (by omega) (by omega) (by omega), mv_2 (by omega) (by omega) (by omega)]
    by_cases e : j = l
    · simp only [if_pos e]; exact hI
    · simp only [if_neg e]; exact hJ
  · rw [if_neg c]
    by_cases e : j = l
    · have : j = i := by omega
      subst this
      simp only [if_pos e]; exact hJ
    · simp only [if_neg e]; exact hJ
