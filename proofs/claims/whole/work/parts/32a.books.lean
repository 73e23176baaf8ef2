/-! ===== bookings that wait ===== -/
def bcnt (bo : Nat → Int32) (tm g : Int32) : Nat → Nat
  | 0 => 0
  | i + 1 => bcnt bo tm g i + (if c_isBR bo tm g i then 1 else 0)
theorem bcnt_cg {bo b2 : Nat → Int32} {tm g : Int32} : ∀ n, (∀ j, j < n → bo j = b2 j ∧ bo (40 + j) = b2 (40 + j)) → bcnt bo tm g n = bcnt b2 tm g n
  | 0, _ => rfl
  | n + 1, h => by
    unfold bcnt
    rw [bcnt_cg n (fun j hj => h j (by omega))]
    unfold c_isBR
    rw [(h n (by omega)).1, (h n (by omega)).2]
theorem bcnt_le (bo : Nat → Int32) (tm g : Int32) : ∀ n, bcnt bo tm g n ≤ n
  | 0 => Nat.le_refl _
  | n + 1 => by
    have := bcnt_le bo tm g n
    unfold bcnt
    split <;> omega
theorem bcnt_mono (bo : Nat → Int32) (tm g : Int32) (n : Nat) : bcnt bo tm g n ≤ bcnt bo tm g (n + 1) := Nat.le_add_right _ _
theorem bI_n {P : Prop} [Decidable P] : bI P = nI (if P then 1 else 0) := by
  by_cases h : P
  · rw [bI_t h, if_pos h]; rfl
  · rw [bI_f h, if_neg h]; rfl
theorem bf_n (bo : Nat → Int32) (tm g : Int32) : ∀ n, c_bf bo tm g n = nI (bcnt bo tm g n)
  | 0 => rfl
  | n + 1 => by
    unfold c_bf bcnt
    rw [bf_n bo tm g n, bI_n, nI_add]
/-- what the bookings always keep: rings, riders, no rider twice for one time, no ring over its room -/
def BI (bo : Nat → Int32) (bc : Nat) : Prop := (∀ j, j < bc → okV 3 (bo (40 + j)) ∧ okR (bo (80 + j))) ∧ (∀ j k, j < k → k < bc → bo j = bo k → bo (80 + j) ≠ bo (80 + k)) ∧ ∀ (tm : Int32) (g : Nat), g < 3 → bcnt bo tm (nI g) bc ≤ 4 - g
/-- a part of the bookings, in the same order -/
def EM (bo : Nat → Int32) (n : Nat) (b2 : Nat → Int32) (m : Nat) : Prop := ∃ σ : Nat → Nat, (∀ j, j < m → σ j < n ∧ b2 j = bo (σ j) ∧ b2 (40 + j) = bo (40 + σ j) ∧ b2 (80 + j) = bo (80 + σ j)) ∧ ∀ j k, j < k → k < m → σ j < σ k
theorem BI_em {bo b2 : Nat → Int32} {n m : Nat} (H : BI bo n) (e : EM bo n b2 m) (hc : ∀ (tm g : Int32), bcnt b2 tm g m ≤ bcnt bo tm g n) : BI b2 m := by
  obtain ⟨σ, a, b⟩ := e
  refine ⟨fun j hj => ?_, fun j k hjk hk he => ?_, fun tm g hg => Nat.le_trans (hc tm (nI g)) (H.2.2 tm g hg)⟩
  · rw [(a j hj).2.2.1, (a j hj).2.2.2]
    exact H.1 (σ j) (a j hj).1
  · rw [(a j (by omega)).2.2.2, (a k hk).2.2.2]
    rw [(a j (by omega)).2.1, (a k hk).2.1] at he
    exact H.2.1 (σ j) (σ k) (b j k hjk hk) (a k hk).1 he
def c_bkS (x : Int32) (i : Nat) (b : (Nat → Int32) × Nat) : (Nat → Int32) × Nat := if b.1 i = x then b else ((if b.2 < i then mvC b.1 40 i b.2 3 else b.1), b.2 + 1)
def c_bkL (x : Int32) (bo : Nat → Int32) : Nat → (Nat → Int32) × Nat
  | 0 => (bo, 0)
  | i + 1 => c_bkS x i (c_bkL x bo i)
theorem bk_of (se ho ri fs bo : Nat → Int32) (fa tk : Int32) (fc t : Nat) : ∀ i, (c_gLL se fa t (ho, ri, fs, fc, bo, tk, 0) i).2.2.2.2.1 = (c_bkL (nI (t + 0)) bo i).1 ∧ (c_gLL se fa t (ho, ri, fs, fc, bo, tk, 0) i).2.2.2.2.2.2 = (c_bkL (nI (t + 0)) bo i).2
  | 0 => ⟨rfl, rfl⟩
  | i + 1 => by
    obtain ⟨h1, h2⟩ := bk_of se ho ri fs bo fa tk fc t i
    unfold c_gLL c_bkL
    generalize c_gLL se fa t (ho, ri, fs, fc, bo, tk, 0) i = p at h1 h2 ⊢
    generalize c_bkL (nI (t + 0)) bo i = b at h1 h2 ⊢
    unfold c_gLS c_bkS
    rw [← h1, ← h2]
    by_cases c : p.2.2.2.2.1 i = nI (t + 0)
    · rw [if_pos c, if_pos c]
      exact ⟨h1, h2⟩
    · rw [if_neg c, if_neg c]
      exact ⟨rfl, rfl⟩
theorem bk_all (x : Int32) (bo : Nat → Int32) {bc : Nat} (hb : bc ≤ 40) : ∀ i, i ≤ bc → (c_bkL x bo i).2 ≤ i ∧ (∀ a, i ≤ a → a < 40 → (c_bkL x bo i).1 a = bo a ∧ (c_bkL x bo i).1 (40 + a) = bo (40 + a) ∧ (c_bkL x bo i).1 (80 + a) = bo (80 + a)) ∧ EM bo i (c_bkL x bo i).1 (c_bkL x bo i).2 ∧ ∀ (tm g : Int32), bcnt (c_bkL x bo i).1 tm g (c_bkL x bo i).2 ≤ bcnt bo tm g i
  | 0, _ => ⟨Nat.le_refl _, fun a _ _ => ⟨rfl, rfl, rfl⟩, ⟨fun j => j, fun j hj => absurd hj (Nat.not_lt_zero j), fun j k _ hk => absurd hk (Nat.not_lt_zero k)⟩, fun _ _ => Nat.le_refl _⟩
  | i + 1, hi => by
    obtain ⟨h1, h2, ⟨σ, h3, h4⟩, h5⟩ := bk_all x bo hb i (by omega)
    unfold c_bkL
    generalize c_bkL x bo i = b at h1 h2 h3 h4 h5 ⊢
    obtain ⟨f, l⟩ := b
    dsimp only at h1 h2 h3 h4 h5
    unfold c_bkS
    dsimp only
    by_cases c : f i = x
    · rw [if_pos c]
      dsimp only
      exact ⟨by omega, fun a ha => h2 a (by omega), ⟨σ, fun j hj => ⟨Nat.lt_succ_of_lt (h3 j hj).1, (h3 j hj).2⟩, h4⟩, fun tm g => Nat.le_trans (h5 tm g) (bcnt_mono bo tm g i)⟩
    · rw [if_neg c]
      dsimp only
      have at0 : ∀ j, j < 40 → (if l < i then mvC f 40 i l 3 else f) j = (if j = l then f i else f j) ∧ (if l < i then mvC f 40 i l 3 else f) (40 + j) = (if j = l then f (40 + i) else f (40 + j)) ∧ (if l < i then mvC f 40 i l 3 else f) (80 + j) = (if j = l then f (80 + i) else f (80 + j)) := fun j hj => by
        by_cases d : l < i
        · rw [if_pos d, mv_0 (by omega) (by omega) hj, mv_1 (by omega) (by omega) hj, mv_2 (by omega) (by omega) hj]
          exact ⟨rfl, rfl, rfl⟩
        · rw [if_neg d]
          have : l = i := by omega
          subst this
          by_cases e : j = l
          · subst e; simp only [if_true]; exact ⟨trivial, trivial, trivial⟩
          · simp only [if_neg e]; exact ⟨trivial, trivial, trivial⟩
      generalize (if l < i then mvC f 40 i l 3 else f) = f2 at at0 ⊢
      have hI := h2 i (Nat.le_refl _) (by omega)
      refine ⟨by omega, fun a ha ha2 => ?_, ⟨fun j => if j = l then i else σ j, fun j hj => ?_, fun j k hjk hk => ?_⟩, fun tm g => ?_⟩
      · obtain ⟨g1, g2, g3⟩ := at0 a ha2
        rw [g1, g2, g3, if_neg (by omega), if_neg (by omega), if_neg (by omega)]
        exact h2 a (by omega) ha2
      · obtain ⟨g1, g2, g3⟩ := at0 j (by omega)
        rw [g1, g2, g3]
        by_cases e : j = l
        · simp only [if_pos e]
          exact ⟨Nat.lt_succ_self i, hI⟩
        · simp only [if_neg e]
          have := h3 j (by omega)
          exact ⟨Nat.lt_succ_of_lt this.1, this.2⟩
      · show (if j = l then i else σ j) < (if k = l then i else σ k)
        rw [if_neg (show ¬ j = l by omega)]
        by_cases e : k = l
        · rw [if_pos e]; exact (h3 j (by omega)).1
        · rw [if_neg e]; exact h4 j k hjk (by omega)
      · unfold bcnt
        have q1 : bcnt f2 tm g l = bcnt f tm g l := bcnt_cg l fun j hj => by
          obtain ⟨g1, g2, -⟩ := at0 j (by omega)
          rw [g1, g2, if_neg (by omega), if_neg (by omega)]
          exact ⟨rfl, rfl⟩
        have q2 : c_isBR f2 tm g l ↔ c_isBR bo tm g i := by
          obtain ⟨g1, g2, -⟩ := at0 l (by omega)
          unfold c_isBR
          rw [g1, g2, if_pos rfl, if_pos rfl, hI.1, hI.2.1]
        have q3 := h5 tm g
        rw [q1]
        by_cases d : c_isBR bo tm g i
        · rw [if_pos (q2.mpr d), if_pos d]; omega
        · rw [if_neg (fun z => d (q2.mp z)), if_neg d]; omega
theorem BI_bk {x : Int32} {bo : Nat → Int32} {bc : Nat} (hb : bc ≤ 40) (H : BI bo bc) : BI (c_bkL x bo bc).1 (c_bkL x bo bc).2 ∧ (c_bkL x bo bc).2 ≤ bc := by
  obtain ⟨h1, -, h3, h4⟩ := bk_all x bo hb bc (Nat.le_refl _)
  exact ⟨BI_em H h3 h4, h1⟩
