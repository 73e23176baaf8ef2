/-! ===== lessons of the hours to come: sets, sums ===== -/
theorem set_bt {bo : Nat → Int32} {tm rg : Int32} : ∀ bc, (∀ j, j < bc → okR (bo (80 + j))) → ∀ i, i < 32 → (bt (c_set bo tm rg bc) i = true ↔ ∃ j, j < bc ∧ c_isBR bo tm rg j ∧ nC (bo (80 + j)) = i)
  | 0, _, i, hi => by
    constructor
    · intro h
      rw [show c_set bo tm rg 0 = 0 from rfl, b_zero] at h
      exact absurd h (by decide)
    · rintro ⟨j, hj, _⟩
      exact absurd hj (Nat.not_lt_zero j)
  | n + 1, h, i, hi => by
    have ih := set_bt (bo := bo) (tm := tm) (rg := rg) n (fun j hj => h j (by omega)) i hi
    obtain ⟨h1, h2⟩ := h n (by omega)
    unfold c_set
    by_cases c : c_isBR bo tm rg n
    · rw [if_pos c, b_or, h2, b_shl _ (by omega) _ hi, b_one _ (by omega), Bool.or_eq_true, ih, Bool.and_eq_true, decide_eq_true_eq, decide_eq_true_eq]
      constructor
      · rintro (⟨j, hj, e⟩ | ⟨e1, e2⟩)
        · exact ⟨j, by omega, e⟩
        · exact ⟨n, by omega, c, by omega⟩
      · rintro ⟨j, hj, e1, e2⟩
        by_cases q : j = n
        · subst q
          exact Or.inr ⟨by omega, by omega⟩
        · exact Or.inl ⟨j, by omega, e1, e2⟩
    · rw [if_neg c, ih]
      constructor
      · rintro ⟨j, hj, e⟩
        exact ⟨j, by omega, e⟩
      · rintro ⟨j, hj, e1, e2⟩
        by_cases q : j = n
        · subst q; exact absurd e1 c
        · exact ⟨j, by omega, e1, e2⟩
def popS (s : Int32) : Nat → Int32
  | 0 => 0
  | k + 1 => popS s k + c_in s k
theorem popS_0 : ∀ n, n ≤ 32 → popS 0 n = 0
  | 0, _ => rfl
  | n + 1, h => by unfold popS; rw [popS_0 n (by omega), b_in0 (by omega)]; rfl
theorem popS_or {s : Int32} {k : Nat} (hk : k < 32) (h0 : c_in s k = 0) : ∀ n, n ≤ 32 → popS (s ||| ((1 : Int32) <<< (nI k &&& 31))) n = popS s n + if k < n then 1 else 0
  | 0, _ => by rw [if_neg (Nat.not_lt_zero k)]; rfl
  | n + 1, hn => by
    unfold popS
    rw [popS_or hk h0 n (by omega), b_orin hk (by omega)]
    by_cases e : n = k
    · subst e
      rw [if_pos rfl, if_neg (Nat.lt_irrefl n), if_pos (Nat.lt_succ_self n), h0, Int32.add_zero]
    · rw [if_neg e]
      by_cases c : k < n
      · rw [if_pos c, if_pos (by omega), Int32.add_assoc, Int32.add_assoc, Int32.add_comm (1 : Int32)]
      · rw [if_neg c, if_neg (by omega), Int32.add_zero, Int32.add_zero]
theorem pop_bf {bo : Nat → Int32} {tm rg : Int32} : ∀ bc, (∀ j, j < bc → okR (bo (80 + j))) → (∀ i j, i < j → j < bc → ¬ (bo i = bo j ∧ bo (80 + i) = bo (80 + j))) → popS (c_set bo tm rg bc) 12 = c_bf bo tm rg bc
  | 0, _, _ => popS_0 12 (by omega)
  | n + 1, h, hu => by
    have ih := pop_bf (bo := bo) (tm := tm) (rg := rg) n (fun j hj => h j (by omega)) (fun i j h1 h2 => hu i j h1 (by omega))
    obtain ⟨h1, h2⟩ := h n (by omega)
    unfold c_set c_bf
    by_cases c : c_isBR bo tm rg n
    · rw [if_pos c, bI_t c, h2, popS_or (k := nC (bo (80 + n))) (by omega) ?_ 12 (by omega), if_pos h1, ih]
      rw [b_in _ (by omega), if_neg]
      intro hb
      obtain ⟨j, hj, e1, e2⟩ := (set_bt n (fun j hj => h j (by omega)) _ (by omega)).mp hb
      refine hu j n hj (by omega) ⟨e1.1.trans c.1.symm, ?_⟩
      rw [(h j (by omega)).2, h2, e2]
    · rw [if_neg c, bI_f c, ih, Int32.add_zero]
def allS (bo : Nat → Int32) (tm : Int32) (bc : Nat) : Nat → Int32
  | 0 => 0
  | g + 1 => allS bo tm bc g ||| c_set bo tm (nI g) bc
def itsS (bo : Nat → Int32) (tm : Int32) (bc : Nat) : Nat → Int32
  | 0 => 0
  | g + 1 => itsS bo tm bc g + popS (c_set bo tm (nI g) bc) 12
def ballS (bo : Nat → Int32) (bc t : Nat) : Nat → Int32
  | 0 => 0
  | h + 1 => ballS bo bc t h + c_ball bo (nI (t + h)) bc
theorem all_bt {bo : Nat → Int32} {tm : Int32} {bc i : Nat} : ∀ g, bt (allS bo tm bc g) i = true → ∃ k, k < g ∧ bt (c_set bo tm (nI k) bc) i = true
  | 0, h => by
    rw [show allS bo tm bc 0 = 0 from rfl, b_zero] at h
    exact absurd h (by decide)
  | g + 1, h => by
    unfold allS at h
    rw [b_or, Bool.or_eq_true] at h
    rcases h with h | h
    · obtain ⟨k, hk, e⟩ := all_bt g h
      exact ⟨k, by omega, e⟩
    · exact ⟨g, by omega, h⟩
theorem all_and {bo : Nat → Int32} {tm : Int32} {bc g : Nat} (hg : g < 2 ^ 31) (h : ∀ j, j < bc → okR (bo (80 + j))) (hu : ∀ i j, i < j → j < bc → ¬ (bo i = bo j ∧ bo (80 + i) = bo (80 + j))) : allS bo tm bc g &&& c_set bo tm (nI g) bc = 0 := by
  refine b_ext fun i hi => ?_
  rw [b_and, b_zero, Bool.and_eq_false_iff]
  by_cases c : bt (allS bo tm bc g) i = true
  · right
    refine Bool.eq_false_iff.mpr fun d => ?_
    obtain ⟨k, hk, e⟩ := all_bt g c
    obtain ⟨j1, a1, a2, a3⟩ := (set_bt bc h i hi).mp e
    obtain ⟨j2, d1, d2, d3⟩ := (set_bt bc h i hi).mp d
    have hr : bo (80 + j1) = bo (80 + j2) := by rw [(h j1 a1).2, (h j2 d1).2, a3, d3]
    have ht : bo j1 = bo j2 := a2.1.trans d2.1.symm
    rcases Nat.lt_trichotomy j1 j2 with q | q | q
    · exact hu j1 j2 q d1 ⟨ht, hr⟩
    · subst q
      have := (nI_eq (a := k) (b := g) (by omega) hg).mp (a2.2.symm.trans d2.2)
      omega
    · exact hu j2 j1 q a1 ⟨ht.symm, hr.symm⟩
  · left
    exact Bool.eq_false_iff.mpr c
theorem set_lt {bo : Nat → Int32} {tm rg : Int32} {bc : Nat} (h : ∀ j, j < bc → okR (bo (80 + j))) : c_set bo tm rg bc < 4096 := by
  have e : c_set bo tm rg bc &&& 4095 = c_set bo tm rg bc := by
    refine b_ext fun i hi => ?_
    rw [b_and, (by decide +kernel : ∀ i, i < 32 → bt 4095 i = decide (i < 12)) i hi]
    by_cases c : bt (c_set bo tm rg bc) i = true
    · obtain ⟨j, a1, a2, a3⟩ := (set_bt bc h i hi).mp c
      have := (h j a1).1
      rw [c, decide_eq_true (by omega)]; rfl
    · rw [Bool.eq_false_iff.mpr c]; rfl
  obtain ⟨j, hj, e2⟩ := pk_andE (c_set bo tm rg bc) (m := 4095) 12 (by decide)
  rw [← e, e2]
  exact (nI_ltI (a := j) (b := 4096) (by omega) (by omega)).mpr (by omega)
theorem its_ball {bo : Nat → Int32} {tm : Int32} : ∀ bc, (∀ j, j < bc → okV 3 (bo (40 + j))) → (c_bf bo tm 0 bc + c_bf bo tm 1 bc) + c_bf bo tm 2 bc = c_ball bo tm bc
  | 0, _ => rfl
  | n + 1, h => by
    have ih := its_ball (bo := bo) (tm := tm) n (fun j hj => h j (by omega))
    obtain ⟨k, hk, e⟩ := n_ex (h n (by omega))
    unfold c_bf c_ball
    rw [← ih]
    unfold c_isBR
    rw [e]
    generalize c_bf bo tm 0 n = a
    generalize c_bf bo tm 1 n = b
    generalize c_bf bo tm 2 n = c
    by_cases q : bo n = tm
    · rcases (by omega : k = 0 ∨ k = 1 ∨ k = 2) with rfl | rfl | rfl
      · rw [bI_t (P := bo n = tm ∧ nI 0 = 0) ⟨q, rfl⟩, bI_f (P := bo n = tm ∧ nI 0 = 1) (fun z => absurd z.2 (by decide)), bI_f (P := bo n = tm ∧ nI 0 = 2) (fun z => absurd z.2 (by decide)), bI_t q]
        rw [Int32.add_zero, Int32.add_zero]; ac_rfl
      · rw [bI_f (P := bo n = tm ∧ nI 1 = 0) (fun z => absurd z.2 (by decide)), bI_t (P := bo n = tm ∧ nI 1 = 1) ⟨q, rfl⟩, bI_f (P := bo n = tm ∧ nI 1 = 2) (fun z => absurd z.2 (by decide)), bI_t q]
        rw [Int32.add_zero, Int32.add_zero]; ac_rfl
      · rw [bI_f (P := bo n = tm ∧ nI 2 = 0) (fun z => absurd z.2 (by decide)), bI_f (P := bo n = tm ∧ nI 2 = 1) (fun z => absurd z.2 (by decide)), bI_t (P := bo n = tm ∧ nI 2 = 2) ⟨q, rfl⟩, bI_t q]
        rw [Int32.add_zero, Int32.add_zero]; ac_rfl
    · rw [bI_f (P := bo n = tm ∧ nI k = 0) (fun z => q z.1), bI_f (P := bo n = tm ∧ nI k = 1) (fun z => q z.1), bI_f (P := bo n = tm ∧ nI k = 2) (fun z => q z.1), bI_f q]
      rw [Int32.add_zero, Int32.add_zero, Int32.add_zero, Int32.add_zero]
theorem ballS_0 (bo : Nat → Int32) (t : Nat) : ∀ n, ballS bo 0 t n = 0
  | 0 => rfl
  | n + 1 => by unfold ballS; rw [ballS_0 bo t n]; rfl
theorem ballS_1 {bo : Nat → Int32} {i t k : Nat} (hk : t + k < 2 ^ 31) (h : bo i = nI (t + k)) : ∀ n, t + n < 2 ^ 31 → ballS bo (i + 1) t n = ballS bo i t n + if k < n then 1 else 0
  | 0, _ => by rw [if_neg (Nat.not_lt_zero k)]; rfl
  | n + 1, hn => by
    unfold ballS
    rw [ballS_1 hk h n (by omega), show c_ball bo (nI (t + n)) (i + 1) = c_ball bo (nI (t + n)) i + bI (bo i = nI (t + n)) from rfl]
    by_cases e : k = n
    · subst e
      rw [if_neg (Nat.lt_irrefl k), if_pos (Nat.lt_succ_self k), bI_t h, Int32.add_zero, Int32.add_assoc]
    · rw [bI_f (fun c => e (by have := (nI_eq hk (by omega)).mp (h.symm.trans c); omega)), Int32.add_zero]
      by_cases c : k < n
      · rw [if_pos c, if_pos (by omega), Int32.add_assoc, Int32.add_assoc, Int32.add_comm (1 : Int32)]
      · rw [if_neg c, if_neg (by omega), Int32.add_zero, Int32.add_zero]
theorem ballS_all {bo : Nat → Int32} {t : Nat} (ht : t ≤ 100000) : ∀ bc, (∀ j, j < bc → t ≤ nC (bo j) ∧ okV (t + 100) (bo j)) → ballS bo bc t 100 = nI bc
  | 0, _ => ballS_0 bo t 100
  | i + 1, h => by
    obtain ⟨h1, h2, h3⟩ := h i (by omega)
    rw [ballS_1 (k := nC (bo i) - t) (by omega) (by rw [show t + (nC (bo i) - t) = nC (bo i) by omega]; exact h3) 100 (by omega), if_pos (by omega), ballS_all ht i (fun j hj => h j (by omega))]
    exact nI_1 i
theorem room_is : ∀ g, g < 3 → sT 0 g = nI (4 - g) := by decide +kernel
/-- what the walk of a ring wants -/
theorem ls_facts {q : c_S} (hI : INV q) {h g : Nat} (hg : g < 3) : popS (c_set (q_bo q) (nI (q_ti q + h)) (nI g) (q_bc q)) 12 = c_bf (q_bo q) (nI (q_ti q + h)) (nI g) (q_bc q) ∧ allS (q_bo q) (nI (q_ti q + h)) (q_bc q) g &&& c_set (q_bo q) (nI (q_ti q + h)) (nI g) (q_bc q) = 0 ∧ c_set (q_bo q) (nI (q_ti q + h)) (nI g) (q_bc q) < 4096 ∧ c_bf (q_bo q) (nI (q_ti q + h)) (nI g) (q_bc q) + (sT 0 g - c_bf (q_bo q) (nI (q_ti q + h)) (nI g) (q_bc q)) = nI (4 - g) := by
  obtain ⟨hb, hu⟩ := hI.2.2.2.2.2.1
  have hr : ∀ j, j < q_bc q → okR (q_bo q (80 + j)) := fun j hj => (hb j hj).2.2
  refine ⟨pop_bf _ hr hu, all_and (by omega) hr hu, set_lt hr, ?_⟩
  rw [← room_is g hg]
  generalize c_bf (q_bo q) (nI (q_ti q + h)) (nI g) (q_bc q) = z
  rw [Int32.add_comm, Int32.sub_add_cancel]
theorem ls_its {q : c_S} (hI : INV q) {h : Nat} : itsS (q_bo q) (nI (q_ti q + h)) (q_bc q) 3 = c_ball (q_bo q) (nI (q_ti q + h)) (q_bc q) := by
  obtain ⟨hb, hu⟩ := hI.2.2.2.2.2.1
  have hr : ∀ j, j < q_bc q → okR (q_bo q (80 + j)) := fun j hj => (hb j hj).2.2
  rw [← its_ball _ (fun j hj => (hb j hj).2.1)]
  show ((0 + popS (c_set _ _ (nI 0) _) 12) + popS (c_set _ _ (nI 1) _) 12) + popS (c_set _ _ (nI 2) _) 12 = _
  rw [pop_bf _ hr hu, pop_bf _ hr hu, pop_bf _ hr hu, Int32.zero_add]
  rfl
theorem ls_all {q : c_S} (hI : INV q) : ballS (q_bo q) (q_bc q) (q_ti q) 100 = nI (q_bc q) := ballS_all (by have := hI.1.2.2.1; omega) _ (fun j hj => (hI.2.2.2.2.2.1.1 j hj).1)
theorem ls_bus {q : c_S} {h : Nat} {m b i : Int32} (hb : (m, b) = k_busL q h) (hi : i = c_ball (q_bo q) (nI (q_ti q + h)) (q_bc q)) : ((if m < i then i else m), (if m < i then nI h else b)) = k_busL q (h + 1) := by
  unfold k_busL
  rw [← hb, ← hi]
  by_cases c : m < i
  · rw [if_pos c, if_pos c, if_pos c]
  · rw [if_neg c, if_neg c, if_neg c]
