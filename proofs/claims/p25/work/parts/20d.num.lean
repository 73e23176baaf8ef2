theorem g_in {x : Int32} {n : Nat} (hn : n + 1 < 2 ^ 31) (h : ¬ x < 0 ∧ ¬ nI n < x) : nC x < n + 1 ∧ x = nI (nC x) := by
  obtain ⟨j, hj, rfl⟩ := nI_of h.1
  have h2 := mt (nI_ltI (a := n) (b := j) (by omega) hj).mpr h.2
  rw [nC_nI hj]
  exact ⟨by omega, rfl⟩
theorem g_out {x : Int32} {n : Nat} (hn : n + 1 < 2 ^ 31) (h : ¬ (x < 0 ∨ nI n < x)) : nC x < n + 1 ∧ x = nI (nC x) := g_in hn ⟨fun h1 => h (Or.inl h1), fun h1 => h (Or.inr h1)⟩
theorem g_in2 {x : Int32} {lo n : Nat} (hlo : lo < 2 ^ 31) (hn : n + 1 < 2 ^ 31) (h : ¬ x < nI lo ∧ ¬ nI n < x) : lo ≤ nC x ∧ nC x < n + 1 ∧ x = nI (nC x) := by
  have h0 : ¬ x < 0 := fun h1 => h.1 (by
    rw [Int32.lt_iff_toInt_lt] at h1 ⊢
    have e := nI_toInt hlo
    have e0 : (0 : Int32).toInt = 0 := by decide
    omega)
  obtain ⟨j, hj, rfl⟩ := nI_of h0
  have h2 := mt (nI_ltI (a := n) (b := j) (by omega) hj).mpr h.2
  have h3 := mt (nI_ltI (a := j) (b := lo) hj hlo).mpr h.1
  rw [nC_nI hj]
  exact ⟨by omega, by omega, rfl⟩
theorem g_nn {x : Int32} (h : ¬ x < 0) : nC x < 2 ^ 31 ∧ x = nI (nC x) := by
  obtain ⟨j, hj, rfl⟩ := nI_of h
  rw [nC_nI hj]
  exact ⟨hj, rfl⟩
def okV (m : Nat) (x : Int32) : Prop := nC x < m ∧ x = nI (nC x)
theorem okV_nI {m n : Nat} (h : n < m) (hm : m < 2 ^ 31) : okV m (nI n) := by
  unfold okV; rw [nC_nI (by omega)]; exact ⟨h, rfl⟩
theorem okV_le {m : Nat} {n : Nat} {x : Int32} (hn : n < 2 ^ 31) (hm : m < 2 ^ 31) (hx : x = nI n) (h : ¬ nI m < x) : okV (m + 1) x := by
  subst hx
  have := mt (nI_ltI (a := m) (b := n) hm hn).mpr h
  unfold okV
  rw [nC_nI hn]
  exact ⟨by omega, rfl⟩
/-! ===== the mathematics: numbers ===== -/
theorem n_ex {m : Nat} {x : Int32} (h : okV m x) : ∃ k, k < m ∧ x = nI k := ⟨nC x, h.1, h.2⟩
theorem n_mono {m n : Nat} {x : Int32} (h : okV m x) (e : m ≤ n) : okV n x := ⟨Nat.lt_of_lt_of_le h.1 e, h.2⟩
theorem n_nl {x y : Int32} (h : x < y) : ¬ y < x := Int32.lt_asymm h
theorem n_dn {k b : Nat} (hk : k < 2 ^ 30) (hb : b < 2 ^ 30) : (if nI k - nI b < 0 then (0 : Int32) else nI k - nI b) = nI (k - b) := by
  by_cases h : k < b
  · rw [if_pos (pk_sneg hb h), show k - b = 0 by omega]; rfl
  · rw [pk_sub (by omega), if_neg (nI_pos (by omega))]
theorem n_mx {k b : Nat} (hk : k < 2 ^ 30) (hb : b < 2 ^ 30) : mxI 0 (nI k - nI b) = nI (k - b) := by
  unfold mxI
  by_cases h : k < b
  · rw [if_neg (n_nl (pk_sneg hb h)), show k - b = 0 by omega]; rfl
  · rw [pk_sub (by omega)]
    by_cases e : k - b = 0
    · rw [e]; decide
    · rw [if_pos (show (0 : Int32) < nI (k - b) from nI_lt (a := 0) (by omega) (by omega))]
theorem n_fearU {x : Int32} (h : okV 10 x) : mnI 9 (x + 1) = x + bI (x < 9) ∧ okV 10 (x + bI (x < 9)) := by
  obtain ⟨k, hk, rfl⟩ := n_ex h
  exact (by decide +kernel : ∀ k, k < 10 → mnI 9 (nI k + 1) = nI k + bI (nI k < 9) ∧ (nC (nI k + bI (nI k < 9)) < 10 ∧ nI k + bI (nI k < 9) = nI (nC (nI k + bI (nI k < 9))))) k hk
theorem n_fearD {x : Int32} (h : okV 10 x) : mxI 0 (x - 1) = x - bI (0 < x) ∧ okV 10 (x - bI (0 < x)) := by
  obtain ⟨k, hk, rfl⟩ := n_ex h
  exact (by decide +kernel : ∀ k, k < 10 → mxI 0 (nI k - 1) = nI k - bI (0 < nI k) ∧ (nC (nI k - bI (0 < nI k)) < 10 ∧ nI k - bI (0 < nI k) = nI (nC (nI k - bI (0 < nI k))))) k hk
theorem n_lame {x : Int32} (h : okV 100 x) : mxI 0 (x - 1) = x - bI (0 < x) ∧ okV 100 (x - bI (0 < x)) := by
  obtain ⟨k, hk, rfl⟩ := n_ex h
  exact (by decide +kernel : ∀ k, k < 100 → mxI 0 (nI k - 1) = nI k - bI (0 < nI k) ∧ (nC (nI k - bI (0 < nI k)) < 100 ∧ nI k - bI (0 < nI k) = nI (nC (nI k - bI (0 < nI k))))) k hk
theorem n_str {x : Int32} (h : okV 3 x) : (x + 1 < 3 ∧ ¬ x + 1 = 3 ∧ okV 3 (x + 1)) ∨ (¬ x + 1 < 3 ∧ x + 1 = 3) := by
  obtain ⟨k, hk, rfl⟩ := n_ex h
  exact (by decide +kernel : ∀ k, k < 3 → (nI k + 1 < 3 ∧ ¬ nI k + 1 = 3 ∧ (nC (nI k + 1) < 3 ∧ nI k + 1 = nI (nC (nI k + 1)))) ∨ (¬ nI k + 1 < 3 ∧ nI k + 1 = 3)) k hk
theorem n_tr {N : Nat} {x : Int32} (hN : N < 2 ^ 29) (h : okV N x) : ((if x - (-1 + nI 0) < 0 then (0 : Int32) else x - (-1 + nI 0)) = x + 1 ∧ okV (N + 1) (x + 1)) ∧ ((if x - (-1 + nI 8) < 0 then (0 : Int32) else x - (-1 + nI 8)) = mxI 0 (x + 1 - 8) ∧ okV (N + 1) (mxI 0 (x + 1 - 8))) ∧ ((if x - (1 + nI 0) < 0 then (0 : Int32) else x - (1 + nI 0)) = mxI 0 (x - 1) ∧ okV (N + 1) (mxI 0 (x - 1))) ∧ ((if x - (1 + nI 8) < 0 then (0 : Int32) else x - (1 + nI 8)) = mxI 0 (mxI 0 (x - 1) - 8) ∧ okV (N + 1) (mxI 0 (mxI 0 (x - 1) - 8))) := by
  obtain ⟨k, hk, rfl⟩ := n_ex h
  have a1 : nI k - (-1 + nI 0) = nI (k + 1) := by
    rw [show (-1 + nI 0 : Int32) = -1 by decide, Int32.sub_neg]; exact nI_1 k
  have a2 : nI k - (-1 + nI 8) = nI k - nI 7 := by rw [show (-1 + nI 8 : Int32) = nI 7 by decide]
  have a3 : nI k - (1 + nI 0) = nI k - nI 1 := by rw [show (1 + nI 0 : Int32) = nI 1 by decide]
  have a4 : nI k - (1 + nI 8) = nI k - nI 9 := by rw [show (1 + nI 8 : Int32) = nI 9 by decide]
  have b2 : mxI 0 (nI k + 1 - 8) = nI (k - 7) := by
    rw [nI_1, show (8 : Int32) = nI 8 from rfl, n_mx (by omega) (by omega)]; congr 1
  have b3 : mxI 0 (nI k - 1) = nI (k - 1) := by
    rw [show (1 : Int32) = nI 1 from rfl, n_mx (by omega) (by omega)]
  have b4 : mxI 0 (mxI 0 (nI k - 1) - 8) = nI (k - 9) := by
    rw [b3, show (8 : Int32) = nI 8 from rfl, n_mx (by omega) (by omega)]; congr 1
  rw [a1, a2, a3, a4, b2, b4, b3, n_dn (by omega) (by omega), n_dn (by omega) (by omega), n_dn (by omega) (by omega), if_neg (nI_pos (by omega)), nI_1]
  exact ⟨⟨rfl, okV_nI (by omega) (by omega)⟩, ⟨rfl, okV_nI (by omega) (by omega)⟩, ⟨rfl, okV_nI (by omega) (by omega)⟩, ⟨rfl, okV_nI (by omega) (by omega)⟩⟩
theorem upd_comm {f : Nat → Int32} {a b : Nat} {x y : Int32} (h : a ≠ b) : upd (upd f a x) b y = upd (upd f b y) a x := by
  funext j
  by_cases h1 : j = b
  · subst h1; rw [pk_us, pk_un (Ne.symm h), pk_us]
  · rw [pk_un h1]
    by_cases h2 : j = a
    · subst h2; rw [pk_us, pk_us]
    · rw [pk_un h2, pk_un h2, pk_un h1]
theorem upd_self {f : Nat → Int32} {k : Nat} {x : Int32} (h : x = f k) : upd f k x = f := by
  subst h
  funext j
  by_cases h1 : j = k
  · subst h1; rw [pk_us]
  · rw [pk_un h1]
theorem upd_two {f : Nat → Int32} {k : Nat} {x y : Int32} : upd (upd f k x) k y = upd f k y := by
  funext j
  by_cases h1 : j = k
  · subst h1; rw [pk_us, pk_us]
  · rw [pk_un h1, pk_un h1, pk_un h1]
theorem sumF_cg {f g : Nat → Int32} {b : Nat} : ∀ n, (∀ j, j < n → f (b + j) = g (b + j)) → sumF f b n = sumF g b n
  | 0, _ => rfl
  | n + 1, h => by
    unfold sumF
    rw [sumF_cg n (fun j hj => h j (by omega)), h n (by omega)]
theorem sumF_out {f : Nat → Int32} {b n k : Nat} {v : Int32} (h : k < b ∨ b + n ≤ k) : sumF (upd f k v) b n = sumF f b n := sumF_cg n fun j hj => pk_un (by omega)
theorem sumF_in {f : Nat → Int32} {b k : Nat} {d : Int32} : ∀ n, b ≤ k → k < b + n → sumF (upd f k (f k + d)) b n = sumF f b n + d
  | 0, h1, h2 => absurd h2 (by omega)
  | n + 1, h1, h2 => by
    unfold sumF
    by_cases e : k = b + n
    · subst e
      rw [pk_us, sumF_out (by omega), Int32.add_assoc]
    · rw [pk_un (Ne.symm e), sumF_in n h1 (by omega), Int32.add_assoc, Int32.add_comm d, Int32.add_assoc]
/-! bits -/
def bt (x : Int32) (i : Nat) : Bool := x.toBitVec.getLsbD i
theorem b_ext {x y : Int32} (h : ∀ i, i < 32 → bt x i = bt y i) : x = y := Int32.toBitVec_inj.mp (BitVec.eq_of_getLsbD_eq (fun i hi => h i hi))
theorem b_or (x y : Int32) (i : Nat) : bt (x ||| y) i = (bt x i || bt y i) := by unfold bt; rw [Int32.toBitVec_or, BitVec.getLsbD_or]
theorem b_and (x y : Int32) (i : Nat) : bt (x &&& y) i = (bt x i && bt y i) := by unfold bt; rw [Int32.toBitVec_and, BitVec.getLsbD_and]
theorem s_l : ∀ n, n < 32 → ((nI n &&& 31).toBitVec.smod 32).toNat = n := by decide +kernel
theorem b_shl (n : Nat) (hn : n < 32) (x : Int32) {i : Nat} (hi : i < 32) : bt (x <<< (nI n &&& 31)) i = (decide (n ≤ i) && bt x (i - n)) := by
  unfold bt
  rw [Int32.toBitVec_shiftLeft]
  show (x.toBitVec <<< ((nI n &&& 31).toBitVec.smod 32).toNat).getLsbD i = _
  rw [s_l n hn, BitVec.getLsbD_shiftLeft]
  rcases Nat.lt_or_ge i n with h | h
  · simp [h, Nat.not_le.mpr h]
  · simp [hi, h, Nat.not_lt.mpr h]
theorem b_sshr (n : Nat) (hn : n < 32) (x : Int32) {i : Nat} (hi : i < 32) : bt (x >>> (nI n &&& 31)) i = if n + i < 32 then bt x (n + i) else bt x 31 := by
  unfold bt
  rw [Int32.toBitVec_shiftRight]
  show (x.toBitVec.sshiftRight ((nI n &&& 31).toBitVec.smod 32).toNat).getLsbD i = _
  rw [s_l n hn, BitVec.getLsbD_sshiftRight, BitVec.msb_eq_getLsbD_last]
  simp [hi]
theorem b_one : ∀ i, i < 32 → bt 1 i = decide (i = 0) := by decide +kernel
theorem b_zero (i : Nat) : bt 0 i = false := BitVec.getLsbD_zero
/-- a horse's bit of a set, as a number -/
theorem b_in (tk : Int32) {h : Nat} (hh : h < 32) : c_in tk h = if bt tk h then 1 else 0 := by
  refine b_ext fun i hi => ?_
  unfold c_in
  rw [b_and, b_sshr h hh _ hi, b_one i hi]
  by_cases e : i = 0
  · subst e
    rw [if_pos (by omega), Nat.add_zero]
    cases bt tk h
    · rw [if_neg (by decide), b_zero]; rfl
    · rw [if_pos rfl, b_one 0 (by decide)]; rfl
  · rw [decide_eq_false e, Bool.and_false]
    cases bt tk h
    · rw [if_neg (by decide), b_zero]
    · rw [if_pos rfl, b_one i hi, decide_eq_false e]
theorem b_01 (tk : Int32) {h : Nat} (hh : h < 32) : c_in tk h = 0 ∨ c_in tk h = 1 := by
  rw [b_in tk hh]
  cases bt tk h
  · exact Or.inl rfl
  · exact Or.inr rfl
theorem b_in0 {h : Nat} (hh : h < 32) : c_in 0 h = 0 := by rw [b_in 0 hh, b_zero]; rfl
theorem b_orin {tk : Int32} {f h : Nat} (hf : f < 32) (hh : h < 32) : c_in (tk ||| ((1 : Int32) <<< (nI f &&& 31))) h = if h = f then 1 else c_in tk h := by
  rw [b_in _ hh, b_in _ hh, b_or, b_shl f hf _ hh]
  by_cases e : h = f
  · subst e
    rw [if_pos (rfl : h = h), Nat.sub_self, b_one 0 (by decide), decide_eq_true (Nat.le_refl h)]
    cases bt tk h <;> rfl
  · rw [if_neg e]
    by_cases e2 : f ≤ h
    · rw [b_one (h - f) (by omega), decide_eq_false (show ¬ h - f = 0 by omega), Bool.and_false, Bool.or_false]
    · rw [decide_eq_false e2, Bool.false_and, Bool.or_false]
