/-! ===== the best horse, the wait for a horse, the falls ===== -/
theorem s_gt {p q : Nat} (hp : p < 2 ^ 30) (h : q < p) : 0 < nI p - nI q ∧ ¬ nI p - nI q = 0 := by
  rw [pk_sub (by omega)]
  have h1 : (0 : Int32) < nI (p - q) := (nI_ltI (a := 0) (b := p - q) (by omega) (by omega)).mpr (by omega)
  exact ⟨h1, fun e => by rw [e] at h1; exact absurd h1 (by decide)⟩
theorem s_eq {p q : Nat} (h : p = q) : nI p - nI q = 0 := by
  subst h; exact Int32.sub_self _
theorem s_lt {p q : Nat} (hp : p < 2 ^ 30) (hq : q < 2 ^ 30) : nI p - nI q < 0 ↔ p < q := by
  constructor
  · intro h
    by_cases c : p < q
    · exact c
    · rw [pk_sub (by omega)] at h
      exact absurd h (nI_pos (by omega))
  · exact pk_sneg hq
theorem s_z {p q : Nat} (hp : p < 2 ^ 30) (hq : q < 2 ^ 30) : nI p - nI q = 0 ↔ p = q := by
  constructor
  · intro h
    rcases Nat.lt_trichotomy p q with c | c | c
    · have := pk_sneg hq c
      rw [h] at this; exact absurd this (by decide)
    · exact c
    · exact absurd h (s_gt hp c).2
  · exact s_eq
theorem lex3 {wk wf tk tf sk sf k f : Nat} (h1 : wk ≤ 1 ∧ wf ≤ 1) (h2 : tk < 10 ∧ tf < 10) (h3 : sk < 151 ∧ sf < 151) (hk : k < 10 ∧ f < 10) (h : wf * 10000 + tf * 1000 + sf < wk * 10000 + tk * 1000 + sk ∨ (wf * 10000 + tf * 1000 + sf = wk * 10000 + tk * 1000 + sk ∧ f ≤ k)) (b1 b2 b3 : Int32) (e1 : b1 = nI wk - nI wf) (e2 : b2 = if b1 = 0 then nI tk - nI tf else b1) (e3 : b3 = if b2 = 0 then nI sk - nI sf else b2) : 0 < b3 ∨ (b3 = 0 ∧ ¬ nI k < nI f) := by
  have key : (wf < wk) ∨ (wf = wk ∧ tf < tk) ∨ (wf = wk ∧ tf = tk ∧ sf < sk) ∨ (wf = wk ∧ tf = tk ∧ sf = sk ∧ f ≤ k) := by omega
  rcases key with c | ⟨c1, c⟩ | ⟨c1, c2, c⟩ | ⟨c1, c2, c3, c⟩
  · obtain ⟨g1, g2⟩ := s_gt (p := wk) (q := wf) (by omega) c
    rw [← e1] at g1 g2
    rw [if_neg g2] at e2
    rw [e2, if_neg g2] at e3
    rw [e3]; exact Or.inl g1
  · rw [e1, if_pos (s_eq c1.symm)] at e2
    obtain ⟨g1, g2⟩ := s_gt (p := tk) (q := tf) (by omega) c
    rw [← e2] at g1 g2
    rw [if_neg g2] at e3
    rw [e3]; exact Or.inl g1
  · rw [e1, if_pos (s_eq c1.symm)] at e2
    rw [e2, if_pos (s_eq c2.symm)] at e3
    rw [e3]; exact Or.inl (s_gt (by omega) c).1
  · rw [e1, if_pos (s_eq c1.symm)] at e2
    rw [e2, if_pos (s_eq c2.symm)] at e3
    rw [e3]
    refine Or.inr ⟨s_eq c3.symm, fun z => ?_⟩
    have := (nI_ltI (a := k) (b := f) (by omega) (by omega)).mp z
    omega
def bW (P : Prop) [Decidable P] : Nat := if P then 1 else 0
theorem bW_le (P : Prop) [Decidable P] : bW P ≤ 1 := by unfold bW; split <;> omega
theorem bI_W (P : Prop) [Decidable P] : bI P = nI (bW P) := by
  unfold bI bW; split <;> rfl
theorem bW_iff {P Q : Prop} [Decidable P] [Decidable Q] (h : P ↔ Q) : bW P = bW Q := by unfold bW; simp only [h]
/-- the order of horses for a rider of ability a -/
def bK (ho : Nat → Int32) (a : Int32) (k : Nat) : Nat := bW (a < ho (10 + k)) * 10000 + nC (ho (20 + k)) * 1000 + nC (ho k)
theorem better_K {ho : Nat → Int32} {a : Int32} {x y : Nat} (hx : okV 151 (ho x) ∧ okV 10 (ho (20 + x))) (hy : okV 151 (ho y) ∧ okV 10 (ho (20 + y))) : c_better ho x y a ↔ bK ho a x < bK ho a y := by
  obtain ⟨⟨a1, a2⟩, a3, a4⟩ := hx
  obtain ⟨⟨b1, b2⟩, b3, b4⟩ := hy
  have u : (ho (20 + x) - ho (20 + y) < 0) ↔ nC (ho (20 + x)) < nC (ho (20 + y)) := by
    rw [a4, b4, nC_nI (by omega), nC_nI (by omega)]; exact s_lt (by omega) (by omega)
  have v : (ho (20 + x) - ho (20 + y) = 0) ↔ nC (ho (20 + x)) = nC (ho (20 + y)) := by
    rw [a4, b4, nC_nI (by omega), nC_nI (by omega)]; exact s_z (by omega) (by omega)
  have w : (ho x - ho y < 0) ↔ nC (ho x) < nC (ho y) := by
    rw [a2, b2, nC_nI (by omega), nC_nI (by omega)]; exact s_lt (by omega) (by omega)
  unfold c_better bK bW
  rw [u, v, w]
  generalize nC (ho (20 + x)) = p1 at a3 ⊢
  generalize nC (ho (20 + y)) = p2 at b3 ⊢
  generalize nC (ho x) = p3 at a1 ⊢
  generalize nC (ho y) = p4 at b1 ⊢
  by_cases c : a < ho (10 + x) <;> by_cases d : a < ho (10 + y) <;> simp only [c, d, not_true_eq_false, not_false_eq_true, false_and, true_and, false_or, true_or, iff_false, iff_true, true_iff, false_iff, and_false, and_true, if_true, if_false] <;> omega
theorem bst_L {se ho ri : Nat → Int32} {r : Nat} {fa : Int32} (hH : ∀ k, k < 10 → okV 151 (ho k) ∧ okV 10 (ho (20 + k))) : ∀ n, n ≤ 10 → (c_bestL se ho ri r fa 0 n = -5 ∧ ∀ k, k < n → ¬ c_hind se ho ri k r fa = 0) ∨ (okV n (c_bestL se ho ri r fa 0 n) ∧ c_hind se ho ri (nC (c_bestL se ho ri r fa 0 n)) r fa = 0 ∧ ∀ k, k < n → c_hind se ho ri k r fa = 0 → bK ho (c_abil ri r) (nC (c_bestL se ho ri r fa 0 n)) < bK ho (c_abil ri r) k ∨ (bK ho (c_abil ri r) (nC (c_bestL se ho ri r fa 0 n)) = bK ho (c_abil ri r) k ∧ nC (c_bestL se ho ri r fa 0 n) ≤ k))
  | 0, _ => Or.inl ⟨rfl, fun k hk => absurd hk (Nat.not_lt_zero k)⟩
  | n + 1, hn => by
    have ih := bst_L (se := se) (ri := ri) (r := r) (fa := fa) hH n (by omega)
    unfold c_bestL
    generalize c_bestL se ho ri r fa 0 n = f at ih ⊢
    unfold c_bestS
    rw [if_neg (by rw [b_in0 (by omega)]; exact fun h => h rfl)]
    by_cases c : c_hind se ho ri n r fa = 0
    · rw [if_neg (fun h => h c)]
      by_cases e : f = -5
      · rw [if_pos e, nC_nI (by omega)]
        refine Or.inr ⟨okV_nI (by omega) (by omega), c, fun k hk h0 => ?_⟩
        rcases ih with ⟨_, h⟩ | ⟨h, _⟩
        · by_cases q : k = n
          · subst q; exact Or.inr ⟨rfl, Nat.le_refl _⟩
          · exact absurd h0 (h k (by omega))
        · exact absurd e (fun e => by
            obtain ⟨j, hj, e2⟩ := n_ex h
            rw [e2] at e
            have := nI_pos (n := j) (by omega)
            rw [e] at this; exact absurd this (by decide))
      · rw [if_neg e]
        rcases ih with ⟨h, _⟩ | ⟨h1, h2, h3⟩
        · exact absurd h e
        · by_cases b : c_better ho n (nC f) (c_abil ri r)
          · rw [if_pos b, nC_nI (by omega)]
            have b := (better_K (hH n (by omega)) (hH (nC f) (by have := h1.1; omega))).mp b
            refine Or.inr ⟨okV_nI (by omega) (by omega), c, fun k hk h0 => ?_⟩
            by_cases q : k = n
            · subst q; exact Or.inr ⟨rfl, Nat.le_refl _⟩
            · rcases h3 k (by omega) h0 with z | ⟨z, _⟩ <;> exact Or.inl (by omega)
          · rw [if_neg b]
            have b := mt (better_K (hH n (by omega)) (hH (nC f) (by have := h1.1; omega))).mpr b
            refine Or.inr ⟨n_mono h1 (by omega), h2, fun k hk h0 => ?_⟩
            by_cases q : k = n
            · subst q
              have := h1.1
              rcases Nat.lt_or_ge (bK ho (c_abil ri r) (nC f)) (bK ho (c_abil ri r) k) with z | z
              · exact Or.inl z
              · exact Or.inr ⟨by omega, by omega⟩
            · exact h3 k (by omega) h0
    · rw [if_pos c]
      rcases ih with ⟨h1, h2⟩ | ⟨h1, h2, h3⟩
      · refine Or.inl ⟨h1, fun k hk => ?_⟩
        by_cases q : k = n
        · subst q; exact c
        · exact h2 k (by omega)
      · refine Or.inr ⟨n_mono h1 (by omega), h2, fun k hk h0 => ?_⟩
        by_cases q : k = n
        · subst q; exact absurd h0 c
        · exact h3 k (by omega) h0
theorem bst_is {q : c_S} (hI : INV q) {r : Nat} {f : Int32} (hf : f = k_bst q r) : (f = -5 ∧ ∀ k, k < 10 → ¬ k_hin q k r = 0) ∨ (okV 10 f ∧ k_hin q (nC f) r = 0 ∧ ∀ k, k < 10 → k_hin q k r = 0 → bK (q_ho q) (c_abil (q_ri q) r) (nC f) < bK (q_ho q) (c_abil (q_ri q) r) k ∨ (bK (q_ho q) (c_abil (q_ri q) r) (nC f) = bK (q_ho q) (c_abil (q_ri q) r) k ∧ nC f ≤ k)) := by
  subst hf
  exact bst_L (fun k hk => ⟨(hI.2.1 k hk).1, (hI.2.1 k hk).2.2.1⟩) 10 (Nat.le_refl 10)
theorem bst_ok {q : c_S} (hI : INV q) {r : Nat} {f : Int32} (hf : f = k_bst q r) (h : ¬ f = -5) : okV 10 f ∧ k_hin q (nC f) r = 0 := by
  rcases bst_is hI hf with ⟨e, _⟩ | ⟨h1, h2, _⟩
  · exact absurd e h
  · exact ⟨h1, h2⟩
theorem bst_ok2 {q : c_S} (hI : INV q) {r k : Nat} {f : Int32} (hf : f = k_bst q r) (hk : k < 10) (h : k_hin q k r = 0) : okV 10 f := by
  rcases bst_is hI hf with ⟨_, e⟩ | ⟨h1, h2, _⟩
  · exact absurd h (e k hk)
  · exact h1
theorem bst_lex {q : c_S} (hI : INV q) {r k : Nat} {f : Int32} (hf : f = k_bst q r) (hk : k < 10) (h : k_hin q k r = 0) (b1 b2 b3 : Int32) (e1 : b1 = bI (c_abil (q_ri q) r < q_ho q (10 + k)) - bI (¬ f = -5 ∧ c_abil (q_ri q) r < q_ho q (10 + nC f))) (e2 : b2 = if b1 = 0 then q_ho q (20 + k) - q_ho q (20 + nC f) else b1) (e3 : b3 = if b2 = 0 then q_ho q k - q_ho q (nC f) else b2) : 0 < b3 ∨ (b3 = 0 ∧ ¬ nI k < f) := by
  rcases bst_is hI hf with ⟨_, e⟩ | ⟨h1, h2, h3⟩
  · exact absurd h (e k hk)
  · have hkk := h3 k hk h
    have hH := hI.2.1 k hk
    have hF := hI.2.1 (nC f) h1.1
    have hn : ¬ f = -5 := fun e => by
      have := ok_nn h1 (by omega)
      rw [e] at this; exact absurd this (by decide)
    have e1 : b1 = nI (bW (c_abil (q_ri q) r < q_ho q (10 + k))) - nI (bW (c_abil (q_ri q) r < q_ho q (10 + nC f))) := by
      rw [e1, bI_W, bI_W, bW_iff (P := ¬ f = -5 ∧ c_abil (q_ri q) r < q_ho q (10 + nC f)) (Q := c_abil (q_ri q) r < q_ho q (10 + nC f)) ⟨fun z => z.2, fun z => ⟨hn, z⟩⟩]
    have e2 : b2 = if b1 = 0 then nI (nC (q_ho q (20 + k))) - nI (nC (q_ho q (20 + nC f))) else b1 := by
      rw [← hH.2.2.1.2, ← hF.2.2.1.2]; exact e2
    have e3 : b3 = if b2 = 0 then nI (nC (q_ho q k)) - nI (nC (q_ho q (nC f))) else b2 := by
      rw [← hH.1.2, ← hF.1.2]; exact e3
    have := lex3 (k := k) (f := nC f) ⟨bW_le _, bW_le _⟩ ⟨hH.2.2.1.1, hF.2.2.1.1⟩ ⟨hH.1.1, hF.1.1⟩ ⟨hk, h1.1⟩ hkk b1 b2 b3 e1 e2 e3
    rw [← h1.2] at this
    exact this
theorem hin_r {se ho ri : Nat → Int32} {h r : Nat} {fa x : Int32} (e : x = c_hind se ho ri h r fa) : (x = 1 → 0 < ho (50 + h)) ∧ (x = 2 → fa = nI h) ∧ (x = 3 → ¬ ho (30 + h) < se 1) ∧ (x = 4 → ¬ ho (20 + h) < se 0) ∧ (x = 5 → ho h < ri r) ∧ (x = 0 → ¬ 0 < ho (50 + h) ∧ ho (30 + h) < se 1 ∧ ho (20 + h) < se 0 ∧ ¬ ho h < ri r) := by
  subst e
  unfold c_hind
  by_cases c1 : 0 < ho (50 + h)
  · rw [if_pos c1]
    exact ⟨fun _ => c1, fun z => absurd z (by decide), fun z => absurd z (by decide), fun z => absurd z (by decide), fun z => absurd z (by decide), fun z => absurd z (by decide)⟩
  rw [if_neg c1]
  by_cases c2 : nI h = fa
  · rw [if_pos c2]
    exact ⟨fun z => absurd z (by decide), fun _ => c2.symm, fun z => absurd z (by decide), fun z => absurd z (by decide), fun z => absurd z (by decide), fun z => absurd z (by decide)⟩
  rw [if_neg c2]
  by_cases c3 : ho (30 + h) < se 1
  · rw [if_neg (fun z => z c3)]
    by_cases c4 : ho (20 + h) < se 0
    · rw [if_neg (fun z => z c4)]
      by_cases c5 : ho h < ri r
      · rw [if_pos c5]
        exact ⟨fun z => absurd z (by decide), fun z => absurd z (by decide), fun z => absurd z (by decide), fun z => absurd z (by decide), fun _ => c5, fun z => absurd z (by decide)⟩
      · rw [if_neg c5]
        exact ⟨fun z => absurd z (by decide), fun z => absurd z (by decide), fun z => absurd z (by decide), fun z => absurd z (by decide), fun z => absurd z (by decide), fun _ => ⟨c1, c3, c4, c5⟩⟩
    · rw [if_pos c4]
      exact ⟨fun z => absurd z (by decide), fun z => absurd z (by decide), fun z => absurd z (by decide), fun _ => c4, fun z => absurd z (by decide), fun z => absurd z (by decide)⟩
  · rw [if_pos c3]
    exact ⟨fun z => absurd z (by decide), fun z => absurd z (by decide), fun _ => c3, fun z => absurd z (by decide), fun z => absurd z (by decide), fun z => absurd z (by decide)⟩
theorem tkR_ne {h r : Nat} : ∀ (f n : Nat) (q : c_S), 1 ≤ n → n + f < 2 ^ 30 → ¬ (k_tkR h r f n q).1 = 0
  | 0, _, _, _, _ => by show ¬ (-5 : Int32) = 0; decide
  | f + 1, n, q, h1, h2 => by
    unfold k_tkR
    split
    · show ¬ nI n = 0
      exact fun e => by have := (nI_eq (a := n) (b := 0) (by omega) (by omega)).mp e; omega
    · exact tkR_ne f (n + 1) _ (by omega) (by omega)
theorem tk_is {q ah : c_S} {h r : Nat} (hh : h < 10) (hr : r < 12) : kX_takenIn q ah (nI h) (nI r) = if q_ho q h < q_ri q r then (-5, ah) else k_tkR h r 201 0 q := by
  rw [kX_takenIn, if_neg (show ¬ k_out (nI h) 0 9 from k_inN (n := 9) (by omega) (by omega)), if_neg (show ¬ k_out (nI r) 0 11 from k_inN (n := 11) (by omega) (by omega)), nC_nI (by omega), nC_nI (by omega)]
  rw [show c_ofRid (q_ri q) (q_bo q) (q_bc q) r 0 = q_ri q r by unfold c_ofRid; rw [if_neg (by omega), if_neg (by omega)]; congr 1; omega]
theorem tk_0 {q ah : c_S} {h r : Nat} (hh : h < 10) (hr : r < 12) (h0 : k_hin q h r = 0) : (kX_takenIn q ah (nI h) (nI r)).1 = 0 := by
  rw [tk_is hh hr, if_neg ((hin_r (x := k_hin q h r) rfl).2.2.2.2.2 h0).2.2.2]
  unfold k_tkR
  rw [if_pos h0]; rfl
theorem tk_n {q ah : c_S} {h r : Nat} (hh : h < 10) (hr : r < 12) (h0 : ¬ k_hin q h r = 0) : ¬ (kX_takenIn q ah (nI h) (nI r)).1 = 0 := by
  rw [tk_is hh hr]
  split
  · show ¬ (-5 : Int32) = 0; decide
  · unfold k_tkR
    rw [if_neg h0]
    exact tkR_ne 200 1 _ (by omega) (by omega)
theorem tk_5 {q ah : c_S} {h r : Nat} (hh : h < 10) (hr : r < 12) (h0 : q_ho q h < q_ri q r) : (kX_takenIn q ah (nI h) (nI r)).1 = -5 := by
  rw [tk_is hh hr, if_pos h0]
theorem fa_in {fs : Nat → Int32} {fc j : Nat} (h : ¬ c_ofFall fs fc j 0 < 0) : j < min fc 20 := by
  unfold c_ofFall at h
  split at h
  · assumption
  · exact absurd (by decide) h
theorem fa_at {fs : Nat → Int32} {fc j : Nat} (h : j < min fc 20) : c_ofFall fs fc j 0 = fs ((fc - 1 - j) % 20) := by
  unfold c_ofFall
  rw [if_pos h]
  congr 1; omega
theorem fa_le {fs : Nat → Int32} {fc t j : Nat} (ht : t ≤ 2 ^ 31) (h : IFA fs fc t) (h1 : 1 ≤ j) (hj : j < min fc 20) : ¬ c_ofFall fs fc (j - 1) 0 < c_ofFall fs fc j 0 := by
  rw [fa_at hj, fa_at (by omega)]
  have a := h.1 j hj
  have b := h.1 (j - 1) (by omega)
  have c := h.2 (j - 1) (by omega)
  rw [show j - 1 + 1 = j by omega] at c
  exact ok_le a b c ht ht
theorem fa_lt {fs : Nat → Int32} {fc t j : Nat} (ht : t < 2 ^ 31) (h : IFA fs fc t) (h1 : 1 ≤ j) (hj : j < min fc 20) : c_ofFall fs fc (j - 1) 0 < nI t := by
  rw [fa_at (by omega)]
  exact ok_lt (h.1 (j - 1) (by omega)) (Nat.le_refl _) ht
theorem fa_20 {fs : Nat → Int32} {fc : Nat} : c_ofFall fs fc 20 0 = -5 := if_neg (by omega)
theorem fa_0 {fs : Nat → Int32} {fc t : Nat} (ht : t ≤ 2 ^ 31) (h : IFA fs fc t) : ¬ c_ofFall fs fc 0 0 < 0 ↔ 0 < fc := by
  constructor
  · intro c
    have := fa_in c
    omega
  · intro c
    rw [fa_at (by omega)]
    exact ok_nn (h.1 0 (by omega)) ht
/-! a stable's numbers as addresses, so that a contract may say 'some' -/
def encS (q : c_S) (i : Nat) : Nat := if i % 8 = 0 then q_ti q else if i % 8 = 1 then (q_se q (i / 8)).toUInt32.toNat else if i % 8 = 2 then (q_ho q (i / 8)).toUInt32.toNat else if i % 8 = 3 then (q_ri q (i / 8)).toUInt32.toNat else if i % 8 = 4 then (q_bo q (i / 8)).toUInt32.toNat else if i % 8 = 5 then q_bc q else if i % 8 = 6 then (q_fs q (i / 8)).toUInt32.toNat else q_fc q
def decS (u : Nat → Nat) : c_S := (u 0, fun j => nI (u (8 * j + 1)), fun j => nI (u (8 * j + 2)), fun j => nI (u (8 * j + 3)), fun j => nI (u (8 * j + 4)), u 5, fun j => nI (u (8 * j + 6)), u 7)
theorem nI_back (x : Int32) : nI x.toUInt32.toNat = x := by
  refine Int32.toBitVec_inj.mp (BitVec.eq_of_toNat_eq ?_)
  show x.toBitVec.toNat % 2 ^ 32 = x.toBitVec.toNat
  exact Nat.mod_eq_of_lt x.toBitVec.isLt
theorem decS_enc (q : c_S) : decS (encS q) = q := by
  have e : ∀ j k, k < 8 → (8 * j + k) % 8 = k ∧ (8 * j + k) / 8 = j := fun j k h => by omega
  have h0 : encS q 0 = q_ti q := rfl
  have h5 : encS q 5 = q_bc q := rfl
  have h7 : encS q 7 = q_fc q := rfl
  have h1 : (fun j => nI (encS q (8 * j + 1))) = q_se q := funext fun j => by
    unfold encS; rw [(e j 1 (by omega)).1, (e j 1 (by omega)).2]; exact nI_back _
  have h2 : (fun j => nI (encS q (8 * j + 2))) = q_ho q := funext fun j => by
    unfold encS; rw [(e j 2 (by omega)).1, (e j 2 (by omega)).2]; exact nI_back _
  have h3 : (fun j => nI (encS q (8 * j + 3))) = q_ri q := funext fun j => by
    unfold encS; rw [(e j 3 (by omega)).1, (e j 3 (by omega)).2]; exact nI_back _
  have h4 : (fun j => nI (encS q (8 * j + 4))) = q_bo q := funext fun j => by
    unfold encS; rw [(e j 4 (by omega)).1, (e j 4 (by omega)).2]; exact nI_back _
  have h6 : (fun j => nI (encS q (8 * j + 6))) = q_fs q := funext fun j => by
    unfold encS; rw [(e j 6 (by omega)).1, (e j 6 (by omega)).2]; exact nI_back _
  unfold decS
  rw [h0, h1, h2, h3, h4, h5, h6, h7]
