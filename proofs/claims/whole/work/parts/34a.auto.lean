/-! ===== the plan's text: the class's reader, from a place on ===== -/
def rn (tx : Nat → Int32) (ln i : Nat) (P : c_P) : Int32 × c_P := p_readR tx ln (ln - i) i P
theorem rn_end {tx : Nat → Int32} {ln : Nat} {P : c_P} : rn tx ln ln P = p_end P ln := by
  unfold rn
  rw [Nat.sub_self]
  rfl
theorem rn_go {tx : Nat → Int32} {ln i : Nat} {P : c_P} (h : i < ln) : rn tx ln i P = if (p_acc P (tx i)).1 = 0 then (nI i, (p_acc P (tx i)).2) else rn tx ln (i + 1) (p_acc P (tx i)).2 := by
  unfold rn
  rw [show ln - i = (ln - (i + 1)) + 1 by omega]
  rfl
theorem rn_y {tx : Nat → Int32} {ln i : Nat} {P Q : c_P} (h : i < ln) (e : p_acc P (tx i) = (1, Q)) : rn tx ln i P = rn tx ln (i + 1) Q := by
  rw [rn_go h, e]
  exact if_neg (show ¬ (1 : Int32) = 0 by decide)
theorem rn_n {tx : Nat → Int32} {ln i : Nat} {P : c_P} (h : i < ln) (e : (p_acc P (tx i)).1 = 0) : (rn tx ln i P).1 = nI i := by
  rw [rn_go h, if_pos e]
theorem acc_d {P : c_P} {c : Int32} (h : ¬ c < 48 ∧ ¬ 57 < c) : p_acc P c = p_digit P (c - 48) := by
  unfold p_acc
  rw [if_neg h.1, if_neg h.2]
theorem acc_o {P : c_P} {c : Int32} (h : ¬ (¬ c < 48 ∧ ¬ 57 < c)) : p_acc P c = p_acc2 P c := by
  unfold p_acc
  by_cases a : c < 48
  · rw [if_pos a]
  · rw [if_neg a]
    by_cases b : 57 < c
    · rw [if_pos b]
    · exact absurd ⟨a, b⟩ h
theorem dig_ex {c : Int32} (h : ¬ c < 48 ∧ ¬ 57 < c) : ∃ d, d < 10 ∧ c = nI (48 + d) := by
  obtain ⟨h1, h2, h3⟩ := g_in2 (x := c) (lo := 48) (n := 57) (by omega) (by omega) h
  exact ⟨nC c - 48, by omega, by rw [show 48 + (nC c - 48) = nC c by omega]; exact h3⟩
theorem nI_m1 {v : Nat} (hv : v < 2 ^ 31) : ¬ nI v = -1 := fun z => nI_pos hv (by rw [z]; decide)
theorem nx_eq {x c : Int32} : (¬ x < c ∧ ¬ c < x) ↔ x = c := by
  constructor
  · rintro ⟨h1, h2⟩
    rw [Int32.lt_iff_toInt_lt] at h1 h2
    exact Int32.toInt_inj.mp (by omega)
  · rintro rfl
    exact ⟨Int32.lt_irrefl, Int32.lt_irrefl⟩
theorem acc0_y {pz : Nat} {ph pr : Int32} {pe : Nat → Int32} : p_acc (pz, 0, -1, ph, pr, pe) 43 = (1, (pz, 1, -1, ph, pr, pe)) := rfl
theorem acc0_n {pz : Nat} {ph pr : Int32} {pe : Nat → Int32} {c : Int32} (hc : ¬ c = 43) : (p_acc (pz, 0, -1, ph, pr, pe) c).1 = 0 := by
  by_cases h : ¬ c < 48 ∧ ¬ 57 < c
  · rw [acc_d h]
    obtain ⟨d, hd, rfl⟩ := dig_ex h
    rw [show nI (48 + d) - 48 = nI d from (pk_sub (a := 48 + d) (b := 48) (by omega)).trans (by congr 1; omega)]
    unfold p_digit
    rw [if_neg (show ¬ (-1 : Int32) = 0 by decide), if_pos (show sT 4 0 < p_val (-1) (nI d) by
      unfold p_val
      rw [if_pos rfl, show sT 4 0 = -1 by decide]
      rw [Int32.lt_iff_toInt_lt, nI_toInt (by omega), show (-1 : Int32).toInt = -1 by decide]
      omega)]
  · rw [acc_o h]
    unfold p_acc2
    rw [if_neg hc, if_pos (rfl : (-1 : Int32) = -1)]
theorem accm_n {pz k : Nat} {ph pr : Int32} {pe : Nat → Int32} {c : Int32} (hk : ¬ k = 0) (h : ¬ (¬ c < 48 ∧ ¬ 57 < c)) : (p_acc (pz, k, -1, ph, pr, pe) c).1 = 0 := by
  rw [acc_o h]
  unfold p_acc2
  by_cases h2 : c = 43
  · rw [if_pos h2]
    unfold p_start
    rw [if_neg hk]
  · rw [if_neg h2, if_pos (rfl : (-1 : Int32) = -1)]
theorem acc2_s {P : c_P} {c : Int32} (hc : ¬ c = 43) (hn : ¬ P.2.2.1 = -1) : p_acc2 P c = if (p_sign P c).1 = 0 then (0, (p_sign P c).2) else (1, (p_sign P c).2) := by
  unfold p_acc2
  rw [if_neg hc, if_neg hn]
theorem acc2_43 {P : c_P} {c : Int32} (k : Nat) (hk : P.2.1 = k) (h0 : ¬ k = 0) (hc : c = 43) : (p_acc2 P c).1 = 0 := by
  unfold p_acc2
  rw [if_pos hc]
  unfold p_start
  rw [if_neg (hk ▸ h0)]
theorem acc1_y {pz v : Nat} {ph pr : Int32} {pe : Nat → Int32} (hv : v < 1000) : p_acc (pz, 1, nI v, ph, pr, pe) 47 = (1, (pz, 2, -1, nI v, pr, pe)) := by
  rw [acc_o (by decide), acc2_s (by decide) (nI_m1 (by omega))]
  rfl
theorem acc1_n {pz v : Nat} {ph pr : Int32} {pe : Nat → Int32} {c : Int32} (hv : v < 1000) (h : ¬ (¬ c < 48 ∧ ¬ 57 < c)) (hc : ¬ c = 47) : (p_acc (pz, 1, nI v, ph, pr, pe) c).1 = 0 := by
  rw [acc_o h]
  by_cases h2 : c = 43
  · exact acc2_43 1 rfl (by decide) h2
  · rw [acc2_s h2 (nI_m1 (by omega))]
    unfold p_sign p_sg2 p_sg3
    rw [if_pos (rfl : (1 : Nat) = 1), if_neg hc, if_neg (show ¬ (1 : Nat) = 2 by decide), if_neg (show ¬ (1 : Nat) = 3 by decide)]
    rfl
theorem acc2_y {pz v : Nat} {ph pr : Int32} {pe : Nat → Int32} (hv : v < 1000) : p_acc (pz, 2, nI v, ph, pr, pe) 58 = (1, (pz, 3, -1, ph, nI v, pe)) := by
  rw [acc_o (by decide), acc2_s (by decide) (nI_m1 (by omega))]
  rfl
theorem acc2_n {pz v : Nat} {ph pr : Int32} {pe : Nat → Int32} {c : Int32} (hv : v < 1000) (h : ¬ (¬ c < 48 ∧ ¬ 57 < c)) (hc : ¬ c = 58) : (p_acc (pz, 2, nI v, ph, pr, pe) c).1 = 0 := by
  rw [acc_o h]
  by_cases h2 : c = 43
  · exact acc2_43 2 rfl (by decide) h2
  · rw [acc2_s h2 (nI_m1 (by omega))]
    unfold p_sign p_sg2 p_sg3
    rw [if_neg (show ¬ (2 : Nat) = 1 by decide), if_pos (rfl : (2 : Nat) = 2), if_neg hc, if_neg (show ¬ (2 : Nat) = 3 by decide)]
    rfl
def p_add3 (pz : Nat) (ph pr pn : Int32) (pe : Nat → Int32) : Nat → Int32 := upd (upd (upd pe pz ph) (60 + pz) pr) (120 + pz) pn
theorem acc3_c {pz v : Nat} {ph pr : Int32} {pe : Nat → Int32} (hv : v < 1000) : p_acc (pz, 3, nI v, ph, pr, pe) 44 = (1, (pz + 1, 3, -1, ph, pr, p_add3 pz ph pr (nI v) pe)) := by
  rw [acc_o (by decide), acc2_s (by decide) (nI_m1 (by omega))]
  rfl
theorem acc3_s {pz v : Nat} {ph pr : Int32} {pe : Nat → Int32} (hv : v < 1000) : p_acc (pz, 3, nI v, ph, pr, pe) 59 = (1, (pz + 1, 0, -1, ph, pr, p_add3 pz ph pr (nI v) pe)) := by
  rw [acc_o (by decide), acc2_s (by decide) (nI_m1 (by omega))]
  rfl
theorem acc3_n {pz v : Nat} {ph pr : Int32} {pe : Nat → Int32} {c : Int32} (hv : v < 1000) (h : ¬ (¬ c < 48 ∧ ¬ 57 < c)) (h1 : ¬ c = 44) (h3 : ¬ c = 59) : (p_acc (pz, 3, nI v, ph, pr, pe) c).1 = 0 := by
  rw [acc_o h]
  by_cases h2 : c = 43
  · exact acc2_43 3 rfl (by decide) h2
  · rw [acc2_s h2 (nI_m1 (by omega))]
    unfold p_sign p_sg2 p_sg3
    rw [if_neg (show ¬ (3 : Nat) = 1 by decide), if_neg (show ¬ (3 : Nat) = 2 by decide), if_pos (rfl : (3 : Nat) = 3), if_neg h1, if_neg h3]
    rfl
theorem end3 {pz v n : Nat} {ph pr : Int32} {pe : Nat → Int32} (hv : v < 1000) : p_end (pz, 3, nI v, ph, pr, pe) n = (-5, (pz + 1, 3, nI v, ph, pr, p_add3 pz ph pr (nI v) pe)) := by
  unfold p_end
  rw [if_pos (rfl : (3 : Nat) = 3), if_neg (nI_m1 (by omega))]
  rfl
theorem end_n {P : c_P} {n : Nat} (h : ¬ P.2.1 = 3 ∨ P.2.2.1 = -1) : (p_end P n).1 = nI n := by
  unfold p_end
  by_cases c : P.2.1 = 3
  · rw [if_pos c, if_pos (h.elim (fun z => absurd c z) id)]
  · rw [if_neg c]
/-! the number, on both sides -/
def stp (tx : Nat → Int32) (ln i : Nat) (P : c_P) : Prop := i < ln → (¬ tx i < 48 ∧ ¬ 57 < tx i) → (p_acc P (tx i)).1 = 0
theorem v_numR {tx : Nat → Int32} {ln m pp pz : Nat} {ph pr : Int32} {pe : Nat → Int32} (hm : m < 100) (hs : sT 4 pp = nI m) : ∀ f v sp, v ≤ m → sp ≤ ln → ln ≤ sp + f → ∃ v' sp', m_numR ln tx (nI m) f (nI v) sp = (nI v', sp') ∧ v' ≤ m ∧ sp ≤ sp' ∧ sp' ≤ ln ∧ rn tx ln sp (pz, pp, nI v, ph, pr, pe) = rn tx ln sp' (pz, pp, nI v', ph, pr, pe) ∧ stp tx ln sp' (pz, pp, nI v', ph, pr, pe)
  | 0, v, sp, hv, h1, h2 => ⟨v, sp, rfl, hv, Nat.le_refl _, h1, rfl, fun z => absurd z (by omega)⟩
  | f + 1, v, sp, hv, h1, h2 => by
    unfold m_numR
    by_cases c0 : v = 0
    · subst c0
      refine ⟨0, sp, ?_, hv, Nat.le_refl _, h1, rfl, fun z1 z2 => ?_⟩
      · rw [if_neg (by decide)]
      · rw [acc_d z2]
        unfold p_digit
        rw [if_pos (show nI 0 = 0 from rfl)]
    · rw [if_pos (show (0 : Int32) < nI v from nI_lt (a := 0) (b := v) (by omega) (by omega))]
      by_cases c1 : m_nx 0 sp ln tx 48 57
      · rw [if_pos c1]
        obtain ⟨d, hd, e⟩ := dig_ex c1.2.2
        have e1 : 10 * nI v + tx sp - 48 = nI (10 * v + d) := by
          rw [e, show (10 : Int32) = nI 10 from rfl, pk_mul, nI_add, show (48 : Int32) = nI 48 from rfl, pk_sub (by omega)]
          congr 1
          omega
        have e2 : p_val (nI v) (tx sp - 48) = nI (10 * v + d) := by
          unfold p_val
          rw [if_neg (nI_m1 (by omega)), e, show (10 : Int32) = nI 10 from rfl, pk_mul, show (48 : Int32) = nI 48 from rfl, pk_sub (by omega), nI_add]
          congr 1
          omega
        have e0 : ¬ nI v = 0 := nI_ne0 (by omega) (by omega)
        rw [e1]
        by_cases c2 : m < 10 * v + d
        · rw [if_pos (nI_lt c2 (by omega))]
          refine ⟨v, sp, rfl, hv, Nat.le_refl _, h1, rfl, fun z1 z2 => ?_⟩
          rw [acc_d z2]
          unfold p_digit
          rw [if_neg e0, e2, hs, if_pos (nI_lt c2 (by omega))]
        · rw [if_neg (nI_nlt (by omega) (by omega))]
          obtain ⟨v', sp', i1, i2, i3, i4, i5, i6⟩ := v_numR (tx := tx) (ln := ln) (pz := pz) (ph := ph) (pr := pr) (pe := pe) hm hs f (10 * v + d) (sp + 1) (by omega) (by have := c1.2.1; omega) (by omega)
          refine ⟨v', sp', i1, i2, by omega, i4, ?_, i6⟩
          rw [← i5]
          refine rn_y c1.2.1 ?_
          rw [acc_d c1.2.2]
          unfold p_digit
          rw [if_neg e0, e2, hs, if_neg (nI_nlt (by omega) (by omega))]
      · rw [if_neg c1]
        exact ⟨v, sp, rfl, hv, Nat.le_refl _, h1, rfl, fun z1 z2 => absurd ⟨rfl, z1, z2⟩ c1⟩
/-- a number read: a fault at its first place, or its value and the place behind it -/
theorem v_num {tx : Nat → Int32} {ln m pp pz : Nat} {ph pr : Int32} {pe : Nat → Int32} (hm : m < 100) (hs : sT 4 pp = nI m) (h0 : ¬ pp = 0) (hl : ln ≤ 60) (sp : Nat) (h1 : sp ≤ ln) :
    ((m_num ln tx (sp, 0) (nI m)).2 = (sp, 1) ∧ (rn tx ln sp (pz, pp, -1, ph, pr, pe)).1 = nI sp) ∨ ∃ v' sp', m_num ln tx (sp, 0) (nI m) = (nI v', sp', 0) ∧ v' ≤ m ∧ sp < sp' ∧ sp' ≤ ln ∧ rn tx ln sp (pz, pp, -1, ph, pr, pe) = rn tx ln sp' (pz, pp, nI v', ph, pr, pe) ∧ stp tx ln sp' (pz, pp, nI v', ph, pr, pe) := by
  unfold m_num
  rw [if_pos (rfl : (0 : Int32) = 0)]
  by_cases c1 : m_nx 0 sp ln tx 48 57
  · rw [if_pos c1]
    obtain ⟨d, hd, e⟩ := dig_ex c1.2.2
    have e1 : tx sp - 48 = nI d := by
      rw [e, show (48 : Int32) = nI 48 from rfl, pk_sub (by omega)]
      congr 1
      omega
    have e2 : p_val (-1) (tx sp - 48) = nI d := by
      unfold p_val
      rw [if_pos rfl, e1]
    show ((if nI m < tx sp - 48 then _ else _ : Int32 × Nat × Int32).2 = _ ∧ _) ∨ _
    rw [e1] at e2 ⊢
    by_cases c2 : m < d
    · refine Or.inl ⟨by rw [if_pos (nI_lt c2 (by omega))], rn_n c1.2.1 ?_⟩
      rw [acc_d c1.2.2, e1]
      unfold p_digit
      rw [if_neg (show ¬ (-1 : Int32) = 0 by decide), e2, hs, if_pos (nI_lt c2 (by omega))]
    · rw [if_neg (nI_nlt (by omega) (by omega))]
      obtain ⟨v', sp', i1, i2, i3, i4, i5, i6⟩ := v_numR (tx := tx) (ln := ln) (pz := pz) (ph := ph) (pr := pr) (pe := pe) hm hs 61 d (sp + 1) (by omega) (by have := c1.2.1; omega) (by omega)
      refine Or.inr ⟨v', sp', by rw [i1], i2, by omega, i4, ?_, i6⟩
      rw [← i5]
      refine rn_y c1.2.1 ?_
      rw [acc_d c1.2.2, e1]
      unfold p_digit
      rw [if_neg (show ¬ (-1 : Int32) = 0 by decide), e2, hs, if_neg (nI_nlt (by omega) (by omega))]
  · rw [if_neg c1]
    refine Or.inl ⟨rfl, ?_⟩
    by_cases c2 : sp < ln
    · exact rn_n c2 (accm_n h0 (fun z => c1 ⟨rfl, c2, z⟩))
    · have : sp = ln := by omega
      subst this
      rw [rn_end]
      exact end_n (Or.inr rfl)
