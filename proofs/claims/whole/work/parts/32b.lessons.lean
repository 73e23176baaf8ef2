/-! ===== the lessons of an hour, on both sides ===== -/
theorem best_free (s it : Nat → Int32) (r : Nat) (fa : Int32) : ∀ n, n ≤ 10 → ¬ m_bestL s it r fa n = -5 → it (nC (m_bestL s it r fa n)) = 0 ∧ m_hind s (nC (m_bestL s it r fa n)) r fa = 0
  | 0, _, h => absurd rfl h
  | n + 1, hn, h => by
    have ih := best_free s it r fa n (by omega)
    unfold m_bestL at h ⊢
    generalize m_bestL s it r fa n = f at ih h ⊢
    unfold m_bestS at h ⊢
    by_cases c1 : it n = 0
    · rw [if_pos c1] at h ⊢
      by_cases c2 : m_hind s n r fa = 0
      · rw [if_pos c2] at h ⊢
        by_cases c3 : f = -5
        · rw [if_pos c3, nC_nI (by omega)]; exact ⟨c1, c2⟩
        · rw [if_neg c3] at h ⊢
          by_cases c4 : m_by3 s n (nC f) r < 0
          · rw [if_pos c4, nC_nI (by omega)]; exact ⟨c1, c2⟩
          · rw [if_neg c4] at h ⊢; exact ih h
      · rw [if_neg c2] at h ⊢; exact ih h
    · rw [if_neg c1] at h ⊢; exact ih h
theorem hind_0 {s : Nat → Int32} {h r : Nat} {fa : Int32} (e : m_hind s h r fa = 0) : ¬ 0 < s (9 * h + 6) := fun c => by
  unfold m_hind at e
  rw [if_pos c] at e
  exact absurd e (by decide)
def LR (s0 : Nat → Int32) (t bc N fc0 i : Nat) (p : c_T7) (P : m_T4) : Prop :=
  (p.1 = HO P.1 ∧ p.2.1 = RI P.1 ∧ FS p.2.2.1 p.2.2.2.1 P.1) ∧ BO p.2.2.2.2.1 bc P.1 ∧ p.2.2.2.2.2.2 = P.2.2.2 ∧ P.2.2.2 ≤ i ∧ p.2.2.2.1 ≤ fc0 + i ∧ IV N P.1 ∧ SU P.1 ∧ SE P.1 = SE s0 ∧ P.1 0 = nI t ∧ P.1 313 = s0 313 + P.2.2.1 ∧ (∀ h, h < 10 → c_in p.2.2.2.2.2.1 h = P.2.1 h ∧ (P.2.1 h = 0 ∨ P.2.1 h = 1) ∧ (P.2.1 h = 0 → P.1 (9 * h + 6) = s0 (9 * h + 6)) ∧ (P.2.1 h = 1 → ¬ 0 < s0 (9 * h + 6))) ∧ ∀ j, j < bc → okR (p.2.2.2.2.1 (80 + j))
theorem gLS_t {fa f : Int32} {i r : Nat} {p : m_T4} (c : p.1 (3 * i + 193) = p.1 0) (hr : m_gR p i = r) (hf : m_best p.1 p.2.1 r fa = f) : m_gLS fa i p = (m_rideS p.1 r f, m_rideT p.2.1 f, p.2.2.1 + bI (¬ f = -5), p.2.2.2) := by
  subst hr; subst hf
  exact if_pos c
theorem gLS_f {fa : Int32} {i : Nat} {p : m_T4} (c : ¬ p.1 (3 * i + 193) = p.1 0) : m_gLS fa i p = (m_cp3 p.1 i p.2.2.2, p.2.1, p.2.2.1, p.2.2.2 + 1) := if_neg c
theorem cLS_t {se : Nat → Int32} {fa f : Int32} {t i r : Nat} {p : c_T7} (c : p.2.2.2.2.1 i = nI (t + 0)) (hr : nC (p.2.2.2.2.1 (80 + i)) = r) (hf : c_best se p.1 p.2.1 r fa p.2.2.2.2.2.1 = f) : c_gLS se fa t i p = ((c_give se p.1 p.2.1 p.2.2.1 p.2.2.2.1 t r f).1, (c_give se p.1 p.2.1 p.2.2.1 p.2.2.2.1 t r f).2.1, (c_give se p.1 p.2.1 p.2.2.1 p.2.2.2.1 t r f).2.2.1, (c_give se p.1 p.2.1 p.2.2.1 p.2.2.2.1 t r f).2.2.2, p.2.2.2.2.1, p.2.2.2.2.2.1 ||| c_giveT f, p.2.2.2.2.2.2) := by
  subst hr; subst hf
  exact if_pos c
theorem cLS_f {se : Nat → Int32} {fa : Int32} {t i : Nat} {p : c_T7} (c : ¬ p.2.2.2.2.1 i = nI (t + 0)) : c_gLS se fa t i p = (p.1, p.2.1, p.2.2.1, p.2.2.2.1, (if p.2.2.2.2.2.2 < i then mvC p.2.2.2.2.1 40 i p.2.2.2.2.2.2 3 else p.2.2.2.2.1), p.2.2.2.2.2.1, p.2.2.2.2.2.2 + 1) := if_neg c
theorem LR_step {s0 : Nat → Int32} {t bc N fc0 i : Nat} {fa : Int32} {p : c_T7} {P : m_T4} (hb : bc ≤ 40) (hfc : fc0 + 40 < 2 ^ 20) (hi : i < bc) (H : LR s0 t bc N fc0 i p P) : LR s0 t bc N fc0 (i + 1) (c_gLS (SE s0) fa t i p) (m_gLS fa i P) := by
  obtain ⟨ho, ri, fs, fc, bo, tk, l⟩ := p
  obtain ⟨s, it, cn, l2⟩ := P
  unfold LR at H
  dsimp only at H
  obtain ⟨⟨e1, e2, e3⟩, e4, e5, e6, e7, e8, e9, e10, e11, e12, e13, e14⟩ := H
  subst e1; subst e2; subst e5
  have hI := e4 i hi
  have hR := e14 i hi
  by_cases c : bo i = nI t
  · have hg : m_gR (s, it, cn, l) i = nC (bo (80 + i)) := by
      show nC (s (3 * i + 195)) = _
      rw [hI.2.2]
    generalize hrr : nC (bo (80 + i)) = r at hR hg
    have hr : r < 12 := by
      rw [← hrr]; exact hR.1
    have hbest : c_best (SE s0) (HO s) (RI s) r fa tk = m_best s it r fa := by
      rw [← e10]; exact v_best s it hr fa tk (fun h hh => (e13 h hh).1)
    have hok := m_best_ok s it r fa
    have hfr := best_free s it r fa 10 (Nat.le_refl _)
    have hfe : m_best s it r fa = m_bestL s it r fa 10 := rfl
    rw [← hfe] at hfr
    generalize hff : m_best s it r fa = f at hok hfr hbest
    clear hfe
    rw [cLS_t (p := (HO s, RI s, fs, fc, bo, tk, l)) (r := r) (f := f) c hrr hbest, gLS_t (p := (s, it, cn, l)) (r := r) (f := f) (show s (3 * i + 193) = s 0 by rw [hI.1, e11]; exact c) hg hff]
    obtain ⟨⟨v1, v2, v3⟩, v4, v5, v6, v7, v8⟩ := v_ride (t := t) e8 e9 e3 (by omega) e11 hr hok
    rw [e10] at v1 v2 v3 v4
    unfold LR
    dsimp only
    refine ⟨⟨v1, v2, v3⟩, BO_cg hb (fun k h1 h2 => m_rideS_out hr hok (by omega)) e4, rfl, by omega, by omega, v5, v6, ?_, ?_, ?_, ?_, e14⟩
    · rw [SE_cg (s := m_rideS s r f) (t := s) (fun k h1 h2 => m_rideS_out hr hok (by omega)), e10]
    · rw [m_rideS_out hr hok (by omega), e11]
    · rw [v7, e12, Int32.add_assoc]
    · intro h hh
      obtain ⟨g1, g2, g3, g4⟩ := e13 h hh
      unfold c_giveT m_rideT
      by_cases d : f = -5
      · rw [if_pos d, if_pos d, Int32.or_zero, v8 h hh (Or.inl d)]
        exact ⟨g1, g2, g3, g4⟩
      · rw [if_neg d, if_neg d]
        obtain ⟨k1, k2⟩ := hok.elim (fun z => absurd z d) id
        have hq := hfr d
        generalize nC f = n at *
        subst k2
        rw [b_orin (by omega) (by omega)]
        by_cases u : h = n
        · subst u
          rw [if_pos rfl, pk_us]
          refine ⟨rfl, Or.inr rfl, fun z => absurd z (by decide), fun _ => ?_⟩
          rw [← g3 hq.1]
          exact hind_0 hq.2
        · rw [if_neg u, pk_un u, v8 h hh (Or.inr u)]
          exact ⟨g1, g2, g3, g4⟩
  · rw [cLS_f (p := (HO s, RI s, fs, fc, bo, tk, l)) c, gLS_f (p := (s, it, cn, l)) (show ¬ s (3 * i + 193) = s 0 by rw [hI.1, e11]; exact c)]
    unfold LR
    dsimp only
    have o : ∀ q, q < 193 ∨ 313 ≤ q → m_cp3 s i l q = s q := fun q hq => m_cp3_out e6 (by omega) (by omega)
    refine ⟨⟨HO_cg fun k h1 h2 => (o k (by omega)).symm, RI_cg fun k h1 h2 => (o k (by omega)).symm, FS_cg (fun k hk => o k (by omega)) e3⟩, BO_mv e4 hb hi e6, rfl, by omega, by omega, IV_cg (fun k h1 h2 => o k (by omega)) e8, SU_cg (fun k hk => o k (by omega)) e9, ?_, ?_, ?_, ?_, ?_⟩
    · rw [SE_cg (s := m_cp3 s i l) (t := s) (fun k h1 h2 => o k (by omega)), e10]
    · rw [o 0 (by omega), e11]
    · rw [o 313 (by omega), e12]
    · intro h hh
      rw [o (9 * h + 6) (by omega)]
      exact e13 h hh
    · intro j hj
      by_cases d : l < i
      · rw [if_pos d, mv_2 (by omega) (by omega) (by omega)]
        split
        · exact e14 i hi
        · exact e14 j hj
      · rw [if_neg d]; exact e14 j hj
theorem LR_all {s0 : Nat → Int32} {t bc N fc0 : Nat} {fa : Int32} {p : c_T7} {P : m_T4} (hb : bc ≤ 40) (hfc : fc0 + 40 < 2 ^ 20) (H : LR s0 t bc N fc0 0 p P) : ∀ i, i ≤ bc → LR s0 t bc N fc0 i (c_gLL (SE s0) fa t p i) (m_gLL fa P i)
  | 0, _ => H
  | i + 1, hi => LR_step hb hfc (by omega) (LR_all hb hfc H i (by omega))
