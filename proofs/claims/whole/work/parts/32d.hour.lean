/-! ===== the relation of the class's Stable to the reference's row ===== -/
def RR (q : c_S) (s : Nat → Int32) : Prop := s 0 = nI (q_ti q) ∧ q_se q = SE s ∧ q_ho q = HO s ∧ q_ri q = RI s ∧ s 192 = nI (q_bc q) ∧ BO (q_bo q) (q_bc q) s ∧ FS (q_fs q) (q_fc q) s ∧ SU s ∧ IV (q_ti q + 1) s ∧ BI (q_bo q) (q_bc q) ∧ q_bc q ≤ 40 ∧ q_fc q ≤ 40 * q_ti q
theorem RR_cg {q : c_S} {s t : Nat → Int32} (h : ∀ k, k < 378 → t k = s k) (H : RR q s) : RR q t := by
  obtain ⟨a1, a2, a3, a4, a5, a6, a7, a8, a9, a10, a11, a12⟩ := H
  refine ⟨(h 0 (by omega)).trans a1, a2.trans (SE_cg fun k _ h2 => (h k (by omega)).symm), a3.trans (HO_cg fun k _ h2 => (h k (by omega)).symm), a4.trans (RI_cg fun k _ h2 => (h k (by omega)).symm), (h 192 (by omega)).trans a5, BO_cg a11 (fun k _ h2 => h k (by omega)) a6, FS_cg (fun k hk => h k (by omega)) a7, SU_cg (fun k hk => h k (by omega)) a8, IV_cg (fun k _ h2 => h k (by omega)) a9, a10, a11, a12⟩
theorem RR_okM {q : c_S} {s : Nat → Int32} (H : RR q s) : okM s := by
  obtain ⟨a1, a2, a3, a4, a5, a6, a7, a8, a9, a10, a11, a12⟩ := H
  refine ⟨fun z => ?_, ?_, ?_, fun j hj => ?_⟩
  · have := a9.2.2.2.2
    rw [z] at this
    exact absurd this (by decide)
  · rw [a5]; exact okB_nI a11
  · rw [a7.2.1]
    unfold okF
    rw [nC_nI (by omega)]
    exact ⟨by omega, rfl⟩
  · rw [a5, nC_nI (by omega)] at hj
    rw [(a6 j hj).2.2]
    exact (a10.1 j hj).2
theorem RR_okS {q : c_S} {s : Nat → Int32} {B : Nat} (H : RR q s) (h : q_ti q ≤ B) : okS B q := by
  obtain ⟨a1, a2, a3, a4, a5, a6, a7, a8, a9, a10, a11, a12⟩ := H
  exact ⟨a11, fun j hj => (a10.1 j hj).2, h, a12⟩
theorem zeL_at (g : Nat → Int32) : ∀ n h, h < n → zeL g n h = 0
  | 0, h, hh => absurd hh (Nat.not_lt_zero h)
  | n + 1, h, hh => by
    unfold zeL
    by_cases e : h = n
    · subst e; rw [pk_us]
    · rw [pk_un e]; exact zeL_at g n h (by omega)
theorem wlL_at (s wl : Nat → Int32) : ∀ n h, h < n → m_wlL s wl n h = s (9 * h + 6)
  | 0, h, hh => absurd hh (Nat.not_lt_zero h)
  | n + 1, h, hh => by
    unfold m_wlL
    by_cases e : h = n
    · subst e; rw [pk_us]
    · rw [pk_un e]; exact wlL_at s wl n h (by omega)
theorem BO_le {bo : Nat → Int32} {n m : Nat} {s : Nat → Int32} (H : BO bo n s) (h : m ≤ n) : BO bo m s := fun j hj => H j (by omega)
theorem okH_lt {f : Int32} (h : okH f) : nC f < 10 := by
  rcases h with h | h
  · rw [h]; decide
  · exact h.1
theorem far_ok {s : Nat → Int32} {t : Nat} (ht : s 0 = nI t) (hb : t < 2 ^ 30) (hs : 0 < s 191) : okH (m_shod s) := by
  rw [← v_far ht hb hs]; exact c_far_ok _ _ _
/-- behind the lessons: the rest, the farrier, the hour itself -/
theorem RR_end {t bc fc : Nat} {se fs bo : Nat → Int32} {s it wl : Nat → Int32} {tk fa : Int32} (ht : s 0 = nI t) (hb : t + 1 < 2 ^ 29) (hse : se = SE s) (h5 : s 192 = nI bc) (h6 : BO bo bc s) (h7 : FS fs fc s) (hU : SU s) (H : IV (t + 1) s) (h10 : BI bo bc) (h11 : bc ≤ 40) (h12 : fc ≤ 40 * t + 40) (hfa : okH fa) (hh : ∀ h, h < 10 → c_in tk h = it h ∧ (it h = 0 ∨ it h = 1) ∧ (it h = 0 → wl h = s (9 * h + 6)) ∧ (it h = 1 → ¬ 0 < wl h)) :
    RR (t + 1, se, c_shoe (c_restL tk t (HO s) 10) fa, RI s, bo, bc, fs, fc) (m_inc (m_rsL s it wl fa 10) 0) ∧ m_inc (m_rsL s it wl fa 10) 0 313 = s 313 := by
  obtain ⟨i1, i2, i3, i4, i5, -⟩ := v_rsL (N := t + 1) (t := t) (s := s) (it := it) (wl := wl) (tk := tk) (fa := fa) (by omega) ht (by omega) H hU hfa hh 10 (Nat.le_refl _)
  rw [if_pos (okH_lt hfa)] at i1
  have o : ∀ k, 187 ≤ k ∧ k < 316 ∨ 316 < k → m_rsL s it wl fa 10 k = s k := fun k hk => m_rsL_out hk 10 (Nat.le_refl _)
  unfold m_inc
  refine ⟨⟨?_, ?_, ?_, ?_, ?_, ?_, ?_, SU_f i4 (by omega), IV_f i3 (by omega), h10, h11, ?_⟩, ?_⟩
  · rw [pk_us, i5]; exact nI_1 t
  · rw [SE_o (by omega)]
    exact hse.trans (SE_cg fun k h1 h2 => (o k (by omega)).symm)
  · rw [HO_o (by omega)]; exact i1.symm
  · rw [RI_o (by omega)]; exact i2.symm
  · rw [pk_un (by omega), o 192 (by omega)]; exact h5
  · exact BO_cg h11 (fun k h1 h2 => by rw [pk_un (by omega), o k (by omega)]) h6
  · exact FS_cg (fun k hk => by rw [pk_un (by omega), o k (by omega)]) h7
  · show fc ≤ 40 * (t + 1)
    omega
  · rw [pk_un (by omega), o 313 (by omega)]
theorem RR_h0 {q : c_S} {s it wl : Nat → Int32} (H : RR q s) (hb : q_ti q < 2 ^ 18) : RR (k_passHour0 q) (m_h0S s it wl) := by
  obtain ⟨ti, se, ho, ri, bo, bc, fs, fc⟩ := q
  obtain ⟨a1, a2, a3, a4, a5, a6, a7, a8, a9, a10, a11, a12⟩ : s 0 = nI ti ∧ se = SE s ∧ ho = HO s ∧ ri = RI s ∧ s 192 = nI bc ∧ BO bo bc s ∧ FS fs fc s ∧ SU s ∧ IV (ti + 1) s ∧ BI bo bc ∧ bc ≤ 40 ∧ fc ≤ 40 * ti := H
  have hb : ti < 2 ^ 18 := hb
  subst a2; subst a3; subst a4
  show RR (ti + 1, SE s, c_shoe (c_restL 0 ti (HO s) 10) (c_far (SE s) (HO s) ti), RI s, bo, bc, fs, fc) (m_inc (m_rsL s (zeL it 10) (m_wlL s wl 10) (m_shod s) 10) 0)
  rw [v_far a1 (by omega) a9.2.2.2.2]
  exact (RR_end a1 (by omega) rfl a5 a6 a7 a8 a9 a10 a11 (by omega) (far_ok a1 (by omega) a9.2.2.2.2) (fun h hh => by
    rw [b_in0 (by omega), zeL_at it 10 h hh]
    exact ⟨rfl, Or.inl rfl, fun _ => wlL_at s wl 10 h hh, fun z => absurd z (by decide)⟩)).1
theorem RR_h1 {q : c_S} {s it wl : Nat → Int32} (H : RR q s) (hb : q_ti q < 2 ^ 14) : RR (k_passHour1 q) (m_h1S s it wl) ∧ m_h1S s it wl 313 = s 313 + (m_h1G s it).2.2.1 := by
  obtain ⟨ti, se, ho, ri, bo, bc, fs, fc⟩ := q
  obtain ⟨a1, a2, a3, a4, a5, a6, a7, a8, a9, a10, a11, a12⟩ : s 0 = nI ti ∧ se = SE s ∧ ho = HO s ∧ ri = RI s ∧ s 192 = nI bc ∧ BO bo bc s ∧ FS fs fc s ∧ SU s ∧ IV (ti + 1) s ∧ BI bo bc ∧ bc ≤ 40 ∧ fc ≤ 40 * ti := H
  have hb : ti < 2 ^ 14 := hb
  subst a2; subst a3; subst a4
  have hf : c_far (SE s) (HO s) ti = m_shod s := v_far a1 (by omega) a9.2.2.2.2
  have hfa := far_ok a1 (show ti < 2 ^ 30 by omega) a9.2.2.2.2
  have e1 : k_passHour1 (ti, SE s, HO s, RI s, bo, bc, fs, fc) = (ti + 1, SE s, c_shoe (c_restL (c_gLL (SE s) (m_shod s) ti (HO s, RI s, fs, fc, bo, 0, 0) bc).2.2.2.2.2.1 ti (c_gLL (SE s) (m_shod s) ti (HO s, RI s, fs, fc, bo, 0, 0) bc).1 10) (m_shod s), (c_gLL (SE s) (m_shod s) ti (HO s, RI s, fs, fc, bo, 0, 0) bc).2.1, (c_gLL (SE s) (m_shod s) ti (HO s, RI s, fs, fc, bo, 0, 0) bc).2.2.2.2.1, (c_gLL (SE s) (m_shod s) ti (HO s, RI s, fs, fc, bo, 0, 0) bc).2.2.2.2.2.2, (c_gLL (SE s) (m_shod s) ti (HO s, RI s, fs, fc, bo, 0, 0) bc).2.2.1, (c_gLL (SE s) (m_shod s) ti (HO s, RI s, fs, fc, bo, 0, 0) bc).2.2.2.1) := by
    rw [← hf]
    rfl
  have e2 : m_h1G s it = m_gLL (m_shod s) (s, zeL it 10, 0, 0) bc := by
    unfold m_h1G m_gN
    rw [a5, nC_nI (by omega)]
  have L := LR_all (fa := m_shod s) a11 (show fc + 40 < 2 ^ 20 by omega) (show LR s ti bc (ti + 1) fc 0 (HO s, RI s, fs, fc, bo, 0, 0) (s, zeL it 10, 0, 0) from ⟨⟨rfl, rfl, a7⟩, a6, rfl, Nat.le_refl _, Nat.le_refl _, a9, a8, rfl, a1, (Int32.add_zero _).symm, fun h hh => by
    show c_in 0 h = zeL it 10 h ∧ (zeL it 10 h = 0 ∨ zeL it 10 h = 1) ∧ (zeL it 10 h = 0 → s (9 * h + 6) = s (9 * h + 6)) ∧ (zeL it 10 h = 1 → ¬ 0 < s (9 * h + 6))
    rw [b_in0 (by omega), zeL_at it 10 h hh]
    exact ⟨rfl, Or.inl rfl, fun _ => rfl, fun z => absurd z (by decide)⟩, fun j hj => (a10.1 j hj).2⟩) bc (Nat.le_refl _)
  have K := bk_of (SE s) (HO s) (RI s) fs bo (m_shod s) 0 fc ti bc
  rw [e1]
  unfold m_h1S
  rw [e2]
  generalize c_gLL (SE s) (m_shod s) ti (HO s, RI s, fs, fc, bo, 0, 0) bc = p at L K ⊢
  generalize m_gLL (m_shod s) (s, zeL it 10, 0, 0) bc = P at L ⊢
  obtain ⟨ho2, ri2, fs2, fc2, bo2, tk, l⟩ := p
  obtain ⟨s2, it2, cn, l2⟩ := P
  unfold LR at L
  dsimp only at L K ⊢
  obtain ⟨⟨e3, e4, e5⟩, e6, e7, e8, e9, e10, e11, e12, e13, e14, e15, -⟩ := L
  subst e3; subst e4; subst e7
  have B := BI_bk (x := nI (ti + 0)) a11 a10
  rw [← K.1, ← K.2] at B
  have r := RR_end (t := ti) (bc := l) (fc := fc2) (se := SE s) (fs := fs2) (bo := bo2) (s := upd s2 192 (nI l)) (it := it2) (wl := m_wlL s wl 10) (tk := tk) (fa := m_shod s) (by rw [pk_un (by omega)]; exact e13) (by omega) (by rw [SE_o (by omega), e12]) pk_us (BO_cg (by omega) (fun k h1 h2 => pk_un (by omega)) (BO_le e6 B.2)) (FS_cg (fun k hk => pk_un (by omega)) e5) (SU_f e11 (by omega)) (IV_f e10 (by omega)) B.1 (by omega) (by omega) hfa (fun h hh => by
    obtain ⟨g1, g2, g3, g4⟩ := e15 h hh
    rw [wlL_at s wl 10 h hh, pk_un (by omega)]
    exact ⟨g1, g2, fun z => (g3 z).symm, g4⟩)
  rw [HO_o (by omega), RI_o (by omega)] at r
  refine ⟨r.1, ?_⟩
  rw [r.2, pk_un (by omega), e14]
theorem ti_h1 (q : c_S) : q_ti (k_passHour1 q) = q_ti q + 1 := rfl
theorem ti_h0 (q : c_S) : q_ti (k_passHour0 q) = q_ti q + 1 := rfl
/-- hours one after another -/
theorem RR_pL {q : c_S} {s it wl : Nat → Int32} (H : RR q s) (hb : q_ti q + 200 < 2 ^ 14) : ∀ n, n ≤ 99 → RR (k_pL q n) (m_pL (s, it, wl, 0) n).1 ∧ q_ti (k_pL q n) = q_ti q + n ∧ (m_pL (s, it, wl, 0) n).1 313 = s 313 + (m_pL (s, it, wl, 0) n).2.2.2
  | 0, _ => ⟨H, rfl, (Int32.add_zero _).symm⟩
  | n + 1, hn => by
    obtain ⟨h1, h2, h3⟩ := RR_pL (it := it) (wl := wl) H hb n (by omega)
    unfold k_pL m_pL m_pS
    have r := RR_h1 (it := (m_pL (s, it, wl, 0) n).2.1) (wl := (m_pL (s, it, wl, 0) n).2.2.1) h1 (by omega)
    refine ⟨r.1, ?_, ?_⟩
    · rw [ti_h1, h2]; omega
    · show m_h1S _ _ _ 313 = _
      rw [r.2, h3, Int32.add_assoc]
