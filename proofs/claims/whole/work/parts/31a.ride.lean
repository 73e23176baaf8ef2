/-! ===== a ride, on both sides ===== -/
theorem v_can (s : Nat → Int32) {r : Nat} (hr : r < 12) : c_abil (RI s) r = m_can s r := by
  unfold c_abil m_can mxI
  rw [RI_12 hr, RI_24 hr]
  by_cases h : 0 < s (8 * r + 92) - s (8 * r + 93)
  · rw [if_pos h, if_neg (n_nl h)]
  · rw [if_neg h]
    by_cases h2 : s (8 * r + 92) - s (8 * r + 93) < 0
    · rw [if_pos h2]
    · rw [if_neg h2]
      rw [Int32.lt_iff_toInt_lt] at h h2
      exact Int32.toInt_inj.mp (by omega)
theorem v_rd1 {s : Nat → Int32} {r : Nat} {f : Int32} (hr : r < 12) (hf : nC f < 10) : HO (m_rd1 s r f) = c_ho1 (HO s) (nC f) ∧ RI (m_rd1 s r f) = c_ri2 (RI s) r f := by
  unfold m_rd1 c_ho1 c_ri2 m_inc
  constructor
  · rw [HO_o (by omega), HO_o (by omega), HO_u60 hf, HO_o (by omega), HO_60 hf, pk_un (by omega)]
  · rw [RI_u108 hr, RI_u60 hr, RI_o (by omega), RI_o (by omega), RI_60 hr, pk_un (by omega), pk_un (by omega)]
theorem IV_rd1 {N : Nat} {s : Nat → Int32} {r : Nat} {f : Int32} (H : IV N s) (hr : r < 12) (hf : nC f < 10) : IV N (m_rd1 s r f) := by
  unfold m_rd1 m_inc
  exact IV_f (IV_f (IV_f (IV_f H (by omega)) (by omega)) (by omega)) (by omega)
theorem SU_rd1 {s : Nat → Int32} {r : Nat} {f : Int32} (H : SU s) (hr : r < 12) (hf : nC f < 10) : SU (m_rd1 s r f) := by
  obtain ⟨e1, e2⟩ := v_rd1 (s := s) (r := r) (f := f) hr hf
  unfold SU
  rw [e1, e2]
  unfold c_ho1 c_ri2
  rw [sumF_in 10 (by omega) (by omega), sumF_out (k := 60 + nC f) (by omega), sumF_out (by omega), sumF_out (by omega)]
  unfold m_rd1 m_inc
  rw [pk_un (by omega), pk_un (by omega), pk_un (by omega), pk_us, pk_un (by omega), pk_un (by omega), pk_un (by omega), pk_un (by omega), pk_un (by omega), pk_un (by omega), pk_un (by omega), pk_un (by omega)]
  exact ⟨by rw [H.1], H.2.1, H.2.2⟩
theorem FS_rd1 {s fs : Nat → Int32} {fc r : Nat} {f : Int32} (H : FS fs fc s) (hr : r < 12) (hf : nC f < 10) : FS fs fc (m_rd1 s r f) := FS_cg (fun k hk => by
  unfold m_rd1 m_inc
  rw [pk_un (by omega), pk_un (by omega), pk_un (by omega), pk_un (by omega)]) H
/-- a fall, below the falls' own places -/
def m_fLo (s : Nat → Int32) (r h : Nat) : Nat → Int32 := upd (upd (m_inc (m_inc s (9 * h + 8)) (8 * r + 96)) (8 * r + 93) (s (8 * r + 93) + bI (s (8 * r + 93) < 9))) (8 * r + 94) 0
theorem fLo_a {s s1 : Nat → Int32} {r h : Nat} (hr : r < 12) (hh : h < 10) (e : ∀ q, q ≤ 316 → s1 q = s q) {x y z : Int32} {k : Nat} (hk : k < 314 ∨ k = 315 ∨ k = 316) : (upd (upd (m_inc (m_inc (m_inc (upd (upd (upd s1 318 x) 319 y) 320 z) 314) (9 * h + 8)) (8 * r + 96)) (8 * r + 93) ((m_inc (m_inc (m_inc (upd (upd (upd s1 318 x) 319 y) 320 z) 314) (9 * h + 8)) (8 * r + 96)) (8 * r + 93) + bI ((m_inc (m_inc (m_inc (upd (upd (upd s1 318 x) 319 y) 320 z) 314) (9 * h + 8)) (8 * r + 96)) (8 * r + 93) < 9))) (8 * r + 94) 0) k = m_fLo s r h k := by
  unfold m_fLo m_inc
  by_cases h1 : k = 8 * r + 94
  · subst h1; rw [pk_us, pk_us]
  · rw [pk_un h1, pk_un h1]
    by_cases h2 : k = 8 * r + 93
    · subst h2
      rw [pk_us, pk_us, pk_un (by omega), pk_un (by omega), pk_un (by omega), pk_un (by omega), pk_un (by omega), pk_un (by omega), e _ (by omega)]
    · rw [pk_un h2, pk_un h2]
      by_cases h3 : k = 8 * r + 96
      · subst h3
        rw [pk_us, pk_us, pk_un (by omega), pk_un (by omega), pk_un (by omega), pk_un (by omega), pk_un (by omega), e _ (by omega), pk_un (by omega)]
      · rw [pk_un h3, pk_un h3]
        by_cases h4 : k = 9 * h + 8
        · subst h4
          rw [pk_us, pk_us, pk_un (by omega), pk_un (by omega), pk_un (by omega), pk_un (by omega), e _ (by omega)]
        · rw [pk_un h4, pk_un h4, pk_un (by omega), pk_un (by omega), pk_un (by omega), pk_un (by omega), e _ (by omega)]
theorem fLo {s : Nat → Int32} {r h : Nat} (hr : r < 12) (hh : h < 10) {k : Nat} (hk : k < 314 ∨ k = 315 ∨ k = 316) : m_falls s r h k = m_fLo s r h k := by
  unfold m_falls
  refine fLo_a hr hh (fun q hq => ?_) hk
  have hm : 1 ≤ min (nC (s 317) + 1) 20 := by omega
  rw [show 3 * min (nC (s 317) + 1) 20 - 1 = (3 * min (nC (s 317) + 1) 20 - 3) + 2 by omega, m_shR_out (by omega), pk_un (by omega)]
theorem v_fLo {s : Nat → Int32} {r h : Nat} (hr : r < 12) (hh : h < 10) (hF : okV 10 (s (8 * r + 93))) : HO (m_fLo s r h) = c_fallHo (HO s) h ∧ RI (m_fLo s r h) = c_fallRi (RI s) r := by
  unfold m_fLo m_inc c_fallHo
  constructor
  · rw [HO_o (by omega), HO_o (by omega), HO_o (by omega), HO_u70 hh, HO_70 hh]
  · rw [RI_u48 hr, RI_u24 hr, RI_u72 hr, RI_o (by omega), pk_un (by omega)]
    rw [show c_fallRi (RI s) r = upd (upd (upd (RI s) (24 + r) (mnI 9 (RI s (24 + r) + 1))) (48 + r) 0) (72 + r) ((upd (upd (RI s) (24 + r) (mnI 9 (RI s (24 + r) + 1))) (48 + r) 0) (72 + r) + 1) from rfl]
    rw [pk_un (f := upd (RI s) (24 + r) _) (by omega), pk_un (f := RI s) (by omega), RI_24 hr, RI_72 hr, (n_fearU hF).1, upd_comm (a := 72 + r) (b := 24 + r) (by omega), upd_comm (a := 72 + r) (b := 48 + r) (by omega)]
theorem v_falls {s : Nat → Int32} {r h : Nat} (hr : r < 12) (hh : h < 10) (hF : okV 10 (s (8 * r + 93))) : HO (m_falls s r h) = c_fallHo (HO s) h ∧ RI (m_falls s r h) = c_fallRi (RI s) r := by
  rw [HO_cg (s := m_falls s r h) (t := m_fLo s r h) (fun k _ h2 => fLo hr hh (by omega)), RI_cg (s := m_falls s r h) (t := m_fLo s r h) (fun k _ h2 => fLo hr hh (by omega))]
  exact v_fLo hr hh hF
theorem IV_falls {N : Nat} {s : Nat → Int32} {r h : Nat} (H : IV N s) (hr : r < 12) (hh : h < 10) : IV N (m_falls s r h) := by
  refine IV_cg (s := m_fLo s r h) (fun k _ h2 => fLo hr hh (by omega)) ?_
  unfold m_fLo m_inc
  exact IV_f (IV_fear (IV_f (IV_f H (by omega)) (by omega)) hr (n_fearU (H.2.1 r hr).2).2) (by omega)
theorem SU_falls {s : Nat → Int32} {r h : Nat} (H : SU s) (hr : r < 12) (hh : h < 10) : SU (m_falls s r h) := by
  refine SU_cg (s := m_fLo s r h) (fun k hk => fLo hr hh (by omega)) ?_
  unfold m_fLo m_inc
  exact SU_f (SU_f (SU_f (SU_f H (by omega)) (by omega)) (by omega)) (by omega)
theorem shR_at : ∀ (n : Nat) (f : Nat → Int32) (k : Nat), m_shR n (n + 2) f (318 + k) = if 3 ≤ k ∧ k < n + 3 then f (318 + k - 3) else f (318 + k)
  | 0, f, k => by rw [if_neg (by omega)]; rfl
  | n + 1, f, k => by
    unfold m_shR
    rw [show n + 1 + 2 - 1 = n + 2 by omega, shR_at n _ k]
    by_cases h1 : 3 ≤ k ∧ k < n + 3
    · rw [if_pos h1, if_pos (by omega), pk_un (by omega)]
    · rw [if_neg h1]
      by_cases h2 : k = n + 3
      · subst h2
        rw [if_pos (by omega), pk_us]
      · rw [pk_un (by omega), if_neg (by omega)]
theorem falls_hi {s : Nat → Int32} {r h : Nat} (hr : r < 12) (hh : h < 10) {k : Nat} (hk : 321 ≤ k) : m_falls s r h k = m_shR (3 * (min (nC (s 317) + 1) 20) - 3) (3 * (min (nC (s 317) + 1) 20) - 1) (upd s 317 (s 317 + bI (s 317 < 20))) k := by
  unfold m_falls m_inc
  rw [pk_un (by omega), pk_un (by omega), pk_un (by omega), pk_un (by omega), pk_un (by omega), pk_un (by omega), pk_un (by omega), pk_un (by omega)]
theorem falls_mid {s : Nat → Int32} {r h : Nat} (hr : r < 12) (hh : h < 10) : m_falls s r h 314 = s 314 + 1 ∧ m_falls s r h 317 = s 317 + bI (s 317 < 20) ∧ m_falls s r h 318 = s 0 ∧ m_falls s r h 319 = nI r ∧ m_falls s r h 320 = nI h := by
  have hm : 1 ≤ min (nC (s 317) + 1) 20 := by omega
  have o : ∀ q, q ≤ 320 → m_shR (3 * (min (nC (s 317) + 1) 20) - 3) (3 * (min (nC (s 317) + 1) 20) - 1) (upd s 317 (s 317 + bI (s 317 < 20))) q = upd s 317 (s 317 + bI (s 317 < 20)) q := fun q hq => by
    rw [show 3 * min (nC (s 317) + 1) 20 - 1 = (3 * min (nC (s 317) + 1) 20 - 3) + 2 by omega, m_shR_out hq]
  unfold m_falls m_inc
  refine ⟨?_, ?_, ?_, ?_, ?_⟩
  · rw [pk_un (by omega), pk_un (by omega), pk_un (by omega), pk_un (by omega), pk_us, pk_un (by omega), pk_un (by omega), pk_un (by omega), o 314 (by omega), pk_un (by omega)]
  · rw [pk_un (by omega), pk_un (by omega), pk_un (by omega), pk_un (by omega), pk_un (by omega), pk_un (by omega), pk_un (by omega), pk_un (by omega), o 317 (by omega), pk_us]
  · rw [pk_un (by omega), pk_un (by omega), pk_un (by omega), pk_un (by omega), pk_un (by omega), pk_un (by omega), pk_un (by omega), pk_us, o 0 (by omega), pk_un (by omega)]
  · rw [pk_un (by omega), pk_un (by omega), pk_un (by omega), pk_un (by omega), pk_un (by omega), pk_un (by omega), pk_us]
  · rw [pk_un (by omega), pk_un (by omega), pk_un (by omega), pk_un (by omega), pk_un (by omega), pk_us]
theorem FS_falls {s fs : Nat → Int32} {fc t r h : Nat} (H : FS fs fc s) (hfc : fc < 2 ^ 20) (ht : s 0 = nI t) (hr : r < 12) (hh : h < 10) : FS (c_fallFs fs fc t r h) (fc + 1) (m_falls s r h) := by
  obtain ⟨a1, a2, a3, a4, a5⟩ := falls_mid (s := s) (r := r) (h := h) hr hh
  have hn : nC (s 317) = min fc 20 := by rw [H.2.1, nC_nI (by omega)]
  refine ⟨?_, ?_, fun k hk => ?_⟩
  · rw [a1, H.1, nI_1]
  · rw [a2, m_fmu H.2.1 (by omega)]; congr 1; omega
  · unfold c_fallFs
    by_cases h0 : k = 0
    · subst h0
      rw [Nat.mul_zero, a3, a4, a5, show fc + 1 - 1 - 0 = fc by omega, ht]
      have : fc % 20 < 20 := Nat.mod_lt _ (by omega)
      rw [pk_un (by omega), pk_un (by omega), pk_us, pk_un (by omega), pk_us, pk_us]
      exact ⟨rfl, rfl, rfl⟩
    · have hsh : ∀ w, w < 3 → m_falls s r h (318 + (3 * k + w)) = s (318 + (3 * (k - 1) + w)) := fun w hw => by
        rw [falls_hi hr hh (by omega), show 3 * min (nC (s 317) + 1) 20 - 1 = (3 * min (nC (s 317) + 1) 20 - 3) + 2 by omega, shR_at, if_pos (by omega), pk_un (by omega)]
        congr 1
        omega
      have hp := H.2.2 (k - 1) (by omega)
      rw [show 318 + 3 * k = 318 + (3 * k + 0) by omega, show 319 + 3 * k = 318 + (3 * k + 1) by omega, show 320 + 3 * k = 318 + (3 * k + 2) by omega, hsh 0 (by omega), hsh 1 (by omega), hsh 2 (by omega), show 318 + (3 * (k - 1) + 0) = 318 + 3 * (k - 1) by omega, show 318 + (3 * (k - 1) + 1) = 319 + 3 * (k - 1) by omega, show 318 + (3 * (k - 1) + 2) = 320 + 3 * (k - 1) by omega, hp.1, hp.2.1, hp.2.2, show fc - 1 - (k - 1) = fc + 1 - 1 - k by omega]
      have h1 : (fc + 1 - 1 - k) % 20 < 20 := Nat.mod_lt _ (by omega)
      have h2 : fc % 20 < 20 := Nat.mod_lt _ (by omega)
      have h3 : (fc + 1 - 1 - k) % 20 ≠ fc % 20 := by omega
      rw [pk_un (by omega), pk_un (by omega), pk_un (by omega), pk_un (by omega), pk_un (by omega), pk_un (by omega), pk_un (by omega), pk_un (by omega), pk_un (by omega)]
      exact ⟨rfl, rfl, rfl⟩
