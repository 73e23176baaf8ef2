theorem m_learns_e (s : Nat → Int32) (r : Nat) : m_learns s r = upd (m_inc (upd s (8 * r + 93) (s (8 * r + 93) - bI (0 < s (8 * r + 93)))) (8 * r + 94)) (8 * r + 92) ((m_inc (upd s (8 * r + 93) (s (8 * r + 93) - bI (0 < s (8 * r + 93)))) (8 * r + 94)) (8 * r + 92) + bI ((iR ((m_inc (upd s (8 * r + 93) (s (8 * r + 93) - bI (0 < s (8 * r + 93)))) (8 * r + 94)) (8 * r + 94)) 3 = 0) ∧ ((m_inc (upd s (8 * r + 93) (s (8 * r + 93) - bI (0 < s (8 * r + 93)))) (8 * r + 94)) (8 * r + 92) < 9))) := rfl
def m_lea1 (s : Nat → Int32) (r : Nat) : Nat → Int32 := m_inc (upd s (8 * r + 93) (s (8 * r + 93) - bI (0 < s (8 * r + 93)))) (8 * r + 94)
theorem m_learns_f (s : Nat → Int32) (r : Nat) : m_learns s r = upd (m_lea1 s r) (8 * r + 92) (m_lea1 s r (8 * r + 92) + bI ((iR (m_lea1 s r (8 * r + 94)) 3 = 0) ∧ (m_lea1 s r (8 * r + 92) < 9))) := rfl
theorem v_lea1 {s : Nat → Int32} {r : Nat} (hr : r < 12) (hF : okV 10 (s (8 * r + 93))) : HO (m_lea1 s r) = HO s ∧ RI (m_lea1 s r) = c_lea1 (RI s) r ∧ m_lea1 s r (8 * r + 92) = s (8 * r + 92) := by
  unfold m_lea1 m_inc
  refine ⟨?_, ?_, ?_⟩
  · rw [HO_o (by omega), HO_o (by omega)]
  · rw [RI_u48 hr, RI_u24 hr, pk_un (by omega)]
    rw [show c_lea1 (RI s) r = upd (upd (RI s) (24 + r) (mxI 0 (RI s (24 + r) - 1))) (48 + r) ((upd (RI s) (24 + r) (mxI 0 (RI s (24 + r) - 1))) (48 + r) + 1) from rfl]
    rw [pk_un (f := RI s) (by omega), RI_24 hr, RI_48 hr, (n_fearD hF).1]
  · rw [pk_un (by omega), pk_un (by omega)]
theorem v_learns {s : Nat → Int32} {r : Nat} (hr : r < 12) (hK : okV 10 (s (8 * r + 92))) (hF : okV 10 (s (8 * r + 93))) : HO (m_learns s r) = HO s ∧ RI (m_learns s r) = c_learn (RI s) r := by
  obtain ⟨e1, e2, e3⟩ := v_lea1 (s := s) hr hF
  rw [m_learns_f, HO_o (by omega), RI_u12 hr, e1, e2]
  refine ⟨rfl, ?_⟩
  unfold c_learn
  rw [← e2, RI_48 hr, RI_12 hr, e3]
  by_cases h : iR (m_lea1 s r (8 * r + 94)) 3 = 0
  · rw [if_pos h, (n_fearU hK).1, bI_iff (show (iR (m_lea1 s r (8 * r + 94)) 3 = 0 ∧ s (8 * r + 92) < 9) ↔ s (8 * r + 92) < 9 from ⟨fun h1 => h1.2, fun h1 => ⟨h, h1⟩⟩)]
  · rw [if_neg h, bI_f (fun h1 => h h1.1), Int32.add_zero, upd_self (by rw [RI_12 hr, e3])]
theorem IV_learns {N : Nat} {s : Nat → Int32} {r : Nat} (H : IV N s) (hr : r < 12) : IV N (m_learns s r) := by
  have hF := (H.2.1 r hr).2
  have hK := (H.2.1 r hr).1
  have e3 := (v_lea1 (s := s) hr hF).2.2
  rw [m_learns_f, e3]
  refine IV_skill ?_ hr ?_
  · unfold m_lea1 m_inc
    exact IV_f (IV_fear H hr (n_fearD hF).2) (by omega)
  · by_cases h : iR (m_lea1 s r (8 * r + 94)) 3 = 0
    · rw [bI_iff (show (iR (m_lea1 s r (8 * r + 94)) 3 = 0 ∧ s (8 * r + 92) < 9) ↔ s (8 * r + 92) < 9 from ⟨fun h1 => h1.2, fun h1 => ⟨h, h1⟩⟩)]
      exact (n_fearU hK).2
    · rw [bI_f (fun h1 => h h1.1), Int32.add_zero]; exact hK
theorem SU_learns {s : Nat → Int32} {r : Nat} (H : SU s) (hr : r < 12) : SU (m_learns s r) := by
  rw [m_learns_f]
  refine SU_f ?_ (by omega)
  unfold m_lea1 m_inc
  exact SU_f (SU_f H (by omega)) (by omega)
theorem learns_out {s : Nat → Int32} {r k : Nat} (hk : k ≠ 8 * r + 92 ∧ k ≠ 8 * r + 93 ∧ k ≠ 8 * r + 94) : m_learns s r k = s k := by
  rw [m_learns_f]
  unfold m_lea1 m_inc
  rw [pk_un (by omega), pk_un (by omega), pk_un (by omega)]
def m_strIf (s : Nat → Int32) (r h : Nat) : Nat → Int32 := if s (9 * h + 1) < s (8 * r + 91) + s 189 then m_strains s h else s
theorem v_strains {s : Nat → Int32} {r h : Nat} (hr : r < 12) (hh : h < 10) (hS : okV 3 (s (9 * h + 5))) : HO (m_strIf s r h) = c_strain (SE s) (HO s) h (RI s r) ∧ RI (m_strIf s r h) = RI s := by
  unfold m_strIf c_strain
  rw [HO_0 hh, RI_0 hr, SE_at (by omega)]
  by_cases c : s (9 * h + 1) < s (8 * r + 91) + s 189
  · rw [if_pos c, if_pos c]
    have e1 : HO (m_inc s (9 * h + 5)) = c_str1 (HO s) h := by
      unfold m_inc c_str1
      rw [HO_u40 hh, HO_40 hh]
    have e2 : m_inc s (9 * h + 5) (9 * h + 5) = s (9 * h + 5) + 1 := pk_us
    have e3 : c_str1 (HO s) h (40 + h) = s (9 * h + 5) + 1 := by rw [← e1, HO_40 hh, e2]
    unfold m_strains
    rw [e2, e3]
    rcases n_str hS with ⟨a, b, -⟩ | ⟨a, b⟩
    · rw [if_neg b, if_pos a, e1]
      refine ⟨rfl, ?_⟩
      unfold m_inc
      rw [RI_o (by omega)]
    · rw [if_pos b, if_neg a, HO_u50 hh, HO_u40 hh, e1, upd_comm (a := 40 + h) (b := 50 + h) (by omega), pk_un (by omega), SE_at (by omega)]
      unfold m_inc
      rw [pk_un (by omega), RI_o (by omega), RI_o (by omega), RI_o (by omega)]
      exact ⟨rfl, rfl⟩
  · rw [if_neg c, if_neg c]
    exact ⟨rfl, rfl⟩
theorem strIf_out {s : Nat → Int32} {r h k : Nat} (hk : k ≠ 9 * h + 5 ∧ k ≠ 9 * h + 6) : m_strIf s r h k = s k := by
  unfold m_strIf m_strains m_inc
  split
  · split
    · rw [pk_un (by omega), pk_un (by omega), pk_un (by omega)]
    · rw [pk_un (by omega)]
  · rfl
theorem IV_strains {N : Nat} {s : Nat → Int32} {r h : Nat} (H : IV N s) (hh : h < 10) : IV N (m_strIf s r h) := by
  unfold m_strIf
  split
  · have e2 : m_inc s (9 * h + 5) (9 * h + 5) = s (9 * h + 5) + 1 := pk_us
    unfold m_strains
    rw [e2]
    rcases n_str (H.1 h hh).2.1 with ⟨a, b, c⟩ | ⟨a, b⟩
    · rw [if_neg b]
      exact IV_str H hh c
    · rw [if_pos b]
      unfold m_inc
      rw [upd_two, pk_un (by omega)]
      exact IV_lame (IV_str H hh (okV_nI (n := 0) (by omega) (by omega))) hh H.2.2.1
  · exact H
theorem SU_strains {s : Nat → Int32} {r h : Nat} (H : SU s) (hh : h < 10) : SU (m_strIf s r h) := by
  unfold m_strIf m_strains m_inc
  split
  · split
    · exact SU_f (SU_f (SU_f H (by omega)) (by omega)) (by omega)
    · exact SU_f H (by omega)
  · exact H
/-- a lesson's ride of rider r on f, with all that stays true -/
theorem v_ride {N : Nat} {s fs : Nat → Int32} {fc t r : Nat} {f : Int32} (H : IV N s) (hU : SU s) (hF : FS fs fc s) (hfc : fc < 2 ^ 20) (ht : s 0 = nI t) (hr : r < 12) (hf : okH f) :
    ((c_give (SE s) (HO s) (RI s) fs fc t r f).1 = HO (m_rideS s r f) ∧ (c_give (SE s) (HO s) (RI s) fs fc t r f).2.1 = RI (m_rideS s r f) ∧ FS (c_give (SE s) (HO s) (RI s) fs fc t r f).2.2.1 (c_give (SE s) (HO s) (RI s) fs fc t r f).2.2.2 (m_rideS s r f)) ∧ (c_give (SE s) (HO s) (RI s) fs fc t r f).2.2.2 ≤ fc + 1 ∧ IV N (m_rideS s r f) ∧ SU (m_rideS s r f) ∧ m_rideS s r f 313 = s 313 + bI (¬ f = -5) ∧ (∀ h, h < 10 → (f = -5 ∨ h ≠ nC f) → m_rideS s r f (9 * h + 6) = s (9 * h + 6)) := by
  unfold c_give
  by_cases e : f = -5
  · rw [if_pos e]
    unfold m_rideS
    rw [if_pos e, bI_f (fun h => h e), Int32.add_zero]
    unfold m_inc
    refine ⟨⟨?_, ?_, ?_⟩, Nat.le_succ _, ?_, ?_, ?_, ?_⟩
    · rw [HO_o (by omega), HO_o (by omega)]
    · rw [RI_u84 hr, RI_o (by omega), RI_84 hr, pk_un (by omega)]
    · exact FS_cg (fun k hk => by rw [pk_un (by omega), pk_un (by omega)]) hF
    · exact IV_f (IV_f H (by omega)) (by omega)
    · unfold SU
      rw [HO_o (by omega), HO_o (by omega), RI_u84 hr, RI_o (by omega)]
      refine ⟨?_, ?_, ?_⟩
      · rw [pk_un (by omega), pk_un (by omega)]; exact hU.1
      · rw [pk_un (f := s) (j := 8 * r + 97) (by omega), pk_un (by omega), pk_us, ← RI_84 (s := s) hr, sumF_in 12 (by omega) (by omega), hU.2.1]
      · rw [pk_un (by omega), pk_un (by omega)]; exact hU.2.2
    · rw [pk_un (by omega), pk_un (by omega)]
    · intro h hh _
      rw [pk_un (by omega), pk_un (by omega)]
  · rw [if_neg e]
    have hfn : nC f < 10 := hf.elim (fun h => absurd h e) (fun h => h.1)
    have eS : m_rideS s r f = m_strIf (m_rd2 s r f) r (nC f) := by
      unfold m_rideS m_strIf
      rw [if_neg e]
    obtain ⟨a1, a2⟩ := v_rd1 (s := s) (f := f) hr hfn
    have b1 := IV_rd1 (f := f) H hr hfn
    have b2 := SU_rd1 (f := f) hU hr hfn
    have b3 := FS_rd1 (f := f) hF hr hfn
    have b4 : m_rd1 s r f 0 = nI t := by rw [m_rd1_out hr hfn (by omega), ht]
    have b5 : SE (m_rd1 s r f) = SE s := SE_cg fun k h1 h2 => m_rd1_out hr hfn (by omega)
    have b6 : m_rd1 s r f 313 = s 313 + 1 := by
      unfold m_rd1 m_inc
      rw [pk_un (by omega), pk_un (by omega), pk_un (by omega), pk_us]
    have b7 : ∀ h, h < 10 → m_rd1 s r f (9 * h + 6) = s (9 * h + 6) := fun h hh => by
      unfold m_rd1 m_inc
      rw [pk_un (by omega), pk_un (by omega), pk_un (by omega), pk_un (by omega)]
    unfold c_ride
    rw [← a1, ← a2, v_can _ hr, HO_10 hfn, ← b5, bI_t e, eS]
    by_cases c : m_can (m_rd1 s r f) r < m_rd1 s r f (9 * nC f + 2)
    · have e2 : m_rd2 s r f = m_falls (m_rd1 s r f) r (nC f) := if_pos c
      rw [if_pos c, e2]
      obtain ⟨d1, d2⟩ := v_falls (s := m_rd1 s r f) (h := nC f) hr hfn (b1.2.1 r hr).2
      have d3 := IV_falls b1 hr hfn
      have d4 := SU_falls b2 hr hfn
      have d5 := FS_falls b3 hfc b4 hr hfn
      have d6 : SE (m_falls (m_rd1 s r f) r (nC f)) = SE (m_rd1 s r f) := SE_cg fun k h1 h2 => m_falls_out hr hfn (by omega)
      obtain ⟨g1, g2⟩ := v_strains (s := m_falls (m_rd1 s r f) r (nC f)) (r := r) (h := nC f) hr hfn (d3.1 _ hfn).2.1
      refine ⟨⟨?_, ?_, ?_⟩, Nat.le_refl _, IV_strains d3 hfn, SU_strains d4 hfn, ?_, ?_⟩
      · rw [g1, d1, d2, d6]
      · rw [g2, d2]
      · exact FS_cg (fun k hk => strIf_out (by omega)) d5
      · rw [strIf_out (by omega), fLo hr hfn (by omega)]
        unfold m_fLo m_inc
        rw [pk_un (by omega), pk_un (by omega), pk_un (by omega), pk_un (by omega), b6]
      · intro h hh hn
        have hn2 : h ≠ nC f := hn.elim (fun h1 => absurd h1 e) id
        rw [strIf_out (by omega), fLo hr hfn (by omega)]
        unfold m_fLo m_inc
        rw [pk_un (by omega), pk_un (by omega), pk_un (by omega), pk_un (by omega), b7 h hh]
    · have e2 : m_rd2 s r f = m_learns (m_rd1 s r f) r := if_neg c
      rw [if_neg c, e2]
      obtain ⟨d1, d2⟩ := v_learns (s := m_rd1 s r f) hr (b1.2.1 r hr).1 (b1.2.1 r hr).2
      have d3 := IV_learns b1 hr
      have d4 := SU_learns b2 hr
      have d6 : SE (m_learns (m_rd1 s r f) r) = SE (m_rd1 s r f) := SE_cg fun k h1 h2 => learns_out (by omega)
      obtain ⟨g1, g2⟩ := v_strains (s := m_learns (m_rd1 s r f) r) (r := r) (h := nC f) hr hfn (d3.1 _ hfn).2.1
      refine ⟨⟨?_, ?_, ?_⟩, Nat.le_succ _, IV_strains d3 hfn, SU_strains d4 hfn, ?_, ?_⟩
      · rw [g1, d1, d2, d6]
      · rw [g2, d2]
      · exact FS_cg (fun k hk => (strIf_out (by omega)).trans (learns_out (by omega))) b3
      · rw [strIf_out (by omega), learns_out (by omega), b6]
      · intro h hh hn
        have hn2 : h ≠ nC f := hn.elim (fun h1 => absurd h1 e) id
        rw [strIf_out (by omega), learns_out (by omega), b7 h hh]
