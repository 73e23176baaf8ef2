/-! ===== bookPlan, on both sides ===== -/
theorem rd0_s {ln : Nat} {tx : Nat → Int32} {h g : Int32} {z : m_Z} : (m_rdz 0 ln tx h g z).2.2.2 = z.2.2.2 := rfl
theorem rbR0_s {ln : Nat} {tx : Nat → Int32} {h g : Int32} : ∀ (f : Nat) (z : m_Z), (m_rbR 0 ln tx h g f z).2.2.2 = z.2.2.2
  | 0, _ => rfl
  | f + 1, z => by
    unfold m_rbR
    split
    · rw [rbR0_s f, rd0_s]
    · rfl
theorem rb0_s {ln : Nat} {tx : Nat → Int32} {z : m_Z} : (m_rb 0 ln tx z).2.2.2 = z.2.2.2 := by
  unfold m_rb
  rw [rbR0_s, rd0_s]
theorem rpR0_s {ln : Nat} {tx : Nat → Int32} : ∀ (f : Nat) (z : m_Z), (m_rpR 0 ln tx f z).2.2.2 = z.2.2.2
  | 0, _ => rfl
  | f + 1, z => by
    rw [rpR_s]
    have e := rb0_s (ln := ln) (tx := tx) (z := z)
    generalize m_rb 0 ln tx z = y at e ⊢
    rw [← e]
    unfold m_fin
    split
    · split
      · split
        · rw [rpR0_s f]
        · rfl
      · rfl
    · rfl
theorem rpA_0 {z : m_Z} (h : z.2.1 = 0) : m_rpA z = -5 := if_pos h
theorem rpA_1 {z : m_Z} (h : z.2.1 = 1) : m_rpA z = nI z.1 := if_neg (by rw [h]; decide)
theorem nI_m5 {v : Nat} (hv : v < 2 ^ 31) : ¬ nI v = -5 := fun z => nI_pos hv (by rw [z]; decide)
theorem v_bpF {hs : Nat → c_S} {nx sz kn : Nat} {hi s as_ : Nat → Int32} {now : c_S} {R : Int32 × c_P} {Z0 Z1 : m_Z} (H : HR hs nx sz hi kn) (hR : RR now s) (ht : q_ti now ≤ 9999) (hZ : Z0.2.2.2.2 = s) (hl : Z0.1 ≤ 60) (S0 : SIMR 0 s now R Z0) (S1 : SIMR 1 s now R Z1) (hl1 : Z1.1 ≤ 60) : OK5 (kX_bookPlan now hs nx sz R) ((m_bpF Z0 Z1 as_ hi kn).1, (m_bpF Z0 Z1 as_ hi kn).2.1, (m_bpF Z0 Z1 as_ hi kn).2.2.2.1, (m_bpF Z0 Z1 as_ hi kn).2.2.2.2.1) := by
  unfold kX_bookPlan m_bpF
  rcases S0 with ⟨a1, a2, a3, a4⟩ | ⟨a1, a2⟩
  · rw [if_pos a1, rpA_0 a2, if_pos (rfl : (-5 : Int32) = -5)]
    rcases S1 with ⟨b1, b2, b3, b4⟩ | ⟨b1, b2⟩
    · have b4' : Z1.2.2.2.1 = (ps R.2.2.2.2.2.2 now R.2.1).1 ∧ RR (ps R.2.2.2.2.2.2 now R.2.1).2 Z1.2.2.2.2 := b4
      have hp : k_planQ now R = ps R.2.2.2.2.2.2 now R.2.1 := by
        unfold k_planQ
        have := plan_ps (pe := R.2.2.2.2.2.2) (q0 := now) R.2.1 0 rfl
        rw [Nat.zero_add] at this
        exact this
      rw [hp]
      have hneg : (ps R.2.2.2.2.2.2 now R.2.1).1 = 0 ∨ (ps R.2.2.2.2.2.2 now R.2.1).1 < 0 := by
        have key : ∀ m, (ps R.2.2.2.2.2.2 now m).1 = 0 ∨ (ps R.2.2.2.2.2.2 now m).1 < 0 := fun m => by
          induction m with
          | zero => exact Or.inl rfl
          | succ m ih =>
            unfold ps
            by_cases c : (ps R.2.2.2.2.2.2 now m).1 = 0
            · rw [if_pos c]
              by_cases e : k_err (ps R.2.2.2.2.2.2 now m).2 (nC (R.2.2.2.2.2.2 m)) (nC (R.2.2.2.2.2.2 (60 + m))) (nC (R.2.2.2.2.2.2 (120 + m))) = 0
              · rw [if_pos e]; exact Or.inl rfl
              · rw [if_neg e]
                refine Or.inr ?_
                show k_err _ _ _ _ < 0
                unfold k_err c_bErr at e ⊢
                split
                · split
                  · split
                    · rename_i q1 q2 q3
                      rw [if_pos q1, if_pos q2, if_pos q3] at e
                      exact absurd rfl e
                    · decide
                  · decide
                · decide
            · rw [if_neg c]; exact ih
        exact key _
      by_cases c : (ps R.2.2.2.2.2.2 now R.2.1).1 = 0
      · rw [if_pos c, if_neg (by rw [b4'.1, c]; decide)]
        refine ⟨?_, b4'.2, by rw [show q_ti (k_act now (ps R.2.2.2.2.2.2 now R.2.1).2 hs nx sz (nI R.2.1)).2.1 = q_ti (ps R.2.2.2.2.2.2 now R.2.1).2 from rfl, ps_ti]; exact ht, HR_cg (fun i hi2 => m_recA_e H.2.1 (fun j hj => by rw [cp0 hj, hZ]) i hi2) (HR_act H hR ht)⟩
        show nI R.2.1 = nI Z1.2.2.1
        rw [b3]
      · rw [if_neg c, if_pos (by rw [b4'.1]; exact hneg.elim (fun z => absurd z c) id)]
        refine ⟨b4'.1.symm, RR_cg (fun k hk => ?_) hR, ht, H⟩
        show cpL (cpL Z0.2.2.2.2 as_ 0 0 378) _ 0 0 378 k = s k
        rw [cp0 hk, cp0 hk, hZ]
    · rw [a1] at b1
      exact absurd b1.symm (nI_m5 (by omega))
  · have hne : ¬ R.1 = -5 := by rw [a1]; exact nI_m5 (by omega)
    rw [if_neg hne, rpA_1 a2, if_neg (nI_m5 (by omega)), a1]
    exact ⟨rfl, by rw [show ((-100 - nI Z0.1, Z0.2.2.2.2, as_, hi, kn, Z0.1, Z0.2.1, Z0.2.2.1, Z0.2.2.2.1) : m_RB).2.1 = Z0.2.2.2.2 from rfl, hZ]; exact hR, ht, H⟩
theorem rpR0_e {ln f : Nat} {tx : Nat → Int32} {z : m_Z} : (m_rpR 0 ln tx f z).2.2.2.2 = z.2.2.2.2 := by rw [rpR0_s f]
theorem b0_s {ln : Nat} {tx s : Nat → Int32} : (m_b0 ln tx s).2.2.2.2 = s := by
  unfold m_b0
  rw [rpR0_e]
theorem b0_sim {ln : Nat} {tx s : Nat → Int32} {now : c_S} {ph pr : Int32} {pe : Nat → Int32} (hl : ln ≤ 60) (ht : q_ti now ≤ 9999) : SIMR 0 s now (p_read tx ln ph pr pe) (m_b0 ln tx s) := sim_plan (d := 0) hl (by omega) 61 0 0 ph pr pe 0 s (Nat.zero_le _) (Nat.le_refl _) (by omega) ⟨rfl, rfl⟩
theorem b1_sim {ln : Nat} {tx s : Nat → Int32} {now : c_S} {ph pr : Int32} {pe : Nat → Int32} (hl : ln ≤ 60) (ht : q_ti now ≤ 9999) (hR : RR now s) : SIMR 1 s now (p_read tx ln ph pr pe) (m_b1 ln tx s) := sim_plan (d := 1) hl (by omega) 61 0 0 ph pr pe 0 s (Nat.zero_le _) (Nat.le_refl _) (by omega) ⟨rfl, hR⟩
theorem v_bookPlan {hs : Nat → c_S} {nx sz kn ln : Nat} {hi s as_ tx : Nat → Int32} {now : c_S} {ph pr : Int32} {pe : Nat → Int32} (H : HR hs nx sz hi kn) (hR : RR now s) (ht : q_ti now ≤ 9999) (hl : ln ≤ 60) : OK5 (kX_bookPlan now hs nx sz (p_read tx ln ph pr pe)) ((mX_bookPlan ln tx s as_ hi kn).1, (mX_bookPlan ln tx s as_ hi kn).2.1, (mX_bookPlan ln tx s as_ hi kn).2.2.2.1, (mX_bookPlan ln tx s as_ hi kn).2.2.2.2.1) := by
  have hB : okB (s 192) := (RR_okM hR).2.1
  have l0 := (m_b0_le (ln := ln) (tx := tx) hB).1
  have l1 := (m_b1_le (ln := ln) (tx := tx) hB).1
  have e0 := b0_s (ln := ln) (tx := tx) (s := s)
  have s0 := b0_sim (tx := tx) (s := s) (ph := ph) (pr := pr) (pe := pe) hl ht
  have s1 := b1_sim (tx := tx) (s := s) (ph := ph) (pr := pr) (pe := pe) hl ht hR
  unfold mX_bookPlan
  rw [e0]
  generalize m_b0 ln tx s = Z0 at *
  generalize m_b1 ln tx s = Z1 at *
  exact v_bpF H hR ht e0 (Nat.le_trans l0 hl) s0 s1 (Nat.le_trans l1 hl)
