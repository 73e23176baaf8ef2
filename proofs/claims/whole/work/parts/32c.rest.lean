/-! ===== the hour's rest, on both sides ===== -/
theorem m_rs1_e (s it wl : Nat → Int32) (h : Nat) : m_rs1 s it wl h = upd (upd (upd s (9 * h + 3) (if s (9 * h + 3) - m_less s it h < 0 then 0 else s (9 * h + 3) - m_less s it h)) (9 * h + 4) (s (9 * h + 4) + bI (it h = 1))) (9 * h + 6) (s (9 * h + 6) - bI (0 < wl h)) := by
  rw [show m_rs1 s it wl h = upd (upd (upd s (9 * h + 3) (if s (9 * h + 3) - m_less s it h < 0 then 0 else s (9 * h + 3) - m_less s it h)) (9 * h + 4) ((upd s (9 * h + 3) (if s (9 * h + 3) - m_less s it h < 0 then 0 else s (9 * h + 3) - m_less s it h)) (9 * h + 4) + bI (it h = 1))) (9 * h + 6) ((upd (upd s (9 * h + 3) (if s (9 * h + 3) - m_less s it h < 0 then 0 else s (9 * h + 3) - m_less s it h)) (9 * h + 4) ((upd s (9 * h + 3) (if s (9 * h + 3) - m_less s it h < 0 then 0 else s (9 * h + 3) - m_less s it h)) (9 * h + 4) + bI (it h = 1))) (9 * h + 6) - bI (0 < wl h)) from rfl]
  rw [pk_un (f := s) (j := 9 * h + 4) (by omega), pk_un (f := upd s (9 * h + 3) _) (by omega), pk_un (f := s) (j := 9 * h + 6) (by omega)]
theorem n_night {s : Nat → Int32} {t : Nat} (ht : s 0 = nI t) (hb : t < 2 ^ 30) : iR (s 0) 10 = 9 ↔ t % 10 = 9 := by
  rw [ht]
  show nI t - nI t / nI 10 * nI 10 = nI 9 ↔ _
  rw [pk_rem (by omega) (by omega) (by omega), nI_eq (by omega) (by omega)]
/-- one horse's rest without the farrier -/
theorem v_rs1 {N t n : Nat} {s it wl : Nat → Int32} {tk : Int32} (hN : N < 2 ^ 29) (hn : n < 10) (ht : s 0 = nI t) (hb : t < 2 ^ 30) (hT : okV N (s (9 * n + 3))) (hL : okV 100 (s (9 * n + 6))) (hk : c_in tk n = it n) (h01 : it n = 0 ∨ it n = 1) (w0 : it n = 0 → wl n = s (9 * n + 6)) (w1 : it n = 1 → ¬ 0 < wl n) :
    HO (m_rs1 s it wl n) = c_r2 t n (c_r1 tk n (HO s)) ∧ okV (N + 1) (m_rs1 s it wl n (9 * n + 3)) ∧ okV 100 (m_rs1 s it wl n (9 * n + 6)) := by
  obtain ⟨⟨a1, a2⟩, ⟨b1, b2⟩, ⟨c1, c2⟩, ⟨d1, d2⟩⟩ := n_tr hN hT
  have hq : HO (m_rs1 s it wl n) = upd (upd (upd (HO s) (20 + n) (if s (9 * n + 3) - m_less s it n < 0 then 0 else s (9 * n + 3) - m_less s it n)) (30 + n) (s (9 * n + 4) + bI (it n = 1))) (50 + n) (s (9 * n + 6) - bI (0 < wl n)) := by
    rw [m_rs1_e, HO_u50 hn, HO_u30 hn, HO_u20 hn]
  have hr3 : m_rs1 s it wl n (9 * n + 3) = (if s (9 * n + 3) - m_less s it n < 0 then 0 else s (9 * n + 3) - m_less s it n) := by
    rw [m_rs1_e, pk_un (by omega), pk_un (by omega), pk_us]
  have hr6 : m_rs1 s it wl n (9 * n + 6) = s (9 * n + 6) - bI (0 < wl n) := by
    rw [m_rs1_e, pk_us]
  rw [hq, hr3, hr6]
  clear hq hr3 hr6
  unfold c_r1 c_r2
  rw [hk]
  rcases h01 with e | e
  · have e1 : ¬ it n = 1 := by rw [e]; decide
    rw [if_neg e1, bI_f e1, Int32.add_zero, w0 e]
    unfold c_rN
    have hl : m_less s it n = 1 + nI (if t % 10 = 9 then 8 else 0) := by
      unfold m_less
      rw [if_neg e1]
      by_cases g : t % 10 = 9
      · rw [if_pos ((n_night ht hb).mpr g), if_pos g]
      · rw [if_neg (fun z => g ((n_night ht hb).mp z)), if_neg g]
    rw [hl, upd_comm (a := 20 + n) (b := 30 + n) (by omega), upd_self (show s (9 * n + 4) = HO s (30 + n) from (HO_30 hn).symm), pk_un (f := HO s) (j := 50 + n) (by omega), HO_20 hn, HO_50 hn, (n_lame hL).1]
    by_cases g : t % 10 = 9
    · rw [if_pos g, if_pos g, d1, pk_un (by omega), pk_us, upd_comm (a := 50 + n) (b := 20 + n) (by omega), upd_two]
      exact ⟨rfl, d2, (n_lame hL).2⟩
    · rw [if_neg g, if_neg g, c1]
      exact ⟨rfl, c2, (n_lame hL).2⟩
  · rw [if_pos e, bI_t e, bI_f (w1 e), Int32.sub_zero]
    unfold c_rT
    have hl : m_less s it n = -1 + nI (if t % 10 = 9 then 8 else 0) := by
      unfold m_less
      rw [if_pos e]
      by_cases g : t % 10 = 9
      · rw [if_pos ((n_night ht hb).mpr g), if_pos g]
      · rw [if_neg (fun z => g ((n_night ht hb).mp z)), if_neg g]
    rw [hl, upd_self (k := 50 + n) (show s (9 * n + 6) = _ by rw [pk_un (by omega), pk_un (by omega), HO_50 hn]), pk_un (f := HO s) (j := 30 + n) (by omega), HO_20 hn, HO_30 hn]
    by_cases g : t % 10 = 9
    · rw [if_pos g, if_pos g, b1, pk_un (by omega), pk_us, upd_comm (a := 30 + n) (b := 20 + n) (by omega), upd_two]
      exact ⟨rfl, b2, hL⟩
    · rw [if_neg g, if_neg g, a1]
      exact ⟨rfl, a2, hL⟩
theorem r1_at {tk : Int32} {n k : Nat} {g : Nat → Int32} (hk : k ≠ 20 + n ∧ k ≠ 30 + n ∧ k ≠ 50 + n) : c_r1 tk n g k = g k := by
  unfold c_r1 c_rT c_rN
  split
  · rw [pk_un (by omega), pk_un (by omega)]
  · rw [pk_un (by omega), pk_un (by omega)]
theorem r2_at {t n k : Nat} {g : Nat → Int32} (hk : k ≠ 20 + n) : c_r2 t n g k = g k := by
  unfold c_r2
  split
  · rw [pk_un hk]
  · rfl
theorem r1_u {tk : Int32} {n k : Nat} {g : Nat → Int32} {v : Int32} (hk : k ≠ 20 + n ∧ k ≠ 30 + n ∧ k ≠ 50 + n) : c_r1 tk n (upd g k v) = upd (c_r1 tk n g) k v := by
  unfold c_r1
  by_cases c : c_in tk n = 1
  · rw [if_pos c, if_pos c]
    unfold c_rT
    rw [pk_un (f := g) (j := 20 + n) (by omega), upd_comm (f := g) (a := k) (b := 20 + n) (by omega), pk_un (j := 30 + n) (k := k) (by omega), upd_comm (a := k) (b := 30 + n) (by omega)]
  · rw [if_neg c, if_neg c]
    unfold c_rN
    rw [pk_un (f := g) (j := 20 + n) (by omega), upd_comm (f := g) (a := k) (b := 20 + n) (by omega), pk_un (j := 50 + n) (k := k) (by omega), upd_comm (a := k) (b := 50 + n) (by omega)]
theorem r2_u {t n k : Nat} {g : Nat → Int32} {v : Int32} (hk : k ≠ 20 + n) : c_r2 t n (upd g k v) = upd (c_r2 t n g) k v := by
  unfold c_r2
  split
  · rw [pk_un (by omega), upd_comm (by omega)]
  · rfl
theorem shoe_e (g : Nat → Int32) {f : Int32} (hf : ¬ f = -5) : c_shoe g f = upd (upd g (30 + nC f) 0) (80 + nC f) (g (80 + nC f) + 1) := by
  unfold c_shoe
  rw [if_neg hf, pk_un (f := g) (by omega)]
theorem shoe_r {tk : Int32} {t n : Nat} {g : Nat → Int32} {f : Int32} (hn : nC f ≠ n) (hf : ¬ f = -5) (hl : nC f < 10) (hn2 : n < 10) : c_r2 t n (c_r1 tk n (c_shoe g f)) = c_shoe (c_r2 t n (c_r1 tk n g)) f := by
  rw [shoe_e g hf, shoe_e _ hf, r1_u (by omega), r1_u (by omega), r2_u (by omega), r2_u (by omega), r2_at (by omega), r1_at (by omega)]
theorem SU_far {s : Nat → Int32} {n : Nat} (H : SU s) (hn : n < 10) : SU (upd (upd s (9 * n + 9) (s (9 * n + 9) + 1)) 316 ((upd s (9 * n + 9) (s (9 * n + 9) + 1)) 316 + 1)) := by
  have w1 : HO (upd (upd s (9 * n + 9) (s (9 * n + 9) + 1)) 316 ((upd s (9 * n + 9) (s (9 * n + 9) + 1)) 316 + 1)) = upd (HO s) (80 + n) (HO s (80 + n) + 1) := by
    rw [HO_o (by omega), HO_u80 hn, HO_80 hn]
  have w2 : RI (upd (upd s (9 * n + 9) (s (9 * n + 9) + 1)) 316 ((upd s (9 * n + 9) (s (9 * n + 9) + 1)) 316 + 1)) = RI s := by
    rw [RI_o (by omega), RI_o (by omega)]
  unfold SU
  rw [w1, w2, sumF_in (b := 80) 10 (by omega) (by omega), sumF_out (b := 60) (by omega)]
  refine ⟨?_, ?_, ?_⟩
  · rw [pk_un (by omega), pk_un (by omega)]; exact H.1
  · rw [pk_un (by omega), pk_un (by omega)]; exact H.2.1
  · rw [pk_us, pk_un (by omega), H.2.2]
/-- the rest of the first n horses, with the farrier among them -/
theorem v_rsL {N t : Nat} {s it wl : Nat → Int32} {tk fa : Int32} (hN : N < 2 ^ 29) (ht : s 0 = nI t) (hb : t < 2 ^ 30) (H : IV N s) (hU : SU s) (hfa : okH fa) (hh : ∀ h, h < 10 → c_in tk h = it h ∧ (it h = 0 ∨ it h = 1) ∧ (it h = 0 → wl h = s (9 * h + 6)) ∧ (it h = 1 → ¬ 0 < wl h)) :
    ∀ n, n ≤ 10 → HO (m_rsL s it wl fa n) = (if nC fa < n then c_shoe (c_restL tk t (HO s) n) fa else c_restL tk t (HO s) n) ∧ RI (m_rsL s it wl fa n) = RI s ∧ IV (N + 1) (m_rsL s it wl fa n) ∧ SU (m_rsL s it wl fa n) ∧ m_rsL s it wl fa n 0 = nI t ∧ ∀ h, n ≤ h → h < 10 → m_rsL s it wl fa n (9 * h + 3) = s (9 * h + 3) ∧ m_rsL s it wl fa n (9 * h + 6) = s (9 * h + 6)
  | 0, _ => ⟨by rw [if_neg (Nat.not_lt_zero _)]; rfl, rfl, IV_mono (Nat.le_succ N) H, hU, ht, fun _ _ _ => ⟨rfl, rfl⟩⟩
  | n + 1, hn => by
    have hn1 : n < 10 := by omega
    obtain ⟨i1, i2, i3, i4, i5, i6⟩ := v_rsL hN ht hb H hU hfa hh n (by omega)
    unfold m_rsL c_restL
    generalize m_rsL s it wl fa n = S at i1 i2 i3 i4 i5 i6 ⊢
    generalize c_restL tk t (HO s) n = G at i1 ⊢
    obtain ⟨g1, g2, g3, g4⟩ := hh n hn1
    obtain ⟨o3, o6⟩ := i6 n (Nat.le_refl _) hn1
    obtain ⟨v1, v2, v3⟩ := v_rs1 (N := N) (t := t) (s := S) (it := it) (wl := wl) (tk := tk) hN hn1 i5 hb (by rw [o3]; exact (H.1 n hn1).1) (i3.1 n hn1).2.2 g1 g2 (fun z => by rw [o6]; exact g3 z) g4
    have oo : ∀ q, q ≠ 9 * n + 3 → q ≠ 9 * n + 4 → q ≠ 9 * n + 6 → m_rs1 S it wl n q = S q := fun q q1 q2 q3 => by
      rw [m_rs1_e, pk_un q3, pk_un q2, pk_un q1]
    have u1 : IV (N + 1) (m_rs1 S it wl n) := by
      rw [m_rs1_e] at v2 v3 ⊢
      rw [pk_un (by omega), pk_un (by omega), pk_us] at v2
      rw [pk_us] at v3
      exact IV_lame (IV_f (IV_tired i3 hn1 v2) (by omega)) hn1 v3
    have u2 : SU (m_rs1 S it wl n) := by
      rw [m_rs1_e]
      exact SU_f (SU_f (SU_f i4 (by omega)) (by omega)) (by omega)
    have u3 : RI (m_rs1 S it wl n) = RI s := by
      rw [← i2]; exact RI_cg fun k h1 h2 => oo k (by omega) (by omega) (by omega)
    have key : HO (m_rs1 S it wl n) = (if nC fa < n then c_shoe (c_r2 t n (c_r1 tk n G)) fa else c_r2 t n (c_r1 tk n G)) := by
      rw [v1, i1]
      by_cases c : nC fa < n
      · rw [if_pos c, if_pos c]
        by_cases d : fa = -5
        · unfold c_shoe; rw [if_pos d, if_pos d]
        · exact shoe_r (by omega) d (by omega) hn1
      · rw [if_neg c, if_neg c]
    unfold m_rests
    by_cases c : nI n = fa
    · have hnc : nC fa = n := by rw [← c]; exact nC_nI (by omega)
      have hd : ¬ fa = -5 := fun z => nI_pos (n := n) (by omega) (by rw [c, z]; decide)
      rw [if_pos c, if_pos (by omega), shoe_e _ hd, hnc]
      rw [if_neg (by omega)] at key
      unfold m_inc
      refine ⟨?_, ?_, ?_, ?_, ?_, ?_⟩
      · rw [HO_o (by omega), HO_u80 hn1, HO_u30 hn1, key, pk_un (by omega), ← key, HO_80 hn1]
      · rw [RI_o (by omega), RI_o (by omega), RI_o (by omega), u3]
      · exact IV_f (IV_f (IV_f u1 (by omega)) (by omega)) (by omega)
      · exact SU_far (SU_f u2 (by omega)) hn1
      · rw [pk_un (by omega), pk_un (by omega), pk_un (by omega), oo 0 (by omega) (by omega) (by omega), i5]
      · intro h h1 h2
        rw [pk_un (by omega), pk_un (by omega), pk_un (by omega), pk_un (by omega), pk_un (by omega), pk_un (by omega), oo _ (by omega) (by omega) (by omega), oo _ (by omega) (by omega) (by omega)]
        exact i6 h (by omega) h2
    · rw [if_neg c]
      refine ⟨?_, u3, u1, u2, ?_, ?_⟩
      · rw [key]
        by_cases d : nC fa < n
        · rw [if_pos d, if_pos (by omega)]
        · rw [if_neg d]
          by_cases e : fa = -5
          · unfold c_shoe
            rw [if_pos e]
            split <;> rfl
          · have := hfa.elim (fun z => absurd z e) (fun z => z.2)
            rw [if_neg (fun z => c (by rw [this]; congr 1; omega))]
      · rw [oo 0 (by omega) (by omega) (by omega), i5]
      · intro h h1 h2
        rw [oo _ (by omega) (by omega) (by omega), oo _ (by omega) (by omega) (by omega)]
        exact i6 h (by omega) h2
