/-! ===== what is asked, on both sides ===== -/
theorem HO_at {s : Nat → Int32} (w h : Nat) (hw : w < 9) (hh : h < 10) : HO s (w * 10 + h) = s (9 * h + 1 + w) := by
  unfold HO
  rw [if_pos (by omega)]
  congr 1
  omega
theorem v_horse {s : Nat → Int32} {now : c_S} (h w : Int32) (hR : RR now s) : kX_horse now h w = mX_horse s h w := by
  unfold kX_horse mX_horse
  by_cases c1 : k_out h 0 9
  · rw [if_pos c1, if_neg (nin_of c1)]
  rw [if_neg c1, if_pos (in_of c1)]
  by_cases c2 : k_out w 0 8
  · rw [if_pos c2, if_neg (nin_of c2)]
  rw [if_neg c2, if_pos (in_of c2)]
  obtain ⟨h1, -⟩ := g_out (n := 9) (by omega) c1
  obtain ⟨w1, -⟩ := g_out (n := 8) (by omega) c2
  rw [hR.2.2.1, HO_at _ _ w1 h1]
theorem out_toInt {w : Int32} {n : Nat} (hn : n < 2 ^ 30) : k_out w 0 (nI n) ↔ (w.toInt < 0 ∨ ((n + 1 : Nat) : Int) ≤ w.toInt) := by
  unfold k_out
  rw [Int32.lt_iff_toInt_lt, Int32.lt_iff_toInt_lt, nI_toInt (by omega), show (0 : Int32).toInt = 0 by decide]
  omega
theorem v_rider {s : Nat → Int32} {now : c_S} (r w : Int32) (hR : RR now s) : kX_rider now r w = mX_rider s r w := by
  unfold kX_rider mX_rider
  by_cases c1 : k_out r 0 11
  · rw [if_pos c1, if_neg (nin_of c1)]
  rw [if_neg c1, if_pos (in_of c1)]
  have e : k_out w 0 9 ↔ (w.toInt < 0 ∨ 10 ≤ w.toInt) := out_toInt (n := 9) (by omega)
  by_cases c2 : k_out w 0 9
  · rw [if_pos c2, if_pos (e.mp c2)]
  rw [if_neg c2, if_neg (fun z => c2 (e.mpr z))]
  obtain ⟨h1, -⟩ := g_out (n := 11) (by omega) c1
  obtain ⟨w1, -⟩ := g_out (n := 9) (by omega) c2
  generalize nC r = n at *
  generalize nC w = k at *
  obtain ⟨a1, a2, a3, a4, a5, a6, a7, a8, a9, a10, a11, a12⟩ := hR
  unfold c_ofRid m_ridN
  rw [a4, a5, nC_nI (by omega), v_can s h1, v_bof a6 _ _ (Nat.le_refl _)]
  have hk : k = 0 ∨ k = 1 ∨ k = 2 ∨ k = 3 ∨ k = 4 ∨ k = 5 ∨ k = 6 ∨ k = 7 ∨ k = 8 ∨ k = 9 := by omega
  rcases hk with rfl | rfl | rfl | rfl | rfl | rfl | rfl | rfl | rfl | rfl
  · rw [if_neg (by decide), if_neg (by decide), if_pos (by decide), show 0 * 12 + n = n by omega, RI_0 h1]
  · rw [if_neg (by decide), if_neg (by decide), if_pos (by decide), show 1 * 12 + n = 12 + n by omega, RI_12 h1]
  · rw [if_neg (by decide), if_neg (by decide), if_pos (by decide), show 2 * 12 + n = 24 + n by omega, RI_24 h1]
  · rw [if_pos rfl, if_neg (by decide), if_pos rfl]
  · rw [if_neg (by decide), if_neg (by decide), if_neg (by decide), if_neg (by decide), if_pos (by decide), show 4 * 12 + n = 48 + n by omega, RI_48 h1]
  · rw [if_neg (by decide), if_neg (by decide), if_neg (by decide), if_neg (by decide), if_pos (by decide), show 5 * 12 + n = 60 + n by omega, RI_60 h1]
  · rw [if_neg (by decide), if_neg (by decide), if_neg (by decide), if_neg (by decide), if_pos (by decide), show 6 * 12 + n = 72 + n by omega, RI_72 h1]
  · rw [if_neg (by decide), if_neg (by decide), if_neg (by decide), if_neg (by decide), if_pos (by decide), show 7 * 12 + n = 84 + n by omega, RI_84 h1]
  · rw [if_neg (by decide), if_pos rfl, if_neg (by decide), if_neg (by decide), if_neg (by decide), if_pos rfl]
  · rw [if_neg (by decide), if_neg (by decide), if_neg (by decide), if_neg (by decide), if_neg (by decide), if_neg (by decide), show 9 * 12 + n = 108 + n by omega, RI_108 h1]
theorem v_lesson {s : Nat → Int32} {now : c_S} (h g w : Int32) (hR : RR now s) : kX_lesson now h g w = mX_lesson s h g w := by
  unfold kX_lesson mX_lesson
  by_cases c1 : k_out g 0 2
  · rw [if_pos c1, if_neg (nin_of c1)]
  rw [if_neg c1, if_pos (in_of c1)]
  by_cases c2 : k_out h 0 99
  · rw [if_pos c2, if_neg (nin_of c2)]
  rw [if_neg c2, if_pos (in_of c2)]
  by_cases c3 : k_out w 0 2
  · rw [if_pos c3, if_neg (nin_of c3)]
  rw [if_neg c3, if_pos (in_of c3)]
  obtain ⟨g1, g2⟩ := g_out (n := 2) (by omega) c1
  obtain ⟨h1, h2⟩ := g_out (n := 99) (by omega) c2
  obtain ⟨w1, w2⟩ := g_out (n := 2) (by omega) c3
  generalize nC g = k at *
  generalize nC h = n at *
  generalize nC w = j at *
  subst g2; subst h2; subst w2
  obtain ⟨a1, a2, a3, a4, a5, a6, a7, a8, a9, a10, a11, a12⟩ := hR
  rw [a1, nI_add, a5, nC_nI (by omega), v_bf a6 _ _ _ (Nat.le_refl _), v_rfor a6 _ _ _ (Nat.le_refl _), sT0 k g1, show (4 : Int32) - nI k = nI (4 - k) from pk_sub (a := 4) (b := k) (by omega)]
  have hj : j = 0 ∨ j = 1 ∨ j = 2 := by omega
  rcases hj with rfl | rfl | rfl
  · rw [if_neg (by decide), if_pos (by decide), if_pos (by decide)]
  · rw [if_neg (by decide), if_neg (by decide), if_neg (by decide), if_pos (by decide)]
  · rw [if_pos (by decide), if_neg (by decide), if_neg (by decide)]
theorem v_fall {s : Nat → Int32} {now : c_S} (k w : Int32) (hR : RR now s) : kX_fall now k w = mX_fall s k w := by
  unfold kX_fall mX_fall
  by_cases c1 : k < 0
  · rw [if_pos c1, if_pos c1]
  rw [if_neg c1, if_neg c1]
  by_cases c2 : k_out w 0 2
  · rw [if_pos c2, if_neg (nin_of c2)]
  rw [if_neg c2, if_pos (in_of c2)]
  obtain ⟨w1, -⟩ := g_out (n := 2) (by omega) c2
  generalize nC w = j at *
  generalize nC k = i at *
  have F := hR.2.2.2.2.2.2.1
  unfold c_ofFall
  rw [F.2.1, nC_nI (by omega)]
  by_cases c : i < min (q_fc now) 20
  · rw [if_pos c, if_pos c]
    have G := F.2.2 i c
    have hj : j = 0 ∨ j = 1 ∨ j = 2 := by omega
    rcases hj with rfl | rfl | rfl
    · rw [show 0 * 20 + (q_fc now - 1 - i) % 20 = (q_fc now - 1 - i) % 20 by omega]; exact G.1.symm
    · rw [show 318 + 3 * i + 1 = 319 + 3 * i by omega, show 1 * 20 + (q_fc now - 1 - i) % 20 = 20 + (q_fc now - 1 - i) % 20 by omega]; exact G.2.1.symm
    · rw [show 318 + 3 * i + 2 = 320 + 3 * i by omega, show 2 * 20 + (q_fc now - 1 - i) % 20 = 40 + (q_fc now - 1 - i) % 20 by omega]; exact G.2.2.symm
  · rw [if_neg c, if_neg c]
theorem v_hin {s : Nat → Int32} {q : c_S} {h r : Nat} (hR : RR q s) (hb : q_ti q < 2 ^ 20) (hh : h < 10) (hr : r < 12) : k_hin q h r = m_hind s h r (m_shod s) := by
  unfold k_hin
  rw [hR.2.1, hR.2.2.1, hR.2.2.2.1, v_far hR.1 (by omega) hR.2.2.2.2.2.2.2.2.1.2.2.2.2, v_hind s hh hr]
theorem v_reason {s : Nat → Int32} {now : c_S} (h r : Int32) (hR : RR now s) (ht : q_ti now ≤ 9999) : kX_reason now h r = mX_reason s h r := by
  unfold kX_reason mX_reason
  by_cases c1 : k_out h 0 9
  · rw [if_pos c1, if_neg (nin_of c1)]
  rw [if_neg c1, if_pos (in_of c1)]
  by_cases c2 : k_out r 0 11
  · rw [if_pos c2, if_neg (nin_of c2)]
  rw [if_neg c2, if_pos (in_of c2)]
  obtain ⟨h1, -⟩ := g_out (n := 9) (by omega) c1
  obtain ⟨r1, -⟩ := g_out (n := 11) (by omega) c2
  exact v_hin hR (by omega) h1 r1
theorem v_bestX {s it : Nat → Int32} {now : c_S} (r : Int32) (hR : RR now s) (ht : q_ti now ≤ 9999) : kX_best now r = mX_best s it r := by
  unfold kX_best mX_best
  by_cases c2 : k_out r 0 11
  · rw [if_pos c2, if_neg (nin_of c2)]
  rw [if_neg c2, if_pos (in_of c2)]
  obtain ⟨r1, -⟩ := g_out (n := 11) (by omega) c2
  rw [hR.2.1, hR.2.2.1, hR.2.2.2.1, v_far hR.1 (by omega) hR.2.2.2.2.2.2.2.2.1.2.2.2.2]
  exact v_best s (zeL it 10) r1 _ 0 (fun h hh => by rw [b_in0 (by omega), zeL_at it 10 h hh])
theorem ball_n {bo : Nat → Int32} {tm : Int32} {bc : Nat} (B : ∀ j, j < bc → okV 3 (bo (40 + j))) : ∀ n, n ≤ bc → c_ball bo tm n = nI (bcnt bo tm (nI 0) n + bcnt bo tm (nI 1) n + bcnt bo tm (nI 2) n)
  | 0, _ => rfl
  | n + 1, hn => by
    have ih := ball_n (tm := tm) B n (by omega)
    obtain ⟨k, hk, e⟩ := n_ex (B n (by omega))
    unfold c_ball bcnt
    rw [ih, bI_n, nI_add]
    congr 1
    unfold c_isBR
    rw [e]
    by_cases c : bo n = tm
    · rw [if_pos c]
      have hk3 : k = 0 ∨ k = 1 ∨ k = 2 := by omega
      rcases hk3 with rfl | rfl | rfl
      · rw [if_pos ⟨c, rfl⟩, if_neg (fun z => absurd z.2 (by decide)), if_neg (fun z => absurd z.2 (by decide))]; omega
      · rw [if_neg (fun z => absurd z.2 (by decide)), if_pos ⟨c, rfl⟩, if_neg (fun z => absurd z.2 (by decide))]; omega
      · rw [if_neg (fun z => absurd z.2 (by decide)), if_neg (fun z => absurd z.2 (by decide)), if_pos ⟨c, rfl⟩]; omega
    · rw [if_neg c, if_neg (fun z => c z.1), if_neg (fun z => c z.1), if_neg (fun z => c z.1)]; omega
theorem v_busL {s : Nat → Int32} {now : c_S} (hR : RR now s) : ∀ n, k_busL now n = ((m_busL s n).2, (m_busL s n).1)
  | 0 => rfl
  | n + 1 => by
    have ih := v_busL hR n
    obtain ⟨a1, a2, a3, a4, a5, a6, a7, a8, a9, a10, a11, a12⟩ := hR
    have e : c_ball (q_bo now) (nI (q_ti now + n)) (q_bc now) = m_its s n := by
      unfold m_its
      rw [ball_n (fun j hj => (a10.1 j hj).1) _ (Nat.le_refl _), a1, nI_add, a5, nC_nI (by omega), v_bf a6 _ _ _ (Nat.le_refl _), v_bf a6 _ _ _ (Nat.le_refl _), v_bf a6 _ _ _ (Nat.le_refl _), bf_n, bf_n, bf_n, nI_add, nI_add]
      rfl
    unfold k_busL m_busL
    rw [ih, e]
    by_cases c : (m_busL s n).2 < m_its s n
    · rw [if_pos c, if_pos c]
    · rw [if_neg c, if_neg c]
theorem restL_lo {tk : Int32} {t k : Nat} {g : Nat → Int32} (hk : k < 20) : ∀ n, c_restL tk t g n k = g k
  | 0 => rfl
  | n + 1 => by
    unfold c_restL
    rw [r2_at (by omega), r1_at (by omega), restL_lo hk n]
theorem h0_lo (q : c_S) {h : Nat} (hh : h < 20) : q_ho (k_passHour0 q) h = q_ho q h := by
  show c_shoe (c_restL 0 (q_ti q) (q_ho q) 10) (c_far (q_se q) (q_ho q) (q_ti q)) h = q_ho q h
  unfold c_shoe
  split
  · exact restL_lo hh 10
  · rw [pk_un (by omega), pk_un (by omega)]
    exact restL_lo hh 10
theorem tkR_light {h r : Nat} (hh : h < 10) : ∀ f n q, q_ho q h < q_ri q r → (k_tkR h r f n q).1 = -5
  | 0, _, _, _ => rfl
  | f + 1, n, q, hw => by
    unfold k_tkR
    have e : ¬ k_hin q h r = 0 := by
      unfold k_hin c_hind
      by_cases c1 : 0 < q_ho q (50 + h)
      · rw [if_pos c1]; decide
      rw [if_neg c1]
      by_cases c2 : nI h = c_far (q_se q) (q_ho q) (q_ti q)
      · rw [if_pos c2]; decide
      rw [if_neg c2]
      by_cases c3 : ¬ q_ho q (30 + h) < q_se q 1
      · rw [if_pos c3]; decide
      rw [if_neg c3]
      by_cases c4 : ¬ q_ho q (20 + h) < q_se q 0
      · rw [if_pos c4]; decide
      rw [if_neg c4, if_pos hw]; decide
    rw [if_neg e]
    refine tkR_light hh f (n + 1) _ ?_
    rw [h0_lo q (by omega)]
    exact hw
theorem v_tkR {h r : Nat} (hh : h < 10) (hr : r < 12) : ∀ f n (q : c_S) (p : m_T3), n + f = 201 → RR q p.1 → q_ti q + f < 2 ^ 16 → (k_tkR h r f n q).1 = (if 200 < (m_tkR h r f n p).1 then -5 else nI (m_tkR h r f n p).1)
  | 0, n, q, p, hn, _, _ => by
    unfold k_tkR m_tkR
    rw [if_pos (show 200 < n by omega)]
  | f + 1, n, q, p, hn, hR, hb => by
    unfold k_tkR m_tkR
    rw [v_hin hR (by omega) hh hr]
    by_cases c : m_hind p.1 h r (m_shod p.1) = 0
    · rw [if_pos c, if_pos c, if_neg (show ¬ 200 < n by omega)]
    · rw [if_neg c, if_neg c]
      exact v_tkR hh hr f (n + 1) _ (m_tS p) (by omega) (RR_h0 hR (by omega)) (by rw [ti_h0]; omega)
/-- a look ahead: answer and what the reference has put back -/
theorem v_takenIn {s as_ it wl : Nat → Int32} {now ahead : c_S} (h r : Int32) (hR : RR now s) (ht : q_ti now ≤ 9999) : (kX_takenIn now ahead h r).1 = (mX_takenIn s as_ it wl h r).1 ∧ RR now (mX_takenIn s as_ it wl h r).2.1 := by
  unfold kX_takenIn mX_takenIn
  by_cases c1 : k_out h 0 9
  · rw [if_pos c1, if_neg (nin_of c1)]; exact ⟨rfl, hR⟩
  rw [if_neg c1, if_pos (in_of c1)]
  by_cases c2 : k_out r 0 11
  · rw [if_pos c2, if_neg (nin_of c2)]; exact ⟨rfl, hR⟩
  rw [if_neg c2, if_pos (in_of c2)]
  obtain ⟨h1, -⟩ := g_out (n := 9) (by omega) c1
  obtain ⟨r1, -⟩ := g_out (n := 11) (by omega) c2
  refine ⟨?_, RR_cg (fun k hk => ?_) hR⟩
  · have e := v_tkR h1 r1 201 0 now (s, it, wl) rfl hR (by omega)
    unfold m_tk
    by_cases c : q_ho now (nC h) < c_ofRid (q_ri now) (q_bo now) (q_bc now) (nC r) 0
    · rw [if_pos c]
      unfold c_ofRid at c
      rw [if_neg (by decide), if_neg (by decide), show 0 * 12 + nC r = nC r by omega] at c
      rw [tkR_light h1 201 0 now c] at e
      exact e
    · rw [if_neg c]
      exact e
  · show cpL (cpL s as_ 0 0 378) _ 0 0 378 k = s k
    rw [cp0 hk, cp0 hk]
theorem n_back {a b c : Int32} (h : b = a + c) : b - a = c := by
  rw [h, Int32.add_comm, Int32.add_sub_cancel]
theorem v_ifPassed {s as_ it wl : Nat → Int32} {now ahead : c_S} (h w : Int32) (hR : RR now s) (ht : q_ti now ≤ 9999) : (kX_ifPassed now ahead h w).1 = (mX_ifPassed s as_ it wl h w).1 ∧ RR now (mX_ifPassed s as_ it wl h w).2.1 := by
  unfold kX_ifPassed mX_ifPassed
  by_cases c1 : k_out h 1 99
  · rw [if_pos c1, if_neg (nin_of c1)]; exact ⟨rfl, hR⟩
  rw [if_neg c1, if_pos (in_of c1)]
  by_cases c2 : k_out w 0 3
  · rw [if_pos c2, if_neg (nin_of c2)]; exact ⟨rfl, hR⟩
  rw [if_neg c2, if_pos (in_of c2)]
  obtain ⟨h0, h1, h2⟩ := g_out2 (lo := 1) (n := 99) (by omega) (by omega) c1
  obtain ⟨p1, p2, p3⟩ := RR_pL (it := it) (wl := wl) hR (by omega) (nC h) (by omega)
  refine ⟨?_, RR_cg (fun k hk => ?_) hR⟩
  · have q1 := p1.2.2.2.2.2.2.2.1
    have q2 := hR.2.2.2.2.2.2.2.1
    have f1 := p1.2.2.2.2.2.2.1.1
    have f2 := hR.2.2.2.2.2.2.1.1
    show (if w = 0 then _ else _) = (if w = 0 then _ else _)
    unfold m_if
    rw [p1.2.2.1, p1.2.2.2.1, hR.2.2.1, hR.2.2.2.1, ← q1.1, ← q2.1, ← q1.2.1, ← q2.2.1, ← f1, ← f2, cp0 (by omega), cp0 (by omega), v_lame _ 10 (Nat.le_refl _), n_back p3]
  · show cpL (cpL s as_ 0 0 378) _ 0 0 378 k = s k
    rw [cp0 hk, cp0 hk]
theorem v_count {s : Nat → Int32} {now : c_S} {kn ln : Nat} (w : Int32) (hR : RR now s) (ht : q_ti now ≤ 9999) : kX_count now kn ln w = mX_count s kn ln w := by
  unfold kX_count mX_count
  have ein : m_in w 12 16 ↔ (12 ≤ w.toInt ∧ w.toInt ≤ 16) := by
    unfold m_in
    rw [Int32.lt_iff_toInt_lt, Int32.lt_iff_toInt_lt, show (12 : Int32).toInt = 12 by decide, show (16 : Int32).toInt = 16 by decide]
    omega
  rcases g_cases w 19 (by omega) with c | ⟨j, hj, e⟩
  · have c' : w.toInt < 0 ∨ 19 ≤ w.toInt := c
    rw [if_pos c', if_neg (fun z => by have := ein.mp z; omega), if_pos c']
  · have hw : w.toInt = (j : Int) := by rw [e]; exact nI_toInt (by omega)
    have hn : nC w = j := by rw [e]; exact nC_nI (by omega)
    rw [if_neg (by omega), hn]
    obtain ⟨a1, a2, a3, a4, a5, a6, a7, a8, a9, a10, a11, a12⟩ := hR
    by_cases c : 12 ≤ j ∧ j ≤ 16
    · rw [if_pos (ein.mpr (by omega))]
      unfold k_cntN
      rw [if_neg (by omega), if_neg (by omega), if_neg (by omega), if_neg (by omega), if_neg (by omega), if_neg (by omega), if_neg (by omega), if_neg (by omega), if_neg (by omega), if_neg (by omega), if_neg (by omega), if_neg (by omega), if_pos (by omega), a2, SE_at (by omega)]
      congr 1
      omega
    · rw [if_neg (fun z => c (by have := ein.mp z; omega)), if_neg (by omega)]
      unfold k_cntN m_cntN
      by_cases c0 : j = 0
      · rw [if_pos c0, if_pos c0, a1]
      rw [if_neg c0, if_neg c0]
      by_cases c1 : j = 1
      · rw [if_pos c1, if_pos c1, a1, show (10 : Int32) = nI 10 from rfl, pk_div (by omega) (by omega) (by omega)]
      rw [if_neg c1, if_neg c1]
      by_cases c2 : j = 2
      · rw [if_pos c2, if_pos c2, a1]
        exact (pk_rem (a := q_ti now) (d := 10) (by omega) (by omega) (by omega)).symm
      rw [if_neg c2, if_neg c2]
      by_cases c3 : j = 3
      · rw [if_pos c3, if_pos c3, a5]
      rw [if_neg c3, if_neg c3]
      by_cases c4 : j = 4
      · rw [if_pos c4, if_pos c4, a3, a8.1]
      rw [if_neg c4, if_neg c4]
      by_cases c5 : j = 5
      · rw [if_pos c5, if_pos c5, a7.1]
      rw [if_neg c5, if_neg c5]
      by_cases c6 : j = 6
      · rw [if_pos c6, if_pos c6, a4, a8.2.1]
      rw [if_neg c6, if_neg c6]
      by_cases c7 : j = 7
      · rw [if_pos c7, if_pos c7, a3, v_lame s 10 (Nat.le_refl _)]
      rw [if_neg c7, if_neg c7]
      by_cases c8 : j = 8
      · rw [if_pos c8, if_pos c8, a3, a8.2.2]
      rw [if_neg c8, if_neg c8]
      by_cases c9 : j = 9
      · rw [if_pos c9, if_pos c9, a3, v_tir s 10 (Nat.le_refl _)]
      rw [if_neg c9, if_neg c9]
      by_cases c10 : j = 10
      · rw [if_pos c10, if_pos c10, a2]
        exact bI_iff (v_there a1 (by omega) a9.2.2.2.2)
      rw [if_neg c10, if_neg c10]
      by_cases c11 : j = 11
      · rw [if_pos c11, if_pos c11, a2, a3, v_far a1 (by omega) a9.2.2.2.2]
      rw [if_neg c11, if_neg c11, if_neg (by omega)]
theorem v_type {tc : Nat → Int32} {en : Nat} {c : Int32} (hen : en ≤ 60) : kX_type tc en c = (mX_type tc en c).1 ∧ (if en < 60 then upd tc en c else tc) = (mX_type tc en c).2.1 ∧ (if en < 60 then en + 1 else en) = (mX_type tc en c).2.2 := by
  unfold kX_type mX_type
  by_cases h : en < 60
  · rw [if_pos h, if_pos h, if_pos h, if_neg (show ¬ en = 60 by omega)]
    exact ⟨rfl, rfl, rfl⟩
  · rw [if_neg h, if_neg h, if_neg h, if_pos (show en = 60 by omega)]
    exact ⟨rfl, rfl, rfl⟩
