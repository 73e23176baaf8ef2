/-! ===== the lessons of an hour, the rest behind them, an hour, hours ===== -/
theorem cLS_t {se : Nat → Int32} {fa f : Int32} {t i r : Nat} {p : c_T7} (c : p.2.2.2.2.1 i = nI (t + 0)) (hr : nC (p.2.2.2.2.1 (80 + i)) = r) (hf : c_best se p.1 p.2.1 r fa p.2.2.2.2.2.1 = f) : c_gLS se fa t i p = ((c_give se p.1 p.2.1 p.2.2.1 p.2.2.2.1 t r f).1, (c_give se p.1 p.2.1 p.2.2.1 p.2.2.2.1 t r f).2.1, (c_give se p.1 p.2.1 p.2.2.1 p.2.2.2.1 t r f).2.2.1, (c_give se p.1 p.2.1 p.2.2.1 p.2.2.2.1 t r f).2.2.2, p.2.2.2.2.1, p.2.2.2.2.2.1 ||| c_giveT f, p.2.2.2.2.2.2) := by
  subst hr; subst hf
  exact if_pos c
theorem cLS_f {se : Nat → Int32} {fa : Int32} {t i : Nat} {p : c_T7} (c : ¬ p.2.2.2.2.1 i = nI (t + 0)) : c_gLS se fa t i p = (p.1, p.2.1, p.2.2.1, p.2.2.2.1, (if p.2.2.2.2.2.2 < i then mvC p.2.2.2.2.1 40 i p.2.2.2.2.2.2 3 else p.2.2.2.2.1), p.2.2.2.2.2.1, p.2.2.2.2.2.2 + 1) := if_neg c
/-- the bookings while the lessons are given: l stand in front, out of those ahead of i; from i on they stand as they stood -/
def BK (b0 b : Nat → Int32) (bc t i l : Nat) : Prop := l ≤ i ∧ (∀ j, i ≤ j → j < bc → b j = b0 j ∧ b (40 + j) = b0 (40 + j) ∧ b (80 + j) = b0 (80 + j)) ∧ (∀ j, j < l → ∃ s, s < i ∧ ¬ b0 s = nI (t + 0) ∧ b j = b0 s ∧ b (40 + j) = b0 (40 + s) ∧ b (80 + j) = b0 (80 + s)) ∧ ∀ j k, j < k → k < l → ¬ (b j = b k ∧ b (80 + j) = b (80 + k))
theorem BK_t {b0 b : Nat → Int32} {bc t i l : Nat} (H : BK b0 b bc t i l) : BK b0 b bc t (i + 1) l := by
  obtain ⟨h1, h2, h3, h4⟩ := H
  refine ⟨by omega, fun j a c => h2 j (by omega) c, fun j hj => ?_, h4⟩
  obtain ⟨s, a, e⟩ := h3 j hj
  exact ⟨s, by omega, e⟩
theorem BK_f {b0 b : Nat → Int32} {bc t i l : Nat} (hb : bc ≤ 40) (hi : i < bc) (hu : ∀ j k, j < k → k < bc → ¬ (b0 j = b0 k ∧ b0 (80 + j) = b0 (80 + k))) (hn : ¬ b i = nI (t + 0)) (H : BK b0 b bc t i l) : BK b0 (if l < i then mvC b 40 i l 3 else b) bc t (i + 1) (l + 1) := by
  obtain ⟨h1, h2, h3, h4⟩ := H
  have at0 : ∀ j, j < 40 → (if l < i then mvC b 40 i l 3 else b) j = (if j = l then b i else b j) ∧ (if l < i then mvC b 40 i l 3 else b) (40 + j) = (if j = l then b (40 + i) else b (40 + j)) ∧ (if l < i then mvC b 40 i l 3 else b) (80 + j) = (if j = l then b (80 + i) else b (80 + j)) := by
    intro j hj
    by_cases c : l < i
    · rw [if_pos c, mv_0 (by omega) (by omega) hj, mv_1 (by omega) (by omega) hj, mv_2 (by omega) (by omega) hj]
      exact ⟨rfl, rfl, rfl⟩
    · rw [if_neg c]
      have e : l = i := by omega
      subst e
      by_cases d : j = l
      · subst d; rw [if_pos rfl, if_pos rfl, if_pos rfl]; exact ⟨rfl, rfl, rfl⟩
      · rw [if_neg d, if_neg d, if_neg d]; exact ⟨rfl, rfl, rfl⟩
  generalize (if l < i then mvC b 40 i l 3 else b) = g at at0 ⊢
  obtain ⟨e1, e2, e3⟩ := h2 i (Nat.le_refl i) hi
  refine ⟨by omega, fun j a c => ?_, fun j hj => ?_, fun j k hjk hk => ?_⟩
  · obtain ⟨g1, g2, g3⟩ := at0 j (by omega)
    rw [g1, g2, g3, if_neg (by omega), if_neg (by omega), if_neg (by omega)]
    exact h2 j (by omega) c
  · obtain ⟨g1, g2, g3⟩ := at0 j (by omega)
    rw [g1, g2, g3]
    by_cases d : j = l
    · rw [if_pos d, if_pos d, if_pos d]
      exact ⟨i, by omega, by rw [← e1]; exact hn, e1, e2, e3⟩
    · rw [if_neg d, if_neg d, if_neg d]
      obtain ⟨s, a, e⟩ := h3 j (by omega)
      exact ⟨s, by omega, e⟩
  · obtain ⟨g1, _, g3⟩ := at0 j (by omega)
    obtain ⟨q1, _, q3⟩ := at0 k (by omega)
    have hjl : ¬ j = l := by omega
    rw [g1, g3, q1, q3, if_neg hjl, if_neg hjl]
    by_cases d : k = l
    · rw [if_pos d, if_pos d]
      obtain ⟨s, a, _, s1, _, s3⟩ := h3 j (by omega)
      rw [s1, s3, e1, e3]
      exact hu s i a hi
    · rw [if_neg d, if_neg d]
      exact h4 j k hjk (by omega)
/-- what holds while the lessons of an hour are given -/
def LI (q : c_S) (i : Nat) (p : c_T7) : Prop := HS (40 * q_ti q + 1 + i) p.1 p.2.2.2.2.2.1 (q_se q) ∧ (∀ r, r < 12 → IR (40 * q_ti q + 1 + i) p.2.1 r) ∧ ISU p.1 p.2.1 p.2.2.2.1 ∧ IFA p.2.2.1 p.2.2.2.1 (q_ti q + 1) ∧ (∃ m, m ≤ i ∧ sumF p.1 60 10 = sumF (q_ho q) 60 10 + nI m) ∧ BK (q_bo q) p.2.2.2.2.1 (q_bc q) (q_ti q) i p.2.2.2.2.2.2
theorem HS_mono {T M : Nat} {ho : Nat → Int32} {tk : Int32} {se : Nat → Int32} (H : HS T ho tk se) (e : T ≤ M) : HS M ho tk se := fun k hk => ⟨IH_mono (H k hk).1 e, (H k hk).2⟩
theorem LI_0 {q : c_S} (hI : INV q) : LI q 0 (q_ho q, q_ri q, q_fs q, q_fc q, q_bo q, 0, 0) := by
  obtain ⟨h1, h2, h3, h4, h5, h6, h7⟩ := hI
  refine ⟨fun k hk => ⟨h2 k hk, fun c => ?_⟩, h3, h5, ⟨fun k hk => n_mono (h7.1 k hk) (by omega), h7.2⟩, ⟨0, Nat.le_refl 0, (Int32.add_zero _).symm⟩, Nat.le_refl 0, fun j _ _ => ⟨rfl, rfl, rfl⟩, fun j hj => absurd hj (Nat.not_lt_zero j), fun j k _ hk => absurd hk (Nat.not_lt_zero k)⟩
  have c : c_in 0 k = 1 := c
  rw [b_in0 (by omega)] at c
  exact absurd c (by decide)
theorem LI_s {q : c_S} (hI : INV q) {i : Nat} (hi : i < q_bc q) {p : c_T7} {fa : Int32} (H : LI q i p) : LI q (i + 1) (c_gLS (q_se q) fa (q_ti q) i p) := by
  obtain ⟨h1, h2, h3, h4, h5, h6, h7⟩ := hI
  have hbc := h1.1
  have hti := h1.2.2.1
  obtain ⟨l1, l2, l3, l4, ⟨m, hm, l5⟩, l6⟩ := H
  obtain ⟨e1, e2, e3⟩ := l6.2.1 i (Nat.le_refl i) hi
  by_cases c : p.2.2.2.2.1 i = nI (q_ti q + 0)
  · have hr := (h6.1 i hi).2.2
    rw [← e3] at hr
    have hr := hr.1
    rw [cLS_t c rfl rfl]
    have bo := best_ok (se := q_se q) (ho := p.1) (ri := p.2.1) (r := nC (p.2.2.2.2.1 (80 + i))) (fa := fa) (tk := p.2.2.2.2.2.1) 10 (Nat.le_refl 10)
    change c_best (q_se q) p.1 p.2.1 (nC (p.2.2.2.2.1 (80 + i))) fa p.2.2.2.2.2.1 = -5 ∨ (okV 10 (c_best (q_se q) p.1 p.2.1 (nC (p.2.2.2.2.1 (80 + i))) fa p.2.2.2.2.2.1) ∧ c_hind (q_se q) p.1 p.2.1 (nC (c_best (q_se q) p.1 p.2.1 (nC (p.2.2.2.2.1 (80 + i))) fa p.2.2.2.2.2.1)) (nC (p.2.2.2.2.1 (80 + i))) fa = 0 ∧ c_in p.2.2.2.2.2.1 (nC (c_best (q_se q) p.1 p.2.1 (nC (p.2.2.2.2.1 (80 + i))) fa p.2.2.2.2.2.1)) = 0) at bo
    generalize c_best (q_se q) p.1 p.2.1 (nC (p.2.2.2.2.1 (80 + i))) fa p.2.2.2.2.2.1 = f at bo ⊢
    generalize nC (p.2.2.2.2.1 (80 + i)) = r at bo hr ⊢
    unfold c_give c_giveT
    by_cases cf : f = -5
    · rw [if_pos cf, if_pos cf]
      refine ⟨?_, fun k hk => ?_, ⟨?_, ?_, ?_⟩, l4, ⟨m, by omega, l5⟩, BK_t l6⟩
      · show HS _ p.1 (p.2.2.2.2.2.1 ||| 0) _
        rw [Int32.or_zero]
        exact HS_mono l1 (by omega)
      · have := IR_mono (l2 k hk) (M := 40 * q_ti q + 1 + (i + 1)) (by omega)
        show IR _ (upd p.2.1 (84 + r) (p.2.1 (84 + r) + 1)) k
        unfold IR at this ⊢
        simp (disch := omega) only [pk_un]
        exact this
      · show sumF p.1 60 10 = sumF (upd p.2.1 (84 + r) _) 60 12
        rw [sumF_out (by omega)]; exact l3.1
      · show sumF p.1 70 10 = sumF (upd p.2.1 (84 + r) _) 72 12
        rw [sumF_out (by omega)]; exact l3.2.1
      · show sumF (upd p.2.1 (84 + r) _) 72 12 = _
        rw [sumF_out (by omega)]; exact l3.2.2
    · rw [if_neg cf, if_neg cf]
      rcases bo with bo | ⟨b1, b2, b3⟩
      · exact absurd bo cf
      · have hx := (hin_r (x := c_hind (q_se q) p.1 p.2.1 (nC f) r fa) rfl).2.2.2.2.2 b2
        obtain ⟨U1, U2⟩ := ride_U (se := q_se q) (fs := p.2.2.1) (t := q_ti q) (f := f) b1.1 hr l3
        exact ⟨ride_H (T := 40 * q_ti q + 1 + i) (by omega) h4 l1 b1 hx.2.2.1, fun k hk => ride_R (T := 40 * q_ti q + 1 + i) (by omega) hr cf hk (l2 k hk), U1, ride_A (by omega) l4, ⟨m + 1, by omega, by show sumF (c_ride _ _ _ _ _ _ _ _).1 60 10 = _; rw [U2, l5, Int32.add_assoc, nI_1]⟩, BK_t l6⟩
  · rw [cLS_f c]
    exact ⟨HS_mono l1 (by omega), fun k hk => IR_mono (l2 k hk) (by omega), l3, l4, ⟨m, by omega, l5⟩, BK_f hbc hi h6.2 c l6⟩
theorem LI_n {q : c_S} (hI : INV q) {fa : Int32} : ∀ i, i ≤ q_bc q → LI q i (c_gLL (q_se q) fa (q_ti q) (q_ho q, q_ri q, q_fs q, q_fc q, q_bo q, 0, 0) i)
  | 0, _ => LI_0 hI
  | i + 1, h => LI_s hI (by omega) (LI_n hI i (by omega))
theorem rest_row {tk : Int32} {t : Nat} {g : Nat → Int32} {j : Nat} (hj : j < 20 ∨ 60 ≤ j) : ∀ n, n ≤ 10 → c_restL tk t g n j = g j
  | 0, _ => rfl
  | n + 1, hn => by
    have ih := rest_row (tk := tk) (t := t) (g := g) hj n (by omega)
    unfold c_restL
    generalize c_restL tk t g n = f at ih ⊢
    have e : c_r1 tk n f j = f j := by
      unfold c_r1 c_rT c_rN
      split
      · rw [pk_un (by omega), pk_un (by omega)]
      · rw [pk_un (by omega), pk_un (by omega)]
    unfold c_r2
    split
    · rw [pk_un (by omega), e, ih]
    · rw [e, ih]
theorem rest_H {T : Nat} {g se : Nat → Int32} {tk : Int32} {t : Nat} (hT : T < 2 ^ 29) (hse : ISE se) (H : HS T g tk se) : ∀ n, n ≤ 10 → (∀ k, k < n → IH T (c_restL tk t g n) k) ∧ ∀ k, n ≤ k → k < 10 → IH T (c_restL tk t g n) k ∧ (c_in tk k = 1 → c_restL tk t g n (20 + k) < se 0 ∧ nC (c_restL tk t g n (30 + k)) < nC (c_restL tk t g n (60 + k)))
  | 0, _ => ⟨fun k hk => absurd hk (Nat.not_lt_zero k), fun k _ hk => H k hk⟩
  | n + 1, hn => by
    obtain ⟨ih1, ih2⟩ := rest_H (t := t) hT hse H n (by omega)
    unfold c_restL
    generalize c_restL tk t g n = f at ih1 ih2 ⊢
    have out : ∀ j, j ≠ 20 + n → j ≠ 30 + n → j ≠ 50 + n → c_r2 t n (c_r1 tk n f) j = f j := by
      intro j j1 j2 j3
      have e : c_r1 tk n f j = f j := by
        unfold c_r1 c_rT c_rN
        split
        · rw [pk_un (by omega), pk_un (by omega)]
        · rw [pk_un (by omega), pk_un (by omega)]
      unfold c_r2
      split
      · rw [pk_un (by omega), e]
      · exact e
    have far : ∀ k, k < 10 → k ≠ n → IH T f k → IH T (c_r2 t n (c_r1 tk n f)) k := by
      intro k hk hkn h
      unfold IH at h ⊢
      rw [out k (by omega) (by omega) (by omega), out (10 + k) (by omega) (by omega) (by omega), out (20 + k) (by omega) (by omega) (by omega), out (40 + k) (by omega) (by omega) (by omega), out (50 + k) (by omega) (by omega) (by omega), out (60 + k) (by omega) (by omega) (by omega), out (30 + k) (by omega) (by omega) (by omega), out (70 + k) (by omega) (by omega) (by omega)]
      exact h
    refine ⟨fun k hk => ?_, fun k h1 h2 => ⟨far k h2 (by omega) (ih2 k (by omega) h2).1, fun c => ?_⟩⟩
    · by_cases e : k = n
      · subst e
        obtain ⟨⟨a1, a2, a3, a4, a5, a6, ⟨a7, a8⟩, a9, a10⟩, a11⟩ := ih2 k (Nat.le_refl k) (by omega)
        have r1 : okV 10 (c_r1 tk k f (20 + k)) ∧ okV 100 (c_r1 tk k f (50 + k)) ∧ okV T (c_r1 tk k f (30 + k)) ∧ nC (c_r1 tk k f (30 + k)) ≤ nC (f (60 + k)) := by
          unfold c_r1
          by_cases c : c_in tk k = 1
          · rw [if_pos c]
            obtain ⟨b1, b2⟩ := a11 c
            obtain ⟨s1, s2⟩ := ok_s2 (m2 := T) a7 (by omega) (by have := a6.1; omega) (by omega)
            unfold c_rT
            simp (disch := omega) only [pk_us, pk_un]
            rw [s2]
            refine ⟨?_, a5, s1, by omega⟩
            obtain ⟨x, hx, ex⟩ := n_ex a3
            obtain ⟨y, hy, ey⟩ := n_ex hse.1
            rw [ex, ey] at b1
            have := (nI_ltI (a := x) (b := y) (by omega) (by omega)).mp b1
            rw [ex, nI_1]
            exact okV_nI (by omega) (by omega)
          · rw [if_neg c]
            unfold c_rN
            simp (disch := omega) only [pk_us, pk_un]
            exact ⟨ok_d a3 1 (by omega) (by omega), ok_d a5 1 (by omega) (by omega), a7, a8⟩
        obtain ⟨r1, r2, r3, r4⟩ := r1
        have r5 : okV 10 (c_r2 t k (c_r1 tk k f) (20 + k)) ∧ c_r2 t k (c_r1 tk k f) (50 + k) = c_r1 tk k f (50 + k) ∧ c_r2 t k (c_r1 tk k f) (30 + k) = c_r1 tk k f (30 + k) := by
          unfold c_r2
          split
          · rw [pk_us, pk_un (by omega), pk_un (by omega)]
            exact ⟨ok_d r1 8 (by omega) (by omega), rfl, rfl⟩
          · exact ⟨r1, rfl, rfl⟩
        unfold IH
        rw [out k (by omega) (by omega) (by omega), out (10 + k) (by omega) (by omega) (by omega), out (40 + k) (by omega) (by omega) (by omega), out (60 + k) (by omega) (by omega) (by omega), out (70 + k) (by omega) (by omega) (by omega), r5.2.1, r5.2.2]
        exact ⟨a1, a2, r5.1, a4, r2, a6, ⟨r3, r4⟩, a9, a10⟩
      · exact far k (by omega) e (ih1 k (by omega))
    · rw [out (20 + k) (by omega) (by omega) (by omega), out (30 + k) (by omega) (by omega) (by omega), out (60 + k) (by omega) (by omega) (by omega)]
      exact (ih2 k (by omega) h2).2 c
theorem shoe_H {T : Nat} {g : Nat → Int32} {f : Int32} (h0 : 0 < T) (hT : T < 2 ^ 29) (hf : okH f) {k : Nat} (hk : k < 10) (H : IH T g k) : IH T (c_shoe g f) k := by
  unfold c_shoe
  by_cases c : f = -5
  · rw [if_pos c]; exact H
  · rw [if_neg c]
    rcases hf with hf | ⟨hf, _⟩
    · exact absurd hf c
    · obtain ⟨a1, a2, a3, a4, a5, a6, ⟨a7, a8⟩, a9, a10⟩ := H
      have z0 : nC (0 : Int32) = 0 := by decide
      unfold IH
      by_cases e : k = nC f
      · subst e
        simp (disch := omega) only [pk_us, pk_un]
        exact ⟨a1, a2, a3, a4, a5, a6, ⟨okV_nI (n := 0) h0 (by omega), by rw [z0]; omega⟩, a9, a10⟩
      · simp (disch := omega) only [pk_un]
        exact ⟨a1, a2, a3, a4, a5, a6, ⟨a7, a8⟩, a9, a10⟩
theorem shoe_row {g : Nat → Int32} {f : Int32} {j : Nat} (hf : okH f) (hj : 40 ≤ j ∧ j < 80) : c_shoe g f j = g j := by
  unfold c_shoe
  split
  · rfl
  · rename_i c
    rcases hf with hf | ⟨hf, _⟩
    · exact absurd hf c
    · rw [pk_un (by omega), pk_un (by omega)]
theorem hour_I {q : c_S} (hI : INV q) (ht : q_ti q + 1 ≤ 10000) : INV (k_passHour1 q) ∧ ∃ m, m ≤ 40 ∧ sumF (q_ho (k_passHour1 q)) 60 10 = sumF (q_ho q) 60 10 + nI m := by
  have hL := LI_n hI (fa := c_far (q_se q) (q_ho q) (q_ti q)) (q_bc q) (Nat.le_refl _)
  obtain ⟨h1, h2, h3, h4, h5, h6, h7⟩ := hI
  have hbc := h1.1
  have okq : okS (q_ti q) q := ⟨h1.1, h1.2.1, Nat.le_refl _, h1.2.2.2⟩
  have ok1 := okS_hr okq
  have hfa := c_far_ok (q_se q) (q_ho q) (q_ti q)
  obtain ⟨l1, l2, l3, l4, ⟨m, hm, l5⟩, l6, l7, l8, l9⟩ := hL
  have row : ∀ b, 60 ≤ b → b + 10 ≤ 80 → sumF (q_ho (k_passHour1 q)) b 10 = sumF (c_gLL (q_se q) (c_far (q_se q) (q_ho q) (q_ti q)) (q_ti q) (q_ho q, q_ri q, q_fs q, q_fc q, q_bo q, 0, 0) (q_bc q)).1 b 10 := by
    intro b hb1 hb2
    refine sumF_cg 10 fun j hj => ?_
    show c_shoe (c_restL _ _ _ 10) (c_far _ _ _) (b + j) = _
    rw [shoe_row hfa (by omega), rest_row (by omega) 10 (Nat.le_refl 10)]
    rfl
  have hT : 40 * q_ti q + 1 + q_bc q ≤ 40 * (q_ti q + 1) + 1 := by omega
  refine ⟨⟨⟨ok1.1, ok1.2.1, by show q_ti q + 1 ≤ 10000; exact ht, ok1.2.2.2⟩, fun k hk => ?_, fun r hr => ?_, h4, ⟨?_, ?_, ?_⟩, ⟨fun j hj => ?_, fun i j hij hj => l9 i j hij hj⟩, l4⟩, m, by omega, by rw [row 60 (by omega) (by omega)]; exact l5⟩
  · show IH (40 * (q_ti q + 1) + 1) (c_shoe (c_restL _ _ _ 10) (c_far _ _ _)) k
    exact shoe_H (by omega) (by omega) hfa hk ((rest_H (by omega) h4 (HS_mono l1 hT) 10 (Nat.le_refl 10)).1 k hk)
  · exact IR_mono (l2 r hr) hT
  · rw [row 60 (by omega) (by omega)]; exact l3.1
  · rw [row 70 (by omega) (by omega)]; exact l3.2.1
  · exact l3.2.2
  · obtain ⟨s, s1, s2, s3, s4, s5⟩ := l8 j hj
    obtain ⟨⟨b1, b2⟩, b3, b4⟩ := h6.1 s s1
    refine ⟨⟨?_, ?_⟩, ?_, ?_⟩
    · show q_ti q + 1 ≤ nC _
      rw [show q_bo (k_passHour1 q) j = q_bo q s from s3]
      by_cases z : nC (q_bo q s) = q_ti q
      · refine absurd ?_ s2
        rw [b2.2, z]; rfl
      · omega
    · rw [show q_bo (k_passHour1 q) j = q_bo q s from s3]
      exact n_mono b2 (by show q_ti q + 100 ≤ q_ti q + 1 + 100; omega)
    · rw [show q_bo (k_passHour1 q) (40 + j) = q_bo q (40 + s) from s4]; exact b3
    · rw [show q_bo (k_passHour1 q) (80 + j) = q_bo q (80 + s) from s5]; exact b4
theorem pL_I {q : c_S} (hI : INV q) : ∀ n, q_ti q + n ≤ 10000 → INV (k_pL q n) ∧ q_ti (k_pL q n) = q_ti q + n ∧ ∃ m, m ≤ 40 * n ∧ sumF (q_ho (k_pL q n)) 60 10 = sumF (q_ho q) 60 10 + nI m
  | 0, _ => ⟨hI, rfl, 0, Nat.le_refl _, (Int32.add_zero _).symm⟩
  | n + 1, h => by
    obtain ⟨a1, a2, m, a3, a4⟩ := pL_I hI n (by omega)
    obtain ⟨b1, m2, b3, b4⟩ := hour_I a1 (by omega)
    refine ⟨b1, ?_, m + m2, by omega, ?_⟩
    · show q_ti (k_pL q n) + 1 = _
      omega
    · show sumF (q_ho (k_passHour1 (k_pL q n))) 60 10 = _
      rw [b4, a4, Int32.add_assoc, nI_add]
