/-! ===== a ride: what holds is kept ===== -/
theorem best_ok {se ho ri : Nat → Int32} {r : Nat} {fa tk : Int32} : ∀ n, n ≤ 10 → c_bestL se ho ri r fa tk n = -5 ∨ (okV n (c_bestL se ho ri r fa tk n) ∧ c_hind se ho ri (nC (c_bestL se ho ri r fa tk n)) r fa = 0 ∧ c_in tk (nC (c_bestL se ho ri r fa tk n)) = 0)
  | 0, _ => Or.inl rfl
  | n + 1, hn => by
    have ih := best_ok (se := se) (ho := ho) (ri := ri) (r := r) (fa := fa) (tk := tk) n (by omega)
    unfold c_bestL
    generalize c_bestL se ho ri r fa tk n = f at ih ⊢
    unfold c_bestS
    have up : f = -5 ∨ (okV (n + 1) f ∧ c_hind se ho ri (nC f) r fa = 0 ∧ c_in tk (nC f) = 0) := ih.imp_right (fun h => ⟨n_mono h.1 (by omega), h.2⟩)
    by_cases c1 : c_in tk n = 0
    · rw [if_neg (fun h => h c1)]
      by_cases c2 : c_hind se ho ri n r fa = 0
      · rw [if_neg (fun h => h c2)]
        have me : okV (n + 1) (nI n) ∧ c_hind se ho ri (nC (nI n)) r fa = 0 ∧ c_in tk (nC (nI n)) = 0 := by
          rw [nC_nI (by omega)]; exact ⟨okV_nI (by omega) (by omega), c2, c1⟩
        by_cases c3 : f = -5
        · rw [if_pos c3]; exact Or.inr me
        · rw [if_neg c3]
          by_cases c4 : c_better ho n (nC f) (c_abil ri r)
          · rw [if_pos c4]; exact Or.inr me
          · rw [if_neg c4]; exact up
      · rw [if_pos c2]; exact up
    · rw [if_pos c1]; exact up
theorem ok_s {m : Nat} {x : Int32} (h : okV m x) (hm : m < 2 ^ 30) : okV (m + 1) (x + 1) ∧ nC (x + 1) = nC x + 1 ∧ ¬ x + 1 = 0 := by
  obtain ⟨k, hk, rfl⟩ := n_ex h
  rw [nI_1, nC_nI (by omega), nC_nI (by omega)]
  refine ⟨okV_nI (by omega) (by omega), rfl, fun e => ?_⟩
  have := (nI_eq (a := k + 1) (b := 0) (by omega) (by omega)).mp e
  omega
theorem ok_s2 {m m2 : Nat} {x : Int32} (h : okV m x) (hm : m < 2 ^ 30) (h2 : nC x + 1 < m2) (hm2 : m2 < 2 ^ 30) : okV m2 (x + 1) ∧ nC (x + 1) = nC x + 1 := by
  obtain ⟨s1, s2, _⟩ := ok_s h hm
  exact ⟨⟨by omega, s1.2⟩, s2⟩
theorem ok_d {m : Nat} {x : Int32} (h : okV m x) (b : Nat) (hm : m ≤ 2 ^ 30) (hb : b < 2 ^ 30) : okV m (mxI 0 (x - nI b)) := by
  obtain ⟨k, hk, rfl⟩ := n_ex h
  rw [n_mx (by omega) hb]
  exact okV_nI (by omega) (by omega)
theorem IH_mono {T M : Nat} {ho : Nat → Int32} {h : Nat} (H : IH T ho h) (e : T ≤ M) : IH M ho h := by
  obtain ⟨a1, a2, a3, a4, a5, a6, ⟨a7, a8⟩, a9, a10⟩ := H
  exact ⟨a1, a2, a3, a4, a5, n_mono a6 e, ⟨n_mono a7 e, a8⟩, n_mono a9 e, a10⟩
theorem IR_mono {T M : Nat} {ri : Nat → Int32} {r : Nat} (H : IR T ri r) (e : T ≤ M) : IR M ri r := by
  obtain ⟨a1, a2, a3, a4, ⟨a5, a6⟩, ⟨a7, a8⟩, a9⟩ := H
  exact ⟨a1, a2, a3, n_mono a4 e, ⟨n_mono a5 e, a6⟩, ⟨n_mono a7 e, a8⟩, a9⟩
theorem st_ho1 {T : Nat} {ho : Nat → Int32} {h : Nat} (hT : T < 2 ^ 29) {k : Nat} (hh : h < 10) (hk : k < 10) (H : IH T ho k) : IH (T + 1) (c_ho1 ho h) k ∧ nC (c_ho1 ho h (60 + k)) = nC (ho (60 + k)) + (if k = h then 1 else 0) := by
  obtain ⟨a1, a2, a3, a4, a5, a6, ⟨a7, a8⟩, a9, a10⟩ := H
  unfold c_ho1 IH
  by_cases e : k = h
  · subst e
    obtain ⟨s1, s2, _⟩ := ok_s a6 (by omega)
    simp (disch := omega) only [pk_us, pk_un, if_true]
    rw [s2]
    exact ⟨⟨a1, a2, a3, a4, a5, s1, ⟨n_mono a7 (by omega), by omega⟩, n_mono a9 (by omega), by omega⟩, rfl⟩
  · simp (disch := omega) only [pk_un, if_neg e]
    exact ⟨⟨a1, a2, a3, a4, a5, n_mono a6 (by omega), ⟨n_mono a7 (by omega), a8⟩, n_mono a9 (by omega), a10⟩, rfl⟩
theorem st_fall {T : Nat} {g : Nat → Int32} {h : Nat} (hT : T < 2 ^ 29) {k : Nat} (hh : h < 10) (hk : k < 10) (hs : nC (g (70 + h)) < nC (g (60 + h))) (H : IH T g k) : IH T (c_fallHo g h) k := by
  obtain ⟨a1, a2, a3, a4, a5, a6, ⟨a7, a8⟩, a9, a10⟩ := H
  unfold c_fallHo IH
  by_cases e : k = h
  · subst e
    obtain ⟨s1, s2⟩ := ok_s2 (m2 := T) a9 (by omega) (by have := a6.1; omega) (by omega)
    simp (disch := omega) only [pk_us, pk_un]
    rw [s2]
    exact ⟨a1, a2, a3, a4, a5, a6, ⟨a7, a8⟩, s1, by omega⟩
  · simp (disch := omega) only [pk_un]
    exact ⟨a1, a2, a3, a4, a5, a6, ⟨a7, a8⟩, a9, a10⟩
theorem st_row {se g : Nat → Int32} {h j : Nat} {w : Int32} (hh : h < 10) (hj : j < 40 ∨ 60 ≤ j) : c_strain se g h w j = g j := by
  unfold c_strain c_str1
  split
  · split
    · exact pk_un (by omega)
    · rw [pk_un (by omega), pk_un (by omega), pk_un (by omega)]
  · rfl
theorem st_strain {T : Nat} {se g : Nat → Int32} {h : Nat} {w : Int32} {k : Nat} (hse : ISE se) (hh : h < 10) (hk : k < 10) (H : IH T g k) : IH T (c_strain se g h w) k := by
  obtain ⟨a1, a2, a3, a4, a5, a6, ⟨a7, a8⟩, a9, a10⟩ := H
  unfold IH
  rw [st_row (j := k) hh (by omega), st_row (j := 10 + k) hh (by omega), st_row (j := 20 + k) hh (by omega), st_row (j := 60 + k) hh (by omega), st_row (j := 30 + k) hh (by omega), st_row (j := 70 + k) hh (by omega)]
  refine ⟨a1, a2, a3, ?_, ?_, a6, ⟨a7, a8⟩, a9, a10⟩
  · unfold c_strain
    split
    · by_cases e : k = h
      · subst e
        have e1 : c_str1 g k (40 + k) = g (40 + k) + 1 := pk_us
        rcases n_str a4 with ⟨b1, _, b3⟩ | ⟨b1, _⟩
        · rw [if_pos (by rw [e1]; exact b1), e1]; exact b3
        · rw [if_neg (by rw [e1]; exact b1), pk_us]; exact okV_nI (n := 0) (by omega) (by omega)
      · unfold c_str1
        split
        · rw [pk_un (by omega)]; exact a4
        · rw [pk_un (by omega), pk_un (by omega), pk_un (by omega)]; exact a4
    · exact a4
  · unfold c_strain
    split
    · unfold c_str1
      split
      · rw [pk_un (by omega)]; exact a5
      · rw [pk_un (by omega)]
        by_cases e : k = h
        · subst e; rw [pk_us]; exact hse.2.1
        · rw [pk_un (by omega), pk_un (by omega)]; exact a5
    · exact a5
/-- horses among the lessons of an hour: those taken were fresh, and are taken once more than before -/
def HS (T : Nat) (ho : Nat → Int32) (tk : Int32) (se : Nat → Int32) : Prop := ∀ k, k < 10 → IH T ho k ∧ (c_in tk k = 1 → ho (20 + k) < se 0 ∧ nC (ho (30 + k)) < nC (ho (60 + k)))
theorem ride_H {T : Nat} {se ho ri fs : Nat → Int32} {fc t r : Nat} {f tk : Int32} (hT : T < 2 ^ 28) (hse : ISE se) (H : HS T ho tk se) (hf : okV 10 f) (ht : ho (20 + nC f) < se 0) : HS (T + 1) (c_ride se ho ri fs fc t r f).1 (tk ||| ((1 : Int32) <<< (f &&& 31))) se := by
  have hh := hf.1
  intro k hk
  obtain ⟨H1, H2⟩ := H k hk
  obtain ⟨S1, S2⟩ := st_ho1 (h := nC f) (by omega) hh hk H1
  have key : ∀ g : Nat → Int32, ∀ w : Int32, IH (T + 1) g k → g (20 + k) = ho (20 + k) → g (30 + k) = ho (30 + k) → g (60 + k) = c_ho1 ho (nC f) (60 + k) → IH (T + 1) (c_strain se g (nC f) w) k ∧ (c_in (tk ||| ((1 : Int32) <<< (f &&& 31))) k = 1 → c_strain se g (nC f) w (20 + k) < se 0 ∧ nC (c_strain se g (nC f) w (30 + k)) < nC (c_strain se g (nC f) w (60 + k))) := by
    intro g w hg e1 e2 e3
    refine ⟨st_strain hse hh hk hg, fun hc => ?_⟩
    rw [st_row hh (by omega), st_row hh (by omega), st_row hh (by omega), e1, e2, e3, S2]
    rw [hf.2, b_orin (by omega) (by omega)] at hc
    by_cases e : k = nC f
    · rw [if_pos e]
      refine ⟨by rw [e]; exact ht, ?_⟩
      have := H1.2.2.2.2.2.2.1.2
      omega
    · rw [if_neg e] at hc ⊢
      exact ⟨(H2 hc).1, by have := (H2 hc).2; omega⟩
  unfold c_ride
  split
  · refine key (c_fallHo (c_ho1 ho (nC f)) (nC f)) _ ?_ ?_ ?_ ?_
    · refine st_fall (by omega) hh hk ?_ S1
      obtain ⟨F1, _⟩ := H (nC f) hh
      obtain ⟨_, F2⟩ := st_ho1 (h := nC f) (by omega) hh hh F1
      rw [F2, if_pos rfl]
      unfold c_ho1
      rw [pk_un (by omega)]
      have := F1.2.2.2.2.2.2.2.2
      omega
    · unfold c_fallHo c_ho1; rw [pk_un (by omega), pk_un (by omega)]
    · unfold c_fallHo c_ho1; rw [pk_un (by omega), pk_un (by omega)]
    · unfold c_fallHo; rw [pk_un (by omega)]
  · refine key (c_ho1 ho (nC f)) _ S1 ?_ ?_ rfl
    · unfold c_ho1; rw [pk_un (by omega)]
    · unfold c_ho1; rw [pk_un (by omega)]
theorem ride_R {T : Nat} {se ho ri fs : Nat → Int32} {fc t r : Nat} {f : Int32} (hT : T < 2 ^ 28) (hr : r < 12) (hf : ¬ f = -5) {k : Nat} (hk : k < 12) (H : IR T ri k) : IR (T + 1) (c_ride se ho ri fs fc t r f).2.1 k := by
  obtain ⟨a1, a2, a3, a4, ⟨a5, a6⟩, ⟨a7, a8⟩, a9⟩ := H
  obtain ⟨s1, s2, s3⟩ := ok_s a4 (by omega)
  unfold c_ride
  split
  · show IR (T + 1) (c_fallRi (c_ri2 ri r f) r) k
    unfold c_fallRi c_ri2 IR
    by_cases e : k = r
    · subst e
      obtain ⟨u1, u2, _⟩ := ok_s a7 (by omega)
      simp (disch := omega) only [pk_us, pk_un]
      rw [s2, u2]
      have z0 : nC (0 : Int32) = 0 := by decide
      refine ⟨a1, a2, ?_, s1, ⟨okV_nI (n := 0) (by omega) (by omega), by rw [z0]; omega⟩, ⟨u1, by omega⟩, fun q => absurd q hf, fun q => absurd q s3⟩
      rw [(n_fearU a3).1]; exact (n_fearU a3).2
    · simp (disch := omega) only [pk_un]
      exact ⟨a1, a2, a3, n_mono a4 (by omega), ⟨n_mono a5 (by omega), a6⟩, ⟨n_mono a7 (by omega), a8⟩, a9⟩
  · show IR (T + 1) (c_learn (c_ri2 ri r f) r) k
    have L1 : IR (T + 1) (c_lea1 (c_ri2 ri r f) r) k ∧ (c_lea1 (c_ri2 ri r f) r) (12 + k) = ri (12 + k) := by
      unfold c_lea1 c_ri2 IR
      by_cases e : k = r
      · subst e
        obtain ⟨u1, u2, _⟩ := ok_s a5 (by omega)
        simp (disch := omega) only [pk_us, pk_un]
        rw [s2, u2]
        refine ⟨⟨a1, a2, ?_, s1, ⟨u1, by omega⟩, ⟨n_mono a7 (by omega), by omega⟩, fun q => absurd q hf, fun q => absurd q s3⟩, trivial⟩
        rw [(n_fearD a3).1]; exact (n_fearD a3).2
      · simp (disch := omega) only [pk_un]
        exact ⟨⟨a1, a2, a3, n_mono a4 (by omega), ⟨n_mono a5 (by omega), a6⟩, ⟨n_mono a7 (by omega), a8⟩, a9⟩, trivial⟩
    unfold c_learn
    obtain ⟨L1, L2⟩ := L1
    generalize c_lea1 (c_ri2 ri r f) r = g at L1 L2 ⊢
    split
    · obtain ⟨b1, b2, b3, b4, ⟨b5, b6⟩, ⟨b7, b8⟩, b9⟩ := L1
      unfold IR
      by_cases e : k = r
      · subst e
        simp (disch := omega) only [pk_us, pk_un]
        refine ⟨b1, ?_, b3, b4, ⟨b5, b6⟩, ⟨b7, b8⟩, b9⟩
        rw [(n_fearU b2).1]; exact (n_fearU b2).2
      · simp (disch := omega) only [pk_un]
        exact ⟨b1, b2, b3, b4, ⟨b5, b6⟩, ⟨b7, b8⟩, b9⟩
    · exact L1
theorem str_sum {se g : Nat → Int32} {h b : Nat} {w : Int32} (hh : h < 10) (hb : 60 ≤ b) : sumF (c_strain se g h w) b 10 = sumF g b 10 := sumF_cg 10 fun j _ => st_row hh (by omega)
theorem ride_U {se ho ri fs : Nat → Int32} {fc t r : Nat} {f : Int32} (hh : nC f < 10) (hr : r < 12) (H : ISU ho ri fc) : ISU (c_ride se ho ri fs fc t r f).1 (c_ride se ho ri fs fc t r f).2.1 (c_ride se ho ri fs fc t r f).2.2.2 ∧ sumF (c_ride se ho ri fs fc t r f).1 60 10 = sumF ho 60 10 + 1 := by
  obtain ⟨h1, h2, h3⟩ := H
  have p1 : sumF (c_ho1 ho (nC f)) 60 10 = sumF ho 60 10 + 1 := sumF_in 10 (by omega) (by omega)
  have p2 : sumF (c_ho1 ho (nC f)) 70 10 = sumF ho 70 10 := sumF_out (by omega)
  have p3 : sumF (c_ri2 ri r f) 60 12 = sumF ri 60 12 + 1 := by
    unfold c_ri2
    rw [sumF_out (by omega)]
    exact sumF_in 12 (by omega) (by omega)
  have p4 : sumF (c_ri2 ri r f) 72 12 = sumF ri 72 12 := by
    unfold c_ri2
    rw [sumF_out (by omega), sumF_out (by omega)]
  unfold c_ride
  split
  · show ISU (c_strain se (c_fallHo (c_ho1 ho (nC f)) (nC f)) (nC f) _) (c_fallRi (c_ri2 ri r f) r) (fc + 1) ∧ sumF (c_strain se (c_fallHo (c_ho1 ho (nC f)) (nC f)) (nC f) _) 60 10 = _
    unfold ISU
    rw [str_sum hh (by omega), str_sum hh (by omega)]
    have q1 : sumF (c_fallHo (c_ho1 ho (nC f)) (nC f)) 60 10 = sumF ho 60 10 + 1 := by
      unfold c_fallHo; rw [sumF_out (by omega), p1]
    have q2 : sumF (c_fallHo (c_ho1 ho (nC f)) (nC f)) 70 10 = sumF ho 70 10 + 1 := by
      unfold c_fallHo; rw [sumF_in 10 (by omega) (by omega), p2]
    have q3 : sumF (c_fallRi (c_ri2 ri r f) r) 60 12 = sumF ri 60 12 + 1 := by
      unfold c_fallRi
      rw [sumF_out (by omega), sumF_out (by omega), sumF_out (by omega), p3]
    have q4 : sumF (c_fallRi (c_ri2 ri r f) r) 72 12 = sumF ri 72 12 + 1 := by
      unfold c_fallRi
      show sumF (upd _ (72 + r) (_ + 1)) 72 12 = _
      rw [sumF_in 12 (by omega) (by omega), sumF_out (by omega), sumF_out (by omega), p4]
    rw [q1, q2, q3, q4, h1, h2, h3, nI_1]
    exact ⟨⟨rfl, rfl, rfl⟩, rfl⟩
  · show ISU (c_strain se (c_ho1 ho (nC f)) (nC f) _) (c_learn (c_ri2 ri r f) r) fc ∧ sumF (c_strain se (c_ho1 ho (nC f)) (nC f) _) 60 10 = _
    unfold ISU
    have w : ∀ b, 60 ≤ b → sumF (c_learn (c_ri2 ri r f) r) b 12 = sumF (c_ri2 ri r f) b 12 := by
      intro b hb
      have l1 : sumF (c_lea1 (c_ri2 ri r f) r) b 12 = sumF (c_ri2 ri r f) b 12 := by
        unfold c_lea1
        rw [sumF_out (by omega), sumF_out (by omega)]
      unfold c_learn
      split
      · rw [sumF_out (by omega), l1]
      · exact l1
    rw [str_sum hh (by omega), str_sum hh (by omega), w 60 (by omega), w 72 (by omega), p1, p2, p3, p4, h1]
    exact ⟨⟨rfl, h2, h3⟩, rfl⟩
theorem fall_A {fs : Nat → Int32} {fc t r h : Nat} (ht : t + 1 < 2 ^ 31) (H : IFA fs fc (t + 1)) : IFA (c_fallFs fs fc t r h) (fc + 1) (t + 1) := by
  have new : c_fallFs fs fc t r h (fc % 20) = nI t := by
    unfold c_fallFs
    rw [pk_un (by omega), pk_un (by omega), pk_us]
  have old : ∀ i, i < 20 → i ≠ fc % 20 → c_fallFs fs fc t r h i = fs i := by
    intro i hi he
    unfold c_fallFs
    rw [pk_un (by omega), pk_un (by omega), pk_un he]
  have ix : ∀ k, k < min (fc + 1) 20 → c_fallFs fs fc t r h ((fc + 1 - 1 - k) % 20) = if k = 0 then nI t else fs ((fc - 1 - (k - 1)) % 20) := by
    intro k hk
    by_cases e : k = 0
    · subst e; rw [if_pos rfl]; exact new
    · rw [if_neg e, show fc + 1 - 1 - k = fc - 1 - (k - 1) by omega]
      exact old _ (by omega) (by omega)
  refine ⟨fun k hk => ?_, fun k hk => ?_⟩
  · rw [ix k hk]
    by_cases e : k = 0
    · rw [if_pos e]; exact okV_nI (by omega) ht
    · rw [if_neg e]; exact H.1 (k - 1) (by omega)
  · rw [ix k (by omega), ix (k + 1) hk, if_neg (by omega)]
    by_cases e : k = 0
    · rw [if_pos e, nC_nI (by omega)]
      have := (H.1 (k + 1 - 1) (by omega)).1
      omega
    · rw [if_neg e]
      have := H.2 (k - 1) (by omega)
      rw [show k - 1 + 1 = k + 1 - 1 by omega] at this
      exact this
theorem ride_A {se ho ri fs : Nat → Int32} {fc t r : Nat} {f : Int32} (ht : t + 1 < 2 ^ 31) (H : IFA fs fc (t + 1)) : IFA (c_ride se ho ri fs fc t r f).2.2.1 (c_ride se ho ri fs fc t r f).2.2.2 (t + 1) := by
  unfold c_ride
  split
  · exact fall_A ht H
  · exact H
