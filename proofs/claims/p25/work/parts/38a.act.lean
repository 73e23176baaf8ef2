/-! ===== an act: refused, or done; what the law's calls want of it ===== -/
theorem INV_0 : INV i_q := by
  refine ⟨⟨Nat.zero_le _, fun j hj => absurd hj (Nat.not_lt_zero j), Nat.zero_le _, Nat.zero_le _⟩, ?_, ?_, ?_, ?_, ⟨fun j hj => absurd hj (Nat.not_lt_zero j), fun i j _ hj => absurd hj (Nat.not_lt_zero j)⟩, ⟨fun k hk => absurd (show k < min 0 20 from hk) (by omega), fun k hk => absurd (show k + 1 < min 0 20 from hk) (by omega)⟩⟩
  · exact (by unfold IH okV; decide +kernel : ∀ h, h < 10 → IH 1 (i_ho 10) h)
  · exact (by unfold IR okV; decide +kernel : ∀ r, r < 12 → IR 1 (i_ri 12) r)
  · exact (by unfold ISE okV; decide +kernel : ISE (i_se 5))
  · exact (by unfold ISU; decide +kernel : ISU (i_ho 10) (i_ri 12) 0)
/-- an act that is refused, or done, whatever the history holds -/
def ACT (now : c_S) (F : (Nat → c_S) → Nat → Nat → k_R) : Prop := (∃ r : Int32, r < 0 ∧ ∀ hs nx sz, F hs nx sz = k_no now hs nx sz r) ∨ (∃ (r : Int32) (q : c_S), ¬ r < 0 ∧ INV q ∧ ∀ hs nx sz, F hs nx sz = k_act now q hs nx sz r)
theorem ACT_cg {now : c_S} {F K : (Nat → c_S) → Nat → Nat → k_R} (h : ∀ hs nx sz, F hs nx sz = K hs nx sz) (H : ACT now K) : ACT now F := by
  rcases H with ⟨r, hr, e⟩ | ⟨r, q, hr, hq, e⟩
  · exact Or.inl ⟨r, hr, fun hs nx sz => (h hs nx sz).trans (e hs nx sz)⟩
  · exact Or.inr ⟨r, q, hr, hq, fun hs nx sz => (h hs nx sz).trans (e hs nx sz)⟩
theorem ACT_no {now : c_S} {F : (Nat → c_S) → Nat → Nat → k_R} (r : Int32) (hr : r < 0) (h : ∀ hs nx sz, F hs nx sz = k_no now hs nx sz r) : ACT now F := Or.inl ⟨r, hr, h⟩
theorem ACT_ok {now : c_S} {F : (Nat → c_S) → Nat → Nat → k_R} (r : Int32) (q : c_S) (hr : ¬ r < 0) (hq : INV q) (h : ∀ hs nx sz, F hs nx sz = k_act now q hs nx sz r) : ACT now F := Or.inr ⟨r, q, hr, hq, h⟩
theorem INV_horse {q : c_S} {h : Nat} {v w : Int32} (hh : h < 10) (hv : okV 151 v) (hw : okV 10 w) (hI : INV q) : INV (k_changeHorse q h v w) := by
  obtain ⟨h1, h2, h3, h4, h5, h6, h7⟩ := hI
  refine ⟨h1, fun k hk => ?_, h3, h4, ?_, h6, h7⟩
  · obtain ⟨a1, a2, a3, a4, a5, a6, ⟨a7, a8⟩, a9, a10⟩ := h2 k hk
    show IH (40 * q_ti q + 1) (upd (upd (q_ho q) h v) (10 + h) w) k
    unfold IH
    by_cases e : k = h
    · subst e
      simp (disch := omega) only [pk_us, pk_un]
      exact ⟨hv, hw, a3, a4, a5, a6, ⟨a7, a8⟩, a9, a10⟩
    · simp (disch := omega) only [pk_un]
      exact ⟨a1, a2, a3, a4, a5, a6, ⟨a7, a8⟩, a9, a10⟩
  · show ISU (upd (upd (q_ho q) h v) (10 + h) w) (q_ri q) (q_fc q)
    unfold ISU
    rw [sumF_out (by omega), sumF_out (by omega), sumF_out (by omega), sumF_out (by omega)]
    exact h5
theorem INV_rider {q : c_S} {r : Nat} {v w : Int32} (hr : r < 12) (hv : okV 151 v) (hw : okV 10 w) (hI : INV q) : INV (k_changeRider q r v w) := by
  obtain ⟨h1, h2, h3, h4, h5, h6, h7⟩ := hI
  refine ⟨h1, h2, fun k hk => ?_, h4, ?_, h6, h7⟩
  · obtain ⟨a1, a2, a3, a4, ⟨a5, a6⟩, ⟨a7, a8⟩, a9⟩ := h3 k hk
    have hti := h1.2.2.1
    have z0 : nC (0 : Int32) = 0 := by decide
    show IR (40 * q_ti q + 1) (upd (upd (upd (upd (q_ri q) r v) (12 + r) w) (24 + r) 0) (48 + r) 0) k
    unfold IR
    by_cases e : k = r
    · subst e
      simp (disch := omega) only [pk_us, pk_un]
      exact ⟨hv, hw, okV_nI (n := 0) (by omega) (by omega), a4, ⟨okV_nI (n := 0) (by omega) (by omega), by rw [z0]; omega⟩, ⟨a7, a8⟩, a9⟩
    · simp (disch := omega) only [pk_un]
      exact ⟨a1, a2, a3, a4, ⟨a5, a6⟩, ⟨a7, a8⟩, a9⟩
  · show ISU (q_ho q) (upd (upd (upd (upd (q_ri q) r v) (12 + r) w) (24 + r) 0) (48 + r) 0) (q_fc q)
    unfold ISU
    have z : ∀ b, 60 ≤ b → sumF (upd (upd (upd (upd (q_ri q) r v) (12 + r) w) (24 + r) 0) (48 + r) 0) b 12 = sumF (q_ri q) b 12 := fun b hb => by
      rw [sumF_out (by omega), sumF_out (by omega), sumF_out (by omega), sumF_out (by omega)]
    rw [z 60 (by omega), z 72 (by omega)]
    exact h5
theorem se_nn {se : Nat → Int32} (h : ISE se) {w : Nat} (hw : w < 5) : ¬ se w < 0 := by
  obtain ⟨a0, a3, a4, _, a1, a2⟩ := h
  rcases (by omega : w = 0 ∨ w = 1 ∨ w = 2 ∨ w = 3 ∨ w = 4) with rfl | rfl | rfl | rfl | rfl
  · exact ok_nn a0 (by omega)
  · exact ok_nn a1 (by omega)
  · exact ok_nn a2 (by omega)
  · exact ok_nn a3 (by omega)
  · exact ok_nn a4 (by omega)
theorem INV_set {q : c_S} {w : Nat} {v : Int32} (hw : w < 5) (hv : ¬ k_out v (sT 1 w) (sT 2 w)) (hI : INV q) : INV (k_changeSetting q w v) := by
  obtain ⟨h1, h2, h3, ⟨a0, a3, a4, a5, a1, a2⟩, h5, h6, h7⟩ := hI
  refine ⟨h1, h2, h3, ?_, h5, h6, h7⟩
  show ISE (upd (q_se q) w v)
  unfold ISE
  rcases (by omega : w = 0 ∨ w = 1 ∨ w = 2 ∨ w = 3 ∨ w = 4) with rfl | rfl | rfl | rfl | rfl
  · have b := g_out2 (x := v) (lo := 1) (n := 9) (by omega) (by omega) hv
    simp (disch := omega) only [pk_us, pk_un]
    exact ⟨b.2, a3, a4, a5, a1, a2⟩
  · have b := g_out2 (x := v) (lo := 1) (n := 99) (by omega) (by omega) hv
    simp (disch := omega) only [pk_us, pk_un]
    exact ⟨a0, a3, a4, a5, b.2, a2⟩
  · have b := g_out2 (x := v) (lo := 0) (n := 50) (by omega) (by omega) hv
    simp (disch := omega) only [pk_us, pk_un]
    exact ⟨a0, a3, a4, a5, a1, n_mono b.2 (by omega)⟩
  · have b := g_out2 (x := v) (lo := 1) (n := 99) (by omega) (by omega) hv
    simp (disch := omega) only [pk_us, pk_un]
    exact ⟨a0, b.2, a4, a5, a1, a2⟩
  · have b := g_out2 (x := v) (lo := 1) (n := 9) (by omega) (by omega) hv
    simp (disch := omega) only [pk_us, pk_un]
    exact ⟨a0, a3, b.2, (ok_p b.2 (by omega)).mpr (by omega), a1, a2⟩
theorem findR_none {bo : Nat → Int32} {tm r : Int32} : ∀ n i, i + n < 2 ^ 31 → c_findR bo tm r n i = -5 → ∀ j, i ≤ j → j < i + n → ¬ (bo j = tm ∧ bo (80 + j) = r)
  | 0, i, _, _, j, h1, h2 => absurd h2 (by omega)
  | n + 1, i, hn, h, j, h1, h2 => by
    unfold c_findR at h
    by_cases c : bo i = tm
    · rw [if_pos c] at h
      by_cases d : bo (80 + i) = r
      · rw [if_pos d] at h
        have := nI_pos (n := i) (by omega)
        rw [h] at this
        exact absurd (by decide) this
      · rw [if_neg d] at h
        by_cases e : j = i
        · subst e; exact fun z => d z.2
        · exact findR_none n (i + 1) (by omega) h j (by omega) (by omega)
    · rw [if_neg c] at h
      by_cases e : j = i
      · subst e; exact fun z => c z.1
      · exact findR_none n (i + 1) (by omega) h j (by omega) (by omega)
theorem bf_nn {bo : Nat → Int32} {tm rg : Int32} : ∀ n, n < 2 ^ 30 → ∃ m, m ≤ n ∧ c_bf bo tm rg n = nI m
  | 0, _ => ⟨0, Nat.le_refl 0, rfl⟩
  | n + 1, h => by
    obtain ⟨m, hm, e⟩ := bf_nn (bo := bo) (tm := tm) (rg := rg) n (by omega)
    unfold c_bf
    by_cases c : c_isBR bo tm rg n
    · exact ⟨m + 1, by omega, by rw [e, bI_t c, nI_1]⟩
    · exact ⟨m, by omega, by rw [e, bI_f c, Int32.add_zero]⟩
theorem INV_add {q : c_S} {h g r : Nat} (hh : h < 100) (hg : g < 3) (hr : r < 12) (hb : q_bc q < 40) (hn : c_find (q_bo q) (q_bc q) (nI (q_ti q + h)) (nI r) = -5) (hI : INV q) : INV (k_addBooking q h (nI g) (nI r)) := by
  obtain ⟨h1, h2, h3, h4, h5, ⟨h6, h8⟩, h7⟩ := hI
  have hti := h1.2.2.1
  have none := findR_none (q_bc q) 0 (by omega) hn
  have old : ∀ j, j < q_bc q → q_bo (k_addBooking q h (nI g) (nI r)) j = q_bo q j ∧ q_bo (k_addBooking q h (nI g) (nI r)) (40 + j) = q_bo q (40 + j) ∧ q_bo (k_addBooking q h (nI g) (nI r)) (80 + j) = q_bo q (80 + j) := by
    intro j hj
    show c_addB _ _ _ _ _ j = _ ∧ c_addB _ _ _ _ _ (40 + j) = _ ∧ c_addB _ _ _ _ _ (80 + j) = _
    unfold c_addB
    refine ⟨?_, ?_, ?_⟩
    · rw [pk_un (by omega), pk_un (by omega), pk_un (by omega)]
    · rw [pk_un (by omega), pk_un (by omega), pk_un (by omega)]
    · rw [pk_un (by omega), pk_un (by omega), pk_un (by omega)]
  have new : q_bo (k_addBooking q h (nI g) (nI r)) (q_bc q) = nI (q_ti q + h) ∧ q_bo (k_addBooking q h (nI g) (nI r)) (40 + q_bc q) = nI g ∧ q_bo (k_addBooking q h (nI g) (nI r)) (80 + q_bc q) = nI r := by
    show c_addB _ _ _ _ _ _ = _ ∧ c_addB _ _ _ _ _ _ = _ ∧ c_addB _ _ _ _ _ _ = _
    unfold c_addB
    refine ⟨?_, ?_, ?_⟩
    · rw [pk_un (by omega), pk_un (by omega), pk_us]
    · rw [pk_un (by omega), pk_us]
    · rw [pk_us]
  have okr : okR (nI r) := by unfold okR; rw [nC_nI (by omega)]; exact ⟨hr, rfl⟩
  refine ⟨⟨by show q_bc q + 1 ≤ 40; omega, fun j hj => ?_, h1.2.2.1, h1.2.2.2⟩, h2, h3, h4, h5, ⟨fun j hj => ?_, fun i j hij hj => ?_⟩, h7⟩
  · have hj : j < q_bc q + 1 := hj
    by_cases e : j = q_bc q
    · subst e; rw [new.2.2]; exact okr
    · rw [(old j (by omega)).2.2]; exact h1.2.1 j (by omega)
  · have hj : j < q_bc q + 1 := hj
    show (q_ti q ≤ _ ∧ okV (q_ti q + 100) _) ∧ _ ∧ _
    by_cases e : j = q_bc q
    · subst e
      rw [new.1, new.2.1, new.2.2, nC_nI (by omega)]
      exact ⟨⟨by omega, okV_nI (by omega) (by omega)⟩, okV_nI hg (by omega), okr⟩
    · obtain ⟨o1, o2, o3⟩ := old j (by omega)
      rw [o1, o2, o3]; exact h6 j (by omega)
  · have hj : j < q_bc q + 1 := hj
    obtain ⟨o1, _, o3⟩ := old i (by omega)
    rw [o1, o3]
    by_cases e : j = q_bc q
    · subst e
      rw [new.1, new.2.2]
      exact none i (Nat.zero_le i) (by omega)
    · obtain ⟨p1, _, p3⟩ := old j (by omega)
      rw [p1, p3]
      exact h8 i j hij (by omega)
theorem INV_rm {q : c_S} {b : Nat} (hb : b < q_bc q) (hI : INV q) : INV (k_removeBooking q b) := by
  obtain ⟨h1, h2, h3, h4, h5, ⟨h6, h8⟩, h7⟩ := hI
  have hbc := h1.1
  have R := rmR_at (q_bc q - (b + 1)) (b + 1) (q_bo q) (by omega) (by omega)
  have f0 : ∀ j, j < q_bc q - 1 → q_bo (k_removeBooking q b) j = q_bo q (if j < b then j else j + 1) ∧ q_bo (k_removeBooking q b) (40 + j) = q_bo q (40 + (if j < b then j else j + 1)) ∧ q_bo (k_removeBooking q b) (80 + j) = q_bo q (80 + (if j < b then j else j + 1)) := by
    intro j hj
    obtain ⟨e1, e2, e3⟩ := R j (by omega)
    show c_rmR _ _ _ j = _ ∧ c_rmR _ _ _ (40 + j) = _ ∧ c_rmR _ _ _ (80 + j) = _
    rw [e1, e2, e3]
    by_cases c : j < b
    · rw [if_pos c, if_neg (by omega), if_neg (by omega), if_neg (by omega)]
      exact ⟨rfl, rfl, rfl⟩
    · rw [if_neg c, if_pos (by omega), if_pos (by omega), if_pos (by omega)]
      exact ⟨rfl, rfl, rfl⟩
  have sg : ∀ j, j < q_bc q - 1 → (if j < b then j else j + 1) < q_bc q := fun j hj => by split <;> omega
  refine ⟨⟨by show q_bc q - 1 ≤ 40; omega, fun j hj => ?_, h1.2.2.1, h1.2.2.2⟩, h2, h3, h4, h5, ⟨fun j hj => ?_, fun i j hij hj => ?_⟩, h7⟩
  · have hj : j < q_bc q - 1 := hj
    rw [(f0 j hj).2.2]; exact h1.2.1 _ (sg j hj)
  · have hj : j < q_bc q - 1 := hj
    obtain ⟨o1, o2, o3⟩ := f0 j hj
    rw [o1, o2, o3]; exact h6 _ (sg j hj)
  · have hj : j < q_bc q - 1 := hj
    obtain ⟨o1, _, o3⟩ := f0 i (by omega)
    obtain ⟨p1, _, p3⟩ := f0 j hj
    rw [o1, o3, p1, p3]
    exact h8 _ _ (by split <;> split <;> omega) (sg j hj)
theorem A_setHorse {now : c_S} (hI : INV now) (h st te : Int32) : ACT now (fun hs nx sz => kX_setHorse now hs nx sz h st te) := by
  by_cases c1 : k_out h 0 9
  · exact ACT_no (-1) (by decide) fun hs nx sz => by unfold kX_setHorse; rw [if_pos c1]
  by_cases c2 : k_out st 20 150
  · exact ACT_no (-2) (by decide) fun hs nx sz => by unfold kX_setHorse; rw [if_neg c1, if_pos c2]
  by_cases c3 : k_out te 0 9
  · exact ACT_no (-2) (by decide) fun hs nx sz => by unfold kX_setHorse; rw [if_neg c1, if_neg c2, if_pos c3]
  have b1 := g_out (x := h) (n := 9) (by decide) c1
  have b2 := g_out2 (x := st) (lo := 20) (n := 150) (by decide) (by decide) c2
  have b3 := g_out (x := te) (n := 9) (by decide) c3
  have hq := INV_horse (v := st) (w := te) b1.1 b2.2 b3 hI
  have hn := ok_nn (hI.2.1 (nC h) b1.1).1 (by omega)
  by_cases c4 : q_ho now (nC h) = st
  · by_cases c5 : q_ho now (10 + nC h) = te
    · exact ACT_no (-5) (by decide) fun hs nx sz => by unfold kX_setHorse; rw [if_neg c1, if_neg c2, if_neg c3, if_pos c4, if_pos c5]
    · exact ACT_ok _ _ hn hq fun hs nx sz => by unfold kX_setHorse; rw [if_neg c1, if_neg c2, if_neg c3, if_pos c4, if_neg c5]
  · exact ACT_ok _ _ hn hq fun hs nx sz => by unfold kX_setHorse; rw [if_neg c1, if_neg c2, if_neg c3, if_neg c4]
theorem A_setRider {now : c_S} (hI : INV now) (r w k : Int32) : ACT now (fun hs nx sz => kX_setRider now hs nx sz r w k) := by
  by_cases c1 : k_out r 0 11
  · exact ACT_no (-1) (by decide) fun hs nx sz => by unfold kX_setRider; rw [if_pos c1]
  by_cases c2 : k_out w 20 150
  · exact ACT_no (-2) (by decide) fun hs nx sz => by unfold kX_setRider; rw [if_neg c1, if_pos c2]
  by_cases c3 : k_out k 0 9
  · exact ACT_no (-2) (by decide) fun hs nx sz => by unfold kX_setRider; rw [if_neg c1, if_neg c2, if_pos c3]
  have b1 := g_out (x := r) (n := 11) (by decide) c1
  have b2 := g_out2 (x := w) (lo := 20) (n := 150) (by decide) (by decide) c2
  have b3 := g_out (x := k) (n := 9) (by decide) c3
  have hq := INV_rider (v := w) (w := k) b1.1 b2.2 b3 hI
  have e : c_ofRid (q_ri now) (q_bo now) (q_bc now) (nC r) 0 = q_ri now (nC r) := by
    unfold c_ofRid; rw [if_neg (by omega), if_neg (by omega)]; congr 1; omega
  have hn := ok_nn (hI.2.2.1 (nC r) b1.1).1 (by omega)
  exact ACT_ok (c_ofRid (q_ri now) (q_bo now) (q_bc now) (nC r) 0) _ (by rw [e]; exact hn) hq fun hs nx sz => by unfold kX_setRider; rw [if_neg c1, if_neg c2, if_neg c3]
theorem A_set {now : c_S} (hI : INV now) (w v : Int32) : ACT now (fun hs nx sz => kX_set now hs nx sz w v) := by
  by_cases c1 : k_out w 0 4
  · exact ACT_no (-1) (by decide) fun hs nx sz => by unfold kX_set; rw [if_pos c1]
  by_cases c2 : k_out v (sT 1 (nC w)) (sT 2 (nC w))
  · exact ACT_no (-2) (by decide) fun hs nx sz => by unfold kX_set; rw [if_neg c1, if_pos c2]
  have b1 := g_out (x := w) (n := 4) (by decide) c1
  by_cases c3 : q_se now (nC w) = v
  · exact ACT_no (-5) (by decide) fun hs nx sz => by unfold kX_set; rw [if_neg c1, if_neg c2, if_pos c3]
  · exact ACT_ok _ _ (se_nn hI.2.2.2.1 b1.1) (INV_set b1.1 c2 hI) fun hs nx sz => by unfold kX_set; rw [if_neg c1, if_neg c2, if_neg c3]
theorem A_book {now : c_S} (hI : INV now) (h g r : Int32) : ACT now (fun hs nx sz => kX_book now hs nx sz h g r) := by
  by_cases c1 : k_out g 0 2
  · exact ACT_no (-1) (by decide) fun hs nx sz => by unfold kX_book; rw [if_pos c1]
  by_cases c2 : k_out r 0 11
  · exact ACT_no (-1) (by decide) fun hs nx sz => by unfold kX_book; rw [if_neg c1, if_pos c2]
  by_cases c3 : k_out h 0 99
  · exact ACT_no (-2) (by decide) fun hs nx sz => by unfold kX_book; rw [if_neg c1, if_neg c2, if_pos c3]
  have b1 := g_out (x := g) (n := 2) (by decide) c1
  have b2 := g_out (x := r) (n := 11) (by decide) c2
  have b3 := g_out (x := h) (n := 99) (by decide) c3
  by_cases c4 : k_err now (nC h) (nC g) (nC r) = 0
  · have hb : q_bc now < 40 := k_err_lt c4
    have hn : c_find (q_bo now) (q_bc now) (nI (q_ti now + nC h)) (nI (nC r)) = -5 := by
      unfold k_err c_bErr at c4
      by_cases z : c_find (q_bo now) (q_bc now) (nI (q_ti now + nC h)) (nI (nC r)) = -5
      · exact z
      · rw [if_neg z] at c4; exact absurd c4 (by decide)
    have hq := INV_add b3.1 b1.1 b2.1 hb hn hI
    rw [← b1.2, ← b2.2] at hq
    refine ACT_ok _ _ ?_ hq fun hs nx sz => by unfold kX_book; rw [if_neg c1, if_neg c2, if_neg c3, if_pos c4]
    obtain ⟨m, hm, e⟩ := bf_nn (bo := q_bo (k_addBooking now (nC h) g r)) (tm := nI (q_ti (k_addBooking now (nC h) g r) + nC h)) (rg := nI (nC g)) (q_bc (k_addBooking now (nC h) g r)) (by have := hq.1.1; omega)
    rw [e]
    exact nI_pos (by have := hq.1.1; omega)
  · have hn : k_err now (nC h) (nC g) (nC r) < 0 := by
      unfold k_err c_bErr at c4 ⊢
      split
      · rename_i z1
        rw [if_pos z1] at c4
        split
        · rename_i z2
          rw [if_pos z2] at c4
          split
          · rename_i z3
            rw [if_pos z3] at c4
            exact absurd rfl c4
          · decide
        · decide
      · decide
    exact ACT_no _ hn fun hs nx sz => by unfold kX_book; rw [if_neg c1, if_neg c2, if_neg c3, if_neg c4]
theorem A_cancel {now : c_S} (hI : INV now) (h r : Int32) : ACT now (fun hs nx sz => kX_cancel now hs nx sz h r) := by
  by_cases c1 : k_out r 0 11
  · exact ACT_no (-1) (by decide) fun hs nx sz => by unfold kX_cancel; rw [if_pos c1]
  by_cases c2 : k_out h 0 99
  · exact ACT_no (-2) (by decide) fun hs nx sz => by unfold kX_cancel; rw [if_neg c1, if_pos c2]
  by_cases c3 : k_find now (nC h) (nC r) = -5
  · exact ACT_no (-5) (by decide) fun hs nx sz => by unfold kX_cancel; rw [if_neg c1, if_neg c2, if_pos c3]
  have hb := (k_find_ok now (nC h) (nC r) hI.1.1).resolve_left c3
  exact ACT_ok _ _ (ok_nn (hI.2.2.2.2.2.1.1 _ hb.1).2.1 (by omega)) (INV_rm hb.1 hI) fun hs nx sz => by unfold kX_cancel; rw [if_neg c1, if_neg c2, if_neg c3]
theorem A_pass {now : c_S} (hI : INV now) (h : Int32) : ACT now (fun hs nx sz => kX_pass now hs nx sz h) := by
  by_cases c1 : k_out h 1 99
  · exact ACT_no (-2) (by decide) fun hs nx sz => by unfold kX_pass; rw [if_pos c1]
  by_cases c2 : 9999 - nC h < q_ti now
  · exact ACT_no (-3) (by decide) fun hs nx sz => by unfold kX_pass; rw [if_neg c1, if_pos c2]
  have b1 := g_out2 (x := h) (lo := 1) (n := 99) (by decide) (by decide) c1
  obtain ⟨p1, _, m, hm, p2⟩ := pL_I hI (nC h) (by omega)
  refine ACT_ok _ _ ?_ p1 fun hs nx sz => by unfold kX_pass; rw [if_neg c1, if_neg c2]
  rw [p2, Int32.add_comm, Int32.add_sub_cancel]
  exact nI_pos (by omega)
theorem act_is {now : c_S} (hI : INV now) (v : Int32) : (∃ r : Int32, r < 0 ∧ ∀ hs nx sz, a_act now hs nx sz v = k_no now hs nx sz r) ∨ (∃ (r : Int32) (q : c_S), ¬ r < 0 ∧ INV q ∧ ∀ hs nx sz, a_act now hs nx sz v = k_act now q hs nx sz r) := by
  show ACT now (fun hs nx sz => a_act now hs nx sz v)
  rcases (by omega : lo v 16 < 7 ∨ lo v 16 = 7 ∨ lo v 16 = 8 ∨ lo v 16 = 9 ∨ lo v 16 = 10 ∨ 10 < lo v 16) with c | c | c | c | c | c
  · exact ACT_cg (fun hs nx sz => a_act_0 c) (A_book hI _ _ _)
  · exact ACT_cg (fun hs nx sz => a_act_7 c) (A_cancel hI _ _)
  · exact ACT_cg (fun hs nx sz => a_act_8 c) (A_setHorse hI _ _ _)
  · exact ACT_cg (fun hs nx sz => a_act_9 c) (A_setRider hI _ _ _)
  · exact ACT_cg (fun hs nx sz => a_act_10 c) (A_set hI _ _)
  · exact ACT_cg (fun hs nx sz => a_act_11 c) (A_pass hI _)
