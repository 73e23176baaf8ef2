/-! ===== the start: both sides new ===== -/
theorem HO_m1 : ∀ n, n ≤ 10 → HO (i_m1 n) = i_ho n
  | 0, _ => by
    funext j
    unfold HO
    split <;> rfl
  | n + 1, hn => by
    unfold i_m1 i_ho
    rw [HO_u10 (by omega), HO_u0 (by omega), HO_m1 n (by omega)]
theorem RI_m1 : ∀ n, n ≤ 10 → RI (i_m1 n) = fun _ => 0
  | 0, _ => by
    funext j
    unfold RI
    split
    · split <;> rfl
    · rfl
  | n + 1, hn => by
    unfold i_m1
    rw [RI_o (by omega), RI_o (by omega), RI_m1 n (by omega)]
theorem HO_m2 : ∀ n, n ≤ 12 → HO (i_m2 n) = i_ho 10
  | 0, _ => HO_m1 10 (Nat.le_refl _)
  | n + 1, hn => by
    unfold i_m2
    rw [HO_o (by omega), HO_o (by omega), HO_o (by omega), HO_m2 n (by omega)]
theorem RI_m2 : ∀ n, n ≤ 12 → RI (i_m2 n) = i_ri n
  | 0, _ => RI_m1 10 (Nat.le_refl _)
  | n + 1, hn => by
    unfold i_m2 i_ri
    rw [RI_u108 (by omega), RI_u12 (by omega), RI_u0 (by omega), RI_m2 n (by omega)]
theorem SE_m1 : ∀ n, n ≤ 10 → SE (i_m1 n) = fun _ => 0
  | 0, _ => by
    funext j
    unfold SE
    split <;> rfl
  | n + 1, hn => by
    unfold i_m1
    rw [SE_o (by omega), SE_o (by omega), SE_m1 n (by omega)]
theorem SE_m2 : ∀ n, n ≤ 12 → SE (i_m2 n) = fun _ => 0
  | 0, _ => SE_m1 10 (Nat.le_refl _)
  | n + 1, hn => by
    unfold i_m2
    rw [SE_o (by omega), SE_o (by omega), SE_o (by omega), SE_m2 n (by omega)]
theorem HO_ms : HO i_ms = i_ho 10 := by
  unfold i_ms
  rw [HO_o (by omega), HO_o (by omega), HO_o (by omega), HO_o (by omega), HO_o (by omega), HO_m2 12 (Nat.le_refl _)]
theorem RI_ms : RI i_ms = i_ri 12 := by
  unfold i_ms
  rw [RI_o (by omega), RI_o (by omega), RI_o (by omega), RI_o (by omega), RI_o (by omega), RI_m2 12 (Nat.le_refl _)]
theorem SE_ms : SE i_ms = i_se 5 := by
  unfold i_ms
  rw [show (191 : Nat) = 187 + 4 from rfl, SE_u (by omega), show (190 : Nat) = 187 + 3 from rfl, SE_u (by omega), show (189 : Nat) = 187 + 2 from rfl, SE_u (by omega), show (188 : Nat) = 187 + 1 from rfl, SE_u (by omega), show (187 : Nat) = 187 + 0 from rfl, SE_u (by omega), SE_m2 12 (Nat.le_refl _)]
  rfl
theorem IV_ms : IV 1 i_ms := by
  refine ⟨fun h hh => ?_, fun r hr => ?_, ?_⟩
  · exact (by decide +kernel : ∀ h, h < 10 → (nC (i_ms (9 * h + 3)) < 1 ∧ i_ms (9 * h + 3) = nI (nC (i_ms (9 * h + 3)))) ∧ (nC (i_ms (9 * h + 5)) < 3 ∧ i_ms (9 * h + 5) = nI (nC (i_ms (9 * h + 5)))) ∧ (nC (i_ms (9 * h + 6)) < 100 ∧ i_ms (9 * h + 6) = nI (nC (i_ms (9 * h + 6))))) h hh
  · exact (by decide +kernel : ∀ r, r < 12 → (nC (i_ms (8 * r + 92)) < 10 ∧ i_ms (8 * r + 92) = nI (nC (i_ms (8 * r + 92)))) ∧ (nC (i_ms (8 * r + 93)) < 10 ∧ i_ms (8 * r + 93) = nI (nC (i_ms (8 * r + 93))))) r hr
  · exact (by decide +kernel : (nC (i_ms 190) < 100 ∧ i_ms 190 = nI (nC (i_ms 190))) ∧ (nC (i_ms 191) < 10 ∧ i_ms 191 = nI (nC (i_ms 191))) ∧ 0 < i_ms 191)
theorem SU_ms : SU i_ms := by
  unfold SU
  rw [HO_ms, RI_ms]
  exact (by decide +kernel : i_ms 313 = sumF (i_ho 10) 60 10 ∧ i_ms 315 = sumF (i_ri 12) 84 12 ∧ i_ms 316 = sumF (i_ho 10) 80 10)
theorem RR_ms : RR i_q i_ms := by
  refine ⟨by decide +kernel, SE_ms.symm, HO_ms.symm, RI_ms.symm, by decide +kernel, fun j hj => absurd hj (Nat.not_lt_zero j), ⟨by decide +kernel, by decide +kernel, fun k hk => absurd (show k < min 0 20 from hk) (by omega)⟩, SU_ms, IV_ms, ⟨fun j hj => absurd hj (Nat.not_lt_zero j), fun j k _ hk => absurd hk (Nat.not_lt_zero k), fun tm g _ => Nat.zero_le _⟩, Nat.zero_le _, Nat.zero_le _⟩
theorem HR_ms : HR (fun _ => i_q) 0 0 (fun _ => 0) 0 := ⟨rfl, Nat.zero_le _, by omega, fun i hi => absurd hi (Nat.not_lt_zero i)⟩
theorem okC_0 : okC 0 := by
  have := pk_nc 0
  rw [show ((0 : Int32).toUInt32 % 65536).toInt32 = 0 by decide] at this
  exact this
/-! the tables' words of the start -/
theorem g_static {s : State} {b : Nat} {C n : String} {N k : Nat} (hN : N < 2 ^ 31) (hl : (Cond.laysStatic C n "[I").before #[Value.ref b] s = true) (hini : (Cond.initialized C).before #[Value.ref b] s = true) (har : (Cond.arrayOf (Term.static C n "[I") .int).before #[Value.ref b] s = true) (hle : (Cond.eq (Term.length (Term.static C n "[I")) (Term.int (Int32.ofNat N))).before #[Value.ref b] s = true) (hel : ∀ j : Nat, j < N → (Cond.eq (Term.elem (Term.static C n "[I") (Term.int (Int32.ofNat j))) (Term.int (sT k j))).before #[Value.ref b] s = true) : ∃ t : Nat, va_Z C n "[I" (.ref t) (fun q : Nat => s.heap.size ≤ q) s s.heap ∧ va_T .int t N (fun j => .int (sT k j)) (fun q : Nat => s.heap.size ≤ q) s s.heap := by
  have hA : ∀ a : Nat, a < s.heap.size → ¬ (fun q : Nat => s.heap.size ≤ q) a := fun a h => Nat.not_le.mpr h
  obtain ⟨t, h1, h2⟩ := va_Tof (f := fun j => .int (sT k j)) (A := fun q : Nat => s.heap.size ≤ q) hN har (va_eqt hle) (fun j hj => va_eqt (hel j hj)) hA
  exact ⟨t, va_Zof hl hini h1 hA, h2⟩
theorem g_arr {s : State} {b : Nat} {ty : FieldType} (h : (Cond.arrayClass ty).before #[Value.ref b] s = true) (hp : ∀ C, ty ≠ .object C) : ∃ cA : ClassId, ArrOfT s cA ty ∧ va_RA s cA ty := by
  obtain ⟨cA, kA, comp, h1, h2, h3⟩ := Cond.arrayClass_spec h
  refine ⟨cA, fun n z => ⟨fun k hk => (by cases hk), kA, h2, comp, h3⟩, ?_⟩
  cases ty with
  | object C => exact absurd rfl (hp C)
  | _ => exact h1
theorem g_arrO {s : State} {b : Nat} {C : String} (h : (Cond.arrayOver (.object C)).before #[Value.ref b] s = true) : ∃ cA : ClassId, ArrOfT s cA (.object C) ∧ va_RA s cA (.object C) := by
  obtain ⟨comp, cA, kA, h1, h2, h3, h4, h5⟩ := Cond.arrayOver_spec h
  exact ⟨cA, fun n z => ⟨fun k hk => (by cases hk), kA, h3, comp, h4⟩, kA, comp, h3, h4, h1, h5⟩
theorem g_start {s : State} {b : Nat} (hts : ∀ w ∈ lw_tbl, w.before #[Value.ref b] s = true) (hgv : (Jvm.Cond.and given_1 narrow_1).before #[Value.ref b] s = true) : ∃ G : gG, va_K G.1 vwCl (gTy G) s ∧ gSF G (fun q : Nat => s.heap.size ≤ q) s s.heap := by
  have hs := flat_of_before _ hgv
  have W : ∀ w ∈ wsG, w.before #[Value.ref b] s = true := fun w h => hts w (wsG_in w h)
  obtain ⟨c0, i0, k0⟩ := u_known (n := 3) W layX0 (W _ is_X0)
  obtain ⟨c1, i1, k1⟩ := u_known (n := 6) W layX1 (W _ is_X1)
  obtain ⟨c2, i2, k2⟩ := u_known (n := 8) W layX2 (W _ is_X2)
  obtain ⟨c3, i3, k3⟩ := u_known (n := 2) W layX3 (W _ is_X3)
  obtain ⟨c4, i4, k4⟩ := u_known (n := 2) W layX4 (W _ is_X4)
  obtain ⟨c5, i5, k5⟩ := u_known (n := 7) W layX5 (W _ is_X5)
  obtain ⟨c6, i6, k6⟩ := u_known (n := 14) W layX6 (W _ is_X6)
  obtain ⟨dC, dI, hKc⟩ : ∃ (dC : Nat → ClassId) (dI : Nat → Nat → Nat), ∀ (k : Nat) (q : vw_C), vwCl[k]? = some q → u_Kn s q.1 q.2.1 q.2.2 (dC k) (dI k) := by
    refine ⟨fun k => ([c0, c1, c2, c3, c4, c5, c6] : List ClassId).getD k c0, fun k => ([i0, i1, i2, i3, i4, i5, i6] : List (Nat → Nat)).getD k i0, ?_⟩
    intro k q hq
    match k, hq with
    | 0, hq => cases hq; exact k0
    | 1, hq => cases hq; exact k1
    | 2, hq => cases hq; exact k2
    | 3, hq => cases hq; exact k3
    | 4, hq => cases hq; exact k4
    | 5, hq => cases hq; exact k5
    | 6, hq => cases hq; exact k6
    | k + 7, hq => exact absurd hq (by simp [vwCl])
  obtain ⟨aI, b1, b2⟩ := g_arr (ty := .int) (W _ ac_int) (fun C h => by cases h)
  obtain ⟨aC, b3, b4⟩ := g_arr (ty := .char) (W _ ac_char) (fun C h => by cases h)
  obtain ⟨aS, b5, b6⟩ := g_arrO (C := "LessonHorses$Stable") (hts _ ao_Stable)
  obtain ⟨t0, z0, y0⟩ := g_static (C := "LessonHorses") (n := "ROOM_OF_RING") (N := 3) (k := 0) (by omega) (hts _ ls_X5_ROOM_OF_RING) (W _ in_X5) (hs _ (by decide +kernel)) (hs _ (by decide +kernel)) (fun j hj => by
    rcases (by omega : j = 0 ∨ j = 1 ∨ j = 2) with rfl | rfl | rfl <;> exact hs _ (by decide +kernel))
  obtain ⟨t1, z1, y1⟩ := g_static (C := "LessonHorses") (n := "LEAST_OF_SETTING") (N := 5) (k := 1) (by omega) (hts _ ls_X5_LEAST_OF_SETTING) (W _ in_X5) (hs _ (by decide +kernel)) (hs _ (by decide +kernel)) (fun j hj => by
    rcases (by omega : j = 0 ∨ j = 1 ∨ j = 2 ∨ j = 3 ∨ j = 4) with rfl | rfl | rfl | rfl | rfl <;> exact hs _ (by decide +kernel))
  obtain ⟨t2, z2, y2⟩ := g_static (C := "LessonHorses") (n := "MOST_OF_SETTING") (N := 5) (k := 2) (by omega) (hts _ ls_X5_MOST_OF_SETTING) (W _ in_X5) (hs _ (by decide +kernel)) (hs _ (by decide +kernel)) (fun j hj => by
    rcases (by omega : j = 0 ∨ j = 1 ∨ j = 2 ∨ j = 3 ∨ j = 4) with rfl | rfl | rfl | rfl | rfl <;> exact hs _ (by decide +kernel))
  obtain ⟨t3, z3, y3⟩ := g_static (C := "LessonHorses") (n := "FIRST_OF_SETTING") (N := 5) (k := 3) (by omega) (hts _ ls_X5_FIRST_OF_SETTING) (W _ in_X5) (hs _ (by decide +kernel)) (hs _ (by decide +kernel)) (fun j hj => by
    rcases (by omega : j = 0 ∨ j = 1 ∨ j = 2 ∨ j = 3 ∨ j = 4) with rfl | rfl | rfl | rfl | rfl <;> exact hs _ (by decide +kernel))
  obtain ⟨t4, z4, y4⟩ := g_static (C := "LessonHorses$Plan") (n := "MOST_AT") (N := 4) (k := 4) (by omega) (hts _ ls_X1_MOST_AT) (W _ in_X1) (hs _ (by decide +kernel)) (hs _ (by decide +kernel)) (fun j hj => by
    rcases (by omega : j = 0 ∨ j = 1 ∨ j = 2 ∨ j = 3) with rfl | rfl | rfl | rfl <;> exact hs _ (by decide +kernel))
  refine ⟨((dC, dI), (aI, aC, aS), fun k => ([t0, t1, t2, t3, t4] : List Nat).getD k 0), ⟨hKc, fun k q hk => ?_⟩, ⟨z0, y0⟩, ⟨z1, y1⟩, ⟨z2, y2⟩, ⟨z3, y3⟩, ⟨z4, y4⟩, ?_⟩
  · match k, hk with
    | 0, hk => cases hk; exact ⟨b1, b2⟩
    | 1, hk => cases hk; exact ⟨b3, b4⟩
    | 2, hk => cases hk; exact ⟨b5, b6⟩
    | k + 3, hk => exact absurd hk (by simp [gTy])
  · exact ⟨va_Nw.of rfl (hts _ mn_X2_36), va_Nw.of rfl (hts _ mn_X1_85), va_Nw.of rfl (hts _ mn_X5_31), va_Nw.of rfl (hts _ mn_X5_38), va_Nw.of rfl (hts _ fn_X2_32), va_Nw.of rfl (hts _ fn_X2_90), va_AO.of (hts _ ao_Stable)⟩
