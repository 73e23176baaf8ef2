/-! the tables' words of the start -/
theorem g_static {s : State} {b : Nat} {C n : String} {N k : Nat} (hN : N < 2 ^ 31) (hl : (Cond.laysStatic C n "[I").before #[Value.ref b] s = true) (hini : (Cond.initialized C).before #[Value.ref b] s = true) (har : (Cond.arrayOf (Term.static C n "[I") .int).before #[Value.ref b] s = true) (hle : (Cond.eq (Term.length (Term.static C n "[I")) (Term.int (Int32.ofNat N))).before #[Value.ref b] s = true) (hel : ∀ j : Nat, j < N → (Cond.eq (Term.elem (Term.static C n "[I") (Term.int (Int32.ofNat j))) (Term.int (sT k j))).before #[Value.ref b] s = true) : ∃ t : Nat, va_Z C n "[I" (.ref t) (fun q : Nat => s.heap.size ≤ q) s s.heap ∧ va_T .int t N (fun j => .int (sT k j)) (fun q : Nat => s.heap.size ≤ q) s s.heap := by
  have hA : ∀ a : Nat, a < s.heap.size → ¬ (fun q : Nat => s.heap.size ≤ q) a := fun a h => Nat.not_le.mpr h
  obtain ⟨t, h1, h2⟩ := va_Tof (f := fun j => .int (sT k j)) (A := fun q : Nat => s.heap.size ≤ q) hN har (va_eqt hle) (fun j hj => va_eqt (hel j hj)) hA
  exact ⟨t, va_Zof hl hini h1 hA, h2⟩
theorem g_arr {s : State} {b : Nat} {ty : FieldType} (h : (Cond.arrayClass ty).before #[Value.ref b] s = true) (hp : ∀ C, ty ≠ .object C) : ∃ cA : ClassId, ArrOfT s cA ty ∧ va_RA s cA ty := by
  obtain ⟨cA, kA, comp, h1, h2, h3⟩ := Cond.arrayClass_spec h
  refine ⟨cA, fun n z => ⟨fun k hk => (by cases hk), kA, h2, comp, h3⟩, ?_⟩
  cases ty with
  | object C => exact absurd rfl (hp C)
  | _ => exact h1
theorem g_arrO {s : State} {b : Nat} {C : String} (h : (Cond.arrayOver (.object C)).before #[Value.ref b] s = true) : ∃ cA : ClassId, ArrOfT s cA (.object C) ∧ va_RA s cA (.object C) := by
  obtain ⟨comp, cA, kA, h1, h2, h3, h4, h5⟩ := Cond.arrayOver_spec h
  exact ⟨cA, fun n z => ⟨fun k hk => (by cases hk), kA, h3, comp, h4⟩, kA, comp, h3, h4, h1, h5⟩
theorem g_start {s : State} {b L : Nat} {xs : Nat → Int32} (hL : L ≤ 260) (hX : va_X b L xs s s.heap) (hbl : b < s.heap.size) (hts : ∀ w ∈ lw_tbl, w.before #[Value.ref b] s = true) (hgv : (Jvm.Cond.and given_1 narrow_1).before #[Value.ref b] s = true) : ∃ G : gG, G.2.2 4 = b ∧ va_K G.1 vwCl (gTy G) s ∧ gSF G (fun q : Nat => s.heap.size ≤ q) s s.heap := by
  have hs := flat_of_before _ hgv
  have W : ∀ w ∈ wsG, w.before #[Value.ref b] s = true := fun w h => hts w (wsG_in w h)
  obtain ⟨c0, i0, k0⟩ := u_known (n := 3) W layX0 (W _ is_X0)
  obtain ⟨c1, i1, k1⟩ := u_known (n := 6) W layX1 (W _ is_X1)
  obtain ⟨c2, i2, k2⟩ := u_known (n := 8) W layX2 (W _ is_X2)
  obtain ⟨c3, i3, k3⟩ := u_known (n := 2) W layX3 (W _ is_X3)
  obtain ⟨c4, i4, k4⟩ := u_known (n := 2) W layX4 (W _ is_X4)
  obtain ⟨c5, i5, k5⟩ := u_known (n := 7) W layX5 (W _ is_X5)
  obtain ⟨dC, dI, hKc⟩ : ∃ (dC : Nat → ClassId) (dI : Nat → Nat → Nat), ∀ (k : Nat) (q : vw_C), vwCl[k]? = some q → u_Kn s q.1 q.2.1 q.2.2 (dC k) (dI k) := by
    refine ⟨fun k => ([c0, c1, c2, c3, c4, c5] : List ClassId).getD k c0, fun k => ([i0, i1, i2, i3, i4, i5] : List (Nat → Nat)).getD k i0, ?_⟩
    intro k q hq
    match k, hq with
    | 0, hq => cases hq; exact k0
    | 1, hq => cases hq; exact k1
    | 2, hq => cases hq; exact k2
    | 3, hq => cases hq; exact k3
    | 4, hq => cases hq; exact k4
    | 5, hq => cases hq; exact k5
    | k + 6, hq => exact absurd hq (by simp [vwCl])
  obtain ⟨aI, b1, b2⟩ := g_arr (ty := .int) (W _ ac_int) (fun C h => by cases h)
  obtain ⟨aC, b3, b4⟩ := g_arr (ty := .char) (W _ ac_char) (fun C h => by cases h)
  obtain ⟨aS, b5, b6⟩ := g_arrO (C := "LessonHorses$Stable") (hts _ ao_Stable)
  obtain ⟨t0, z0, y0⟩ := g_static (C := "LessonHorses") (n := "ROOM_OF_RING") (N := 3) (k := 0) (by omega) (hts _ ls_X5_ROOM_OF_RING) (W _ in_X5) (hs _ (by decide +kernel)) (hs _ (by decide +kernel)) (fun j hj => by
    rcases (by omega : j = 0 ∨ j = 1 ∨ j = 2) with rfl | rfl | rfl <;> exact hs _ (by decide +kernel))
  obtain ⟨t1, z1, y1⟩ := g_static (C := "LessonHorses") (n := "LEAST_OF_SETTING") (N := 5) (k := 1) (by omega) (hts _ ls_X5_LEAST_OF_SETTING) (W _ in_X5) (hs _ (by decide +kernel)) (hs _ (by decide +kernel)) (fun j hj => by
    rcases (by omega : j = 0 ∨ j = 1 ∨ j = 2 ∨ j = 3 ∨ j = 4) with rfl | rfl | rfl | rfl | rfl <;> exact hs _ (by decide +kernel))
  obtain ⟨t2, z2, y2⟩ := g_static (C := "LessonHorses") (n := "MOST_OF_SETTING") (N := 5) (k := 2) (by omega) (hts _ ls_X5_MOST_OF_SETTING) (W _ in_X5) (hs _ (by decide +kernel)) (hs _ (by decide +kernel)) (fun j hj => by
    rcases (by omega : j = 0 ∨ j = 1 ∨ j = 2 ∨ j = 3 ∨ j = 4) with rfl | rfl | rfl | rfl | rfl <;> exact hs _ (by decide +kernel))
  obtain ⟨t3, z3, y3⟩ := g_static (C := "LessonHorses") (n := "FIRST_OF_SETTING") (N := 5) (k := 3) (by omega) (hts _ ls_X5_FIRST_OF_SETTING) (W _ in_X5) (hs _ (by decide +kernel)) (hs _ (by decide +kernel)) (fun j hj => by
    rcases (by omega : j = 0 ∨ j = 1 ∨ j = 2 ∨ j = 3 ∨ j = 4) with rfl | rfl | rfl | rfl | rfl <;> exact hs _ (by decide +kernel))
  obtain ⟨scr, w1, w2, w3, w4, w5⟩ := hX
  have hsc : va_T .int b L (fun j => .int (nI (xs j).toUInt32.toNat)) (fun q : Nat => s.heap.size ≤ q) s s.heap := ⟨scr, w1, w2, w3, by omega, by rw [w4] <;> rfl, fun j hj => by show _ = some (Value.int (nI (xs j).toUInt32.toNat)); rw [w5 j hj, nI_back], Nat.not_le.mpr hbl⟩
  refine ⟨((dC, dI), (aI, aC, aS), fun k => if k < 4 then ([t0, t1, t2, t3] : List Nat).getD k 0 else if k = 4 then b else if k = 5 then L else (xs (k - 6)).toUInt32.toNat), rfl, ⟨hKc, fun k q hk => ?_⟩, ⟨z0, y0⟩, ⟨z1, y1⟩, ⟨z2, y2⟩, ⟨z3, y3⟩, ⟨hL, ?_⟩, ?_⟩
  · match k, hk with
    | 0, hk => cases hk; exact ⟨b1, b2⟩
    | 1, hk => cases hk; exact ⟨b3, b4⟩
    | 2, hk => cases hk; exact ⟨b5, b6⟩
    | k + 3, hk => exact absurd hk (by simp [gTy])
  · refine cast (congrArg (fun f => va_T .int b L f (fun q : Nat => s.heap.size ≤ q) s s.heap) ?_) hsc
    funext j
    show Value.int (nI (xs j).toUInt32.toNat) = Value.int (nI (if 6 + j < 4 then _ else if 6 + j = 4 then _ else if 6 + j = 5 then _ else (xs (6 + j - 6)).toUInt32.toNat))
    rw [if_neg (by omega), if_neg (by omega), if_neg (by omega), show 6 + j - 6 = j by omega]
  · exact ⟨va_Nw.of rfl (hts _ mn_X2_36), trivial, va_Nw.of rfl (hts _ mn_X5_31), va_Nw.of rfl (hts _ mn_X5_38), va_Nw.of rfl (hts _ fn_X2_32), va_Nw.of rfl (hts _ fn_X2_90), va_AO.of (hts _ ao_Stable)⟩
