/-! ===== what all methods of the claim share ===== -/
abbrev gG : Type := va_G × (ClassId × ClassId × ClassId) × (Nat → Nat)
def gTy (G : gG) : List (ClassId × FieldType) := [(G.2.1.1, .int), (G.2.1.2.1, .char), (G.2.1.2.2, .object "LessonHorses$Stable")]
/-- the script rides as one more static array: G.2.2 4 its address, G.2.2 5 its length, G.2.2 (6 + j) its ints -/
def gScr (G : gG) (A : Nat → Prop) (U : State) (H : Heap) : Prop := G.2.2 5 ≤ 260 ∧ va_T .int (G.2.2 4) (G.2.2 5) (fun j => .int (nI (G.2.2 (6 + j)))) A U H
/-- the static arrays' numbers: 0 ROOM_OF_RING, 1 LEAST_OF_SETTING, 2 MOST_OF_SETTING, 3 FIRST_OF_SETTING -/
def sT (k j : Nat) : Int32 := (([[4, 3, 2], [1, 1, 0, 1, 1], [9, 99, 50, 99, 9], [3, 12, 5, 20, 3]] : List (List Int32)).getD k []).getD j 0
def gSt (G : gG) (A : Nat → Prop) (U : State) (H : Heap) (k : Nat) (C n : String) (N : Nat) : Prop := va_Z C n "[I" (.ref (G.2.2 k)) A U H ∧ va_T .int (G.2.2 k) N (fun j => .int (sT k j)) A U H
def gNw (U : State) : Prop := va_Nw (.methodLinkNest "LessonHorses$Stable" 36 yX5_entry "LessonHorses") U ∧ True ∧ va_Nw (.methodLinkNest "LessonHorses" 31 yX4_init "LessonHorses") U ∧ va_Nw (.methodLinkNest "LessonHorses" 38 yX1_init "LessonHorses") U ∧ va_Nw (.fieldLinkNest "LessonHorses$Stable" 32 "LessonHorses" "FIRST_OF_SETTING" "[I" "LessonHorses") U ∧ va_Nw (.fieldLinkNest "LessonHorses$Stable" 90 "LessonHorses" "ROOM_OF_RING" "[I" "LessonHorses") U ∧ va_AO "LessonHorses$Stable" U
def gSF (G : gG) (A : Nat → Prop) (U : State) (H : Heap) : Prop := gSt G A U H 0 "LessonHorses" "ROOM_OF_RING" 3 ∧ gSt G A U H 1 "LessonHorses" "LEAST_OF_SETTING" 5 ∧ gSt G A U H 2 "LessonHorses" "MOST_OF_SETTING" 5 ∧ gSt G A U H 3 "LessonHorses" "FIRST_OF_SETTING" 5 ∧ gScr G A U H ∧ gNw U
theorem gSt.like {G : gG} {A : Nat → Prop} {u U : State} {H : Heap} {k : Nat} {C n : String} {N : Nat} (hvm : u.vm.Alike U.vm) (h : gSt G A u H k C n N) : gSt G A U H k C n N := ⟨va_Z.moved hvm h.1, va_T.moved hvm h.2⟩
theorem gSt.kept {G : gG} {A : Nat → Prop} {U : State} {H H1 : Heap} {k : Nat} {C n : String} {N : Nat} (h : gSt G A U H k C n N) (hq : ∀ a : Nat, a < H.size → ¬ A a → H1[a]? = H[a]?) : gSt G A U H1 k C n N := ⟨va_Z.kept h.1 hq, va_T.kept h.2 hq⟩
theorem gSt.narrow {G : gG} {A B : Nat → Prop} {U : State} {H : Heap} {k : Nat} {C n : String} {N : Nat} (h : gSt G A U H k C n N) (hAB : ∀ q, B q → A q) : gSt G B U H k C n N := ⟨va_Z.narrow h.1 hAB, va_T.narrow h.2 hAB⟩
theorem gScr.like {G : gG} {A : Nat → Prop} {u U : State} {H : Heap} (hvm : u.vm.Alike U.vm) (h : gScr G A u H) : gScr G A U H := ⟨h.1, va_T.moved hvm h.2⟩
theorem gScr.kept {G : gG} {A : Nat → Prop} {U : State} {H H1 : Heap} (h : gScr G A U H) (hq : ∀ a : Nat, a < H.size → ¬ A a → H1[a]? = H[a]?) : gScr G A U H1 := ⟨h.1, va_T.kept h.2 hq⟩
theorem gScr.narrow {G : gG} {A B : Nat → Prop} {U : State} {H : Heap} (h : gScr G A U H) (hAB : ∀ q, B q → A q) : gScr G B U H := ⟨h.1, va_T.narrow h.2 hAB⟩
theorem gNw.warm {s U : State} (hW : s.WarmedH U.vm) (h : gNw s) : gNw U := ⟨va_Nw.warmM hW h.1, trivial, va_Nw.warmM hW h.2.2.1, va_Nw.warmM hW h.2.2.2.1, va_Nw.warmF hW h.2.2.2.2.1, va_Nw.warmF hW h.2.2.2.2.2.1, va_AO.moved hW.alike h.2.2.2.2.2.2⟩
theorem gNw.same {u U : State} (e : u.vm = U.vm) (h : gNw u) : gNw U := ⟨va_Nw.same rfl e h.1, trivial, va_Nw.same rfl e h.2.2.1, va_Nw.same rfl e h.2.2.2.1, va_Nw.same rfl e h.2.2.2.2.1, va_Nw.same rfl e h.2.2.2.2.2.1, va_AO.moved (e ▸ Vm.Alike.refl u.vm) h.2.2.2.2.2.2⟩
theorem gSF.warm {G : gG} {A : Nat → Prop} {s U : State} {H : Heap} (hW : s.WarmedH U.vm) (h : gSF G A s H) : gSF G A U H := ⟨h.1.like hW.alike, h.2.1.like hW.alike, h.2.2.1.like hW.alike, h.2.2.2.1.like hW.alike, h.2.2.2.2.1.like hW.alike, h.2.2.2.2.2.warm hW⟩
theorem gSF.same {G : gG} {A : Nat → Prop} {u U : State} {H : Heap} (e : u.vm = U.vm) (h : gSF G A u H) : gSF G A U H := by
  have hW : u.vm.Alike U.vm := e ▸ Vm.Alike.refl u.vm
  exact ⟨h.1.like hW, h.2.1.like hW, h.2.2.1.like hW, h.2.2.2.1.like hW, h.2.2.2.2.1.like hW, h.2.2.2.2.2.same e⟩
theorem gSF.kept {G : gG} {A : Nat → Prop} {U : State} {H H1 : Heap} (h : gSF G A U H) (hq : ∀ a : Nat, a < H.size → ¬ A a → H1[a]? = H[a]?) : gSF G A U H1 := ⟨h.1.kept hq, h.2.1.kept hq, h.2.2.1.kept hq, h.2.2.2.1.kept hq, h.2.2.2.2.1.kept hq, h.2.2.2.2.2⟩
theorem gSF.narrow {G : gG} {A B : Nat → Prop} {U : State} {H : Heap} (h : gSF G A U H) (hAB : ∀ q, B q → A q) : gSF G B U H := ⟨h.1.narrow hAB, h.2.1.narrow hAB, h.2.2.1.narrow hAB, h.2.2.2.1.narrow hAB, h.2.2.2.2.1.narrow hAB, h.2.2.2.2.2⟩
/-! worlds in three pieces: what stands before a callee's cells, these, and what stands behind -/
theorem gP_mem {D : va_G} {cl : List vw_C} {ws : va_W} {H : Heap} (h : va_P D cl ws H) {q : Nat × va_E} (hq : q ∈ ws) : va_at D cl q H := by
  obtain ⟨k, hk⟩ := List.getElem?_of_mem hq
  exact h k q hk
theorem gP_of {D : va_G} {cl : List vw_C} {ws : va_W} {H : Heap} (h : ∀ q ∈ ws, va_at D cl q H) : va_P D cl ws H := fun _ q hk => h q (List.mem_of_getElem? hk)
theorem gD_iff {A : Nat → Prop} {ws : va_W} : va_D A ws ↔ (ws.map Prod.fst).Nodup ∧ ∀ q ∈ ws, A q.1 := by
  constructor
  · intro h
    refine ⟨List.nodup_iff_pairwise_ne.mpr (List.pairwise_iff_getElem.mpr fun i j hi hj hij e => ?_), fun q hq => ?_⟩
    · simp only [List.length_map] at hi hj
      simp only [List.getElem_map] at e
      exact absurd (h.1 i j _ _ (List.getElem?_eq_getElem hi) (List.getElem?_eq_getElem hj) e) (Nat.ne_of_lt hij)
    · obtain ⟨k, hk⟩ := List.getElem?_of_mem hq
      exact h.2 k q hk
  · intro h
    refine ⟨fun i j p q hp hq e => ?_, fun k q hk => h.2 q (List.mem_of_getElem? hk)⟩
    obtain ⟨hi, hp⟩ := List.getElem?_eq_some_iff.mp hp
    obtain ⟨hj, hq⟩ := List.getElem?_eq_some_iff.mp hq
    subst hp; subst hq
    have hpw := List.pairwise_iff_getElem.mp (List.nodup_iff_pairwise_ne.mp h.1)
    rcases Nat.lt_trichotomy i j with hij | hij | hij
    · exact absurd (by rw [List.getElem_map, List.getElem_map]; exact e) (hpw i j (by simpa using hi) (by simpa using hj) hij)
    · exact hij
    · exact absurd (by rw [List.getElem_map, List.getElem_map]; exact e.symm) (hpw j i (by simpa using hj) (by simpa using hi) hij)
theorem gP_blk {D : va_G} {cl : List vw_C} {pre blk post : va_W} {H : Heap} (h : va_P D cl (pre ++ (blk ++ post)) H) : va_P D cl blk H := gP_of fun _ hq => gP_mem h (List.mem_append_right _ (List.mem_append_left _ hq))
theorem gD_blk {A : Nat → Prop} {pre blk post : va_W} (h : va_D A (pre ++ (blk ++ post))) : va_D A blk := by
  have h := gD_iff.mp h
  refine gD_iff.mpr ⟨?_, fun q hq => h.2 q (List.mem_append_right _ (List.mem_append_left _ hq))⟩
  have := h.1
  rw [List.map_append, List.map_append] at this
  exact (List.nodup_append.mp (List.nodup_append.mp this).2.1).1
theorem gA_blk {A : Nat → Prop} {pre blk post : va_W} {sz : Nat} (h : va_D A (pre ++ (blk ++ post))) (hA : ∀ q, sz ≤ q → A q) : ∀ q, va_A blk sz q → A q := by
  intro q hq
  rcases hq with ⟨k, e, hk⟩ | hq
  · exact (gD_iff.mp h).2 (q, e) (List.mem_append_right _ (List.mem_append_left _ (List.mem_of_getElem? hk)))
  · exact hA q hq
theorem g_mid {A : Nat → Prop} {D : va_G} {cl : List vw_C} {pre blk post blk' : va_W} {H H1 : Heap} (hP : va_P D cl (pre ++ (blk ++ post)) H) (hD : va_D A (pre ++ (blk ++ post))) (hA : ∀ q, H.size ≤ q → A q) (hk : ∀ q : Nat, q < H.size → ¬ va_A blk H.size q → H1[q]? = H[q]?) (hP1 : va_P D cl blk' H1) (hD1 : va_D (va_A blk H.size) blk') : va_P D cl (pre ++ (blk' ++ post)) H1 ∧ va_D A (pre ++ (blk' ++ post)) := by
  have hN := gD_iff.mp hD
  have hN1 := gD_iff.mp hD1
  have hn := hN.1
  rw [List.map_append, List.map_append] at hn
  obtain ⟨hn1, hn2, hn3⟩ := List.nodup_append.mp hn
  obtain ⟨hn4, hn5, hn6⟩ := List.nodup_append.mp hn2
  have out : ∀ q : Nat × va_E, q ∈ pre ∨ q ∈ post → q.1 < H.size ∧ ¬ va_A blk H.size q.1 := by
    intro q hq
    have hm : q ∈ pre ++ (blk ++ post) := by
      rcases hq with hq | hq
      · exact List.mem_append_left _ hq
      · exact List.mem_append_right _ (List.mem_append_right _ hq)
    have hl := (gP_mem hP hm).lt
    refine ⟨hl, fun h => ?_⟩
    rcases h with ⟨k, e, h⟩ | h
    · have hb : q.1 ∈ blk.map Prod.fst := List.mem_map.mpr ⟨(q.1, e), List.mem_of_getElem? h, rfl⟩
      rcases hq with hq | hq
      · exact hn3 q.1 (List.mem_map.mpr ⟨q, hq, rfl⟩) q.1 (List.mem_append_left _ hb) rfl
      · exact hn6 q.1 hb q.1 (List.mem_map.mpr ⟨q, hq, rfl⟩) rfl
    · omega
  refine ⟨gP_of fun q hq => ?_, gD_iff.mpr ⟨?_, fun q hq => ?_⟩⟩
  · rcases List.mem_append.mp hq with hq | hq
    · obtain ⟨a, b⟩ := out q (Or.inl hq)
      exact (gP_mem hP (List.mem_append_left _ hq)).kept (hk q.1 a b)
    · rcases List.mem_append.mp hq with hq | hq
      · exact gP_mem hP1 hq
      · obtain ⟨a, b⟩ := out q (Or.inr hq)
        exact (gP_mem hP (List.mem_append_right _ (List.mem_append_right _ hq))).kept (hk q.1 a b)
  · have inA : ∀ x ∈ blk'.map Prod.fst, va_A blk H.size x := by
      intro x hx
      obtain ⟨q, hq, rfl⟩ := List.mem_map.mp hx
      exact hN1.2 q hq
    rw [List.map_append, List.map_append]
    refine List.nodup_append.mpr ⟨hn1, List.nodup_append.mpr ⟨hN1.1, hn5, fun x hx y hy e => ?_⟩, fun x hx y hy e => ?_⟩
    · subst e
      obtain ⟨q, hq, rfl⟩ := List.mem_map.mp hy
      exact (out q (Or.inr hq)).2 (inA _ hx)
    · subst e
      rcases List.mem_append.mp hy with hy | hy
      · obtain ⟨q, hq, rfl⟩ := List.mem_map.mp hx
        exact (out q (Or.inl hq)).2 (inA _ hy)
      · exact hn3 x hx x (List.mem_append_right _ hy) rfl
  · rcases List.mem_append.mp hq with hq | hq
    · exact hN.2 q (List.mem_append_left _ hq)
    · rcases List.mem_append.mp hq with hq | hq
      · have := hN1.2 q hq
        rcases this with ⟨k, e, h⟩ | h
        · exact hN.2 (q.1, e) (List.mem_append_right _ (List.mem_append_left _ (List.mem_of_getElem? h)))
        · exact hA _ h
      · exact hN.2 q (List.mem_append_right _ (List.mem_append_right _ hq))
/-! contracts -/
def gPre (G : gG) (blk : va_W) (sz : Nat) (U : State) : Prop := U.heap.size = sz ∧ va_P G.1 vwCl blk U.heap ∧ va_K G.1 vwCl (gTy G) U ∧ va_D (fun _ => True) blk ∧ gSF G (va_A blk sz) U U.heap
def gQ (G : gG) (blk : va_W) (sz : Nat) (ov : Option Value) (blk' : (Nat → Nat) → va_W) : Array Value → State → Outcome → State → Prop := fun _ st oc t => (∃ u : Nat → Nat, oc = .returned ov ∧ va_P G.1 vwCl (blk' u) t.heap ∧ va_D (va_A blk sz) (blk' u)) ∧ va_F (va_A blk sz) st t
/-- the method y, called with av over the cells blk, returns ov, and the cells are blk' u then (u: addresses of what it made) -/
def CT (l : Launch) (y : MethodName) (cc : ByteArray) (maxL : Nat) (ret : Option FieldType) (rm : Room) (G : gG) (av : List Value) (blk : va_W) (ov : Option Value) (blk' : (Nat → Nat) → va_W) : Prop := ∀ sz, Met l y (.code y cc maxL ret :: wsG) rm (va_Pc av (gPre G blk sz)) (gQ G blk sz ov blk') rm.cells rm.slots (va_A blk sz)
theorem gPre_blind (G : gG) (blk : va_W) (sz : Nat) (av : List Value) : FrameBlind (va_Pc av (gPre G blk sz)) := fun a U g mk q => by
  obtain ⟨q0, q1, qP, qK, qD, qS⟩ := q
  exact ⟨q0, q1, qP, va_K.moved (u := U) (U := U.calling g mk a) (Vm.Alike.refl U.vm) qK, qD, gSF.same (u := U) (U := U.calling g mk a) rfl qS⟩
/-! a state of the walk: everything that stays (X); the world, room used, the place, locals and stack -/
abbrev gX : Type := Program × Launch × Env × State × MethodId × Array Value × List Frame × Method × Code × (Nat → Prop) × (State → Prop) × Room
abbrev gX.p (X : gX) : Program := X.1
abbrev gX.l (X : gX) : Launch := X.2.1
abbrev gX.e (X : gX) : Env := X.2.2.1
abbrev gX.s (X : gX) : State := X.2.2.2.1
abbrev gX.m (X : gX) : MethodId := X.2.2.2.2.1
abbrev gX.args (X : gX) : Array Value := X.2.2.2.2.2.1
abbrev gX.below (X : gX) : List Frame := X.2.2.2.2.2.2.1
abbrev gX.meth (X : gX) : Method := X.2.2.2.2.2.2.2.1
abbrev gX.c (X : gX) : Code := X.2.2.2.2.2.2.2.2.1
abbrev gX.A (X : gX) : Nat → Prop := X.2.2.2.2.2.2.2.2.2.1
abbrev gX.Z (X : gX) : State → Prop := X.2.2.2.2.2.2.2.2.2.2.1
abbrev gX.R (X : gX) : Room := X.2.2.2.2.2.2.2.2.2.2.2
def gW (G : gG) (X : gX) (ws : va_W) (kc ks pc : Nat) (lv : List (Nat × Value)) (st : List Value) : Prop :=
  ∀ (H : Heap) (locs : List Loc) (ls : Array Slot), va_P G.1 vwCl ws H → va_D (gX.A X) ws → va_S (gX.A X) (gX.s X).heap H locs → lv_has ls (gX.c X).maxLocals lv → W (gX.p X) (gX.l X) (gX.e X) (gX.R X) (gX.s X) (gX.m X) (gX.args X) (gX.below X) (gX.meth X) (gX.c X) H locs kc ks (gX.Z X) (F0 (gX.m X) pc ls st)
abbrev gC (G : gG) (X : gX) (cc : ByteArray) (nL : Nat) (R : Room) (own : String) : Prop := (gX.p X).tables.exec = Jvm.exec ∧ (gX.c X).code = cc ∧ (gX.c X).maxLocals = nL ∧ (gX.s X).vm.findClass own = some (gX.m X).cls ∧ (∀ w ∈ wsG, w.before (gX.args X) (gX.s X) = true) ∧ va_K G.1 vwCl (gTy G) (gX.s X) ∧ gSF G (gX.A X) (gX.s X) (gX.s X).heap ∧ (∀ q, (gX.s X).heap.size ≤ q → gX.A X q) ∧ (gX.meth X).locks = false ∧ gX.R X = R
def gE (G : gG) (X : gX) (blk : va_W) (ov : Option Value) (blk' : (Nat → Nat) → va_W) (rm : Room) : Prop := gX.A X = va_A blk (gX.s X).heap.size ∧ gX.Z X = MQ (gX.below X) (gQ G blk (gX.s X).heap.size ov blk') (gX.args X) (gX.s X) rm.cells rm.slots (va_A blk (gX.s X).heap.size)
theorem gMet {l : Launch} {y : MethodName} {cc : ByteArray} {maxL : Nat} {ret : Option FieldType} {rm : Room} {G : gG} {av : List Value} {blk : va_W} {ov : Option Value} {blk' : (Nat → Nat) → va_W} (hy : plainName y.cls = true) (hav : (lg_sl av).length ≤ maxL)
    (body : ∀ X : gX, gX.l X = l → gC G X cc maxL rm y.cls → (gX.meth X).sig.returnType = ret → (gX.meth X).name = y.name → gE G X blk ov blk' rm → gW G X blk 0 0 0 (lv_args 0 av) []) : CT l y cc maxL ret rm G av blk ov blk' := by
  intro sz
  refine Met.ofW (cc := cc) (maxL := maxL) (ret := ret) hy rfl ?_
  intro p e s m args below meth c s₁ B hml hv
  obtain ⟨rfl, hsz, hP, hK, hD, hSF⟩ := hv
  have hts := atoms_spec (ws := Cond.code y cc maxL ret :: wsG) B.pre
  subst hsz
  rw [lg_entry_eq]
  exact body (p, l, e, s, m, av.toArray, below, meth, c, va_A blk s.heap.size, MQ below (gQ G blk s.heap.size ov blk') av.toArray s rm.cells rm.slots (va_A blk s.heap.size), rm) rfl
    ⟨B.exec, B.bytes, hml, findClass_of_methodNamed B.named, fun w h => hts w (List.mem_cons_of_mem _ h), hK, hSF, fun q h => Or.inr h, B.notSynchronized, rfl⟩
    B.returns (name_of_methodNamed B.named B.method).1 ⟨rfl, rfl⟩ s.heap [] _ hP hD.self va_S.rf (by show lv_has _ c.maxLocals _; rw [hml]; exact lv_entry av hav)
