/-! new objects -/
theorem g_cI {G : gG} {X : gX} {cc : ByteArray} {nL : Nat} {R : Room} {own : String} (C : gC G X cc nL R own) {cA : ClassId} {ty : FieldType} {tys : List (ClassId × FieldType)} (hK : va_K G.1 vwCl (tys ++ [(cA, ty)]) (gX.s X)) : va_RA (gX.s X) cA ty := (hK.2 tys.length (cA, ty) (by rw [List.getElem?_append_right (Nat.le_refl _), Nat.sub_self]; rfl)).2
theorem x_newI {G : gG} {X : gX} {cc : ByteArray} {nL : Nat} {R : Room} {own : String} (C : gC G X cc nL R own) {ws : va_W} {kc ks pc : Nat} {lv : List (Nat × Value)} {st : List Value} {n : Nat} {i : Int32} (d : decode cc pc = .ok (.newarray .int, 2)) (hc : Cond.arrayClass .int ∈ wsG) (hi : i = nI n) (hn : n ≤ 134217728) (h1 : kc + 1 ≤ R.cells) {ks9 : Nat} (he : ks + n = ks9) (h2 : ks9 ≤ R.slots) (k9 : ∀ q, gW G X (ws ++ [(q, .inl (G.2.1.1, n, .inl (fun _ => 0)))]) (kc + 1) ks9 (pc + 2) lv (.ref q :: st)) : gW G X ws kc ks pc lv (.int i :: st) := fun H locs ls hP hD hS hl => by
  subst hi; subst he
  have hn3 : n < 2 ^ 31 := by omega
  refine va_newa (atype := .int) (ty := .int) (N' := n) (a0 := (n, .inl (fun _ => 0))) C.1 C.2.1 (C.2.2.2.2.1 _ hc) rfl C.2.2.2.2.2.1 hP hD hS C.2.2.2.2.2.2.2.1 (fun cA => rfl) (nI_pos hn3) (nI_clamp hn3) (show n * 4 ≤ 536870912 by omega) (by rw [C.2.2.2.2.2.2.2.2.2]; exact h1) (by rw [C.2.2.2.2.2.2.2.2.2]; exact h2) d (fun q cA H1 hK1 hP1 hD1 hS1 => ?_)
  have e : cA = G.2.1.1 := Option.some.inj ((va_nm_int (g_cI C hK1)).symm.trans (va_nm_int (C.2.2.2.2.2.1.2 0 _ rfl).2))
  subst e
  exact k9 q H1 locs ls hP1 hD1 hS1 hl
theorem x_newC {G : gG} {X : gX} {cc : ByteArray} {nL : Nat} {R : Room} {own : String} (C : gC G X cc nL R own) {ws : va_W} {kc ks pc : Nat} {lv : List (Nat × Value)} {st : List Value} {n : Nat} {i : Int32} (d : decode cc pc = .ok (.newarray .char, 2)) (hc : Cond.arrayClass .char ∈ wsG) (hi : i = nI n) (hn : n ≤ 134217728) (h1 : kc + 1 ≤ R.cells) {ks9 : Nat} (he : ks + n = ks9) (h2 : ks9 ≤ R.slots) (k9 : ∀ q, gW G X (ws ++ [(q, .inl (G.2.1.2.1, n, .inl (fun _ => 0)))]) (kc + 1) ks9 (pc + 2) lv (.ref q :: st)) : gW G X ws kc ks pc lv (.int i :: st) := fun H locs ls hP hD hS hl => by
  subst hi; subst he
  have hn3 : n < 2 ^ 31 := by omega
  refine va_newa (atype := .char) (ty := .char) (N' := n) (a0 := (n, .inl (fun _ => 0))) C.1 C.2.1 (C.2.2.2.2.1 _ hc) rfl C.2.2.2.2.2.1 hP hD hS C.2.2.2.2.2.2.2.1 (fun cA => rfl) (nI_pos hn3) (nI_clamp hn3) (show n * 2 ≤ 536870912 by omega) (by rw [C.2.2.2.2.2.2.2.2.2]; exact h1) (by rw [C.2.2.2.2.2.2.2.2.2]; exact h2) d (fun q cA H1 hK1 hP1 hD1 hS1 => ?_)
  have e : cA = G.2.1.2.1 := Option.some.inj ((va_nm_char (g_cI C hK1)).symm.trans (va_nm_char (C.2.2.2.2.2.1.2 1 _ rfl).2))
  subst e
  exact k9 q H1 locs ls hP1 hD1 hS1 hl
theorem g_nmS : "[" ++ (FieldType.object "LessonHorses$Stable").toString = "[LLessonHorses$Stable;" := by decide +kernel
theorem x_newR {G : gG} {X : gX} {cc : ByteArray} {nL : Nat} {R : Room} {own : String} (C : gC G X cc nL R own) {ws : va_W} {kc ks pc : Nat} {lv : List (Nat × Value)} {st : List Value} {n idx : Nat} {i : Int32} (d : decode cc pc = .ok (.anewarray idx, 3)) (hc : Cond.classLink own idx "LessonHorses$Stable" ∈ wsG) (hi : i = nI n) (hn : n ≤ 134217728) (h1 : kc + 1 ≤ R.cells) {ks9 : Nat} (he : ks + n = ks9) (h2 : ks9 ≤ R.slots) (k9 : ∀ q, gW G X (ws ++ [(q, .inl (G.2.1.2.2, n, .inr (.inr (.inr (.inr (fun _ => none))))))]) (kc + 1) ks9 (pc + 3) lv (.ref q :: st)) : gW G X ws kc ks pc lv (.int i :: st) := fun H locs ls hP hD hS hl => by
  subst hi; subst he
  have hn3 : n < 2 ^ 31 := by omega
  refine va_newq (C := "LessonHorses$Stable") (N' := n) C.1 C.2.1 C.2.2.2.1 (C.2.2.2.2.1 _ hc) C.2.2.2.2.2.2.1.2.2.2.2.2.2.2.2.2.2.2 C.2.2.2.2.2.1 hP hD hS C.2.2.2.2.2.2.2.1 (nI_pos hn3) (nI_clamp hn3) (show n * 4 ≤ 536870912 by omega) (by rw [C.2.2.2.2.2.2.2.2.2]; exact h1) (by rw [C.2.2.2.2.2.2.2.2.2]; exact h2) d (fun q cA H1 hK1 hP1 hD1 hS1 => ?_)
  have e : cA = G.2.1.2.2 := Option.some.inj ((va_nmO (g_cI C hK1) g_nmS).symm.trans (va_nmO (C.2.2.2.2.2.1.2 2 _ rfl).2 g_nmS))
  subst e
  exact k9 q H1 locs ls hP1 hD1 hS1 hl
theorem x_new {G : gG} {X : gX} {cc : ByteArray} {nL : Nat} {R : Room} {own : String} (C : gC G X cc nL R own) {ws : va_W} {kc ks pc : Nat} {lv : List (Nat × Value)} {st : List Value} {ci N idx : Nat} {Cn : String} {T : u_T} {fs : List Value} (d : decode cc pc = .ok (.new idx, 3)) (hin : ∀ w ∈ u_ws Cn T N, w ∈ wsG) (ty0 : Nat → FieldType) (hty : ∀ k, k < N → parseFieldDescriptor (T k).2.2.1 = some (ty0 k)) (hcl : Cond.classLink own idx Cn ∈ wsG) (his : Cond.instantiable Cn N ∈ wsG) (hini : Cond.initialized Cn ∈ wsG) (hc : vwCl[ci]? = some (Cn, T, N)) (hfs : ∀ j, j < N → defaultValue (ty0 j) = vp_V fs j) (h1 : kc + 1 ≤ R.cells) (h2 : ks + N ≤ R.slots) (k9 : ∀ q, gW G X (ws ++ [(q, .inr (ci, fs))]) (kc + 1) (ks + N) (pc + 3) lv (.ref q :: st)) : gW G X ws kc ks pc lv st := fun H locs ls hP hD hS hl =>
  va_new C.1 C.2.1 C.2.2.2.2.1 hin ty0 hty C.2.2.2.1 (C.2.2.2.2.1 _ hcl) (C.2.2.2.2.1 _ his) (C.2.2.2.2.1 _ hini) C.2.2.2.2.2.1 hP hD hS C.2.2.2.2.2.2.2.1 hc hfs (by rw [C.2.2.2.2.2.2.2.2.2]; exact h1) (by rw [C.2.2.2.2.2.2.2.2.2]; exact h2) d (fun q H1 hP1 hD1 hS1 => k9 q H1 locs ls hP1 hD1 hS1 hl)
/-- a row of references, by another name of its numbers -/
theorem x_refs {G : gG} {X : gX} {ws : va_W} {kc ks pc : Nat} {lv : List (Nat × Value)} {st : List Value} {a n : Nat} {f g : Nat → Option Nat} {ws' : va_W} (q0 : Nat) (ha : ws[q0]? = some (a, .inl (G.2.1.2.2, n, .inr (.inr (.inr (.inr f)))))) (h : ∀ j, j < n → f j = g j) (hw : ws.set q0 (a, .inl (G.2.1.2.2, n, .inr (.inr (.inr (.inr g))))) = ws') (k9 : gW G X ws' kc ks pc lv st) : gW G X ws kc ks pc lv st := fun H locs ls hP hD hS hl => by
  have hc : vp_cell G.2.1.2.2 (n, .inr (.inr (.inr (.inr f)))) = vp_cell G.2.1.2.2 (n, .inr (.inr (.inr (.inr g)))) := by
    rw [vp_cell_q, vp_cell_q]
    exact arrV_congr fun j hj => by rw [h j hj]
  refine k9 H locs ls (hw ▸ gP_of fun q hq => ?_) (hw ▸ (hD.set ha)) hS hl
  obtain ⟨k, hk⟩ := List.getElem?_of_mem hq
  by_cases hkq : k = q0
  · subst hkq
    have hlt : k < ws.length := (List.getElem?_eq_some_iff.mp ha).1
    rw [List.getElem?_set_self hlt] at hk
    cases hk
    have := hP k _ ha
    show H[a]? = _
    rw [← hc]
    exact this
  · rw [List.getElem?_set_ne (Ne.symm hkq)] at hk
    exact hP k q hk
def gCons (x : Nat) (u : Nat → Nat) : Nat → Nat
  | 0 => x
  | i + 1 => u i
def i_se : Nat → Nat → Int32
  | 0 => fun _ => 0
  | n + 1 => upd (i_se n) n (sT 3 n)
def i_ho : Nat → Nat → Int32
  | 0 => fun _ => 0
  | n + 1 => upd (upd (i_ho n) n (nI (80 + 5 * n))) (10 + n) (nI (n % 4))
def i_ri : Nat → Nat → Int32
  | 0 => fun _ => 0
  | n + 1 => upd (upd (upd (i_ri n) n (nI (40 + 6 * n))) (12 + n) 1) (108 + n) (-5)
def i_q : c_S := (0, i_se 5, i_ho 10, i_ri 12, fun _ => 0, 0, fun _ => 0, 0)
theorem df_X0 : ∀ j, j < 3 → defaultValue (tyX0 j) = vp_V [.null, .int 0, .int 0] j := fun j h => by
  rcases (by omega : j = 0 ∨ j = 1 ∨ j = 2) with rfl | rfl | rfl <;> rfl
theorem df_X1 : ∀ j, j < 6 → defaultValue (tyX1 j) = vp_V [.null, .int 0, .int 0, .int 0, .int 0, .int 0] j := fun j h => by
  rcases (by omega : j = 0 ∨ j = 1 ∨ j = 2 ∨ j = 3 ∨ j = 4 ∨ j = 5) with rfl | rfl | rfl | rfl | rfl | rfl <;> rfl
theorem df_X2 : ∀ j, j < 8 → defaultValue (tyX2 j) = vp_V [.int 0, .null, .null, .null, .null, .int 0, .null, .int 0] j := fun j h => by
  rcases (by omega : j = 0 ∨ j = 1 ∨ j = 2 ∨ j = 3 ∨ j = 4 ∨ j = 5 ∨ j = 6 ∨ j = 7) with rfl | rfl | rfl | rfl | rfl | rfl | rfl | rfl <;> rfl
theorem df_X3 : ∀ j, j < 2 → defaultValue (tyX3 j) = vp_V [.int 0, .null] j := fun j h => by
  rcases (by omega : j = 0 ∨ j = 1) with rfl | rfl <;> rfl
theorem df_X4 : ∀ j, j < 2 → defaultValue (tyX4 j) = vp_V [.null, .int 0] j := fun j h => by
  rcases (by omega : j = 0 ∨ j = 1) with rfl | rfl <;> rfl
theorem df_X5 : ∀ j, j < 7 → defaultValue (tyX5 j) = vp_V [.null, .null, .null, .int 0, .null, .null, .null] j := fun j h => by
  rcases (by omega : j = 0 ∨ j = 1 ∨ j = 2 ∨ j = 3 ∨ j = 4 ∨ j = 5 ∨ j = 6) with rfl | rfl | rfl | rfl | rfl | rfl | rfl <;> rfl
def rm_X3_init (n : Nat) : Room := { frames := 1, cells := 1, slots := n, locals := 20 }
set_option maxRecDepth 100000 in
set_option maxHeartbeats 600000 in
theorem c_X3_init (l : Launch) (G : gG) (a r w n : Nat)  (hn : r * w = n) (h0 : 0 < n) (h1 : n ≤ 134217728) : CT l yX3_init cX3_init 4 none (rm_X3_init n) G [.ref a, .int (nI r), .int (nI w)] [(a, .inr (3, [(.int 0), .null]))] none (fun u => wT G a (u 0) w n (fun _ => 0)) := by
  refine gMet (by decide) (Nat.le_of_ble_eq_true rfl) (fun X hX C hr hin E => ?_)
  clear hX
  refine (show gW G X [(a, .inr (3, [(.int 0), .null]))] 0 0 0 [(0, .ref a), (1, .int (nI r)), (2, .int (nI w))] [] from ?_)
  refine x_aload_n C 0 rfl dX3_init_0 rfl ?_
  refine x_objI C dX3_init_1 ml_X3_1 (Nat.le_of_ble_eq_true rfl) ⟨Nat.le_of_ble_eq_true rfl, Nat.le_of_ble_eq_true rfl⟩ ?_
  refine x_iload_n C 1 rfl dX3_init_4 rfl ?_
  refine x_iload_n C 2 rfl dX3_init_5 rfl ?_
  refine x_imulN C dX3_init_6 ?_
  refine x_top (y := nI n) (congrArg nI hn) ?_
  refine x_istore_n (lv' := [(3, .int (nI n)), (0, .ref a), (1, .int (nI r)), (2, .int (nI w))]) C dX3_init_7 rfl (by decide) rfl ?_
  refine x_aload_n C 1 rfl dX3_init_8 rfl ?_
  refine x_iload_n C 3 rfl dX3_init_9 rfl ?_
  refine x_putF (k := 0) (ws' := [(a, .inr (3, [(.int (nI w)), .null]))]) C dX3_init_10 layX3 tyX3 tyX3_ok nmX3 fl_X3_7 0 rfl rfl (by decide) rfl hin rfl rfl rfl rfl (Nat.le_of_ble_eq_true rfl) rfl ?_
  refine x_aload_n C 1 rfl dX3_init_13 rfl ?_
  refine x_iload_n C 0 rfl dX3_init_14 rfl ?_
  refine x_if_leN (a := n) (tgt := 22) C dX3_init_15 (by decide) (by omega) (fun c1 => False.elim (by omega)) (fun c1 => ?_)
  refine x_iload_n C 0 rfl dX3_init_18 rfl ?_
  refine x_goto (tgt := 23) C dX3_init_19 (by decide) ?_
  refine x_newI (n := n) C dX3_init_23 ac_int rfl (by omega) (Nat.le_of_ble_eq_true rfl) (Nat.zero_add _) (Nat.le_refl _) (fun q2 => ?_)
  refine (show gW G X ([(a, .inr (3, [(.int (nI w)), .null]))] ++ [(q2, .inl (G.2.1.1, n, .inl (fun _ => 0)))]) 1 n 25 [(3, .int (nI n)), (0, .ref a), (1, .int (nI r)), (2, .int (nI w))] [.ref q2, .ref a] from ?_)
  refine x_putF (k := 1) (ws' := ([(a, .inr (3, [(.int (nI w)), (.ref q2)]))] ++ [(q2, .inl (G.2.1.1, n, .inl (fun _ => 0)))])) C dX3_init_25 layX3 tyX3 tyX3_ok nmX3 fl_X3_13 0 rfl rfl (by decide) rfl hin rfl rfl rfl rfl (Nat.le_of_ble_eq_true rfl) rfl ?_
  exact x_vret C hr E dX3_init_28 (fun _ => q2) rfl
def rm_X4_init : Room := { frames := 1, cells := 1, slots := 60, locals := 20 }
set_option maxRecDepth 100000 in
set_option maxHeartbeats 600000 in
theorem c_X4_init (l : Launch) (G : gG) (t : Nat)  : CT l yX4_init cX4_init 1 none rm_X4_init G [.ref t] [(t, .inr (4, [.null, (.int 0)]))] none (fun u => wX4 G (gCons t u) (fun _ => 0) 0) := by
  refine gMet (by decide) (Nat.le_of_ble_eq_true rfl) (fun X hX C hr hin E => ?_)
  clear hX
  refine (show gW G X [(t, .inr (4, [.null, (.int 0)]))] 0 0 0 [(0, .ref t)] [] from ?_)
  refine x_aload_n C 0 rfl dX4_init_0 rfl ?_
  refine x_objI C dX4_init_1 ml_X4_3 (Nat.le_of_ble_eq_true rfl) ⟨Nat.le_of_ble_eq_true rfl, Nat.le_of_ble_eq_true rfl⟩ ?_
  refine x_aload_n C 0 rfl dX4_init_4 rfl ?_
  refine x_bipush (v := (nI 60)) C dX4_init_5 (by decide) ?_
  refine x_newC (n := 60) C dX4_init_7 ac_char rfl (by omega) (Nat.le_of_ble_eq_true rfl) rfl (Nat.le_of_ble_eq_true rfl) (fun q1 => ?_)
  refine (show gW G X ([(t, .inr (4, [.null, (.int 0)]))] ++ [(q1, .inl (G.2.1.2.1, 60, .inl (fun _ => 0)))]) 1 60 9 [(0, .ref t)] [.ref q1, .ref t] from ?_)
  refine x_putF (k := 0) (ws' := ([(t, .inr (4, [(.ref q1), (.int 0)]))] ++ [(q1, .inl (G.2.1.2.1, 60, .inl (fun _ => 0)))])) C dX4_init_9 layX4 tyX4 tyX4_ok nmX4 fl_X4_9 0 rfl rfl (by decide) rfl hin rfl rfl rfl rfl (Nat.le_of_ble_eq_true rfl) rfl ?_
  exact x_vret C hr E dX4_init_12 (fun _ => q1) rfl
def rm_X1_init : Room := { frames := 2, cells := 2, slots := 182, locals := 43 }
set_option maxRecDepth 100000 in
set_option maxHeartbeats 600000 in
theorem c_X1_init (l : Launch) (G : gG) (p : Nat)  : CT l yX1_init cX1_init 1 none rm_X1_init G [.ref p] [(p, .inr (1, [.null, (.int 0), (.int 0), (.int 0), (.int 0), (.int 0)]))] none (fun u => wX1 G (gCons p u) 0 0 0 0 0 (fun _ => 0)) := by
  refine gMet (by decide) (Nat.le_of_ble_eq_true rfl) (fun X hX C hr hin E => ?_)
  clear hX
  refine (show gW G X [(p, .inr (1, [.null, (.int 0), (.int 0), (.int 0), (.int 0), (.int 0)]))] 0 0 0 [(0, .ref p)] [] from ?_)
  refine x_aload_n C 0 rfl dX1_init_0 rfl ?_
  refine x_objI C dX1_init_1 ml_X1_3 (Nat.le_of_ble_eq_true rfl) ⟨Nat.le_of_ble_eq_true rfl, Nat.le_of_ble_eq_true rfl⟩ ?_
  refine x_aload_n C 0 rfl dX1_init_4 rfl ?_
  refine x_new (ci := 3) (fs := [.int 0, .null]) C dX1_init_5 layX3 tyX3 tyX3_ok cl_X1_9 is_X3 in_X3 rfl df_X3 (Nat.le_of_ble_eq_true rfl) (Nat.le_of_ble_eq_true rfl) (fun q1 => ?_)
  refine (show gW G X ([(p, .inr (1, [.null, (.int 0), (.int 0), (.int 0), (.int 0), (.int 0)]))] ++ [(q1, .inr (3, [(.int 0), .null]))]) 1 2 8 [(0, .ref p)] [.ref q1, .ref p] from ?_)
  refine x_dup C rfl dX1_init_8 ?_
  refine x_iconst (v := (nI 3)) C dX1_init_9 (by decide) ?_
  refine x_bipush (v := (nI 60)) C dX1_init_10 (by decide) ?_
  refine x_callI (ret := none) (As := [.int (nI 3), .int (nI 60)]) (rest := [.ref q1, .ref p]) C dX1_init_12 (c_X3_init (gX.l X) G q1 3 60 180 rfl (by decide) (by decide)) ml_X1_13 im_X3_init in_X3 cd_X3_init rfl hd_X3_init rfl rfl (Nat.le_of_ble_eq_true rfl) ⟨Nat.le_of_ble_eq_true rfl, Nat.le_of_ble_eq_true rfl⟩ [(p, .inr (1, [.null, (.int 0), (.int 0), (.int 0), (.int 0), (.int 0)]))] [] rfl ⟨Nat.le_of_ble_eq_true rfl, Nat.le_of_ble_eq_true rfl⟩ (fun u2 => ?_)
  refine (show gW G X ([(p, .inr (1, [.null, (.int 0), (.int 0), (.int 0), (.int 0), (.int 0)]))] ++ (wT G q1 (u2 0) 60 180 (fun _ => 0) ++ [])) 2 182 15 [(0, .ref p)] [.ref q1, .ref p] from ?_)
  refine x_putF (k := 0) (ws' := ([(p, .inr (1, [(.ref q1), (.int 0), (.int 0), (.int 0), (.int 0), (.int 0)]))] ++ (wT G q1 (u2 0) 60 180 (fun _ => 0) ++ []))) C dX1_init_15 layX1 tyX1 tyX1_ok nmX1 fl_X1_16 0 rfl rfl (by decide) rfl hin rfl rfl rfl rfl (Nat.le_of_ble_eq_true rfl) rfl ?_
  exact x_vret C hr E dX1_init_18 (fun i => ([q1, u2 0] : List Nat).getD i 0) rfl
