set_option maxRecDepth 100000 in
set_option maxHeartbeats 1000000 in
theorem law_perm (G : gG) (q : Nat) (u : Nat → Nat) : List.Perm (([(q, .inr (5, [.ref (u 0), .ref (u 11), .ref (u 22), .int 0, .ref (u 33), .ref (u 79), .ref (u 81)]))] ++ (wQ G (fun i => u i) i_q ++ (wQ G (fun i => u (11 + i)) i_q ++ (wQ G (fun i => u (22 + i)) i_q ++ (wH G (fun i => u (33 + i)) (fun j i => u (35 + 11 * j + i)) 0 0 (fun _ => i_q) ++ (wX4 G (fun i => u (79 + i)) (fun _ => 0) 0 ++ (wX1 G (fun i => u (81 + i)) 0 0 0 0 0 (fun _ => 0) ++ []))))))) ++ []) (wC G q (fun i => u i) (fun i => u (11 + i)) (fun i => u (22 + i)) (fun i => u (33 + i)) (fun j i => u (35 + 11 * j + i)) (fun i => u (79 + i)) (fun i => u (81 + i)) i_q 0 0 (fun _ => i_q) i_q i_q 0 (fun _ => 0) 0 0 0 0 0 0 (fun _ => 0)) := by
  rw [List.append_nil]
  show List.Perm ([(q, .inr (5, [.ref (u 0), .ref (u 11), .ref (u 22), .int 0, .ref (u 33), .ref (u 79), .ref (u 81)]))] ++ (wQ G (fun i => u i) i_q ++ (wQ G (fun i => u (11 + i)) i_q ++ (wQ G (fun i => u (22 + i)) i_q ++ (wH G (fun i => u (33 + i)) (fun j i => u (35 + 11 * j + i)) 0 0 (fun _ => i_q) ++ (wX4 G (fun i => u (79 + i)) (fun _ => 0) 0 ++ (wX1 G (fun i => u (81 + i)) 0 0 0 0 0 (fun _ => 0) ++ []))))))) ([(q, .inr (5, [.ref (u 0), .ref (u 11), .ref (u 22), .int 0, .ref (u 33), .ref (u 79), .ref (u 81)]))] ++ (wQ G (fun i => u i) i_q ++ (wH G (fun i => u (33 + i)) (fun j i => u (35 + 11 * j + i)) 0 0 (fun _ => i_q) ++ (wQ G (fun i => u (11 + i)) i_q ++ (wQ G (fun i => u (22 + i)) i_q ++ (wX4 G (fun i => u (79 + i)) (fun _ => 0) 0 ++ (wX1 G (fun i => u (81 + i)) 0 0 0 0 0 (fun _ => 0) ++ [])))))))
  exact List.Perm.append_left _ (List.Perm.append_left _ ((List.Perm.append_left _ gPc).trans gPc))
set_option maxRecDepth 100000 in
set_option maxHeartbeats 1000000 in
theorem law_body {G : gG} {X : gX} (C : gC G X code 4 room_1 "LessonHorsesLaw") {b L : Nat} {xs : Nat → Int32} (hX : va_X b L xs (gX.s X) (gX.s X).heap) (hbl : b < (gX.s X).heap.size) (hbA : ¬ gX.A X b) (hL : L ≤ 2048) (hend : ∀ ws lv, gW G X ws 93 5895 751 lv [.int 1]) : gW G X [] 0 0 0 [(0, .ref b)] [] := by
  refine x_new (ci := 5) (fs := [.null, .null, .null, .int 0, .null, .null, .null]) C dL_law_0 layX5 tyX5 tyX5_ok cl_L_7 is_X5 in_X5 rfl df_X5 (Nat.le_of_ble_eq_true rfl) (Nat.le_of_ble_eq_true rfl) (fun q => ?_)
  refine (show gW G X [(q, .inr (5, [.null, .null, .null, .int 0, .null, .null, .null]))] 1 7 3 [(0, .ref b)] [.ref q] from ?_)
  refine x_dup C rfl dL_law_3 ?_
  refine x_callI (ret := none) (As := []) (rest := [.ref q]) C dL_law_4 (c_X5_init (gX.l X) G q) ml_L_9 im_X5_init in_X5 cd_X5_init rfl hd_X5_init rfl rfl (Nat.le_of_ble_eq_true rfl) ⟨(Nat.le_of_ble_eq_true rfl), (Nat.le_of_ble_eq_true rfl)⟩ [] [] rfl ⟨(Nat.le_of_ble_eq_true rfl), (Nat.le_of_ble_eq_true rfl)⟩ (fun u => ?_)
  refine (show gW G X (([(q, .inr (5, [.ref (u 0), .ref (u 11), .ref (u 22), .int 0, .ref (u 33), .ref (u 79), .ref (u 81)]))] ++ (wQ G (fun i => u i) i_q ++ (wQ G (fun i => u (11 + i)) i_q ++ (wQ G (fun i => u (22 + i)) i_q ++ (wH G (fun i => u (33 + i)) (fun j i => u (35 + 11 * j + i)) 0 0 (fun _ => i_q) ++ (wX4 G (fun i => u (79 + i)) (fun _ => 0) 0 ++ (wX1 G (fun i => u (81 + i)) 0 0 0 0 0 (fun _ => 0) ++ []))))))) ++ []) 85 3155 7 [(0, .ref b)] [.ref q] from ?_)
  refine x_perm (law_perm G q u) ?_
  refine x_astore_n (lv' := [(1, .ref q), (0, .ref b)]) C dL_law_7 rfl (by decide) rfl ?_
  refine x_new (ci := 6) (fs := [.null, .null, .null, .int 0, .null, .int 0, .null, .int 0, .null, .null, .int 0, .int 0, .int 0, .int 0]) C dL_law_8 layX6 tyX6 tyX6_ok cl_L_10 is_X6 in_X6 rfl df_X6 (Nat.le_of_ble_eq_true rfl) (Nat.le_of_ble_eq_true rfl) (fun a => ?_)
  refine (show gW G X (wC G q (fun i => u i) (fun i => u (11 + i)) (fun i => u (22 + i)) (fun i => u (33 + i)) (fun j i => u (35 + 11 * j + i)) (fun i => u (79 + i)) (fun i => u (81 + i)) i_q 0 0 (fun _ => i_q) i_q i_q 0 (fun _ => 0) 0 0 0 0 0 0 (fun _ => 0) ++ [(a, .inr (6, [.null, .null, .null, .int 0, .null, .int 0, .null, .int 0, .null, .null, .int 0, .int 0, .int 0, .int 0]))]) 86 3169 11 [(1, .ref q), (0, .ref b)] [.ref a] from ?_)
  refine x_dup C rfl dL_law_11 ?_
  refine x_callI (ret := none) (As := []) (rest := [.ref a]) C dL_law_12 (c_X6_init (gX.l X) G a) ml_L_12 im_X6_init in_X6 cd_X6_init rfl hd_X6_init rfl rfl (Nat.le_of_ble_eq_true rfl) ⟨(Nat.le_of_ble_eq_true rfl), (Nat.le_of_ble_eq_true rfl)⟩ (wC G q (fun i => u i) (fun i => u (11 + i)) (fun i => u (22 + i)) (fun i => u (33 + i)) (fun j i => u (35 + 11 * j + i)) (fun i => u (79 + i)) (fun i => u (81 + i)) i_q 0 0 (fun _ => i_q) i_q i_q 0 (fun _ => 0) 0 0 0 0 0 0 (fun _ => 0)) [] rfl ⟨(Nat.le_of_ble_eq_true rfl), (Nat.le_of_ble_eq_true rfl)⟩ (fun v => ?_)
  refine (show gW G X (wC G q (fun i => u i) (fun i => u (11 + i)) (fun i => u (22 + i)) (fun i => u (33 + i)) (fun j i => u (35 + 11 * j + i)) (fun i => u (79 + i)) (fun i => u (81 + i)) i_q 0 0 (fun _ => i_q) i_q i_q 0 (fun _ => 0) 0 0 0 0 0 0 (fun _ => 0) ++ (wM G (gCons a v) i_ms (fun _ => 0) (fun _ => 0) 0 (fun _ => 0) 0 (fun _ => 0) 0 (fun _ => 0) (fun _ => 0) 0 0 0 0 ++ [])) 93 5895 15 [(1, .ref q), (0, .ref b)] [.ref a] from ?_)
  refine x_astore_n (lv' := [(2, .ref a), (1, .ref q), (0, .ref b)]) C dL_law_15 rfl (by decide) rfl ?_
  refine x_iconst (v := nI 0) C dL_law_16 (by decide) ?_
  refine x_istore_n (lv' := [(3, .int (nI 0)), (2, .ref (gCons a v 0)), (1, .ref q), (0, .ref b)]) C dL_law_17 rfl (by decide) rfl ?_
  have W0 : LW i_q 0 0 (fun _ => i_q) i_q 0 (fun _ => 0) 0 i_ms (fun _ => 0) 0 (fun _ => 0) 0 (fun _ => 0) 0 := ⟨RR_ms, Nat.zero_le _, HR_ms, rfl, fun h => absurd rfl h, rfl, rfl, Nat.zero_le _, fun _ _ => okC_0⟩
  exact law_loop C hX hbl hbA hL ⟨(Nat.le_of_ble_eq_true rfl), (Nat.le_of_ble_eq_true rfl)⟩ hend 513 0 (by omega) (by omega) _ _ _ _ _ _ _ _ _ _ _ _ _ _ _ _ _ _ _ _ _ _ _ _ _ _ _ _ _ W0
/-- YOUR PART: from the entry, for every script of at most 2048 ints, the law comes to its end with true ('hflags': the launch's flags, for a law that throws: no stack traces) -/
theorem whole_start {p : Program} {e : Env} {s : State} {m : MethodId} {below : List Frame} {meth : Method} {c : Code} (l : Launch) (hflags : l.flags = flags0) {b L : Nat} {xs : Nat → Int32} (hL : L ≤ 2048) (C0 : lw_At p s m meth c b L xs) : W p l e room_1 s m #[Value.ref b] below meth c s.heap [] 0 0 (lw_Z below #[Value.ref b] s) (entryFrame m ([Value.ref b] : List Value).toArray 4) := by
  obtain ⟨hx, hb, hr, hml, hown, hts, hX, hbl, hlocks, hgv⟩ := id C0
  obtain ⟨G, hK, hSF⟩ := g_start hts hgv
  have hbA : ¬ (fun q : Nat => s.heap.size ≤ q) b := Nat.not_le.mpr hbl
  have C : gC G (p, l, e, s, m, #[Value.ref b], below, meth, c, (fun q : Nat => s.heap.size ≤ q), lw_Z below #[Value.ref b] s, room_1) code 4 room_1 "LessonHorsesLaw" := ⟨hx, hb, hml, hown, fun w h => hts w (wsG_in w h), hK, hSF, fun _ h => h, hlocks, rfl⟩
  have key := law_body C hX hbl hbA hL (fun ws lv H locs ls hP hD hS hl => va_forget hS.2.2 (W.widen (k := 600000) (n := 7302250) (Nat.le_of_ble_eq_true rfl) (Nat.le_of_ble_eq_true rfl) (lw_ret hx hb hr hlocks dL_law_751)))
  have hl := lv_entry ([.ref b]) (n := 4) (Nat.le_of_ble_eq_true rfl)
  rw [lg_entry_eq]
  generalize (lg_sl ([.ref b]) ++ List.replicate (4 - (lg_sl ([.ref b])).length) Slot.unset).toArray = ls at hl ⊢
  have hl : lv_has ls 4 [(0, .ref b)] := hl
  exact key s.heap [] ls (fun k q h => by simp at h) ⟨fun i j p q h => by simp at h, fun k q h => by simp at h⟩ va_S.rf (by show lv_has ls c.maxLocals _; rw [hml]; exact hl)
