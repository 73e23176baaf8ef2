set_option maxRecDepth 100000 in
set_option maxHeartbeats 1000000 in
theorem law_loop {G : gG} {X : gX} (C : gC G X code 8 room_1 "LessonHorsesLaw") {x y : Nat} {A B : oA} (hend : ∀ ws lv, gW G X ws 170 6310 218 lv [.int (nI 1)]) : ∀ (fu e : Nat), e + fu = 46 → ∀ (now : c_S) (nx sz : Nat) (hs : Nat → c_S) (ahead : c_S) (nx2 sz2 : Nat) (hs2 : Nat → c_S) (ah2 : c_S), INV now → nx < 4 → sz ≤ 4 → nx2 < 4 → sz2 ≤ 4 → gW G X ((wO G x A now nx sz hs ahead) ++ ((wO G y B now nx2 sz2 hs2 ah2) ++ [])) 170 6310 18 [(3, .int (nI e)), (0, .ref (G.2.2 4)), (1, .ref x), (2, .ref y)] [] := by
  intro fu
  induction fu with
  | zero =>
    intro e he now nx sz hs ahead nx2 sz2 hs2 ah2 hI h1 h2 h3 h4
    refine x_iload_n C 0 rfl dL_law_18 rfl ?_
    refine x_bipush (v := (nI 46)) C dL_law_19 (by decide) ?_
    refine x_icmp_geN (a := e) (b := 46) (tgt := 214) C dL_law_21 (by decide) (by omega) (by omega) (fun c1 => ?_) (fun c1 => False.elim (by omega))
    refine x_aload_n C 2 rfl dL_law_214 rfl ?_
    refine x_callSd (As := [.ref x]) (rest := []) C dL_law_215 (c_L_areSums (gX.l X) G x A now nx sz hs ahead hI.1 h1 h2 hI) ml_L_80 st_L_areSums in_L cd_L_areSums hd_L_areSums rfl rfl (Nat.le_of_ble_eq_true rfl) ⟨Nat.le_of_ble_eq_true rfl, Nat.le_of_ble_eq_true rfl⟩ [] ((wO G y B now nx2 sz2 hs2 ah2) ++ []) (by simp only [List.append_assoc, List.nil_append, List.append_nil]) (ws' := ((wO G x A now nx sz hs ahead) ++ ((wO G y B now nx2 sz2 hs2 ah2) ++ []))) (by simp only [List.append_assoc, List.nil_append, List.append_nil]) (st' := [.int (nI 1)]) rfl ⟨rfl, rfl⟩ ⟨Nat.le_of_ble_eq_true rfl, Nat.le_of_ble_eq_true rfl⟩ ?_
    exact hend _ _
  | succ fu ih =>
    intro e he now nx sz hs ahead nx2 sz2 hs2 ah2 hI h1 h2 h3 h4
    refine x_iload_n C 0 rfl dL_law_18 rfl ?_
    refine x_bipush (v := (nI 46)) C dL_law_19 (by decide) ?_
    refine x_icmp_geN (a := e) (b := 46) (tgt := 214) C dL_law_21 (by decide) (by omega) (by omega) (fun c1 => False.elim (by omega)) (fun c1 => ?_)
    refine x_iload_n C 0 rfl dL_law_24 rfl ?_
    refine x_iconst (v := (nI 5)) C dL_law_25 (by decide) ?_
    have J3 : ∀ (y4 : Int32) , y4 = (if e < 5 then ((sCell G e) &&& (-16)) else (sCell G e)) → gW G X ((wO G x A now nx sz hs ahead) ++ ((wO G y B now nx2 sz2 hs2 ah2) ++ [])) 170 6310 45 [(3, .int (nI e)), (0, .ref (G.2.2 4)), (1, .ref x), (2, .ref y)] [.int y4] := by
      intro y4 ey4
      subst ey4
      refine x_istore (lv' := [(4, .int (if e < 5 then ((sCell G e) &&& (-16)) else (sCell G e))), (3, .int (nI e)), (0, .ref (G.2.2 4)), (1, .ref x), (2, .ref y)]) C dL_law_45 (by decide) rfl ?_
      refine (show gW G X ((wO G x A now nx sz hs ahead) ++ ((wO G y B now nx2 sz2 hs2 ah2) ++ [])) 170 6310 47 [(4, .int (if e < 5 then ((sCell G e) &&& (-16)) else (sCell G e))), (3, .int (nI e)), (0, .ref (G.2.2 4)), (1, .ref x), (2, .ref y)] [] from ?_)
      exact law_act C (by omega) (ih (e + 1) (by omega)) hI h1 h2 h3 h4
    refine x_icmp_geN (a := e) (b := 5) (tgt := 40) C dL_law_26 (by decide) (by omega) (by omega) (fun c2 => ?_) (fun c2 => ?_)
    · refine x_aload_n C 1 rfl dL_law_40 rfl ?_
      refine x_iload_n C 0 rfl dL_law_41 rfl ?_
      refine x_callSd (As := [.ref (G.2.2 4), .int (nI e)]) (rest := []) C dL_law_42 (c_L_cell (gX.l X) G e (by omega)) ml_L_65 st_L_cell in_L cd_L_cell hd_L_cell rfl rfl (Nat.le_of_ble_eq_true rfl) ⟨Nat.le_of_ble_eq_true rfl, Nat.le_of_ble_eq_true rfl⟩ [] ((wO G x A now nx sz hs ahead) ++ ((wO G y B now nx2 sz2 hs2 ah2) ++ [])) rfl (ws' := ((wO G x A now nx sz hs ahead) ++ ((wO G y B now nx2 sz2 hs2 ah2) ++ []))) rfl (st' := [.int (sCell G e)]) rfl ⟨rfl, rfl⟩ ⟨Nat.le_of_ble_eq_true rfl, Nat.le_of_ble_eq_true rfl⟩ ?_
      exact J3 (sCell G e) (by rw [if_neg c2] <;> rfl)
    · refine x_aload_n C 1 rfl dL_law_29 rfl ?_
      refine x_iload_n C 0 rfl dL_law_30 rfl ?_
      refine x_callSd (As := [.ref (G.2.2 4), .int (nI e)]) (rest := []) C dL_law_31 (c_L_cell (gX.l X) G e (by omega)) ml_L_65 st_L_cell in_L cd_L_cell hd_L_cell rfl rfl (Nat.le_of_ble_eq_true rfl) ⟨Nat.le_of_ble_eq_true rfl, Nat.le_of_ble_eq_true rfl⟩ [] ((wO G x A now nx sz hs ahead) ++ ((wO G y B now nx2 sz2 hs2 ah2) ++ [])) rfl (ws' := ((wO G x A now nx sz hs ahead) ++ ((wO G y B now nx2 sz2 hs2 ah2) ++ []))) rfl (st' := [.int (sCell G e)]) rfl ⟨rfl, rfl⟩ ⟨Nat.le_of_ble_eq_true rfl, Nat.le_of_ble_eq_true rfl⟩ ?_
      refine x_bipush (v := (-16)) C dL_law_34 (by decide) ?_
      refine x_iand (x := (sCell G e)) (y := (-16)) C dL_law_36 ?_
      refine x_goto (tgt := 45) C dL_law_37 (by decide) ?_
      exact J3 ((sCell G e) &&& (-16)) (by rw [if_pos c2] <;> rfl)
def oB (u : Nat → Nat) : oA := (fun i => u i, fun i => u (11 + i), fun i => u (22 + i), fun i => u (33 + i), fun j i => u (35 + 11 * j + i), fun i => u (79 + i), fun i => u (81 + i))
set_option maxRecDepth 100000 in
set_option maxHeartbeats 1000000 in
theorem law_perm (G : gG) (q : Nat) (u : Nat → Nat) : List.Perm (([(q, .inr (5, [.ref (u 0), .ref (u 11), .ref (u 22), .int 0, .ref (u 33), .ref (u 79), .ref (u 81)]))] ++ (wQ G (fun i => u i) i_q ++ (wQ G (fun i => u (11 + i)) i_q ++ (wQ G (fun i => u (22 + i)) i_q ++ (wH G (fun i => u (33 + i)) (fun j i => u (35 + 11 * j + i)) 0 0 (fun _ => i_q) ++ (wX4 G (fun i => u (79 + i)) (fun _ => 0) 0 ++ (wX1 G (fun i => u (81 + i)) 0 0 0 0 0 (fun _ => 0) ++ []))))))) ++ []) (wO G q (oB u) i_q 0 0 (fun _ => i_q) i_q) := by
  rw [List.append_nil]
  show List.Perm ([(q, .inr (5, [.ref (u 0), .ref (u 11), .ref (u 22), .int 0, .ref (u 33), .ref (u 79), .ref (u 81)]))] ++ (wQ G (fun i => u i) i_q ++ (wQ G (fun i => u (11 + i)) i_q ++ (wQ G (fun i => u (22 + i)) i_q ++ (wH G (fun i => u (33 + i)) (fun j i => u (35 + 11 * j + i)) 0 0 (fun _ => i_q) ++ (wX4 G (fun i => u (79 + i)) (fun _ => 0) 0 ++ (wX1 G (fun i => u (81 + i)) 0 0 0 0 0 (fun _ => 0) ++ []))))))) ([(q, .inr (5, [.ref (u 0), .ref (u 11), .ref (u 22), .int 0, .ref (u 33), .ref (u 79), .ref (u 81)]))] ++ (wQ G (fun i => u i) i_q ++ (wH G (fun i => u (33 + i)) (fun j i => u (35 + 11 * j + i)) 0 0 (fun _ => i_q) ++ (wQ G (fun i => u (11 + i)) i_q ++ (wQ G (fun i => u (22 + i)) i_q ++ (wX4 G (fun i => u (79 + i)) (fun _ => 0) 0 ++ (wX1 G (fun i => u (81 + i)) 0 0 0 0 0 (fun _ => 0) ++ [])))))))
  exact List.Perm.append_left _ (List.Perm.append_left _ ((List.Perm.append_left _ gPc).trans gPc))
set_option maxRecDepth 100000 in
set_option maxHeartbeats 1000000 in
theorem law_body {G : gG} {X : gX} (C : gC G X code 8 room_1 "LessonHorsesLaw") (hend : ∀ ws lv, gW G X ws 170 6310 218 lv [.int (nI 1)]) : gW G X [] 0 0 0 [(0, .ref (G.2.2 4))] [] := by
  refine x_new (ci := 5) (fs := [.null, .null, .null, .int 0, .null, .null, .null]) C dL_law_0 layX5 tyX5 tyX5_ok cl_L_15 is_X5 in_X5 rfl df_X5 (Nat.le_of_ble_eq_true rfl) (Nat.le_of_ble_eq_true rfl) (fun x => ?_)
  refine (show gW G X [(x, .inr (5, [.null, .null, .null, .int 0, .null, .null, .null]))] 1 7 3 [(0, .ref (G.2.2 4))] [.ref x] from ?_)
  refine x_dup C rfl dL_law_3 ?_
  refine x_callI (ret := none) (As := []) (rest := [.ref x]) C dL_law_4 (c_X5_init (gX.l X) G x) ml_L_64 im_X5_init in_X5 cd_X5_init rfl hd_X5_init rfl rfl (Nat.le_of_ble_eq_true rfl) ⟨Nat.le_of_ble_eq_true rfl, Nat.le_of_ble_eq_true rfl⟩ [] [] rfl ⟨Nat.le_of_ble_eq_true rfl, Nat.le_of_ble_eq_true rfl⟩ (fun u => ?_)
  refine (show gW G X (([(x, .inr (5, [.ref (u 0), .ref (u 11), .ref (u 22), .int 0, .ref (u 33), .ref (u 79), .ref (u 81)]))] ++ (wQ G (fun i => u i) i_q ++ (wQ G (fun i => u (11 + i)) i_q ++ (wQ G (fun i => u (22 + i)) i_q ++ (wH G (fun i => u (33 + i)) (fun j i => u (35 + 11 * j + i)) 0 0 (fun _ => i_q) ++ (wX4 G (fun i => u (79 + i)) (fun _ => 0) 0 ++ (wX1 G (fun i => u (81 + i)) 0 0 0 0 0 (fun _ => 0) ++ []))))))) ++ []) 85 3155 7 [(0, .ref (G.2.2 4))] [.ref x] from ?_)
  refine x_perm (law_perm G x u) ?_
  refine x_astore_n (lv' := [(1, .ref x), (0, .ref (G.2.2 4))]) C dL_law_7 rfl (by decide) rfl ?_
  refine x_new (ci := 5) (fs := [.null, .null, .null, .int 0, .null, .null, .null]) C dL_law_8 layX5 tyX5 tyX5_ok cl_L_15 is_X5 in_X5 rfl df_X5 (Nat.le_of_ble_eq_true rfl) (Nat.le_of_ble_eq_true rfl) (fun y => ?_)
  refine (show gW G X (wO G x (oB u) i_q 0 0 (fun _ => i_q) i_q ++ [(y, .inr (5, [.null, .null, .null, .int 0, .null, .null, .null]))]) 86 3162 11 [(1, .ref x), (0, .ref (G.2.2 4))] [.ref y] from ?_)
  refine x_dup C rfl dL_law_11 ?_
  refine x_callI (ret := none) (As := []) (rest := [.ref y]) C dL_law_12 (c_X5_init (gX.l X) G y) ml_L_64 im_X5_init in_X5 cd_X5_init rfl hd_X5_init rfl rfl (Nat.le_of_ble_eq_true rfl) ⟨Nat.le_of_ble_eq_true rfl, Nat.le_of_ble_eq_true rfl⟩ (wO G x (oB u) i_q 0 0 (fun _ => i_q) i_q) [] rfl ⟨Nat.le_of_ble_eq_true rfl, Nat.le_of_ble_eq_true rfl⟩ (fun w => ?_)
  refine (show gW G X (wO G x (oB u) i_q 0 0 (fun _ => i_q) i_q ++ (([(y, .inr (5, [.ref (w 0), .ref (w 11), .ref (w 22), .int 0, .ref (w 33), .ref (w 79), .ref (w 81)]))] ++ (wQ G (fun i => w i) i_q ++ (wQ G (fun i => w (11 + i)) i_q ++ (wQ G (fun i => w (22 + i)) i_q ++ (wH G (fun i => w (33 + i)) (fun j i => w (35 + 11 * j + i)) 0 0 (fun _ => i_q) ++ (wX4 G (fun i => w (79 + i)) (fun _ => 0) 0 ++ (wX1 G (fun i => w (81 + i)) 0 0 0 0 0 (fun _ => 0) ++ []))))))) ++ [])) 170 6310 15 [(1, .ref x), (0, .ref (G.2.2 4))] [.ref y] from ?_)
  refine x_perm (List.Perm.append_left _ (law_perm G y w)) ?_
  refine x_ws (ws' := (wO G x (oB u) i_q 0 0 (fun _ => i_q) i_q) ++ ((wO G y (oB w) i_q 0 0 (fun _ => i_q) i_q) ++ [])) (by rw [List.append_nil]) ?_
  refine x_astore_n (lv' := [(2, .ref y), (1, .ref x), (0, .ref (G.2.2 4))]) C dL_law_15 rfl (by decide) rfl ?_
  refine x_iconst (v := (nI 0)) C dL_law_16 (by decide) ?_
  refine x_istore_n (lv' := [(3, .int (nI 0)), (2, .ref y), (1, .ref x), (0, .ref (G.2.2 4))]) C dL_law_17 rfl (by decide) rfl ?_
  refine x_lv [0, 3, 2, 1] (lv' := [(3, .int (nI 0)), (0, .ref (G.2.2 4)), (1, .ref x), (2, .ref y)]) rfl ?_
  exact law_loop C hend 46 0 rfl i_q 0 0 (fun _ => i_q) i_q 0 0 (fun _ => i_q) i_q INV_0 (by omega) (by omega) (by omega) (by omega)
