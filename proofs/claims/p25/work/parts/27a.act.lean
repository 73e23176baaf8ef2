/-! ===== the law's small methods ===== -/
def lo (v : Int32) (n : Nat) : Nat := nC (v &&& 2147483647) % n
theorem lo_lt (v : Int32) {n : Nat} (h : 0 < n) : lo v n < n := Nat.mod_lt _ h
theorem lo_31 (v : Int32) : nC (v &&& 2147483647) < 2 ^ 31 ∧ v &&& 2147483647 = nI (nC (v &&& 2147483647)) := by
  obtain ⟨j, hj, e⟩ := pk_andE v (m := 2147483647) 31 (by decide)
  rw [e, nC_nI hj]
  exact ⟨hj, rfl⟩
/-- the script's cell k as the law reads it -/
def sCell (G : gG) (k : Nat) : Int32 := if k < G.2.2 5 then nI (G.2.2 (6 + k)) else nI (7919 * (k + 7) * (k + 107))
def a_x (v : Int32) : Int32 := v >>> (4 &&& 31)
def a_r (v : Int32) : Nat := lo (a_x v >>> (4 &&& 31)) (if lo (v >>> (22 &&& 31)) 7 = 0 then 13 else 12)
def a_act (now : c_S) (hs : Nat → c_S) (nx sz : Nat) (v : Int32) : k_R :=
  if lo v 16 < 7 then kX_book now hs nx sz (nI (lo (a_x v >>> (2 &&& 31)) (if lo (a_x v >>> (9 &&& 31)) 5 = 0 then 102 else 2))) (nI (lo (a_x v) (if lo (v >>> (21 &&& 31)) 7 = 0 then 4 else 3))) (nI (a_r v))
  else if lo v 16 = 7 then kX_cancel now hs nx sz (nI (lo (a_x v) 3)) (nI (a_r v))
  else if lo v 16 = 8 then kX_setHorse now hs nx sz (nI (lo (a_x v) 11)) (nI (15 + lo (a_x v >>> (3 &&& 31)) 140)) (nI (lo (a_x v >>> (5 &&& 31)) 11))
  else if lo v 16 = 9 then kX_setRider now hs nx sz (nI (a_r v)) (nI (15 + lo (a_x v >>> (3 &&& 31)) 120)) (nI (lo (a_x v >>> (6 &&& 31)) 11))
  else if lo v 16 = 10 then kX_set now hs nx sz (nI (lo (a_x v) 6)) (nI (lo (a_x v >>> (4 &&& 31)) 14))
  else kX_pass now hs nx sz (nI (lo (a_x v) (if lo (a_x v >>> (6 &&& 31)) 6 = 0 then 101 else 4)))
theorem a_act_0 {now : c_S} {hs : Nat → c_S} {nx sz : Nat} {v : Int32} (h : lo v 16 < 7) : a_act now hs nx sz v = kX_book now hs nx sz (nI (lo (a_x v >>> (2 &&& 31)) (if lo (a_x v >>> (9 &&& 31)) 5 = 0 then 102 else 2))) (nI (lo (a_x v) (if lo (v >>> (21 &&& 31)) 7 = 0 then 4 else 3))) (nI (a_r v)) := by rw [a_act, if_pos h]
theorem a_act_7 {now : c_S} {hs : Nat → c_S} {nx sz : Nat} {v : Int32} (h : lo v 16 = 7) : a_act now hs nx sz v = kX_cancel now hs nx sz (nI (lo (a_x v) 3)) (nI (a_r v)) := by rw [a_act, if_neg (show ¬ lo v 16 < 7 by omega), if_pos h]
theorem a_act_8 {now : c_S} {hs : Nat → c_S} {nx sz : Nat} {v : Int32} (h : lo v 16 = 8) : a_act now hs nx sz v = kX_setHorse now hs nx sz (nI (lo (a_x v) 11)) (nI (15 + lo (a_x v >>> (3 &&& 31)) 140)) (nI (lo (a_x v >>> (5 &&& 31)) 11)) := by rw [a_act, if_neg (show ¬ lo v 16 < 7 by omega), if_neg (show ¬ lo v 16 = 7 by omega), if_pos h]
theorem a_act_9 {now : c_S} {hs : Nat → c_S} {nx sz : Nat} {v : Int32} (h : lo v 16 = 9) : a_act now hs nx sz v = kX_setRider now hs nx sz (nI (a_r v)) (nI (15 + lo (a_x v >>> (3 &&& 31)) 120)) (nI (lo (a_x v >>> (6 &&& 31)) 11)) := by rw [a_act, if_neg (show ¬ lo v 16 < 7 by omega), if_neg (show ¬ lo v 16 = 7 by omega), if_neg (show ¬ lo v 16 = 8 by omega), if_pos h]
theorem a_act_10 {now : c_S} {hs : Nat → c_S} {nx sz : Nat} {v : Int32} (h : lo v 16 = 10) : a_act now hs nx sz v = kX_set now hs nx sz (nI (lo (a_x v) 6)) (nI (lo (a_x v >>> (4 &&& 31)) 14)) := by rw [a_act, if_neg (show ¬ lo v 16 < 7 by omega), if_neg (show ¬ lo v 16 = 7 by omega), if_neg (show ¬ lo v 16 = 8 by omega), if_neg (show ¬ lo v 16 = 9 by omega), if_pos h]
theorem a_act_11 {now : c_S} {hs : Nat → c_S} {nx sz : Nat} {v : Int32} (h : 10 < lo v 16) : a_act now hs nx sz v = kX_pass now hs nx sz (nI (lo (a_x v) (if lo (a_x v >>> (6 &&& 31)) 6 = 0 then 101 else 4))) := by rw [a_act, if_neg (show ¬ lo v 16 < 7 by omega), if_neg (show ¬ lo v 16 = 7 by omega), if_neg (show ¬ lo v 16 = 8 by omega), if_neg (show ¬ lo v 16 = 9 by omega), if_neg (show ¬ lo v 16 = 10 by omega)]
def rm_L_cell : Room := { frames := 0, cells := 0, slots := 0, locals := 0 }
set_option maxRecDepth 100000 in
set_option maxHeartbeats 600000 in
theorem c_L_cell (l : Launch) (G : gG) (k : Nat)  (hk : k < 1000) : CT l yL_cell cL_cell 2 (some .int) rm_L_cell G [.ref (G.2.2 4), .int (nI k)] [] (some (.int (sCell G k))) (fun _ => []) := by
  refine gMet (by decide) (Nat.le_of_ble_eq_true rfl) (fun X hX C hr hin E => ?_)
  clear hX
  refine (show gW G X [] 0 0 0 [(0, .ref (G.2.2 4)), (1, .int (nI k))] [] from ?_)
  have h5 : G.2.2 5 ≤ 260 := C.2.2.2.2.2.2.1.2.2.2.2.1.1
  refine x_iload_n C 1 rfl dL_cell_0 rfl ?_
  refine x_aload_n C 0 rfl dL_cell_1 rfl ?_
  refine x_tlen4 C dL_cell_2 ?_
  refine x_icmp_geN (a := k) (b := (G.2.2 5)) (tgt := 12) C dL_cell_3 (by decide) (by omega) (by omega) (fun c1 => ?_) (fun c1 => ?_)
  · refine x_sipush (v := (nI 7919)) C dL_cell_12 (by decide) ?_
    refine x_iload_n C 1 rfl dL_cell_15 rfl ?_
    refine x_bipush (v := (nI 7)) C dL_cell_16 (by decide) ?_
    refine x_iaddN C dL_cell_18 ?_
    refine x_imulN C dL_cell_19 ?_
    refine x_iload_n C 1 rfl dL_cell_20 rfl ?_
    refine x_bipush (v := (nI 107)) C dL_cell_21 (by decide) ?_
    refine x_iaddN C dL_cell_23 ?_
    refine x_imulN C dL_cell_24 ?_
    exact x_iret C hr E dL_cell_25 (fun _ => 0) (by first | exact (if_pos (by assumption)).symm | exact (if_neg (by assumption)).symm) rfl
  · refine x_aload_n C 0 rfl dL_cell_6 rfl ?_
    refine x_iload_n C 1 rfl dL_cell_7 rfl ?_
    refine x_ti4 C dL_cell_8 rfl (by omega) ?_
    refine x_goto (tgt := 25) C dL_cell_9 (by decide) ?_
    exact x_iret C hr E dL_cell_25 (fun _ => 0) (by first | exact (if_pos (by assumption)).symm | exact (if_neg (by assumption)).symm) rfl
def rm_L_low : Room := { frames := 0, cells := 0, slots := 0, locals := 0 }
set_option maxRecDepth 100000 in
set_option maxHeartbeats 600000 in
theorem c_L_low (l : Launch) (G : gG) (v : Int32) (n : Nat)  (h0 : 0 < n) (hn : n < 2 ^ 31) : CT l yL_low cL_low 2 (some .int) rm_L_low G [.int v, .int (nI n)] [] (some (.int (nI (lo v n)))) (fun _ => []) := by
  refine gMet (by decide) (Nat.le_of_ble_eq_true rfl) (fun X hX C hr hin E => ?_)
  clear hX
  refine (show gW G X [] 0 0 0 [(0, .int v), (1, .int (nI n))] [] from ?_)
  have h31 := lo_31 v
  refine x_iload_n C 0 rfl dL_low_0 rfl ?_
  refine x_ldc (v := 2147483647) C dL_low_1 kt_L_7 ?_
  refine x_iand (x := v) (y := 2147483647) C dL_low_3 ?_
  refine x_top (y := (nI (nC (v &&& 2147483647)))) h31.2 ?_
  refine x_iload_n C 1 rfl dL_low_4 rfl ?_
  refine x_iremN C dL_low_5 (by omega) (by omega) (by omega) ?_
  exact x_iret C hr E dL_low_6 (fun _ => 0) rfl rfl
def rm_L_act : Room := { frames := 7, cells := 0, slots := 0, locals := 171 }
set_option maxRecDepth 100000 in
set_option maxHeartbeats 600000 in
theorem c_L_act (l : Launch) (G : gG) (x : Nat) (A : oA) (now : c_S) (nx sz : Nat) (hs : Nat → c_S) (ahead : c_S) (v : Int32)  (hS : okS 10000 now) (hnx : nx < 4) (hsz : sz ≤ 4) : CT l yL_act cL_act 4 (some .int) rm_L_act G [.ref x, .int v] ((wO G x A now nx sz hs ahead) ++ []) (some (.int ((a_act now hs nx sz v).1))) (fun _ => ((wO G x A ((a_act now hs nx sz v).2.1) ((a_act now hs nx sz v).2.2.2.1) ((a_act now hs nx sz v).2.2.2.2) ((a_act now hs nx sz v).2.2.1) ahead) ++ [])) := by
  refine gMet (by decide) (Nat.le_of_ble_eq_true rfl) (fun X hX C hr hin E => ?_)
  clear hX
  refine (show gW G X ((wO G x A now nx sz hs ahead) ++ []) 0 0 0 [(0, .ref x), (1, .int v)] [] from ?_)
  have hS1 := hS.1
  have hS2 := hS.2.1
  have hS3 := hS.2.2.1
  have hS4 := hS.2.2.2
  have b16 := lo_lt v (n := 16) (by decide)
  have ba := lo_lt (v >>> (22 &&& 31)) (n := 7) (by decide)
  have bb := lo_lt (a_x v >>> (9 &&& 31)) (n := 5) (by decide)
  have bc := lo_lt (v >>> (21 &&& 31)) (n := 7) (by decide)
  have bd := lo_lt (a_x v >>> (6 &&& 31)) (n := 6) (by decide)
  refine x_iload_n C 1 rfl dL_act_0 rfl ?_
  refine x_iconst (v := (nI 4)) C dL_act_1 (by decide) ?_
  refine x_ishr (x := v) (y := 4) C dL_act_2 ?_
  refine x_top (y := (a_x v)) rfl ?_
  refine x_istore_n (lv' := [(2, .int (a_x v)), (0, .ref x), (1, .int v)]) C dL_act_3 rfl (by decide) rfl ?_
  refine x_iload_n C 0 rfl dL_act_4 rfl ?_
  refine x_iconst (v := (nI 4)) C dL_act_5 (by decide) ?_
  refine x_ishr (x := (a_x v)) (y := 4) C dL_act_6 ?_
  refine x_iload_n C 2 rfl dL_act_7 rfl ?_
  refine x_bipush (v := (nI 22)) C dL_act_8 (by decide) ?_
  refine x_ishr (x := v) (y := 22) C dL_act_10 ?_
  refine x_bipush (v := (nI 7)) C dL_act_11 (by decide) ?_
  refine x_callSd (As := [.int (v >>> (22 &&& 31)), .int (nI 7)]) (rest := [.int ((a_x v) >>> (4 &&& 31))]) C dL_act_13 (c_L_low (gX.l X) G (v >>> (22 &&& 31)) 7 (by omega) (by omega)) ml_L_8 st_L_low in_L cd_L_low hd_L_low rfl rfl (Nat.le_of_ble_eq_true rfl) ⟨Nat.le_of_ble_eq_true rfl, Nat.le_of_ble_eq_true rfl⟩ [] ((wO G x A now nx sz hs ahead) ++ []) rfl (ws' := ((wO G x A now nx sz hs ahead) ++ [])) rfl (st' := [.int (nI (lo (v >>> (22 &&& 31)) 7)), .int ((a_x v) >>> (4 &&& 31))]) rfl ⟨rfl, rfl⟩ ⟨Nat.le_of_ble_eq_true rfl, Nat.le_of_ble_eq_true rfl⟩ ?_
  have J2 : ∀ (y3 : Nat) , y3 = (if (lo (v >>> (22 &&& 31)) 7) = 0 then 13 else 12) → gW G X ((wO G x A now nx sz hs ahead) ++ []) 0 0 26 [(2, .int (a_x v)), (0, .ref x), (1, .int v)] [.int (nI y3), .int ((a_x v) >>> (4 &&& 31))] := by
    intro y3 ey3
    subst ey3
    refine x_callSd (As := [.int ((a_x v) >>> (4 &&& 31)), .int (nI (if (lo (v >>> (22 &&& 31)) 7) = 0 then 13 else 12))]) (rest := []) C dL_act_26 (c_L_low (gX.l X) G ((a_x v) >>> (4 &&& 31)) (if (lo (v >>> (22 &&& 31)) 7) = 0 then 13 else 12) (by split <;> omega) (by split <;> omega)) ml_L_8 st_L_low in_L cd_L_low hd_L_low rfl rfl (Nat.le_of_ble_eq_true rfl) ⟨Nat.le_of_ble_eq_true rfl, Nat.le_of_ble_eq_true rfl⟩ [] ((wO G x A now nx sz hs ahead) ++ []) rfl (ws' := ((wO G x A now nx sz hs ahead) ++ [])) rfl (st' := [.int (nI (lo ((a_x v) >>> (4 &&& 31)) (if (lo (v >>> (22 &&& 31)) 7) = 0 then 13 else 12)))]) rfl ⟨rfl, rfl⟩ ⟨Nat.le_of_ble_eq_true rfl, Nat.le_of_ble_eq_true rfl⟩ ?_
    refine x_istore_n (lv' := [(3, .int (nI (lo ((a_x v) >>> (4 &&& 31)) (if (lo (v >>> (22 &&& 31)) 7) = 0 then 13 else 12)))), (2, .int (a_x v)), (0, .ref x), (1, .int v)]) C dL_act_29 rfl (by decide) rfl ?_
    refine x_iload_n C 3 rfl dL_act_30 rfl ?_
    refine x_bipush (v := (nI 16)) C dL_act_31 (by decide) ?_
    refine x_callSd (As := [.int v, .int (nI 16)]) (rest := []) C dL_act_33 (c_L_low (gX.l X) G v 16 (by omega) (by omega)) ml_L_8 st_L_low in_L cd_L_low hd_L_low rfl rfl (Nat.le_of_ble_eq_true rfl) ⟨Nat.le_of_ble_eq_true rfl, Nat.le_of_ble_eq_true rfl⟩ [] ((wO G x A now nx sz hs ahead) ++ []) rfl (ws' := ((wO G x A now nx sz hs ahead) ++ [])) rfl (st' := [.int (nI (lo v 16))]) rfl ⟨rfl, rfl⟩ ⟨Nat.le_of_ble_eq_true rfl, Nat.le_of_ble_eq_true rfl⟩ ?_
    rcases (show (lo v 16) = 0 ∨ (lo v 16) = 1 ∨ (lo v 16) = 2 ∨ (lo v 16) = 3 ∨ (lo v 16) = 4 ∨ (lo v 16) = 5 ∨ (lo v 16) = 6 ∨ (lo v 16) = 7 ∨ (lo v 16) = 8 ∨ (lo v 16) = 9 ∨ (lo v 16) = 10 ∨ 10 < (lo v 16) by omega) with c4 | c4 | c4 | c4 | c4 | c4 | c4 | c4 | c4 | c4 | c4 | c4
    · refine x_tabI (tgt := 96) C 0 dL_act_36 (congrArg nI c4) (by decide) (by decide) rfl (by decide) ?_
      refine x_aload_n C 2 rfl dL_act_96 rfl ?_
      refine x_iload_n C 1 rfl dL_act_97 rfl ?_
      refine x_iconst (v := (nI 2)) C dL_act_98 (by decide) ?_
      refine x_ishr (x := (a_x v)) (y := 2) C dL_act_99 ?_
      refine x_iload_n C 1 rfl dL_act_100 rfl ?_
      refine x_bipush (v := (nI 9)) C dL_act_101 (by decide) ?_
      refine x_ishr (x := (a_x v)) (y := 9) C dL_act_103 ?_
      refine x_iconst (v := (nI 5)) C dL_act_104 (by decide) ?_
      refine x_callSd (As := [.int ((a_x v) >>> (9 &&& 31)), .int (nI 5)]) (rest := [.int ((a_x v) >>> (2 &&& 31)), .ref x]) C dL_act_105 (c_L_low (gX.l X) G ((a_x v) >>> (9 &&& 31)) 5 (by omega) (by omega)) ml_L_8 st_L_low in_L cd_L_low hd_L_low rfl rfl (Nat.le_of_ble_eq_true rfl) ⟨Nat.le_of_ble_eq_true rfl, Nat.le_of_ble_eq_true rfl⟩ [] ((wO G x A now nx sz hs ahead) ++ []) rfl (ws' := ((wO G x A now nx sz hs ahead) ++ [])) rfl (st' := [.int (nI (lo ((a_x v) >>> (9 &&& 31)) 5)), .int ((a_x v) >>> (2 &&& 31)), .ref x]) rfl ⟨rfl, rfl⟩ ⟨Nat.le_of_ble_eq_true rfl, Nat.le_of_ble_eq_true rfl⟩ ?_
      have J6 : ∀ (y7 : Nat) , y7 = (if (lo ((a_x v) >>> (9 &&& 31)) 5) = 0 then 102 else 2) → gW G X ((wO G x A now nx sz hs ahead) ++ []) 0 0 117 [(3, .int (nI (lo ((a_x v) >>> (4 &&& 31)) (if (lo (v >>> (22 &&& 31)) 7) = 0 then 13 else 12)))), (2, .int (a_x v)), (0, .ref x), (1, .int v)] [.int (nI y7), .int ((a_x v) >>> (2 &&& 31)), .ref x] := by
        intro y7 ey7
        subst ey7
        refine x_callSd (As := [.int ((a_x v) >>> (2 &&& 31)), .int (nI (if (lo ((a_x v) >>> (9 &&& 31)) 5) = 0 then 102 else 2))]) (rest := [.ref x]) C dL_act_117 (c_L_low (gX.l X) G ((a_x v) >>> (2 &&& 31)) (if (lo ((a_x v) >>> (9 &&& 31)) 5) = 0 then 102 else 2) (by split <;> omega) (by split <;> omega)) ml_L_8 st_L_low in_L cd_L_low hd_L_low rfl rfl (Nat.le_of_ble_eq_true rfl) ⟨Nat.le_of_ble_eq_true rfl, Nat.le_of_ble_eq_true rfl⟩ [] ((wO G x A now nx sz hs ahead) ++ []) rfl (ws' := ((wO G x A now nx sz hs ahead) ++ [])) rfl (st' := [.int (nI (lo ((a_x v) >>> (2 &&& 31)) (if (lo ((a_x v) >>> (9 &&& 31)) 5) = 0 then 102 else 2))), .ref x]) rfl ⟨rfl, rfl⟩ ⟨Nat.le_of_ble_eq_true rfl, Nat.le_of_ble_eq_true rfl⟩ ?_
        refine x_iload_n C 1 rfl dL_act_120 rfl ?_
        refine x_iload_n C 3 rfl dL_act_121 rfl ?_
        refine x_bipush (v := (nI 21)) C dL_act_122 (by decide) ?_
        refine x_ishr (x := v) (y := 21) C dL_act_124 ?_
        refine x_bipush (v := (nI 7)) C dL_act_125 (by decide) ?_
        refine x_callSd (As := [.int (v >>> (21 &&& 31)), .int (nI 7)]) (rest := [.int (a_x v), .int (nI (lo ((a_x v) >>> (2 &&& 31)) (if (lo ((a_x v) >>> (9 &&& 31)) 5) = 0 then 102 else 2))), .ref x]) C dL_act_127 (c_L_low (gX.l X) G (v >>> (21 &&& 31)) 7 (by omega) (by omega)) ml_L_8 st_L_low in_L cd_L_low hd_L_low rfl rfl (Nat.le_of_ble_eq_true rfl) ⟨Nat.le_of_ble_eq_true rfl, Nat.le_of_ble_eq_true rfl⟩ [] ((wO G x A now nx sz hs ahead) ++ []) rfl (ws' := ((wO G x A now nx sz hs ahead) ++ [])) rfl (st' := [.int (nI (lo (v >>> (21 &&& 31)) 7)), .int (a_x v), .int (nI (lo ((a_x v) >>> (2 &&& 31)) (if (lo ((a_x v) >>> (9 &&& 31)) 5) = 0 then 102 else 2))), .ref x]) rfl ⟨rfl, rfl⟩ ⟨Nat.le_of_ble_eq_true rfl, Nat.le_of_ble_eq_true rfl⟩ ?_
        have J9 : ∀ (y10 : Nat) , y10 = (if (lo (v >>> (21 &&& 31)) 7) = 0 then 4 else 3) → gW G X ((wO G x A now nx sz hs ahead) ++ []) 0 0 138 [(3, .int (nI (lo ((a_x v) >>> (4 &&& 31)) (if (lo (v >>> (22 &&& 31)) 7) = 0 then 13 else 12)))), (2, .int (a_x v)), (0, .ref x), (1, .int v)] [.int (nI y10), .int (a_x v), .int (nI (lo ((a_x v) >>> (2 &&& 31)) (if (lo ((a_x v) >>> (9 &&& 31)) 5) = 0 then 102 else 2))), .ref x] := by
          intro y10 ey10
          subst ey10
          refine x_callSd (As := [.int (a_x v), .int (nI (if (lo (v >>> (21 &&& 31)) 7) = 0 then 4 else 3))]) (rest := [.int (nI (lo ((a_x v) >>> (2 &&& 31)) (if (lo ((a_x v) >>> (9 &&& 31)) 5) = 0 then 102 else 2))), .ref x]) C dL_act_138 (c_L_low (gX.l X) G (a_x v) (if (lo (v >>> (21 &&& 31)) 7) = 0 then 4 else 3) (by split <;> omega) (by split <;> omega)) ml_L_8 st_L_low in_L cd_L_low hd_L_low rfl rfl (Nat.le_of_ble_eq_true rfl) ⟨Nat.le_of_ble_eq_true rfl, Nat.le_of_ble_eq_true rfl⟩ [] ((wO G x A now nx sz hs ahead) ++ []) rfl (ws' := ((wO G x A now nx sz hs ahead) ++ [])) rfl (st' := [.int (nI (lo (a_x v) (if (lo (v >>> (21 &&& 31)) 7) = 0 then 4 else 3))), .int (nI (lo ((a_x v) >>> (2 &&& 31)) (if (lo ((a_x v) >>> (9 &&& 31)) 5) = 0 then 102 else 2))), .ref x]) rfl ⟨rfl, rfl⟩ ⟨Nat.le_of_ble_eq_true rfl, Nat.le_of_ble_eq_true rfl⟩ ?_
          refine x_iload_n C 0 rfl dL_act_141 rfl ?_
          refine x_callVd (As := [.int (nI (lo ((a_x v) >>> (2 &&& 31)) (if (lo ((a_x v) >>> (9 &&& 31)) 5) = 0 then 102 else 2))), .int (nI (lo (a_x v) (if (lo (v >>> (21 &&& 31)) 7) = 0 then 4 else 3))), .int (nI (lo ((a_x v) >>> (4 &&& 31)) (if (lo (v >>> (22 &&& 31)) 7) = 0 then 13 else 12)))]) (rest := []) C dL_act_142 (c_O_book (gX.l X) G x A now nx sz hs ahead (nI (lo ((a_x v) >>> (2 &&& 31)) (if (lo ((a_x v) >>> (9 &&& 31)) 5) = 0 then 102 else 2))) (nI (lo (a_x v) (if (lo (v >>> (21 &&& 31)) 7) = 0 then 4 else 3))) (nI (lo ((a_x v) >>> (4 &&& 31)) (if (lo (v >>> (22 &&& 31)) 7) = 0 then 13 else 12))) hS hnx hsz) ml_L_14 im_X5_book sl_X5_book in_X5 cd_X5_book hd_X5_book 0 rfl rfl rfl rfl (Nat.le_of_ble_eq_true rfl) ⟨Nat.le_of_ble_eq_true rfl, Nat.le_of_ble_eq_true rfl⟩ [] [] (by simp only [List.append_assoc, List.nil_append, List.cons_append]) (ws' := ((wO G x A ((kX_book now hs nx sz (nI (lo ((a_x v) >>> (2 &&& 31)) (if (lo ((a_x v) >>> (9 &&& 31)) 5) = 0 then 102 else 2))) (nI (lo (a_x v) (if (lo (v >>> (21 &&& 31)) 7) = 0 then 4 else 3))) (nI (lo ((a_x v) >>> (4 &&& 31)) (if (lo (v >>> (22 &&& 31)) 7) = 0 then 13 else 12)))).2.1) ((kX_book now hs nx sz (nI (lo ((a_x v) >>> (2 &&& 31)) (if (lo ((a_x v) >>> (9 &&& 31)) 5) = 0 then 102 else 2))) (nI (lo (a_x v) (if (lo (v >>> (21 &&& 31)) 7) = 0 then 4 else 3))) (nI (lo ((a_x v) >>> (4 &&& 31)) (if (lo (v >>> (22 &&& 31)) 7) = 0 then 13 else 12)))).2.2.2.1) ((kX_book now hs nx sz (nI (lo ((a_x v) >>> (2 &&& 31)) (if (lo ((a_x v) >>> (9 &&& 31)) 5) = 0 then 102 else 2))) (nI (lo (a_x v) (if (lo (v >>> (21 &&& 31)) 7) = 0 then 4 else 3))) (nI (lo ((a_x v) >>> (4 &&& 31)) (if (lo (v >>> (22 &&& 31)) 7) = 0 then 13 else 12)))).2.2.2.2) ((kX_book now hs nx sz (nI (lo ((a_x v) >>> (2 &&& 31)) (if (lo ((a_x v) >>> (9 &&& 31)) 5) = 0 then 102 else 2))) (nI (lo (a_x v) (if (lo (v >>> (21 &&& 31)) 7) = 0 then 4 else 3))) (nI (lo ((a_x v) >>> (4 &&& 31)) (if (lo (v >>> (22 &&& 31)) 7) = 0 then 13 else 12)))).2.2.1) ahead) ++ [])) (by simp only [List.append_assoc, List.nil_append, List.cons_append]) (st' := [.int ((kX_book now hs nx sz (nI (lo ((a_x v) >>> (2 &&& 31)) (if (lo ((a_x v) >>> (9 &&& 31)) 5) = 0 then 102 else 2))) (nI (lo (a_x v) (if (lo (v >>> (21 &&& 31)) 7) = 0 then 4 else 3))) (nI (lo ((a_x v) >>> (4 &&& 31)) (if (lo (v >>> (22 &&& 31)) 7) = 0 then 13 else 12)))).1)]) rfl ⟨rfl, rfl⟩ ⟨Nat.le_of_ble_eq_true rfl, Nat.le_of_ble_eq_true rfl⟩ ?_
          exact x_iret C hr E dL_act_145 (fun _ => 0) (by rw [a_act_0 (v := v) (by omega)] <;> rfl) (by rw [a_act_0 (v := v) (by omega)] <;> rfl)
        refine x_if_neN (a := (lo (v >>> (21 &&& 31)) 7)) (tgt := 137) C dL_act_130 (by decide) (by omega) (fun c8 => ?_) (fun c8 => ?_)
        · refine x_iconst (v := (nI 3)) C dL_act_137 (by decide) ?_
          exact J9 3 (by rw [if_neg c8] <;> rfl)
        · refine x_iconst (v := (nI 4)) C dL_act_133 (by decide) ?_
          refine x_goto (tgt := 138) C dL_act_134 (by decide) ?_
          exact J9 4 (by rw [if_pos c8] <;> rfl)
      refine x_if_neN (a := (lo ((a_x v) >>> (9 &&& 31)) 5)) (tgt := 116) C dL_act_108 (by decide) (by omega) (fun c5 => ?_) (fun c5 => ?_)
      · refine x_iconst (v := (nI 2)) C dL_act_116 (by decide) ?_
        exact J6 2 (by rw [if_neg c5] <;> rfl)
      · refine x_bipush (v := (nI 102)) C dL_act_111 (by decide) ?_
        refine x_goto (tgt := 117) C dL_act_113 (by decide) ?_
        exact J6 102 (by rw [if_pos c5] <;> rfl)
    · refine x_tabI (tgt := 96) C 1 dL_act_36 (congrArg nI c4) (by decide) (by decide) rfl (by decide) ?_
      refine x_aload_n C 2 rfl dL_act_96 rfl ?_
      refine x_iload_n C 1 rfl dL_act_97 rfl ?_
      refine x_iconst (v := (nI 2)) C dL_act_98 (by decide) ?_
      refine x_ishr (x := (a_x v)) (y := 2) C dL_act_99 ?_
      refine x_iload_n C 1 rfl dL_act_100 rfl ?_
      refine x_bipush (v := (nI 9)) C dL_act_101 (by decide) ?_
      refine x_ishr (x := (a_x v)) (y := 9) C dL_act_103 ?_
      refine x_iconst (v := (nI 5)) C dL_act_104 (by decide) ?_
      refine x_callSd (As := [.int ((a_x v) >>> (9 &&& 31)), .int (nI 5)]) (rest := [.int ((a_x v) >>> (2 &&& 31)), .ref x]) C dL_act_105 (c_L_low (gX.l X) G ((a_x v) >>> (9 &&& 31)) 5 (by omega) (by omega)) ml_L_8 st_L_low in_L cd_L_low hd_L_low rfl rfl (Nat.le_of_ble_eq_true rfl) ⟨Nat.le_of_ble_eq_true rfl, Nat.le_of_ble_eq_true rfl⟩ [] ((wO G x A now nx sz hs ahead) ++ []) rfl (ws' := ((wO G x A now nx sz hs ahead) ++ [])) rfl (st' := [.int (nI (lo ((a_x v) >>> (9 &&& 31)) 5)), .int ((a_x v) >>> (2 &&& 31)), .ref x]) rfl ⟨rfl, rfl⟩ ⟨Nat.le_of_ble_eq_true rfl, Nat.le_of_ble_eq_true rfl⟩ ?_
      have J12 : ∀ (y13 : Nat) , y13 = (if (lo ((a_x v) >>> (9 &&& 31)) 5) = 0 then 102 else 2) → gW G X ((wO G x A now nx sz hs ahead) ++ []) 0 0 117 [(3, .int (nI (lo ((a_x v) >>> (4 &&& 31)) (if (lo (v >>> (22 &&& 31)) 7) = 0 then 13 else 12)))), (2, .int (a_x v)), (0, .ref x), (1, .int v)] [.int (nI y13), .int ((a_x v) >>> (2 &&& 31)), .ref x] := by
        intro y13 ey13
        subst ey13
        refine x_callSd (As := [.int ((a_x v) >>> (2 &&& 31)), .int (nI (if (lo ((a_x v) >>> (9 &&& 31)) 5) = 0 then 102 else 2))]) (rest := [.ref x]) C dL_act_117 (c_L_low (gX.l X) G ((a_x v) >>> (2 &&& 31)) (if (lo ((a_x v) >>> (9 &&& 31)) 5) = 0 then 102 else 2) (by split <;> omega) (by split <;> omega)) ml_L_8 st_L_low in_L cd_L_low hd_L_low rfl rfl (Nat.le_of_ble_eq_true rfl) ⟨Nat.le_of_ble_eq_true rfl, Nat.le_of_ble_eq_true rfl⟩ [] ((wO G x A now nx sz hs ahead) ++ []) rfl (ws' := ((wO G x A now nx sz hs ahead) ++ [])) rfl (st' := [.int (nI (lo ((a_x v) >>> (2 &&& 31)) (if (lo ((a_x v) >>> (9 &&& 31)) 5) = 0 then 102 else 2))), .ref x]) rfl ⟨rfl, rfl⟩ ⟨Nat.le_of_ble_eq_true rfl, Nat.le_of_ble_eq_true rfl⟩ ?_
        refine x_iload_n C 1 rfl dL_act_120 rfl ?_
        refine x_iload_n C 3 rfl dL_act_121 rfl ?_
        refine x_bipush (v := (nI 21)) C dL_act_122 (by decide) ?_
        refine x_ishr (x := v) (y := 21) C dL_act_124 ?_
        refine x_bipush (v := (nI 7)) C dL_act_125 (by decide) ?_
        refine x_callSd (As := [.int (v >>> (21 &&& 31)), .int (nI 7)]) (rest := [.int (a_x v), .int (nI (lo ((a_x v) >>> (2 &&& 31)) (if (lo ((a_x v) >>> (9 &&& 31)) 5) = 0 then 102 else 2))), .ref x]) C dL_act_127 (c_L_low (gX.l X) G (v >>> (21 &&& 31)) 7 (by omega) (by omega)) ml_L_8 st_L_low in_L cd_L_low hd_L_low rfl rfl (Nat.le_of_ble_eq_true rfl) ⟨Nat.le_of_ble_eq_true rfl, Nat.le_of_ble_eq_true rfl⟩ [] ((wO G x A now nx sz hs ahead) ++ []) rfl (ws' := ((wO G x A now nx sz hs ahead) ++ [])) rfl (st' := [.int (nI (lo (v >>> (21 &&& 31)) 7)), .int (a_x v), .int (nI (lo ((a_x v) >>> (2 &&& 31)) (if (lo ((a_x v) >>> (9 &&& 31)) 5) = 0 then 102 else 2))), .ref x]) rfl ⟨rfl, rfl⟩ ⟨Nat.le_of_ble_eq_true rfl, Nat.le_of_ble_eq_true rfl⟩ ?_
        have J15 : ∀ (y16 : Nat) , y16 = (if (lo (v >>> (21 &&& 31)) 7) = 0 then 4 else 3) → gW G X ((wO G x A now nx sz hs ahead) ++ []) 0 0 138 [(3, .int (nI (lo ((a_x v) >>> (4 &&& 31)) (if (lo (v >>> (22 &&& 31)) 7) = 0 then 13 else 12)))), (2, .int (a_x v)), (0, .ref x), (1, .int v)] [.int (nI y16), .int (a_x v), .int (nI (lo ((a_x v) >>> (2 &&& 31)) (if (lo ((a_x v) >>> (9 &&& 31)) 5) = 0 then 102 else 2))), .ref x] := by
          intro y16 ey16
          subst ey16
          refine x_callSd (As := [.int (a_x v), .int (nI (if (lo (v >>> (21 &&& 31)) 7) = 0 then 4 else 3))]) (rest := [.int (nI (lo ((a_x v) >>> (2 &&& 31)) (if (lo ((a_x v) >>> (9 &&& 31)) 5) = 0 then 102 else 2))), .ref x]) C dL_act_138 (c_L_low (gX.l X) G (a_x v) (if (lo (v >>> (21 &&& 31)) 7) = 0 then 4 else 3) (by split <;> omega) (by split <;> omega)) ml_L_8 st_L_low in_L cd_L_low hd_L_low rfl rfl (Nat.le_of_ble_eq_true rfl) ⟨Nat.le_of_ble_eq_true rfl, Nat.le_of_ble_eq_true rfl⟩ [] ((wO G x A now nx sz hs ahead) ++ []) rfl (ws' := ((wO G x A now nx sz hs ahead) ++ [])) rfl (st' := [.int (nI (lo (a_x v) (if (lo (v >>> (21 &&& 31)) 7) = 0 then 4 else 3))), .int (nI (lo ((a_x v) >>> (2 &&& 31)) (if (lo ((a_x v) >>> (9 &&& 31)) 5) = 0 then 102 else 2))), .ref x]) rfl ⟨rfl, rfl⟩ ⟨Nat.le_of_ble_eq_true rfl, Nat.le_of_ble_eq_true rfl⟩ ?_
          refine x_iload_n C 0 rfl dL_act_141 rfl ?_
          refine x_callVd (As := [.int (nI (lo ((a_x v) >>> (2 &&& 31)) (if (lo ((a_x v) >>> (9 &&& 31)) 5) = 0 then 102 else 2))), .int (nI (lo (a_x v) (if (lo (v >>> (21 &&& 31)) 7) = 0 then 4 else 3))), .int (nI (lo ((a_x v) >>> (4 &&& 31)) (if (lo (v >>> (22 &&& 31)) 7) = 0 then 13 else 12)))]) (rest := []) C dL_act_142 (c_O_book (gX.l X) G x A now nx sz hs ahead (nI (lo ((a_x v) >>> (2 &&& 31)) (if (lo ((a_x v) >>> (9 &&& 31)) 5) = 0 then 102 else 2))) (nI (lo (a_x v) (if (lo (v >>> (21 &&& 31)) 7) = 0 then 4 else 3))) (nI (lo ((a_x v) >>> (4 &&& 31)) (if (lo (v >>> (22 &&& 31)) 7) = 0 then 13 else 12))) hS hnx hsz) ml_L_14 im_X5_book sl_X5_book in_X5 cd_X5_book hd_X5_book 0 rfl rfl rfl rfl (Nat.le_of_ble_eq_true rfl) ⟨Nat.le_of_ble_eq_true rfl, Nat.le_of_ble_eq_true rfl⟩ [] [] (by simp only [List.append_assoc, List.nil_append, List.cons_append]) (ws' := ((wO G x A ((kX_book now hs nx sz (nI (lo ((a_x v) >>> (2 &&& 31)) (if (lo ((a_x v) >>> (9 &&& 31)) 5) = 0 then 102 else 2))) (nI (lo (a_x v) (if (lo (v >>> (21 &&& 31)) 7) = 0 then 4 else 3))) (nI (lo ((a_x v) >>> (4 &&& 31)) (if (lo (v >>> (22 &&& 31)) 7) = 0 then 13 else 12)))).2.1) ((kX_book now hs nx sz (nI (lo ((a_x v) >>> (2 &&& 31)) (if (lo ((a_x v) >>> (9 &&& 31)) 5) = 0 then 102 else 2))) (nI (lo (a_x v) (if (lo (v >>> (21 &&& 31)) 7) = 0 then 4 else 3))) (nI (lo ((a_x v) >>> (4 &&& 31)) (if (lo (v >>> (22 &&& 31)) 7) = 0 then 13 else 12)))).2.2.2.1) ((kX_book now hs nx sz (nI (lo ((a_x v) >>> (2 &&& 31)) (if (lo ((a_x v) >>> (9 &&& 31)) 5) = 0 then 102 else 2))) (nI (lo (a_x v) (if (lo (v >>> (21 &&& 31)) 7) = 0 then 4 else 3))) (nI (lo ((a_x v) >>> (4 &&& 31)) (if (lo (v >>> (22 &&& 31)) 7) = 0 then 13 else 12)))).2.2.2.2) ((kX_book now hs nx sz (nI (lo ((a_x v) >>> (2 &&& 31)) (if (lo ((a_x v) >>> (9 &&& 31)) 5) = 0 then 102 else 2))) (nI (lo (a_x v) (if (lo (v >>> (21 &&& 31)) 7) = 0 then 4 else 3))) (nI (lo ((a_x v) >>> (4 &&& 31)) (if (lo (v >>> (22 &&& 31)) 7) = 0 then 13 else 12)))).2.2.1) ahead) ++ [])) (by simp only [List.append_assoc, List.nil_append, List.cons_append]) (st' := [.int ((kX_book now hs nx sz (nI (lo ((a_x v) >>> (2 &&& 31)) (if (lo ((a_x v) >>> (9 &&& 31)) 5) = 0 then 102 else 2))) (nI (lo (a_x v) (if (lo (v >>> (21 &&& 31)) 7) = 0 then 4 else 3))) (nI (lo ((a_x v) >>> (4 &&& 31)) (if (lo (v >>> (22 &&& 31)) 7) = 0 then 13 else 12)))).1)]) rfl ⟨rfl, rfl⟩ ⟨Nat.le_of_ble_eq_true rfl, Nat.le_of_ble_eq_true rfl⟩ ?_
          exact x_iret C hr E dL_act_145 (fun _ => 0) (by rw [a_act_0 (v := v) (by omega)] <;> rfl) (by rw [a_act_0 (v := v) (by omega)] <;> rfl)
        refine x_if_neN (a := (lo (v >>> (21 &&& 31)) 7)) (tgt := 137) C dL_act_130 (by decide) (by omega) (fun c14 => ?_) (fun c14 => ?_)
        · refine x_iconst (v := (nI 3)) C dL_act_137 (by decide) ?_
          exact J15 3 (by rw [if_neg c14] <;> rfl)
        · refine x_iconst (v := (nI 4)) C dL_act_133 (by decide) ?_
          refine x_goto (tgt := 138) C dL_act_134 (by decide) ?_
          exact J15 4 (by rw [if_pos c14] <;> rfl)
      refine x_if_neN (a := (lo ((a_x v) >>> (9 &&& 31)) 5)) (tgt := 116) C dL_act_108 (by decide) (by omega) (fun c11 => ?_) (fun c11 => ?_)
      · refine x_iconst (v := (nI 2)) C dL_act_116 (by decide) ?_
        exact J12 2 (by rw [if_neg c11] <;> rfl)
      · refine x_bipush (v := (nI 102)) C dL_act_111 (by decide) ?_
        refine x_goto (tgt := 117) C dL_act_113 (by decide) ?_
        exact J12 102 (by rw [if_pos c11] <;> rfl)
    · refine x_tabI (tgt := 96) C 2 dL_act_36 (congrArg nI c4) (by decide) (by decide) rfl (by decide) ?_
      refine x_aload_n C 2 rfl dL_act_96 rfl ?_
      refine x_iload_n C 1 rfl dL_act_97 rfl ?_
      refine x_iconst (v := (nI 2)) C dL_act_98 (by decide) ?_
      refine x_ishr (x := (a_x v)) (y := 2) C dL_act_99 ?_
      refine x_iload_n C 1 rfl dL_act_100 rfl ?_
      refine x_bipush (v := (nI 9)) C dL_act_101 (by decide) ?_
      refine x_ishr (x := (a_x v)) (y := 9) C dL_act_103 ?_
      refine x_iconst (v := (nI 5)) C dL_act_104 (by decide) ?_
      refine x_callSd (As := [.int ((a_x v) >>> (9 &&& 31)), .int (nI 5)]) (rest := [.int ((a_x v) >>> (2 &&& 31)), .ref x]) C dL_act_105 (c_L_low (gX.l X) G ((a_x v) >>> (9 &&& 31)) 5 (by omega) (by omega)) ml_L_8 st_L_low in_L cd_L_low hd_L_low rfl rfl (Nat.le_of_ble_eq_true rfl) ⟨Nat.le_of_ble_eq_true rfl, Nat.le_of_ble_eq_true rfl⟩ [] ((wO G x A now nx sz hs ahead) ++ []) rfl (ws' := ((wO G x A now nx sz hs ahead) ++ [])) rfl (st' := [.int (nI (lo ((a_x v) >>> (9 &&& 31)) 5)), .int ((a_x v) >>> (2 &&& 31)), .ref x]) rfl ⟨rfl, rfl⟩ ⟨Nat.le_of_ble_eq_true rfl, Nat.le_of_ble_eq_true rfl⟩ ?_
      have J18 : ∀ (y19 : Nat) , y19 = (if (lo ((a_x v) >>> (9 &&& 31)) 5) = 0 then 102 else 2) → gW G X ((wO G x A now nx sz hs ahead) ++ []) 0 0 117 [(3, .int (nI (lo ((a_x v) >>> (4 &&& 31)) (if (lo (v >>> (22 &&& 31)) 7) = 0 then 13 else 12)))), (2, .int (a_x v)), (0, .ref x), (1, .int v)] [.int (nI y19), .int ((a_x v) >>> (2 &&& 31)), .ref x] := by
        intro y19 ey19
        subst ey19
        refine x_callSd (As := [.int ((a_x v) >>> (2 &&& 31)), .int (nI (if (lo ((a_x v) >>> (9 &&& 31)) 5) = 0 then 102 else 2))]) (rest := [.ref x]) C dL_act_117 (c_L_low (gX.l X) G ((a_x v) >>> (2 &&& 31)) (if (lo ((a_x v) >>> (9 &&& 31)) 5) = 0 then 102 else 2) (by split <;> omega) (by split <;> omega)) ml_L_8 st_L_low in_L cd_L_low hd_L_low rfl rfl (Nat.le_of_ble_eq_true rfl) ⟨Nat.le_of_ble_eq_true rfl, Nat.le_of_ble_eq_true rfl⟩ [] ((wO G x A now nx sz hs ahead) ++ []) rfl (ws' := ((wO G x A now nx sz hs ahead) ++ [])) rfl (st' := [.int (nI (lo ((a_x v) >>> (2 &&& 31)) (if (lo ((a_x v) >>> (9 &&& 31)) 5) = 0 then 102 else 2))), .ref x]) rfl ⟨rfl, rfl⟩ ⟨Nat.le_of_ble_eq_true rfl, Nat.le_of_ble_eq_true rfl⟩ ?_
        refine x_iload_n C 1 rfl dL_act_120 rfl ?_
        refine x_iload_n C 3 rfl dL_act_121 rfl ?_
        refine x_bipush (v := (nI 21)) C dL_act_122 (by decide) ?_
        refine x_ishr (x := v) (y := 21) C dL_act_124 ?_
        refine x_bipush (v := (nI 7)) C dL_act_125 (by decide) ?_
        refine x_callSd (As := [.int (v >>> (21 &&& 31)), .int (nI 7)]) (rest := [.int (a_x v), .int (nI (lo ((a_x v) >>> (2 &&& 31)) (if (lo ((a_x v) >>> (9 &&& 31)) 5) = 0 then 102 else 2))), .ref x]) C dL_act_127 (c_L_low (gX.l X) G (v >>> (21 &&& 31)) 7 (by omega) (by omega)) ml_L_8 st_L_low in_L cd_L_low hd_L_low rfl rfl (Nat.le_of_ble_eq_true rfl) ⟨Nat.le_of_ble_eq_true rfl, Nat.le_of_ble_eq_true rfl⟩ [] ((wO G x A now nx sz hs ahead) ++ []) rfl (ws' := ((wO G x A now nx sz hs ahead) ++ [])) rfl (st' := [.int (nI (lo (v >>> (21 &&& 31)) 7)), .int (a_x v), .int (nI (lo ((a_x v) >>> (2 &&& 31)) (if (lo ((a_x v) >>> (9 &&& 31)) 5) = 0 then 102 else 2))), .ref x]) rfl ⟨rfl, rfl⟩ ⟨Nat.le_of_ble_eq_true rfl, Nat.le_of_ble_eq_true rfl⟩ ?_
        have J21 : ∀ (y22 : Nat) , y22 = (if (lo (v >>> (21 &&& 31)) 7) = 0 then 4 else 3) → gW G X ((wO G x A now nx sz hs ahead) ++ []) 0 0 138 [(3, .int (nI (lo ((a_x v) >>> (4 &&& 31)) (if (lo (v >>> (22 &&& 31)) 7) = 0 then 13 else 12)))), (2, .int (a_x v)), (0, .ref x), (1, .int v)] [.int (nI y22), .int (a_x v), .int (nI (lo ((a_x v) >>> (2 &&& 31)) (if (lo ((a_x v) >>> (9 &&& 31)) 5) = 0 then 102 else 2))), .ref x] := by
          intro y22 ey22
          subst ey22
          refine x_callSd (As := [.int (a_x v), .int (nI (if (lo (v >>> (21 &&& 31)) 7) = 0 then 4 else 3))]) (rest := [.int (nI (lo ((a_x v) >>> (2 &&& 31)) (if (lo ((a_x v) >>> (9 &&& 31)) 5) = 0 then 102 else 2))), .ref x]) C dL_act_138 (c_L_low (gX.l X) G (a_x v) (if (lo (v >>> (21 &&& 31)) 7) = 0 then 4 else 3) (by split <;> omega) (by split <;> omega)) ml_L_8 st_L_low in_L cd_L_low hd_L_low rfl rfl (Nat.le_of_ble_eq_true rfl) ⟨Nat.le_of_ble_eq_true rfl, Nat.le_of_ble_eq_true rfl⟩ [] ((wO G x A now nx sz hs ahead) ++ []) rfl (ws' := ((wO G x A now nx sz hs ahead) ++ [])) rfl (st' := [.int (nI (lo (a_x v) (if (lo (v >>> (21 &&& 31)) 7) = 0 then 4 else 3))), .int (nI (lo ((a_x v) >>> (2 &&& 31)) (if (lo ((a_x v) >>> (9 &&& 31)) 5) = 0 then 102 else 2))), .ref x]) rfl ⟨rfl, rfl⟩ ⟨Nat.le_of_ble_eq_true rfl, Nat.le_of_ble_eq_true rfl⟩ ?_
          refine x_iload_n C 0 rfl dL_act_141 rfl ?_
          refine x_callVd (As := [.int (nI (lo ((a_x v) >>> (2 &&& 31)) (if (lo ((a_x v) >>> (9 &&& 31)) 5) = 0 then 102 else 2))), .int (nI (lo (a_x v) (if (lo (v >>> (21 &&& 31)) 7) = 0 then 4 else 3))), .int (nI (lo ((a_x v) >>> (4 &&& 31)) (if (lo (v >>> (22 &&& 31)) 7) = 0 then 13 else 12)))]) (rest := []) C dL_act_142 (c_O_book (gX.l X) G x A now nx sz hs ahead (nI (lo ((a_x v) >>> (2 &&& 31)) (if (lo ((a_x v) >>> (9 &&& 31)) 5) = 0 then 102 else 2))) (nI (lo (a_x v) (if (lo (v >>> (21 &&& 31)) 7) = 0 then 4 else 3))) (nI (lo ((a_x v) >>> (4 &&& 31)) (if (lo (v >>> (22 &&& 31)) 7) = 0 then 13 else 12))) hS hnx hsz) ml_L_14 im_X5_book sl_X5_book in_X5 cd_X5_book hd_X5_book 0 rfl rfl rfl rfl (Nat.le_of_ble_eq_true rfl) ⟨Nat.le_of_ble_eq_true rfl, Nat.le_of_ble_eq_true rfl⟩ [] [] (by simp only [List.append_assoc, List.nil_append, List.cons_append]) (ws' := ((wO G x A ((kX_book now hs nx sz (nI (lo ((a_x v) >>> (2 &&& 31)) (if (lo ((a_x v) >>> (9 &&& 31)) 5) = 0 then 102 else 2))) (nI (lo (a_x v) (if (lo (v >>> (21 &&& 31)) 7) = 0 then 4 else 3))) (nI (lo ((a_x v) >>> (4 &&& 31)) (if (lo (v >>> (22 &&& 31)) 7) = 0 then 13 else 12)))).2.1) ((kX_book now hs nx sz (nI (lo ((a_x v) >>> (2 &&& 31)) (if (lo ((a_x v) >>> (9 &&& 31)) 5) = 0 then 102 else 2))) (nI (lo (a_x v) (if (lo (v >>> (21 &&& 31)) 7) = 0 then 4 else 3))) (nI (lo ((a_x v) >>> (4 &&& 31)) (if (lo (v >>> (22 &&& 31)) 7) = 0 then 13 else 12)))).2.2.2.1) ((kX_book now hs nx sz (nI (lo ((a_x v) >>> (2 &&& 31)) (if (lo ((a_x v) >>> (9 &&& 31)) 5) = 0 then 102 else 2))) (nI (lo (a_x v) (if (lo (v >>> (21 &&& 31)) 7) = 0 then 4 else 3))) (nI (lo ((a_x v) >>> (4 &&& 31)) (if (lo (v >>> (22 &&& 31)) 7) = 0 then 13 else 12)))).2.2.2.2) ((kX_book now hs nx sz (nI (lo ((a_x v) >>> (2 &&& 31)) (if (lo ((a_x v) >>> (9 &&& 31)) 5) = 0 then 102 else 2))) (nI (lo (a_x v) (if (lo (v >>> (21 &&& 31)) 7) = 0 then 4 else 3))) (nI (lo ((a_x v) >>> (4 &&& 31)) (if (lo (v >>> (22 &&& 31)) 7) = 0 then 13 else 12)))).2.2.1) ahead) ++ [])) (by simp only [List.append_assoc, List.nil_append, List.cons_append]) (st' := [.int ((kX_book now hs nx sz (nI (lo ((a_x v) >>> (2 &&& 31)) (if (lo ((a_x v) >>> (9 &&& 31)) 5) = 0 then 102 else 2))) (nI (lo (a_x v) (if (lo (v >>> (21 &&& 31)) 7) = 0 then 4 else 3))) (nI (lo ((a_x v) >>> (4 &&& 31)) (if (lo (v >>> (22 &&& 31)) 7) = 0 then 13 else 12)))).1)]) rfl ⟨rfl, rfl⟩ ⟨Nat.le_of_ble_eq_true rfl, Nat.le_of_ble_eq_true rfl⟩ ?_
          exact x_iret C hr E dL_act_145 (fun _ => 0) (by rw [a_act_0 (v := v) (by omega)] <;> rfl) (by rw [a_act_0 (v := v) (by omega)] <;> rfl)
        refine x_if_neN (a := (lo (v >>> (21 &&& 31)) 7)) (tgt := 137) C dL_act_130 (by decide) (by omega) (fun c20 => ?_) (fun c20 => ?_)
        · refine x_iconst (v := (nI 3)) C dL_act_137 (by decide) ?_
          exact J21 3 (by rw [if_neg c20] <;> rfl)
        · refine x_iconst (v := (nI 4)) C dL_act_133 (by decide) ?_
          refine x_goto (tgt := 138) C dL_act_134 (by decide) ?_
          exact J21 4 (by rw [if_pos c20] <;> rfl)
      refine x_if_neN (a := (lo ((a_x v) >>> (9 &&& 31)) 5)) (tgt := 116) C dL_act_108 (by decide) (by omega) (fun c17 => ?_) (fun c17 => ?_)
      · refine x_iconst (v := (nI 2)) C dL_act_116 (by decide) ?_
        exact J18 2 (by rw [if_neg c17] <;> rfl)
      · refine x_bipush (v := (nI 102)) C dL_act_111 (by decide) ?_
        refine x_goto (tgt := 117) C dL_act_113 (by decide) ?_
        exact J18 102 (by rw [if_pos c17] <;> rfl)
    · refine x_tabI (tgt := 96) C 3 dL_act_36 (congrArg nI c4) (by decide) (by decide) rfl (by decide) ?_
      refine x_aload_n C 2 rfl dL_act_96 rfl ?_
      refine x_iload_n C 1 rfl dL_act_97 rfl ?_
      refine x_iconst (v := (nI 2)) C dL_act_98 (by decide) ?_
      refine x_ishr (x := (a_x v)) (y := 2) C dL_act_99 ?_
      refine x_iload_n C 1 rfl dL_act_100 rfl ?_
      refine x_bipush (v := (nI 9)) C dL_act_101 (by decide) ?_
      refine x_ishr (x := (a_x v)) (y := 9) C dL_act_103 ?_
      refine x_iconst (v := (nI 5)) C dL_act_104 (by decide) ?_
      refine x_callSd (As := [.int ((a_x v) >>> (9 &&& 31)), .int (nI 5)]) (rest := [.int ((a_x v) >>> (2 &&& 31)), .ref x]) C dL_act_105 (c_L_low (gX.l X) G ((a_x v) >>> (9 &&& 31)) 5 (by omega) (by omega)) ml_L_8 st_L_low in_L cd_L_low hd_L_low rfl rfl (Nat.le_of_ble_eq_true rfl) ⟨Nat.le_of_ble_eq_true rfl, Nat.le_of_ble_eq_true rfl⟩ [] ((wO G x A now nx sz hs ahead) ++ []) rfl (ws' := ((wO G x A now nx sz hs ahead) ++ [])) rfl (st' := [.int (nI (lo ((a_x v) >>> (9 &&& 31)) 5)), .int ((a_x v) >>> (2 &&& 31)), .ref x]) rfl ⟨rfl, rfl⟩ ⟨Nat.le_of_ble_eq_true rfl, Nat.le_of_ble_eq_true rfl⟩ ?_
      have J24 : ∀ (y25 : Nat) , y25 = (if (lo ((a_x v) >>> (9 &&& 31)) 5) = 0 then 102 else 2) → gW G X ((wO G x A now nx sz hs ahead) ++ []) 0 0 117 [(3, .int (nI (lo ((a_x v) >>> (4 &&& 31)) (if (lo (v >>> (22 &&& 31)) 7) = 0 then 13 else 12)))), (2, .int (a_x v)), (0, .ref x), (1, .int v)] [.int (nI y25), .int ((a_x v) >>> (2 &&& 31)), .ref x] := by
        intro y25 ey25
        subst ey25
        refine x_callSd (As := [.int ((a_x v) >>> (2 &&& 31)), .int (nI (if (lo ((a_x v) >>> (9 &&& 31)) 5) = 0 then 102 else 2))]) (rest := [.ref x]) C dL_act_117 (c_L_low (gX.l X) G ((a_x v) >>> (2 &&& 31)) (if (lo ((a_x v) >>> (9 &&& 31)) 5) = 0 then 102 else 2) (by split <;> omega) (by split <;> omega)) ml_L_8 st_L_low in_L cd_L_low hd_L_low rfl rfl (Nat.le_of_ble_eq_true rfl) ⟨Nat.le_of_ble_eq_true rfl, Nat.le_of_ble_eq_true rfl⟩ [] ((wO G x A now nx sz hs ahead) ++ []) rfl (ws' := ((wO G x A now nx sz hs ahead) ++ [])) rfl (st' := [.int (nI (lo ((a_x v) >>> (2 &&& 31)) (if (lo ((a_x v) >>> (9 &&& 31)) 5) = 0 then 102 else 2))), .ref x]) rfl ⟨rfl, rfl⟩ ⟨Nat.le_of_ble_eq_true rfl, Nat.le_of_ble_eq_true rfl⟩ ?_
        refine x_iload_n C 1 rfl dL_act_120 rfl ?_
        refine x_iload_n C 3 rfl dL_act_121 rfl ?_
        refine x_bipush (v := (nI 21)) C dL_act_122 (by decide) ?_
        refine x_ishr (x := v) (y := 21) C dL_act_124 ?_
        refine x_bipush (v := (nI 7)) C dL_act_125 (by decide) ?_
        refine x_callSd (As := [.int (v >>> (21 &&& 31)), .int (nI 7)]) (rest := [.int (a_x v), .int (nI (lo ((a_x v) >>> (2 &&& 31)) (if (lo ((a_x v) >>> (9 &&& 31)) 5) = 0 then 102 else 2))), .ref x]) C dL_act_127 (c_L_low (gX.l X) G (v >>> (21 &&& 31)) 7 (by omega) (by omega)) ml_L_8 st_L_low in_L cd_L_low hd_L_low rfl rfl (Nat.le_of_ble_eq_true rfl) ⟨Nat.le_of_ble_eq_true rfl, Nat.le_of_ble_eq_true rfl⟩ [] ((wO G x A now nx sz hs ahead) ++ []) rfl (ws' := ((wO G x A now nx sz hs ahead) ++ [])) rfl (st' := [.int (nI (lo (v >>> (21 &&& 31)) 7)), .int (a_x v), .int (nI (lo ((a_x v) >>> (2 &&& 31)) (if (lo ((a_x v) >>> (9 &&& 31)) 5) = 0 then 102 else 2))), .ref x]) rfl ⟨rfl, rfl⟩ ⟨Nat.le_of_ble_eq_true rfl, Nat.le_of_ble_eq_true rfl⟩ ?_
        have J27 : ∀ (y28 : Nat) , y28 = (if (lo (v >>> (21 &&& 31)) 7) = 0 then 4 else 3) → gW G X ((wO G x A now nx sz hs ahead) ++ []) 0 0 138 [(3, .int (nI (lo ((a_x v) >>> (4 &&& 31)) (if (lo (v >>> (22 &&& 31)) 7) = 0 then 13 else 12)))), (2, .int (a_x v)), (0, .ref x), (1, .int v)] [.int (nI y28), .int (a_x v), .int (nI (lo ((a_x v) >>> (2 &&& 31)) (if (lo ((a_x v) >>> (9 &&& 31)) 5) = 0 then 102 else 2))), .ref x] := by
          intro y28 ey28
          subst ey28
          refine x_callSd (As := [.int (a_x v), .int (nI (if (lo (v >>> (21 &&& 31)) 7) = 0 then 4 else 3))]) (rest := [.int (nI (lo ((a_x v) >>> (2 &&& 31)) (if (lo ((a_x v) >>> (9 &&& 31)) 5) = 0 then 102 else 2))), .ref x]) C dL_act_138 (c_L_low (gX.l X) G (a_x v) (if (lo (v >>> (21 &&& 31)) 7) = 0 then 4 else 3) (by split <;> omega) (by split <;> omega)) ml_L_8 st_L_low in_L cd_L_low hd_L_low rfl rfl (Nat.le_of_ble_eq_true rfl) ⟨Nat.le_of_ble_eq_true rfl, Nat.le_of_ble_eq_true rfl⟩ [] ((wO G x A now nx sz hs ahead) ++ []) rfl (ws' := ((wO G x A now nx sz hs ahead) ++ [])) rfl (st' := [.int (nI (lo (a_x v) (if (lo (v >>> (21 &&& 31)) 7) = 0 then 4 else 3))), .int (nI (lo ((a_x v) >>> (2 &&& 31)) (if (lo ((a_x v) >>> (9 &&& 31)) 5) = 0 then 102 else 2))), .ref x]) rfl ⟨rfl, rfl⟩ ⟨Nat.le_of_ble_eq_true rfl, Nat.le_of_ble_eq_true rfl⟩ ?_
          refine x_iload_n C 0 rfl dL_act_141 rfl ?_
          refine x_callVd (As := [.int (nI (lo ((a_x v) >>> (2 &&& 31)) (if (lo ((a_x v) >>> (9 &&& 31)) 5) = 0 then 102 else 2))), .int (nI (lo (a_x v) (if (lo (v >>> (21 &&& 31)) 7) = 0 then 4 else 3))), .int (nI (lo ((a_x v) >>> (4 &&& 31)) (if (lo (v >>> (22 &&& 31)) 7) = 0 then 13 else 12)))]) (rest := []) C dL_act_142 (c_O_book (gX.l X) G x A now nx sz hs ahead (nI (lo ((a_x v) >>> (2 &&& 31)) (if (lo ((a_x v) >>> (9 &&& 31)) 5) = 0 then 102 else 2))) (nI (lo (a_x v) (if (lo (v >>> (21 &&& 31)) 7) = 0 then 4 else 3))) (nI (lo ((a_x v) >>> (4 &&& 31)) (if (lo (v >>> (22 &&& 31)) 7) = 0 then 13 else 12))) hS hnx hsz) ml_L_14 im_X5_book sl_X5_book in_X5 cd_X5_book hd_X5_book 0 rfl rfl rfl rfl (Nat.le_of_ble_eq_true rfl) ⟨Nat.le_of_ble_eq_true rfl, Nat.le_of_ble_eq_true rfl⟩ [] [] (by simp only [List.append_assoc, List.nil_append, List.cons_append]) (ws' := ((wO G x A ((kX_book now hs nx sz (nI (lo ((a_x v) >>> (2 &&& 31)) (if (lo ((a_x v) >>> (9 &&& 31)) 5) = 0 then 102 else 2))) (nI (lo (a_x v) (if (lo (v >>> (21 &&& 31)) 7) = 0 then 4 else 3))) (nI (lo ((a_x v) >>> (4 &&& 31)) (if (lo (v >>> (22 &&& 31)) 7) = 0 then 13 else 12)))).2.1) ((kX_book now hs nx sz (nI (lo ((a_x v) >>> (2 &&& 31)) (if (lo ((a_x v) >>> (9 &&& 31)) 5) = 0 then 102 else 2))) (nI (lo (a_x v) (if (lo (v >>> (21 &&& 31)) 7) = 0 then 4 else 3))) (nI (lo ((a_x v) >>> (4 &&& 31)) (if (lo (v >>> (22 &&& 31)) 7) = 0 then 13 else 12)))).2.2.2.1) ((kX_book now hs nx sz (nI (lo ((a_x v) >>> (2 &&& 31)) (if (lo ((a_x v) >>> (9 &&& 31)) 5) = 0 then 102 else 2))) (nI (lo (a_x v) (if (lo (v >>> (21 &&& 31)) 7) = 0 then 4 else 3))) (nI (lo ((a_x v) >>> (4 &&& 31)) (if (lo (v >>> (22 &&& 31)) 7) = 0 then 13 else 12)))).2.2.2.2) ((kX_book now hs nx sz (nI (lo ((a_x v) >>> (2 &&& 31)) (if (lo ((a_x v) >>> (9 &&& 31)) 5) = 0 then 102 else 2))) (nI (lo (a_x v) (if (lo (v >>> (21 &&& 31)) 7) = 0 then 4 else 3))) (nI (lo ((a_x v) >>> (4 &&& 31)) (if (lo (v >>> (22 &&& 31)) 7) = 0 then 13 else 12)))).2.2.1) ahead) ++ [])) (by simp only [List.append_assoc, List.nil_append, List.cons_append]) (st' := [.int ((kX_book now hs nx sz (nI (lo ((a_x v) >>> (2 &&& 31)) (if (lo ((a_x v) >>> (9 &&& 31)) 5) = 0 then 102 else 2))) (nI (lo (a_x v) (if (lo (v >>> (21 &&& 31)) 7) = 0 then 4 else 3))) (nI (lo ((a_x v) >>> (4 &&& 31)) (if (lo (v >>> (22 &&& 31)) 7) = 0 then 13 else 12)))).1)]) rfl ⟨rfl, rfl⟩ ⟨Nat.le_of_ble_eq_true rfl, Nat.le_of_ble_eq_true rfl⟩ ?_
          exact x_iret C hr E dL_act_145 (fun _ => 0) (by rw [a_act_0 (v := v) (by omega)] <;> rfl) (by rw [a_act_0 (v := v) (by omega)] <;> rfl)
        refine x_if_neN (a := (lo (v >>> (21 &&& 31)) 7)) (tgt := 137) C dL_act_130 (by decide) (by omega) (fun c26 => ?_) (fun c26 => ?_)
        · refine x_iconst (v := (nI 3)) C dL_act_137 (by decide) ?_
          exact J27 3 (by rw [if_neg c26] <;> rfl)
        · refine x_iconst (v := (nI 4)) C dL_act_133 (by decide) ?_
          refine x_goto (tgt := 138) C dL_act_134 (by decide) ?_
          exact J27 4 (by rw [if_pos c26] <;> rfl)
      refine x_if_neN (a := (lo ((a_x v) >>> (9 &&& 31)) 5)) (tgt := 116) C dL_act_108 (by decide) (by omega) (fun c23 => ?_) (fun c23 => ?_)
      · refine x_iconst (v := (nI 2)) C dL_act_116 (by decide) ?_
        exact J24 2 (by rw [if_neg c23] <;> rfl)
      · refine x_bipush (v := (nI 102)) C dL_act_111 (by decide) ?_
        refine x_goto (tgt := 117) C dL_act_113 (by decide) ?_
        exact J24 102 (by rw [if_pos c23] <;> rfl)
    · refine x_tabI (tgt := 96) C 4 dL_act_36 (congrArg nI c4) (by decide) (by decide) rfl (by decide) ?_
      refine x_aload_n C 2 rfl dL_act_96 rfl ?_
      refine x_iload_n C 1 rfl dL_act_97 rfl ?_
      refine x_iconst (v := (nI 2)) C dL_act_98 (by decide) ?_
      refine x_ishr (x := (a_x v)) (y := 2) C dL_act_99 ?_
      refine x_iload_n C 1 rfl dL_act_100 rfl ?_
      refine x_bipush (v := (nI 9)) C dL_act_101 (by decide) ?_
      refine x_ishr (x := (a_x v)) (y := 9) C dL_act_103 ?_
      refine x_iconst (v := (nI 5)) C dL_act_104 (by decide) ?_
      refine x_callSd (As := [.int ((a_x v) >>> (9 &&& 31)), .int (nI 5)]) (rest := [.int ((a_x v) >>> (2 &&& 31)), .ref x]) C dL_act_105 (c_L_low (gX.l X) G ((a_x v) >>> (9 &&& 31)) 5 (by omega) (by omega)) ml_L_8 st_L_low in_L cd_L_low hd_L_low rfl rfl (Nat.le_of_ble_eq_true rfl) ⟨Nat.le_of_ble_eq_true rfl, Nat.le_of_ble_eq_true rfl⟩ [] ((wO G x A now nx sz hs ahead) ++ []) rfl (ws' := ((wO G x A now nx sz hs ahead) ++ [])) rfl (st' := [.int (nI (lo ((a_x v) >>> (9 &&& 31)) 5)), .int ((a_x v) >>> (2 &&& 31)), .ref x]) rfl ⟨rfl, rfl⟩ ⟨Nat.le_of_ble_eq_true rfl, Nat.le_of_ble_eq_true rfl⟩ ?_
      have J30 : ∀ (y31 : Nat) , y31 = (if (lo ((a_x v) >>> (9 &&& 31)) 5) = 0 then 102 else 2) → gW G X ((wO G x A now nx sz hs ahead) ++ []) 0 0 117 [(3, .int (nI (lo ((a_x v) >>> (4 &&& 31)) (if (lo (v >>> (22 &&& 31)) 7) = 0 then 13 else 12)))), (2, .int (a_x v)), (0, .ref x), (1, .int v)] [.int (nI y31), .int ((a_x v) >>> (2 &&& 31)), .ref x] := by
        intro y31 ey31
        subst ey31
        refine x_callSd (As := [.int ((a_x v) >>> (2 &&& 31)), .int (nI (if (lo ((a_x v) >>> (9 &&& 31)) 5) = 0 then 102 else 2))]) (rest := [.ref x]) C dL_act_117 (c_L_low (gX.l X) G ((a_x v) >>> (2 &&& 31)) (if (lo ((a_x v) >>> (9 &&& 31)) 5) = 0 then 102 else 2) (by split <;> omega) (by split <;> omega)) ml_L_8 st_L_low in_L cd_L_low hd_L_low rfl rfl (Nat.le_of_ble_eq_true rfl) ⟨Nat.le_of_ble_eq_true rfl, Nat.le_of_ble_eq_true rfl⟩ [] ((wO G x A now nx sz hs ahead) ++ []) rfl (ws' := ((wO G x A now nx sz hs ahead) ++ [])) rfl (st' := [.int (nI (lo ((a_x v) >>> (2 &&& 31)) (if (lo ((a_x v) >>> (9 &&& 31)) 5) = 0 then 102 else 2))), .ref x]) rfl ⟨rfl, rfl⟩ ⟨Nat.le_of_ble_eq_true rfl, Nat.le_of_ble_eq_true rfl⟩ ?_
        refine x_iload_n C 1 rfl dL_act_120 rfl ?_
        refine x_iload_n C 3 rfl dL_act_121 rfl ?_
        refine x_bipush (v := (nI 21)) C dL_act_122 (by decide) ?_
        refine x_ishr (x := v) (y := 21) C dL_act_124 ?_
        refine x_bipush (v := (nI 7)) C dL_act_125 (by decide) ?_
        refine x_callSd (As := [.int (v >>> (21 &&& 31)), .int (nI 7)]) (rest := [.int (a_x v), .int (nI (lo ((a_x v) >>> (2 &&& 31)) (if (lo ((a_x v) >>> (9 &&& 31)) 5) = 0 then 102 else 2))), .ref x]) C dL_act_127 (c_L_low (gX.l X) G (v >>> (21 &&& 31)) 7 (by omega) (by omega)) ml_L_8 st_L_low in_L cd_L_low hd_L_low rfl rfl (Nat.le_of_ble_eq_true rfl) ⟨Nat.le_of_ble_eq_true rfl, Nat.le_of_ble_eq_true rfl⟩ [] ((wO G x A now nx sz hs ahead) ++ []) rfl (ws' := ((wO G x A now nx sz hs ahead) ++ [])) rfl (st' := [.int (nI (lo (v >>> (21 &&& 31)) 7)), .int (a_x v), .int (nI (lo ((a_x v) >>> (2 &&& 31)) (if (lo ((a_x v) >>> (9 &&& 31)) 5) = 0 then 102 else 2))), .ref x]) rfl ⟨rfl, rfl⟩ ⟨Nat.le_of_ble_eq_true rfl, Nat.le_of_ble_eq_true rfl⟩ ?_
        have J33 : ∀ (y34 : Nat) , y34 = (if (lo (v >>> (21 &&& 31)) 7) = 0 then 4 else 3) → gW G X ((wO G x A now nx sz hs ahead) ++ []) 0 0 138 [(3, .int (nI (lo ((a_x v) >>> (4 &&& 31)) (if (lo (v >>> (22 &&& 31)) 7) = 0 then 13 else 12)))), (2, .int (a_x v)), (0, .ref x), (1, .int v)] [.int (nI y34), .int (a_x v), .int (nI (lo ((a_x v) >>> (2 &&& 31)) (if (lo ((a_x v) >>> (9 &&& 31)) 5) = 0 then 102 else 2))), .ref x] := by
          intro y34 ey34
          subst ey34
          refine x_callSd (As := [.int (a_x v), .int (nI (if (lo (v >>> (21 &&& 31)) 7) = 0 then 4 else 3))]) (rest := [.int (nI (lo ((a_x v) >>> (2 &&& 31)) (if (lo ((a_x v) >>> (9 &&& 31)) 5) = 0 then 102 else 2))), .ref x]) C dL_act_138 (c_L_low (gX.l X) G (a_x v) (if (lo (v >>> (21 &&& 31)) 7) = 0 then 4 else 3) (by split <;> omega) (by split <;> omega)) ml_L_8 st_L_low in_L cd_L_low hd_L_low rfl rfl (Nat.le_of_ble_eq_true rfl) ⟨Nat.le_of_ble_eq_true rfl, Nat.le_of_ble_eq_true rfl⟩ [] ((wO G x A now nx sz hs ahead) ++ []) rfl (ws' := ((wO G x A now nx sz hs ahead) ++ [])) rfl (st' := [.int (nI (lo (a_x v) (if (lo (v >>> (21 &&& 31)) 7) = 0 then 4 else 3))), .int (nI (lo ((a_x v) >>> (2 &&& 31)) (if (lo ((a_x v) >>> (9 &&& 31)) 5) = 0 then 102 else 2))), .ref x]) rfl ⟨rfl, rfl⟩ ⟨Nat.le_of_ble_eq_true rfl, Nat.le_of_ble_eq_true rfl⟩ ?_
          refine x_iload_n C 0 rfl dL_act_141 rfl ?_
          refine x_callVd (As := [.int (nI (lo ((a_x v) >>> (2 &&& 31)) (if (lo ((a_x v) >>> (9 &&& 31)) 5) = 0 then 102 else 2))), .int (nI (lo (a_x v) (if (lo (v >>> (21 &&& 31)) 7) = 0 then 4 else 3))), .int (nI (lo ((a_x v) >>> (4 &&& 31)) (if (lo (v >>> (22 &&& 31)) 7) = 0 then 13 else 12)))]) (rest := []) C dL_act_142 (c_O_book (gX.l X) G x A now nx sz hs ahead (nI (lo ((a_x v) >>> (2 &&& 31)) (if (lo ((a_x v) >>> (9 &&& 31)) 5) = 0 then 102 else 2))) (nI (lo (a_x v) (if (lo (v >>> (21 &&& 31)) 7) = 0 then 4 else 3))) (nI (lo ((a_x v) >>> (4 &&& 31)) (if (lo (v >>> (22 &&& 31)) 7) = 0 then 13 else 12))) hS hnx hsz) ml_L_14 im_X5_book sl_X5_book in_X5 cd_X5_book hd_X5_book 0 rfl rfl rfl rfl (Nat.le_of_ble_eq_true rfl) ⟨Nat.le_of_ble_eq_true rfl, Nat.le_of_ble_eq_true rfl⟩ [] [] (by simp only [List.append_assoc, List.nil_append, List.cons_append]) (ws' := ((wO G x A ((kX_book now hs nx sz (nI (lo ((a_x v) >>> (2 &&& 31)) (if (lo ((a_x v) >>> (9 &&& 31)) 5) = 0 then 102 else 2))) (nI (lo (a_x v) (if (lo (v >>> (21 &&& 31)) 7) = 0 then 4 else 3))) (nI (lo ((a_x v) >>> (4 &&& 31)) (if (lo (v >>> (22 &&& 31)) 7) = 0 then 13 else 12)))).2.1) ((kX_book now hs nx sz (nI (lo ((a_x v) >>> (2 &&& 31)) (if (lo ((a_x v) >>> (9 &&& 31)) 5) = 0 then 102 else 2))) (nI (lo (a_x v) (if (lo (v >>> (21 &&& 31)) 7) = 0 then 4 else 3))) (nI (lo ((a_x v) >>> (4 &&& 31)) (if (lo (v >>> (22 &&& 31)) 7) = 0 then 13 else 12)))).2.2.2.1) ((kX_book now hs nx sz (nI (lo ((a_x v) >>> (2 &&& 31)) (if (lo ((a_x v) >>> (9 &&& 31)) 5) = 0 then 102 else 2))) (nI (lo (a_x v) (if (lo (v >>> (21 &&& 31)) 7) = 0 then 4 else 3))) (nI (lo ((a_x v) >>> (4 &&& 31)) (if (lo (v >>> (22 &&& 31)) 7) = 0 then 13 else 12)))).2.2.2.2) ((kX_book now hs nx sz (nI (lo ((a_x v) >>> (2 &&& 31)) (if (lo ((a_x v) >>> (9 &&& 31)) 5) = 0 then 102 else 2))) (nI (lo (a_x v) (if (lo (v >>> (21 &&& 31)) 7) = 0 then 4 else 3))) (nI (lo ((a_x v) >>> (4 &&& 31)) (if (lo (v >>> (22 &&& 31)) 7) = 0 then 13 else 12)))).2.2.1) ahead) ++ [])) (by simp only [List.append_assoc, List.nil_append, List.cons_append]) (st' := [.int ((kX_book now hs nx sz (nI (lo ((a_x v) >>> (2 &&& 31)) (if (lo ((a_x v) >>> (9 &&& 31)) 5) = 0 then 102 else 2))) (nI (lo (a_x v) (if (lo (v >>> (21 &&& 31)) 7) = 0 then 4 else 3))) (nI (lo ((a_x v) >>> (4 &&& 31)) (if (lo (v >>> (22 &&& 31)) 7) = 0 then 13 else 12)))).1)]) rfl ⟨rfl, rfl⟩ ⟨Nat.le_of_ble_eq_true rfl, Nat.le_of_ble_eq_true rfl⟩ ?_
          exact x_iret C hr E dL_act_145 (fun _ => 0) (by rw [a_act_0 (v := v) (by omega)] <;> rfl) (by rw [a_act_0 (v := v) (by omega)] <;> rfl)
        refine x_if_neN (a := (lo (v >>> (21 &&& 31)) 7)) (tgt := 137) C dL_act_130 (by decide) (by omega) (fun c32 => ?_) (fun c32 => ?_)
        · refine x_iconst (v := (nI 3)) C dL_act_137 (by decide) ?_
          exact J33 3 (by rw [if_neg c32] <;> rfl)
        · refine x_iconst (v := (nI 4)) C dL_act_133 (by decide) ?_
          refine x_goto (tgt := 138) C dL_act_134 (by decide) ?_
          exact J33 4 (by rw [if_pos c32] <;> rfl)
      refine x_if_neN (a := (lo ((a_x v) >>> (9 &&& 31)) 5)) (tgt := 116) C dL_act_108 (by decide) (by omega) (fun c29 => ?_) (fun c29 => ?_)
      · refine x_iconst (v := (nI 2)) C dL_act_116 (by decide) ?_
        exact J30 2 (by rw [if_neg c29] <;> rfl)
      · refine x_bipush (v := (nI 102)) C dL_act_111 (by decide) ?_
        refine x_goto (tgt := 117) C dL_act_113 (by decide) ?_
        exact J30 102 (by rw [if_pos c29] <;> rfl)
    · refine x_tabI (tgt := 96) C 5 dL_act_36 (congrArg nI c4) (by decide) (by decide) rfl (by decide) ?_
      refine x_aload_n C 2 rfl dL_act_96 rfl ?_
      refine x_iload_n C 1 rfl dL_act_97 rfl ?_
      refine x_iconst (v := (nI 2)) C dL_act_98 (by decide) ?_
      refine x_ishr (x := (a_x v)) (y := 2) C dL_act_99 ?_
      refine x_iload_n C 1 rfl dL_act_100 rfl ?_
      refine x_bipush (v := (nI 9)) C dL_act_101 (by decide) ?_
      refine x_ishr (x := (a_x v)) (y := 9) C dL_act_103 ?_
      refine x_iconst (v := (nI 5)) C dL_act_104 (by decide) ?_
      refine x_callSd (As := [.int ((a_x v) >>> (9 &&& 31)), .int (nI 5)]) (rest := [.int ((a_x v) >>> (2 &&& 31)), .ref x]) C dL_act_105 (c_L_low (gX.l X) G ((a_x v) >>> (9 &&& 31)) 5 (by omega) (by omega)) ml_L_8 st_L_low in_L cd_L_low hd_L_low rfl rfl (Nat.le_of_ble_eq_true rfl) ⟨Nat.le_of_ble_eq_true rfl, Nat.le_of_ble_eq_true rfl⟩ [] ((wO G x A now nx sz hs ahead) ++ []) rfl (ws' := ((wO G x A now nx sz hs ahead) ++ [])) rfl (st' := [.int (nI (lo ((a_x v) >>> (9 &&& 31)) 5)), .int ((a_x v) >>> (2 &&& 31)), .ref x]) rfl ⟨rfl, rfl⟩ ⟨Nat.le_of_ble_eq_true rfl, Nat.le_of_ble_eq_true rfl⟩ ?_
      have J36 : ∀ (y37 : Nat) , y37 = (if (lo ((a_x v) >>> (9 &&& 31)) 5) = 0 then 102 else 2) → gW G X ((wO G x A now nx sz hs ahead) ++ []) 0 0 117 [(3, .int (nI (lo ((a_x v) >>> (4 &&& 31)) (if (lo (v >>> (22 &&& 31)) 7) = 0 then 13 else 12)))), (2, .int (a_x v)), (0, .ref x), (1, .int v)] [.int (nI y37), .int ((a_x v) >>> (2 &&& 31)), .ref x] := by
        intro y37 ey37
        subst ey37
        refine x_callSd (As := [.int ((a_x v) >>> (2 &&& 31)), .int (nI (if (lo ((a_x v) >>> (9 &&& 31)) 5) = 0 then 102 else 2))]) (rest := [.ref x]) C dL_act_117 (c_L_low (gX.l X) G ((a_x v) >>> (2 &&& 31)) (if (lo ((a_x v) >>> (9 &&& 31)) 5) = 0 then 102 else 2) (by split <;> omega) (by split <;> omega)) ml_L_8 st_L_low in_L cd_L_low hd_L_low rfl rfl (Nat.le_of_ble_eq_true rfl) ⟨Nat.le_of_ble_eq_true rfl, Nat.le_of_ble_eq_true rfl⟩ [] ((wO G x A now nx sz hs ahead) ++ []) rfl (ws' := ((wO G x A now nx sz hs ahead) ++ [])) rfl (st' := [.int (nI (lo ((a_x v) >>> (2 &&& 31)) (if (lo ((a_x v) >>> (9 &&& 31)) 5) = 0 then 102 else 2))), .ref x]) rfl ⟨rfl, rfl⟩ ⟨Nat.le_of_ble_eq_true rfl, Nat.le_of_ble_eq_true rfl⟩ ?_
        refine x_iload_n C 1 rfl dL_act_120 rfl ?_
        refine x_iload_n C 3 rfl dL_act_121 rfl ?_
        refine x_bipush (v := (nI 21)) C dL_act_122 (by decide) ?_
        refine x_ishr (x := v) (y := 21) C dL_act_124 ?_
        refine x_bipush (v := (nI 7)) C dL_act_125 (by decide) ?_
        refine x_callSd (As := [.int (v >>> (21 &&& 31)), .int (nI 7)]) (rest := [.int (a_x v), .int (nI (lo ((a_x v) >>> (2 &&& 31)) (if (lo ((a_x v) >>> (9 &&& 31)) 5) = 0 then 102 else 2))), .ref x]) C dL_act_127 (c_L_low (gX.l X) G (v >>> (21 &&& 31)) 7 (by omega) (by omega)) ml_L_8 st_L_low in_L cd_L_low hd_L_low rfl rfl (Nat.le_of_ble_eq_true rfl) ⟨Nat.le_of_ble_eq_true rfl, Nat.le_of_ble_eq_true rfl⟩ [] ((wO G x A now nx sz hs ahead) ++ []) rfl (ws' := ((wO G x A now nx sz hs ahead) ++ [])) rfl (st' := [.int (nI (lo (v >>> (21 &&& 31)) 7)), .int (a_x v), .int (nI (lo ((a_x v) >>> (2 &&& 31)) (if (lo ((a_x v) >>> (9 &&& 31)) 5) = 0 then 102 else 2))), .ref x]) rfl ⟨rfl, rfl⟩ ⟨Nat.le_of_ble_eq_true rfl, Nat.le_of_ble_eq_true rfl⟩ ?_
        have J39 : ∀ (y40 : Nat) , y40 = (if (lo (v >>> (21 &&& 31)) 7) = 0 then 4 else 3) → gW G X ((wO G x A now nx sz hs ahead) ++ []) 0 0 138 [(3, .int (nI (lo ((a_x v) >>> (4 &&& 31)) (if (lo (v >>> (22 &&& 31)) 7) = 0 then 13 else 12)))), (2, .int (a_x v)), (0, .ref x), (1, .int v)] [.int (nI y40), .int (a_x v), .int (nI (lo ((a_x v) >>> (2 &&& 31)) (if (lo ((a_x v) >>> (9 &&& 31)) 5) = 0 then 102 else 2))), .ref x] := by
          intro y40 ey40
          subst ey40
          refine x_callSd (As := [.int (a_x v), .int (nI (if (lo (v >>> (21 &&& 31)) 7) = 0 then 4 else 3))]) (rest := [.int (nI (lo ((a_x v) >>> (2 &&& 31)) (if (lo ((a_x v) >>> (9 &&& 31)) 5) = 0 then 102 else 2))), .ref x]) C dL_act_138 (c_L_low (gX.l X) G (a_x v) (if (lo (v >>> (21 &&& 31)) 7) = 0 then 4 else 3) (by split <;> omega) (by split <;> omega)) ml_L_8 st_L_low in_L cd_L_low hd_L_low rfl rfl (Nat.le_of_ble_eq_true rfl) ⟨Nat.le_of_ble_eq_true rfl, Nat.le_of_ble_eq_true rfl⟩ [] ((wO G x A now nx sz hs ahead) ++ []) rfl (ws' := ((wO G x A now nx sz hs ahead) ++ [])) rfl (st' := [.int (nI (lo (a_x v) (if (lo (v >>> (21 &&& 31)) 7) = 0 then 4 else 3))), .int (nI (lo ((a_x v) >>> (2 &&& 31)) (if (lo ((a_x v) >>> (9 &&& 31)) 5) = 0 then 102 else 2))), .ref x]) rfl ⟨rfl, rfl⟩ ⟨Nat.le_of_ble_eq_true rfl, Nat.le_of_ble_eq_true rfl⟩ ?_
          refine x_iload_n C 0 rfl dL_act_141 rfl ?_
          refine x_callVd (As := [.int (nI (lo ((a_x v) >>> (2 &&& 31)) (if (lo ((a_x v) >>> (9 &&& 31)) 5) = 0 then 102 else 2))), .int (nI (lo (a_x v) (if (lo (v >>> (21 &&& 31)) 7) = 0 then 4 else 3))), .int (nI (lo ((a_x v) >>> (4 &&& 31)) (if (lo (v >>> (22 &&& 31)) 7) = 0 then 13 else 12)))]) (rest := []) C dL_act_142 (c_O_book (gX.l X) G x A now nx sz hs ahead (nI (lo ((a_x v) >>> (2 &&& 31)) (if (lo ((a_x v) >>> (9 &&& 31)) 5) = 0 then 102 else 2))) (nI (lo (a_x v) (if (lo (v >>> (21 &&& 31)) 7) = 0 then 4 else 3))) (nI (lo ((a_x v) >>> (4 &&& 31)) (if (lo (v >>> (22 &&& 31)) 7) = 0 then 13 else 12))) hS hnx hsz) ml_L_14 im_X5_book sl_X5_book in_X5 cd_X5_book hd_X5_book 0 rfl rfl rfl rfl (Nat.le_of_ble_eq_true rfl) ⟨Nat.le_of_ble_eq_true rfl, Nat.le_of_ble_eq_true rfl⟩ [] [] (by simp only [List.append_assoc, List.nil_append, List.cons_append]) (ws' := ((wO G x A ((kX_book now hs nx sz (nI (lo ((a_x v) >>> (2 &&& 31)) (if (lo ((a_x v) >>> (9 &&& 31)) 5) = 0 then 102 else 2))) (nI (lo (a_x v) (if (lo (v >>> (21 &&& 31)) 7) = 0 then 4 else 3))) (nI (lo ((a_x v) >>> (4 &&& 31)) (if (lo (v >>> (22 &&& 31)) 7) = 0 then 13 else 12)))).2.1) ((kX_book now hs nx sz (nI (lo ((a_x v) >>> (2 &&& 31)) (if (lo ((a_x v) >>> (9 &&& 31)) 5) = 0 then 102 else 2))) (nI (lo (a_x v) (if (lo (v >>> (21 &&& 31)) 7) = 0 then 4 else 3))) (nI (lo ((a_x v) >>> (4 &&& 31)) (if (lo (v >>> (22 &&& 31)) 7) = 0 then 13 else 12)))).2.2.2.1) ((kX_book now hs nx sz (nI (lo ((a_x v) >>> (2 &&& 31)) (if (lo ((a_x v) >>> (9 &&& 31)) 5) = 0 then 102 else 2))) (nI (lo (a_x v) (if (lo (v >>> (21 &&& 31)) 7) = 0 then 4 else 3))) (nI (lo ((a_x v) >>> (4 &&& 31)) (if (lo (v >>> (22 &&& 31)) 7) = 0 then 13 else 12)))).2.2.2.2) ((kX_book now hs nx sz (nI (lo ((a_x v) >>> (2 &&& 31)) (if (lo ((a_x v) >>> (9 &&& 31)) 5) = 0 then 102 else 2))) (nI (lo (a_x v) (if (lo (v >>> (21 &&& 31)) 7) = 0 then 4 else 3))) (nI (lo ((a_x v) >>> (4 &&& 31)) (if (lo (v >>> (22 &&& 31)) 7) = 0 then 13 else 12)))).2.2.1) ahead) ++ [])) (by simp only [List.append_assoc, List.nil_append, List.cons_append]) (st' := [.int ((kX_book now hs nx sz (nI (lo ((a_x v) >>> (2 &&& 31)) (if (lo ((a_x v) >>> (9 &&& 31)) 5) = 0 then 102 else 2))) (nI (lo (a_x v) (if (lo (v >>> (21 &&& 31)) 7) = 0 then 4 else 3))) (nI (lo ((a_x v) >>> (4 &&& 31)) (if (lo (v >>> (22 &&& 31)) 7) = 0 then 13 else 12)))).1)]) rfl ⟨rfl, rfl⟩ ⟨Nat.le_of_ble_eq_true rfl, Nat.le_of_ble_eq_true rfl⟩ ?_
          exact x_iret C hr E dL_act_145 (fun _ => 0) (by rw [a_act_0 (v := v) (by omega)] <;> rfl) (by rw [a_act_0 (v := v) (by omega)] <;> rfl)
        refine x_if_neN (a := (lo (v >>> (21 &&& 31)) 7)) (tgt := 137) C dL_act_130 (by decide) (by omega) (fun c38 => ?_) (fun c38 => ?_)
        · refine x_iconst (v := (nI 3)) C dL_act_137 (by decide) ?_
          exact J39 3 (by rw [if_neg c38] <;> rfl)
        · refine x_iconst (v := (nI 4)) C dL_act_133 (by decide) ?_
          refine x_goto (tgt := 138) C dL_act_134 (by decide) ?_
          exact J39 4 (by rw [if_pos c38] <;> rfl)
      refine x_if_neN (a := (lo ((a_x v) >>> (9 &&& 31)) 5)) (tgt := 116) C dL_act_108 (by decide) (by omega) (fun c35 => ?_) (fun c35 => ?_)
      · refine x_iconst (v := (nI 2)) C dL_act_116 (by decide) ?_
        exact J36 2 (by rw [if_neg c35] <;> rfl)
      · refine x_bipush (v := (nI 102)) C dL_act_111 (by decide) ?_
        refine x_goto (tgt := 117) C dL_act_113 (by decide) ?_
        exact J36 102 (by rw [if_pos c35] <;> rfl)
    · refine x_tabI (tgt := 96) C 6 dL_act_36 (congrArg nI c4) (by decide) (by decide) rfl (by decide) ?_
      refine x_aload_n C 2 rfl dL_act_96 rfl ?_
      refine x_iload_n C 1 rfl dL_act_97 rfl ?_
      refine x_iconst (v := (nI 2)) C dL_act_98 (by decide) ?_
      refine x_ishr (x := (a_x v)) (y := 2) C dL_act_99 ?_
      refine x_iload_n C 1 rfl dL_act_100 rfl ?_
      refine x_bipush (v := (nI 9)) C dL_act_101 (by decide) ?_
      refine x_ishr (x := (a_x v)) (y := 9) C dL_act_103 ?_
      refine x_iconst (v := (nI 5)) C dL_act_104 (by decide) ?_
      refine x_callSd (As := [.int ((a_x v) >>> (9 &&& 31)), .int (nI 5)]) (rest := [.int ((a_x v) >>> (2 &&& 31)), .ref x]) C dL_act_105 (c_L_low (gX.l X) G ((a_x v) >>> (9 &&& 31)) 5 (by omega) (by omega)) ml_L_8 st_L_low in_L cd_L_low hd_L_low rfl rfl (Nat.le_of_ble_eq_true rfl) ⟨Nat.le_of_ble_eq_true rfl, Nat.le_of_ble_eq_true rfl⟩ [] ((wO G x A now nx sz hs ahead) ++ []) rfl (ws' := ((wO G x A now nx sz hs ahead) ++ [])) rfl (st' := [.int (nI (lo ((a_x v) >>> (9 &&& 31)) 5)), .int ((a_x v) >>> (2 &&& 31)), .ref x]) rfl ⟨rfl, rfl⟩ ⟨Nat.le_of_ble_eq_true rfl, Nat.le_of_ble_eq_true rfl⟩ ?_
      have J42 : ∀ (y43 : Nat) , y43 = (if (lo ((a_x v) >>> (9 &&& 31)) 5) = 0 then 102 else 2) → gW G X ((wO G x A now nx sz hs ahead) ++ []) 0 0 117 [(3, .int (nI (lo ((a_x v) >>> (4 &&& 31)) (if (lo (v >>> (22 &&& 31)) 7) = 0 then 13 else 12)))), (2, .int (a_x v)), (0, .ref x), (1, .int v)] [.int (nI y43), .int ((a_x v) >>> (2 &&& 31)), .ref x] := by
        intro y43 ey43
        subst ey43
        refine x_callSd (As := [.int ((a_x v) >>> (2 &&& 31)), .int (nI (if (lo ((a_x v) >>> (9 &&& 31)) 5) = 0 then 102 else 2))]) (rest := [.ref x]) C dL_act_117 (c_L_low (gX.l X) G ((a_x v) >>> (2 &&& 31)) (if (lo ((a_x v) >>> (9 &&& 31)) 5) = 0 then 102 else 2) (by split <;> omega) (by split <;> omega)) ml_L_8 st_L_low in_L cd_L_low hd_L_low rfl rfl (Nat.le_of_ble_eq_true rfl) ⟨Nat.le_of_ble_eq_true rfl, Nat.le_of_ble_eq_true rfl⟩ [] ((wO G x A now nx sz hs ahead) ++ []) rfl (ws' := ((wO G x A now nx sz hs ahead) ++ [])) rfl (st' := [.int (nI (lo ((a_x v) >>> (2 &&& 31)) (if (lo ((a_x v) >>> (9 &&& 31)) 5) = 0 then 102 else 2))), .ref x]) rfl ⟨rfl, rfl⟩ ⟨Nat.le_of_ble_eq_true rfl, Nat.le_of_ble_eq_true rfl⟩ ?_
        refine x_iload_n C 1 rfl dL_act_120 rfl ?_
        refine x_iload_n C 3 rfl dL_act_121 rfl ?_
        refine x_bipush (v := (nI 21)) C dL_act_122 (by decide) ?_
        refine x_ishr (x := v) (y := 21) C dL_act_124 ?_
        refine x_bipush (v := (nI 7)) C dL_act_125 (by decide) ?_
        refine x_callSd (As := [.int (v >>> (21 &&& 31)), .int (nI 7)]) (rest := [.int (a_x v), .int (nI (lo ((a_x v) >>> (2 &&& 31)) (if (lo ((a_x v) >>> (9 &&& 31)) 5) = 0 then 102 else 2))), .ref x]) C dL_act_127 (c_L_low (gX.l X) G (v >>> (21 &&& 31)) 7 (by omega) (by omega)) ml_L_8 st_L_low in_L cd_L_low hd_L_low rfl rfl (Nat.le_of_ble_eq_true rfl) ⟨Nat.le_of_ble_eq_true rfl, Nat.le_of_ble_eq_true rfl⟩ [] ((wO G x A now nx sz hs ahead) ++ []) rfl (ws' := ((wO G x A now nx sz hs ahead) ++ [])) rfl (st' := [.int (nI (lo (v >>> (21 &&& 31)) 7)), .int (a_x v), .int (nI (lo ((a_x v) >>> (2 &&& 31)) (if (lo ((a_x v) >>> (9 &&& 31)) 5) = 0 then 102 else 2))), .ref x]) rfl ⟨rfl, rfl⟩ ⟨Nat.le_of_ble_eq_true rfl, Nat.le_of_ble_eq_true rfl⟩ ?_
        have J45 : ∀ (y46 : Nat) , y46 = (if (lo (v >>> (21 &&& 31)) 7) = 0 then 4 else 3) → gW G X ((wO G x A now nx sz hs ahead) ++ []) 0 0 138 [(3, .int (nI (lo ((a_x v) >>> (4 &&& 31)) (if (lo (v >>> (22 &&& 31)) 7) = 0 then 13 else 12)))), (2, .int (a_x v)), (0, .ref x), (1, .int v)] [.int (nI y46), .int (a_x v), .int (nI (lo ((a_x v) >>> (2 &&& 31)) (if (lo ((a_x v) >>> (9 &&& 31)) 5) = 0 then 102 else 2))), .ref x] := by
          intro y46 ey46
          subst ey46
          refine x_callSd (As := [.int (a_x v), .int (nI (if (lo (v >>> (21 &&& 31)) 7) = 0 then 4 else 3))]) (rest := [.int (nI (lo ((a_x v) >>> (2 &&& 31)) (if (lo ((a_x v) >>> (9 &&& 31)) 5) = 0 then 102 else 2))), .ref x]) C dL_act_138 (c_L_low (gX.l X) G (a_x v) (if (lo (v >>> (21 &&& 31)) 7) = 0 then 4 else 3) (by split <;> omega) (by split <;> omega)) ml_L_8 st_L_low in_L cd_L_low hd_L_low rfl rfl (Nat.le_of_ble_eq_true rfl) ⟨Nat.le_of_ble_eq_true rfl, Nat.le_of_ble_eq_true rfl⟩ [] ((wO G x A now nx sz hs ahead) ++ []) rfl (ws' := ((wO G x A now nx sz hs ahead) ++ [])) rfl (st' := [.int (nI (lo (a_x v) (if (lo (v >>> (21 &&& 31)) 7) = 0 then 4 else 3))), .int (nI (lo ((a_x v) >>> (2 &&& 31)) (if (lo ((a_x v) >>> (9 &&& 31)) 5) = 0 then 102 else 2))), .ref x]) rfl ⟨rfl, rfl⟩ ⟨Nat.le_of_ble_eq_true rfl, Nat.le_of_ble_eq_true rfl⟩ ?_
          refine x_iload_n C 0 rfl dL_act_141 rfl ?_
          refine x_callVd (As := [.int (nI (lo ((a_x v) >>> (2 &&& 31)) (if (lo ((a_x v) >>> (9 &&& 31)) 5) = 0 then 102 else 2))), .int (nI (lo (a_x v) (if (lo (v >>> (21 &&& 31)) 7) = 0 then 4 else 3))), .int (nI (lo ((a_x v) >>> (4 &&& 31)) (if (lo (v >>> (22 &&& 31)) 7) = 0 then 13 else 12)))]) (rest := []) C dL_act_142 (c_O_book (gX.l X) G x A now nx sz hs ahead (nI (lo ((a_x v) >>> (2 &&& 31)) (if (lo ((a_x v) >>> (9 &&& 31)) 5) = 0 then 102 else 2))) (nI (lo (a_x v) (if (lo (v >>> (21 &&& 31)) 7) = 0 then 4 else 3))) (nI (lo ((a_x v) >>> (4 &&& 31)) (if (lo (v >>> (22 &&& 31)) 7) = 0 then 13 else 12))) hS hnx hsz) ml_L_14 im_X5_book sl_X5_book in_X5 cd_X5_book hd_X5_book 0 rfl rfl rfl rfl (Nat.le_of_ble_eq_true rfl) ⟨Nat.le_of_ble_eq_true rfl, Nat.le_of_ble_eq_true rfl⟩ [] [] (by simp only [List.append_assoc, List.nil_append, List.cons_append]) (ws' := ((wO G x A ((kX_book now hs nx sz (nI (lo ((a_x v) >>> (2 &&& 31)) (if (lo ((a_x v) >>> (9 &&& 31)) 5) = 0 then 102 else 2))) (nI (lo (a_x v) (if (lo (v >>> (21 &&& 31)) 7) = 0 then 4 else 3))) (nI (lo ((a_x v) >>> (4 &&& 31)) (if (lo (v >>> (22 &&& 31)) 7) = 0 then 13 else 12)))).2.1) ((kX_book now hs nx sz (nI (lo ((a_x v) >>> (2 &&& 31)) (if (lo ((a_x v) >>> (9 &&& 31)) 5) = 0 then 102 else 2))) (nI (lo (a_x v) (if (lo (v >>> (21 &&& 31)) 7) = 0 then 4 else 3))) (nI (lo ((a_x v) >>> (4 &&& 31)) (if (lo (v >>> (22 &&& 31)) 7) = 0 then 13 else 12)))).2.2.2.1) ((kX_book now hs nx sz (nI (lo ((a_x v) >>> (2 &&& 31)) (if (lo ((a_x v) >>> (9 &&& 31)) 5) = 0 then 102 else 2))) (nI (lo (a_x v) (if (lo (v >>> (21 &&& 31)) 7) = 0 then 4 else 3))) (nI (lo ((a_x v) >>> (4 &&& 31)) (if (lo (v >>> (22 &&& 31)) 7) = 0 then 13 else 12)))).2.2.2.2) ((kX_book now hs nx sz (nI (lo ((a_x v) >>> (2 &&& 31)) (if (lo ((a_x v) >>> (9 &&& 31)) 5) = 0 then 102 else 2))) (nI (lo (a_x v) (if (lo (v >>> (21 &&& 31)) 7) = 0 then 4 else 3))) (nI (lo ((a_x v) >>> (4 &&& 31)) (if (lo (v >>> (22 &&& 31)) 7) = 0 then 13 else 12)))).2.2.1) ahead) ++ [])) (by simp only [List.append_assoc, List.nil_append, List.cons_append]) (st' := [.int ((kX_book now hs nx sz (nI (lo ((a_x v) >>> (2 &&& 31)) (if (lo ((a_x v) >>> (9 &&& 31)) 5) = 0 then 102 else 2))) (nI (lo (a_x v) (if (lo (v >>> (21 &&& 31)) 7) = 0 then 4 else 3))) (nI (lo ((a_x v) >>> (4 &&& 31)) (if (lo (v >>> (22 &&& 31)) 7) = 0 then 13 else 12)))).1)]) rfl ⟨rfl, rfl⟩ ⟨Nat.le_of_ble_eq_true rfl, Nat.le_of_ble_eq_true rfl⟩ ?_
          exact x_iret C hr E dL_act_145 (fun _ => 0) (by rw [a_act_0 (v := v) (by omega)] <;> rfl) (by rw [a_act_0 (v := v) (by omega)] <;> rfl)
        refine x_if_neN (a := (lo (v >>> (21 &&& 31)) 7)) (tgt := 137) C dL_act_130 (by decide) (by omega) (fun c44 => ?_) (fun c44 => ?_)
        · refine x_iconst (v := (nI 3)) C dL_act_137 (by decide) ?_
          exact J45 3 (by rw [if_neg c44] <;> rfl)
        · refine x_iconst (v := (nI 4)) C dL_act_133 (by decide) ?_
          refine x_goto (tgt := 138) C dL_act_134 (by decide) ?_
          exact J45 4 (by rw [if_pos c44] <;> rfl)
      refine x_if_neN (a := (lo ((a_x v) >>> (9 &&& 31)) 5)) (tgt := 116) C dL_act_108 (by decide) (by omega) (fun c41 => ?_) (fun c41 => ?_)
      · refine x_iconst (v := (nI 2)) C dL_act_116 (by decide) ?_
        exact J42 2 (by rw [if_neg c41] <;> rfl)
      · refine x_bipush (v := (nI 102)) C dL_act_111 (by decide) ?_
        refine x_goto (tgt := 117) C dL_act_113 (by decide) ?_
        exact J42 102 (by rw [if_pos c41] <;> rfl)
    · refine x_tabI (tgt := 146) C 7 dL_act_36 (congrArg nI c4) (by decide) (by decide) rfl (by decide) ?_
      refine x_aload_n C 2 rfl dL_act_146 rfl ?_
      refine x_iload_n C 1 rfl dL_act_147 rfl ?_
      refine x_iconst (v := (nI 3)) C dL_act_148 (by decide) ?_
      refine x_callSd (As := [.int (a_x v), .int (nI 3)]) (rest := [.ref x]) C dL_act_149 (c_L_low (gX.l X) G (a_x v) 3 (by omega) (by omega)) ml_L_8 st_L_low in_L cd_L_low hd_L_low rfl rfl (Nat.le_of_ble_eq_true rfl) ⟨Nat.le_of_ble_eq_true rfl, Nat.le_of_ble_eq_true rfl⟩ [] ((wO G x A now nx sz hs ahead) ++ []) rfl (ws' := ((wO G x A now nx sz hs ahead) ++ [])) rfl (st' := [.int (nI (lo (a_x v) 3)), .ref x]) rfl ⟨rfl, rfl⟩ ⟨Nat.le_of_ble_eq_true rfl, Nat.le_of_ble_eq_true rfl⟩ ?_
      refine x_iload_n C 0 rfl dL_act_152 rfl ?_
      refine x_callVd (As := [.int (nI (lo (a_x v) 3)), .int (nI (lo ((a_x v) >>> (4 &&& 31)) (if (lo (v >>> (22 &&& 31)) 7) = 0 then 13 else 12)))]) (rest := []) C dL_act_153 (c_O_cancel (gX.l X) G x A now nx sz hs ahead (nI (lo (a_x v) 3)) (nI (lo ((a_x v) >>> (4 &&& 31)) (if (lo (v >>> (22 &&& 31)) 7) = 0 then 13 else 12))) hS hnx hsz) ml_L_20 im_X5_cancel sl_X5_cancel in_X5 cd_X5_cancel hd_X5_cancel 0 rfl rfl rfl rfl (Nat.le_of_ble_eq_true rfl) ⟨Nat.le_of_ble_eq_true rfl, Nat.le_of_ble_eq_true rfl⟩ [] [] (by simp only [List.append_assoc, List.nil_append, List.cons_append]) (ws' := ((wO G x A ((kX_cancel now hs nx sz (nI (lo (a_x v) 3)) (nI (lo ((a_x v) >>> (4 &&& 31)) (if (lo (v >>> (22 &&& 31)) 7) = 0 then 13 else 12)))).2.1) ((kX_cancel now hs nx sz (nI (lo (a_x v) 3)) (nI (lo ((a_x v) >>> (4 &&& 31)) (if (lo (v >>> (22 &&& 31)) 7) = 0 then 13 else 12)))).2.2.2.1) ((kX_cancel now hs nx sz (nI (lo (a_x v) 3)) (nI (lo ((a_x v) >>> (4 &&& 31)) (if (lo (v >>> (22 &&& 31)) 7) = 0 then 13 else 12)))).2.2.2.2) ((kX_cancel now hs nx sz (nI (lo (a_x v) 3)) (nI (lo ((a_x v) >>> (4 &&& 31)) (if (lo (v >>> (22 &&& 31)) 7) = 0 then 13 else 12)))).2.2.1) ahead) ++ [])) (by simp only [List.append_assoc, List.nil_append, List.cons_append]) (st' := [.int ((kX_cancel now hs nx sz (nI (lo (a_x v) 3)) (nI (lo ((a_x v) >>> (4 &&& 31)) (if (lo (v >>> (22 &&& 31)) 7) = 0 then 13 else 12)))).1)]) rfl ⟨rfl, rfl⟩ ⟨Nat.le_of_ble_eq_true rfl, Nat.le_of_ble_eq_true rfl⟩ ?_
      exact x_iret C hr E dL_act_156 (fun _ => 0) (by rw [a_act_7 (v := v) (by omega)] <;> rfl) (by rw [a_act_7 (v := v) (by omega)] <;> rfl)
    · refine x_tabI (tgt := 157) C 8 dL_act_36 (congrArg nI c4) (by decide) (by decide) rfl (by decide) ?_
      refine x_aload_n C 2 rfl dL_act_157 rfl ?_
      refine x_iload_n C 1 rfl dL_act_158 rfl ?_
      refine x_bipush (v := (nI 11)) C dL_act_159 (by decide) ?_
      refine x_callSd (As := [.int (a_x v), .int (nI 11)]) (rest := [.ref x]) C dL_act_161 (c_L_low (gX.l X) G (a_x v) 11 (by omega) (by omega)) ml_L_8 st_L_low in_L cd_L_low hd_L_low rfl rfl (Nat.le_of_ble_eq_true rfl) ⟨Nat.le_of_ble_eq_true rfl, Nat.le_of_ble_eq_true rfl⟩ [] ((wO G x A now nx sz hs ahead) ++ []) rfl (ws' := ((wO G x A now nx sz hs ahead) ++ [])) rfl (st' := [.int (nI (lo (a_x v) 11)), .ref x]) rfl ⟨rfl, rfl⟩ ⟨Nat.le_of_ble_eq_true rfl, Nat.le_of_ble_eq_true rfl⟩ ?_
      refine x_bipush (v := (nI 15)) C dL_act_164 (by decide) ?_
      refine x_iload_n C 1 rfl dL_act_166 rfl ?_
      refine x_iconst (v := (nI 3)) C dL_act_167 (by decide) ?_
      refine x_ishr (x := (a_x v)) (y := 3) C dL_act_168 ?_
      refine x_sipush (v := (nI 140)) C dL_act_169 (by decide) ?_
      refine x_callSd (As := [.int ((a_x v) >>> (3 &&& 31)), .int (nI 140)]) (rest := [.int (nI 15), .int (nI (lo (a_x v) 11)), .ref x]) C dL_act_172 (c_L_low (gX.l X) G ((a_x v) >>> (3 &&& 31)) 140 (by omega) (by omega)) ml_L_8 st_L_low in_L cd_L_low hd_L_low rfl rfl (Nat.le_of_ble_eq_true rfl) ⟨Nat.le_of_ble_eq_true rfl, Nat.le_of_ble_eq_true rfl⟩ [] ((wO G x A now nx sz hs ahead) ++ []) rfl (ws' := ((wO G x A now nx sz hs ahead) ++ [])) rfl (st' := [.int (nI (lo ((a_x v) >>> (3 &&& 31)) 140)), .int (nI 15), .int (nI (lo (a_x v) 11)), .ref x]) rfl ⟨rfl, rfl⟩ ⟨Nat.le_of_ble_eq_true rfl, Nat.le_of_ble_eq_true rfl⟩ ?_
      refine x_iaddN C dL_act_175 ?_
      refine x_iload_n C 1 rfl dL_act_176 rfl ?_
      refine x_iconst (v := (nI 5)) C dL_act_177 (by decide) ?_
      refine x_ishr (x := (a_x v)) (y := 5) C dL_act_178 ?_
      refine x_bipush (v := (nI 11)) C dL_act_179 (by decide) ?_
      refine x_callSd (As := [.int ((a_x v) >>> (5 &&& 31)), .int (nI 11)]) (rest := [.int (nI (15 + (lo ((a_x v) >>> (3 &&& 31)) 140))), .int (nI (lo (a_x v) 11)), .ref x]) C dL_act_181 (c_L_low (gX.l X) G ((a_x v) >>> (5 &&& 31)) 11 (by omega) (by omega)) ml_L_8 st_L_low in_L cd_L_low hd_L_low rfl rfl (Nat.le_of_ble_eq_true rfl) ⟨Nat.le_of_ble_eq_true rfl, Nat.le_of_ble_eq_true rfl⟩ [] ((wO G x A now nx sz hs ahead) ++ []) rfl (ws' := ((wO G x A now nx sz hs ahead) ++ [])) rfl (st' := [.int (nI (lo ((a_x v) >>> (5 &&& 31)) 11)), .int (nI (15 + (lo ((a_x v) >>> (3 &&& 31)) 140))), .int (nI (lo (a_x v) 11)), .ref x]) rfl ⟨rfl, rfl⟩ ⟨Nat.le_of_ble_eq_true rfl, Nat.le_of_ble_eq_true rfl⟩ ?_
      refine x_callVd (As := [.int (nI (lo (a_x v) 11)), .int (nI (15 + (lo ((a_x v) >>> (3 &&& 31)) 140))), .int (nI (lo ((a_x v) >>> (5 &&& 31)) 11))]) (rest := []) C dL_act_184 (c_O_setHorse (gX.l X) G x A now nx sz hs ahead (nI (lo (a_x v) 11)) (nI (15 + (lo ((a_x v) >>> (3 &&& 31)) 140))) (nI (lo ((a_x v) >>> (5 &&& 31)) 11)) hS hnx hsz) ml_L_23 im_X5_setHorse sl_X5_setHorse in_X5 cd_X5_setHorse hd_X5_setHorse 0 rfl rfl rfl rfl (Nat.le_of_ble_eq_true rfl) ⟨Nat.le_of_ble_eq_true rfl, Nat.le_of_ble_eq_true rfl⟩ [] [] (by simp only [List.append_assoc, List.nil_append, List.cons_append]) (ws' := ((wO G x A ((kX_setHorse now hs nx sz (nI (lo (a_x v) 11)) (nI (15 + (lo ((a_x v) >>> (3 &&& 31)) 140))) (nI (lo ((a_x v) >>> (5 &&& 31)) 11))).2.1) ((kX_setHorse now hs nx sz (nI (lo (a_x v) 11)) (nI (15 + (lo ((a_x v) >>> (3 &&& 31)) 140))) (nI (lo ((a_x v) >>> (5 &&& 31)) 11))).2.2.2.1) ((kX_setHorse now hs nx sz (nI (lo (a_x v) 11)) (nI (15 + (lo ((a_x v) >>> (3 &&& 31)) 140))) (nI (lo ((a_x v) >>> (5 &&& 31)) 11))).2.2.2.2) ((kX_setHorse now hs nx sz (nI (lo (a_x v) 11)) (nI (15 + (lo ((a_x v) >>> (3 &&& 31)) 140))) (nI (lo ((a_x v) >>> (5 &&& 31)) 11))).2.2.1) ahead) ++ [])) (by simp only [List.append_assoc, List.nil_append, List.cons_append]) (st' := [.int ((kX_setHorse now hs nx sz (nI (lo (a_x v) 11)) (nI (15 + (lo ((a_x v) >>> (3 &&& 31)) 140))) (nI (lo ((a_x v) >>> (5 &&& 31)) 11))).1)]) rfl ⟨rfl, rfl⟩ ⟨Nat.le_of_ble_eq_true rfl, Nat.le_of_ble_eq_true rfl⟩ ?_
      exact x_iret C hr E dL_act_187 (fun _ => 0) (by rw [a_act_8 (v := v) (by omega)] <;> rfl) (by rw [a_act_8 (v := v) (by omega)] <;> rfl)
    · refine x_tabI (tgt := 188) C 9 dL_act_36 (congrArg nI c4) (by decide) (by decide) rfl (by decide) ?_
      refine x_aload_n C 2 rfl dL_act_188 rfl ?_
      refine x_iload_n C 0 rfl dL_act_189 rfl ?_
      refine x_bipush (v := (nI 15)) C dL_act_190 (by decide) ?_
      refine x_iload_n C 1 rfl dL_act_192 rfl ?_
      refine x_iconst (v := (nI 3)) C dL_act_193 (by decide) ?_
      refine x_ishr (x := (a_x v)) (y := 3) C dL_act_194 ?_
      refine x_bipush (v := (nI 120)) C dL_act_195 (by decide) ?_
      refine x_callSd (As := [.int ((a_x v) >>> (3 &&& 31)), .int (nI 120)]) (rest := [.int (nI 15), .int (nI (lo ((a_x v) >>> (4 &&& 31)) (if (lo (v >>> (22 &&& 31)) 7) = 0 then 13 else 12))), .ref x]) C dL_act_197 (c_L_low (gX.l X) G ((a_x v) >>> (3 &&& 31)) 120 (by omega) (by omega)) ml_L_8 st_L_low in_L cd_L_low hd_L_low rfl rfl (Nat.le_of_ble_eq_true rfl) ⟨Nat.le_of_ble_eq_true rfl, Nat.le_of_ble_eq_true rfl⟩ [] ((wO G x A now nx sz hs ahead) ++ []) rfl (ws' := ((wO G x A now nx sz hs ahead) ++ [])) rfl (st' := [.int (nI (lo ((a_x v) >>> (3 &&& 31)) 120)), .int (nI 15), .int (nI (lo ((a_x v) >>> (4 &&& 31)) (if (lo (v >>> (22 &&& 31)) 7) = 0 then 13 else 12))), .ref x]) rfl ⟨rfl, rfl⟩ ⟨Nat.le_of_ble_eq_true rfl, Nat.le_of_ble_eq_true rfl⟩ ?_
      refine x_iaddN C dL_act_200 ?_
      refine x_iload_n C 1 rfl dL_act_201 rfl ?_
      refine x_bipush (v := (nI 6)) C dL_act_202 (by decide) ?_
      refine x_ishr (x := (a_x v)) (y := 6) C dL_act_204 ?_
      refine x_bipush (v := (nI 11)) C dL_act_205 (by decide) ?_
      refine x_callSd (As := [.int ((a_x v) >>> (6 &&& 31)), .int (nI 11)]) (rest := [.int (nI (15 + (lo ((a_x v) >>> (3 &&& 31)) 120))), .int (nI (lo ((a_x v) >>> (4 &&& 31)) (if (lo (v >>> (22 &&& 31)) 7) = 0 then 13 else 12))), .ref x]) C dL_act_207 (c_L_low (gX.l X) G ((a_x v) >>> (6 &&& 31)) 11 (by omega) (by omega)) ml_L_8 st_L_low in_L cd_L_low hd_L_low rfl rfl (Nat.le_of_ble_eq_true rfl) ⟨Nat.le_of_ble_eq_true rfl, Nat.le_of_ble_eq_true rfl⟩ [] ((wO G x A now nx sz hs ahead) ++ []) rfl (ws' := ((wO G x A now nx sz hs ahead) ++ [])) rfl (st' := [.int (nI (lo ((a_x v) >>> (6 &&& 31)) 11)), .int (nI (15 + (lo ((a_x v) >>> (3 &&& 31)) 120))), .int (nI (lo ((a_x v) >>> (4 &&& 31)) (if (lo (v >>> (22 &&& 31)) 7) = 0 then 13 else 12))), .ref x]) rfl ⟨rfl, rfl⟩ ⟨Nat.le_of_ble_eq_true rfl, Nat.le_of_ble_eq_true rfl⟩ ?_
      refine x_callVd (As := [.int (nI (lo ((a_x v) >>> (4 &&& 31)) (if (lo (v >>> (22 &&& 31)) 7) = 0 then 13 else 12))), .int (nI (15 + (lo ((a_x v) >>> (3 &&& 31)) 120))), .int (nI (lo ((a_x v) >>> (6 &&& 31)) 11))]) (rest := []) C dL_act_210 (c_O_setRider (gX.l X) G x A now nx sz hs ahead (nI (lo ((a_x v) >>> (4 &&& 31)) (if (lo (v >>> (22 &&& 31)) 7) = 0 then 13 else 12))) (nI (15 + (lo ((a_x v) >>> (3 &&& 31)) 120))) (nI (lo ((a_x v) >>> (6 &&& 31)) 11)) hS hnx hsz) ml_L_26 im_X5_setRider sl_X5_setRider in_X5 cd_X5_setRider hd_X5_setRider 0 rfl rfl rfl rfl (Nat.le_of_ble_eq_true rfl) ⟨Nat.le_of_ble_eq_true rfl, Nat.le_of_ble_eq_true rfl⟩ [] [] (by simp only [List.append_assoc, List.nil_append, List.cons_append]) (ws' := ((wO G x A ((kX_setRider now hs nx sz (nI (lo ((a_x v) >>> (4 &&& 31)) (if (lo (v >>> (22 &&& 31)) 7) = 0 then 13 else 12))) (nI (15 + (lo ((a_x v) >>> (3 &&& 31)) 120))) (nI (lo ((a_x v) >>> (6 &&& 31)) 11))).2.1) ((kX_setRider now hs nx sz (nI (lo ((a_x v) >>> (4 &&& 31)) (if (lo (v >>> (22 &&& 31)) 7) = 0 then 13 else 12))) (nI (15 + (lo ((a_x v) >>> (3 &&& 31)) 120))) (nI (lo ((a_x v) >>> (6 &&& 31)) 11))).2.2.2.1) ((kX_setRider now hs nx sz (nI (lo ((a_x v) >>> (4 &&& 31)) (if (lo (v >>> (22 &&& 31)) 7) = 0 then 13 else 12))) (nI (15 + (lo ((a_x v) >>> (3 &&& 31)) 120))) (nI (lo ((a_x v) >>> (6 &&& 31)) 11))).2.2.2.2) ((kX_setRider now hs nx sz (nI (lo ((a_x v) >>> (4 &&& 31)) (if (lo (v >>> (22 &&& 31)) 7) = 0 then 13 else 12))) (nI (15 + (lo ((a_x v) >>> (3 &&& 31)) 120))) (nI (lo ((a_x v) >>> (6 &&& 31)) 11))).2.2.1) ahead) ++ [])) (by simp only [List.append_assoc, List.nil_append, List.cons_append]) (st' := [.int ((kX_setRider now hs nx sz (nI (lo ((a_x v) >>> (4 &&& 31)) (if (lo (v >>> (22 &&& 31)) 7) = 0 then 13 else 12))) (nI (15 + (lo ((a_x v) >>> (3 &&& 31)) 120))) (nI (lo ((a_x v) >>> (6 &&& 31)) 11))).1)]) rfl ⟨rfl, rfl⟩ ⟨Nat.le_of_ble_eq_true rfl, Nat.le_of_ble_eq_true rfl⟩ ?_
      exact x_iret C hr E dL_act_213 (fun _ => 0) (by rw [a_act_9 (v := v) (by omega)] <;> rfl) (by rw [a_act_9 (v := v) (by omega)] <;> rfl)
    · refine x_tabI (tgt := 214) C 10 dL_act_36 (congrArg nI c4) (by decide) (by decide) rfl (by decide) ?_
      refine x_aload_n C 2 rfl dL_act_214 rfl ?_
      refine x_iload_n C 1 rfl dL_act_215 rfl ?_
      refine x_bipush (v := (nI 6)) C dL_act_216 (by decide) ?_
      refine x_callSd (As := [.int (a_x v), .int (nI 6)]) (rest := [.ref x]) C dL_act_218 (c_L_low (gX.l X) G (a_x v) 6 (by omega) (by omega)) ml_L_8 st_L_low in_L cd_L_low hd_L_low rfl rfl (Nat.le_of_ble_eq_true rfl) ⟨Nat.le_of_ble_eq_true rfl, Nat.le_of_ble_eq_true rfl⟩ [] ((wO G x A now nx sz hs ahead) ++ []) rfl (ws' := ((wO G x A now nx sz hs ahead) ++ [])) rfl (st' := [.int (nI (lo (a_x v) 6)), .ref x]) rfl ⟨rfl, rfl⟩ ⟨Nat.le_of_ble_eq_true rfl, Nat.le_of_ble_eq_true rfl⟩ ?_
      refine x_iload_n C 1 rfl dL_act_221 rfl ?_
      refine x_iconst (v := (nI 4)) C dL_act_222 (by decide) ?_
      refine x_ishr (x := (a_x v)) (y := 4) C dL_act_223 ?_
      refine x_bipush (v := (nI 14)) C dL_act_224 (by decide) ?_
      refine x_callSd (As := [.int ((a_x v) >>> (4 &&& 31)), .int (nI 14)]) (rest := [.int (nI (lo (a_x v) 6)), .ref x]) C dL_act_226 (c_L_low (gX.l X) G ((a_x v) >>> (4 &&& 31)) 14 (by omega) (by omega)) ml_L_8 st_L_low in_L cd_L_low hd_L_low rfl rfl (Nat.le_of_ble_eq_true rfl) ⟨Nat.le_of_ble_eq_true rfl, Nat.le_of_ble_eq_true rfl⟩ [] ((wO G x A now nx sz hs ahead) ++ []) rfl (ws' := ((wO G x A now nx sz hs ahead) ++ [])) rfl (st' := [.int (nI (lo ((a_x v) >>> (4 &&& 31)) 14)), .int (nI (lo (a_x v) 6)), .ref x]) rfl ⟨rfl, rfl⟩ ⟨Nat.le_of_ble_eq_true rfl, Nat.le_of_ble_eq_true rfl⟩ ?_
      refine x_callVd (As := [.int (nI (lo (a_x v) 6)), .int (nI (lo ((a_x v) >>> (4 &&& 31)) 14))]) (rest := []) C dL_act_229 (c_O_set (gX.l X) G x A now nx sz hs ahead (nI (lo (a_x v) 6)) (nI (lo ((a_x v) >>> (4 &&& 31)) 14)) hS hnx hsz) ml_L_29 im_X5_set sl_X5_set in_X5 cd_X5_set hd_X5_set 0 rfl rfl rfl rfl (Nat.le_of_ble_eq_true rfl) ⟨Nat.le_of_ble_eq_true rfl, Nat.le_of_ble_eq_true rfl⟩ [] [] (by simp only [List.append_assoc, List.nil_append, List.cons_append]) (ws' := ((wO G x A ((kX_set now hs nx sz (nI (lo (a_x v) 6)) (nI (lo ((a_x v) >>> (4 &&& 31)) 14))).2.1) ((kX_set now hs nx sz (nI (lo (a_x v) 6)) (nI (lo ((a_x v) >>> (4 &&& 31)) 14))).2.2.2.1) ((kX_set now hs nx sz (nI (lo (a_x v) 6)) (nI (lo ((a_x v) >>> (4 &&& 31)) 14))).2.2.2.2) ((kX_set now hs nx sz (nI (lo (a_x v) 6)) (nI (lo ((a_x v) >>> (4 &&& 31)) 14))).2.2.1) ahead) ++ [])) (by simp only [List.append_assoc, List.nil_append, List.cons_append]) (st' := [.int ((kX_set now hs nx sz (nI (lo (a_x v) 6)) (nI (lo ((a_x v) >>> (4 &&& 31)) 14))).1)]) rfl ⟨rfl, rfl⟩ ⟨Nat.le_of_ble_eq_true rfl, Nat.le_of_ble_eq_true rfl⟩ ?_
      exact x_iret C hr E dL_act_232 (fun _ => 0) (by rw [a_act_10 (v := v) (by omega)] <;> rfl) (by rw [a_act_10 (v := v) (by omega)] <;> rfl)
    · refine x_tabO (n := 11) (tgt := 233) C dL_act_36 (Or.inr (by rw [nI_toInt (by omega)]; omega)) (by decide) ?_
      refine x_aload_n C 2 rfl dL_act_233 rfl ?_
      refine x_iload_n C 1 rfl dL_act_234 rfl ?_
      refine x_iload_n C 1 rfl dL_act_235 rfl ?_
      refine x_bipush (v := (nI 6)) C dL_act_236 (by decide) ?_
      refine x_ishr (x := (a_x v)) (y := 6) C dL_act_238 ?_
      refine x_bipush (v := (nI 6)) C dL_act_239 (by decide) ?_
      refine x_callSd (As := [.int ((a_x v) >>> (6 &&& 31)), .int (nI 6)]) (rest := [.int (a_x v), .ref x]) C dL_act_241 (c_L_low (gX.l X) G ((a_x v) >>> (6 &&& 31)) 6 (by omega) (by omega)) ml_L_8 st_L_low in_L cd_L_low hd_L_low rfl rfl (Nat.le_of_ble_eq_true rfl) ⟨Nat.le_of_ble_eq_true rfl, Nat.le_of_ble_eq_true rfl⟩ [] ((wO G x A now nx sz hs ahead) ++ []) rfl (ws' := ((wO G x A now nx sz hs ahead) ++ [])) rfl (st' := [.int (nI (lo ((a_x v) >>> (6 &&& 31)) 6)), .int (a_x v), .ref x]) rfl ⟨rfl, rfl⟩ ⟨Nat.le_of_ble_eq_true rfl, Nat.le_of_ble_eq_true rfl⟩ ?_
      have J48 : ∀ (y49 : Nat) , y49 = (if (lo ((a_x v) >>> (6 &&& 31)) 6) = 0 then 101 else 4) → gW G X ((wO G x A now nx sz hs ahead) ++ []) 0 0 253 [(3, .int (nI (lo ((a_x v) >>> (4 &&& 31)) (if (lo (v >>> (22 &&& 31)) 7) = 0 then 13 else 12)))), (2, .int (a_x v)), (0, .ref x), (1, .int v)] [.int (nI y49), .int (a_x v), .ref x] := by
        intro y49 ey49
        subst ey49
        refine x_callSd (As := [.int (a_x v), .int (nI (if (lo ((a_x v) >>> (6 &&& 31)) 6) = 0 then 101 else 4))]) (rest := [.ref x]) C dL_act_253 (c_L_low (gX.l X) G (a_x v) (if (lo ((a_x v) >>> (6 &&& 31)) 6) = 0 then 101 else 4) (by split <;> omega) (by split <;> omega)) ml_L_8 st_L_low in_L cd_L_low hd_L_low rfl rfl (Nat.le_of_ble_eq_true rfl) ⟨Nat.le_of_ble_eq_true rfl, Nat.le_of_ble_eq_true rfl⟩ [] ((wO G x A now nx sz hs ahead) ++ []) rfl (ws' := ((wO G x A now nx sz hs ahead) ++ [])) rfl (st' := [.int (nI (lo (a_x v) (if (lo ((a_x v) >>> (6 &&& 31)) 6) = 0 then 101 else 4))), .ref x]) rfl ⟨rfl, rfl⟩ ⟨Nat.le_of_ble_eq_true rfl, Nat.le_of_ble_eq_true rfl⟩ ?_
        refine x_callVd (As := [.int (nI (lo (a_x v) (if (lo ((a_x v) >>> (6 &&& 31)) 6) = 0 then 101 else 4)))]) (rest := []) C dL_act_256 (c_O_pass (gX.l X) G x A now nx sz hs ahead (nI (lo (a_x v) (if (lo ((a_x v) >>> (6 &&& 31)) 6) = 0 then 101 else 4))) hS hnx hsz) ml_L_32 im_X5_pass sl_X5_pass in_X5 cd_X5_pass hd_X5_pass 0 rfl rfl rfl rfl (Nat.le_of_ble_eq_true rfl) ⟨Nat.le_of_ble_eq_true rfl, Nat.le_of_ble_eq_true rfl⟩ [] [] (by simp only [List.append_assoc, List.nil_append, List.cons_append]) (ws' := ((wO G x A ((kX_pass now hs nx sz (nI (lo (a_x v) (if (lo ((a_x v) >>> (6 &&& 31)) 6) = 0 then 101 else 4)))).2.1) ((kX_pass now hs nx sz (nI (lo (a_x v) (if (lo ((a_x v) >>> (6 &&& 31)) 6) = 0 then 101 else 4)))).2.2.2.1) ((kX_pass now hs nx sz (nI (lo (a_x v) (if (lo ((a_x v) >>> (6 &&& 31)) 6) = 0 then 101 else 4)))).2.2.2.2) ((kX_pass now hs nx sz (nI (lo (a_x v) (if (lo ((a_x v) >>> (6 &&& 31)) 6) = 0 then 101 else 4)))).2.2.1) ahead) ++ [])) (by simp only [List.append_assoc, List.nil_append, List.cons_append]) (st' := [.int ((kX_pass now hs nx sz (nI (lo (a_x v) (if (lo ((a_x v) >>> (6 &&& 31)) 6) = 0 then 101 else 4)))).1)]) rfl ⟨rfl, rfl⟩ ⟨Nat.le_of_ble_eq_true rfl, Nat.le_of_ble_eq_true rfl⟩ ?_
        exact x_iret C hr E dL_act_259 (fun _ => 0) (by rw [a_act_11 (v := v) (by omega)] <;> rfl) (by rw [a_act_11 (v := v) (by omega)] <;> rfl)
      refine x_if_neN (a := (lo ((a_x v) >>> (6 &&& 31)) 6)) (tgt := 252) C dL_act_244 (by decide) (by omega) (fun c47 => ?_) (fun c47 => ?_)
      · refine x_iconst (v := (nI 4)) C dL_act_252 (by decide) ?_
        exact J48 4 (by rw [if_neg c47] <;> rfl)
      · refine x_bipush (v := (nI 101)) C dL_act_247 (by decide) ?_
        refine x_goto (tgt := 253) C dL_act_249 (by decide) ?_
        exact J48 101 (by rw [if_pos c47] <;> rfl)
  refine x_if_neN (a := (lo (v >>> (22 &&& 31)) 7)) (tgt := 24) C dL_act_16 (by decide) (by omega) (fun c1 => ?_) (fun c1 => ?_)
  · refine x_bipush (v := (nI 12)) C dL_act_24 (by decide) ?_
    exact J2 12 (by rw [if_neg c1] <;> rfl)
  · refine x_bipush (v := (nI 13)) C dL_act_19 (by decide) ?_
    refine x_goto (tgt := 26) C dL_act_21 (by decide) ?_
    exact J2 13 (by rw [if_pos c1] <;> rfl)
