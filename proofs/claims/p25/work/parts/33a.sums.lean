theorem i_day {se : Nat → Int32} {t : Nat} (h : ISE se) : bI (c_there se t) = 1 ↔ iR (nI (t / 10)) (se 4) = 0 := by
  constructor
  · intro e
    have := bI_1 (P := c_there se t) (by rw [e]; decide)
    exact this.2
  · intro e
    exact bI_t ⟨h.2.2.2.1, e⟩
theorem i_n0 {se : Nat → Int32} (h : ISE se) : ¬ se 4 = 0 := fun e => by have := h.2.2.2.1; rw [e] at this; exact absurd this (by decide)
def rm_L_areSums : Room := { frames := 4, cells := 0, slots := 0, locals := 90 }
set_option maxRecDepth 100000 in
set_option maxHeartbeats 600000 in
theorem c_L_areSums (l : Launch) (G : gG) (x : Nat) (A : oA) (now : c_S) (nx sz : Nat) (hs : Nat → c_S) (ahead : c_S)  (hS : okS 10000 now) (hnx : nx < 4) (hsz : sz ≤ 4) (hI : INV now) : CT l yL_areSums cL_areSums 13 (some .boolean) rm_L_areSums G [.ref x] ((wO G x A now nx sz hs ahead) ++ []) (some (.int (nI 1))) (fun _ => ((wO G x A now nx sz hs ahead) ++ [])) := by
  refine gMet (by decide) (Nat.le_of_ble_eq_true rfl) (fun X hX C hr hin E => ?_)
  clear hX
  refine (show gW G X ((wO G x A now nx sz hs ahead) ++ []) 0 0 0 [(0, .ref x)] [] from ?_)
  have hS1 := hS.1
  have hS2 := hS.2.1
  have hS3 := hS.2.2.1
  have hS4 := hS.2.2.2
  refine x_iconst (v := (nI 0)) C dL_areSums_0 (by decide) ?_
  refine x_istore_n (lv' := [(1, .int (nI 0)), (0, .ref x)]) C dL_areSums_1 rfl (by decide) rfl ?_
  refine x_iconst (v := (nI 0)) C dL_areSums_2 (by decide) ?_
  refine x_istore_n (lv' := [(2, .int (nI 0)), (1, .int (nI 0)), (0, .ref x)]) C dL_areSums_3 rfl (by decide) rfl ?_
  refine x_iconst (v := (nI 0)) C dL_areSums_4 (by decide) ?_
  refine x_istore_n (lv' := [(3, .int (nI 0)), (2, .int (nI 0)), (1, .int (nI 0)), (0, .ref x)]) C dL_areSums_5 rfl (by decide) rfl ?_
  refine x_iconst (v := (nI 0)) C dL_areSums_6 (by decide) ?_
  refine x_istore (lv' := [(4, .int (nI 0)), (3, .int (nI 0)), (2, .int (nI 0)), (1, .int (nI 0)), (0, .ref x)]) C dL_areSums_7 (by decide) rfl ?_
  refine x_iconst (v := (nI 0)) C dL_areSums_9 (by decide) ?_
  refine x_istore (lv' := [(5, .int (nI 0)), (4, .int (nI 0)), (3, .int (nI 0)), (2, .int (nI 0)), (1, .int (nI 0)), (0, .ref x)]) C dL_areSums_10 (by decide) rfl ?_
  refine x_iconst (v := (nI 1)) C dL_areSums_12 (by decide) ?_
  refine x_istore (lv' := [(6, .int (nI 1)), (5, .int (nI 0)), (4, .int (nI 0)), (3, .int (nI 0)), (2, .int (nI 0)), (1, .int (nI 0)), (0, .ref x)]) C dL_areSums_13 (by decide) rfl ?_
  refine x_iconst (v := (nI 0)) C dL_areSums_15 (by decide) ?_
  refine x_istore (lv' := [(7, .int (nI 0)), (6, .int (nI 1)), (5, .int (nI 0)), (4, .int (nI 0)), (3, .int (nI 0)), (2, .int (nI 0)), (1, .int (nI 0)), (0, .ref x)]) C dL_areSums_16 (by decide) rfl ?_
  have L1 : ∀ (fu : Nat) (k : Nat) (a1 : Int32) (a2 : Int32) (a3 : Int32) (a4 : Int32) (a5 : Int32), k + fu = 10 → (a1 = sumF (q_ho now) 60 k) → (a2 = sumF (q_ho now) 70 k) → (a3 = sumF (q_ho now) 80 k) → (a4 = sumF (q_ho now) 20 k) → (a5 = c_lame (q_ho now) k) → gW G X ((wO G x A now nx sz hs ahead) ++ []) 0 0 18 [(7, .int (nI k)), (6, .int (nI 1)), (5, .int a5), (4, .int a4), (3, .int a3), (2, .int a2), (1, .int a1), (0, .ref x)] [] := by
    intro fu
    induction fu with
    | zero =>
      intro k a1 a2 a3 a4 a5 hn h1 h2 h3 h4 h5
      refine x_iload C 0 rfl dL_areSums_18 ?_
      refine x_bipush (v := (nI 10)) C dL_areSums_20 (by decide) ?_
      refine x_icmp_geN (a := k) (b := 10) (tgt := 220) C dL_areSums_22 (by decide) (by omega) (by omega) (fun c2 => ?_) (fun c2 => False.elim (by omega))
      have hk10 : k = 10 := by omega
      rw [hk10] at h1 h2 h3 h4 h5
      refine x_iconst (v := (nI 0)) C dL_areSums_220 (by decide) ?_
      refine x_istore (lv' := [(7, .int (nI 0)), (6, .int (nI 1)), (5, .int a5), (4, .int a4), (3, .int a3), (2, .int a2), (1, .int a1), (0, .ref x)]) C dL_areSums_221 (by decide) rfl ?_
      refine x_iconst (v := (nI 0)) C dL_areSums_223 (by decide) ?_
      refine x_istore (lv' := [(8, .int (nI 0)), (7, .int (nI 0)), (6, .int (nI 1)), (5, .int a5), (4, .int a4), (3, .int a3), (2, .int a2), (1, .int a1), (0, .ref x)]) C dL_areSums_224 (by decide) rfl ?_
      refine x_iconst (v := (nI 0)) C dL_areSums_226 (by decide) ?_
      refine x_istore (lv' := [(9, .int (nI 0)), (8, .int (nI 0)), (7, .int (nI 0)), (6, .int (nI 1)), (5, .int a5), (4, .int a4), (3, .int a3), (2, .int a2), (1, .int a1), (0, .ref x)]) C dL_areSums_227 (by decide) rfl ?_
      refine x_iconst (v := (nI 0)) C dL_areSums_229 (by decide) ?_
      refine x_istore (lv' := [(10, .int (nI 0)), (9, .int (nI 0)), (8, .int (nI 0)), (7, .int (nI 0)), (6, .int (nI 1)), (5, .int a5), (4, .int a4), (3, .int a3), (2, .int a2), (1, .int a1), (0, .ref x)]) C dL_areSums_230 (by decide) rfl ?_
      refine x_iconst (v := (nI 0)) C dL_areSums_232 (by decide) ?_
      refine x_istore (lv' := [(11, .int (nI 0)), (10, .int (nI 0)), (9, .int (nI 0)), (8, .int (nI 0)), (7, .int (nI 0)), (6, .int (nI 1)), (5, .int a5), (4, .int a4), (3, .int a3), (2, .int a2), (1, .int a1), (0, .ref x)]) C dL_areSums_233 (by decide) rfl ?_
      have L3 : ∀ (fu : Nat) (r : Nat) (b1 : Int32) (b2 : Int32) (b3 : Int32) (b4 : Int32), r + fu = 12 → (b1 = sumF (q_ri now) 60 r) → (b2 = sumF (q_ri now) 72 r) → (b3 = sumF (q_ri now) 84 r) → (b4 = bofS (q_bo now) (q_bc now) r) → gW G X ((wO G x A now nx sz hs ahead) ++ []) 0 0 235 [(11, .int (nI r)), (10, .int b4), (9, .int b3), (8, .int b2), (7, .int b1), (6, .int (nI 1)), (5, .int a5), (4, .int a4), (3, .int a3), (2, .int a2), (1, .int a1), (0, .ref x)] [] := by
        intro fu
        induction fu with
        | zero =>
          intro r b1 b2 b3 b4 hn g1 g2 g3 g4
          refine x_iload C 0 rfl dL_areSums_235 ?_
          refine x_bipush (v := (nI 12)) C dL_areSums_237 (by decide) ?_
          refine x_icmp_geN (a := r) (b := 12) (tgt := 464) C dL_areSums_239 (by decide) (by omega) (by omega) (fun c4 => ?_) (fun c4 => False.elim (by omega))
          have hr12 : r = 12 := by omega
          rw [hr12] at g1 g2 g3 g4
          have hU1 : a1 = b1 := by rw [h1, g1]; exact hI.2.2.2.2.1.1
          have hU2 : b1 = sumF (q_ho now) 60 10 := by rw [g1]; exact hI.2.2.2.2.1.1.symm
          have hU3 : a2 = b2 := by rw [h2, g2]; exact hI.2.2.2.2.1.2.1
          have hU4 : b2 = nI (q_fc now) := by rw [g2]; exact hI.2.2.2.2.1.2.2
          have hU5 : b4 = nI (q_bc now) := by rw [g4]; exact bofS_all _ hS2
          have hU6 : ¬ 40 < b4 := by rw [hU5]; exact fun c => by have := (nI_ltI (a := 40) (b := q_bc now) (by omega) (by omega)).mp c; omega
          have hU7 := i_day (t := q_ti now) hI.2.2.2.1
          refine x_iload C 5 rfl dL_areSums_464 ?_
          refine x_if_eqN (a := 1) (tgt := 565) C dL_areSums_466 (by decide) (by omega) (fun c5 => False.elim (by omega)) (fun c5 => ?_)
          refine x_iload_n C 10 rfl dL_areSums_469 rfl ?_
          refine x_iload C 4 rfl dL_areSums_470 ?_
          refine x_icmp_ne (x := a1) (y := b1) (tgt := 565) C dL_areSums_472 (by decide) (fun c6 => False.elim (by exact c6 hU1)) (fun c6 => ?_)
          refine x_iload C 4 rfl dL_areSums_475 ?_
          refine x_aload_n C 11 rfl dL_areSums_477 rfl ?_
          refine x_iconst (v := (nI 4)) C dL_areSums_478 (by decide) ?_
          refine x_callVd (As := [.int (nI 4)]) (rest := [.int b1]) C dL_areSums_479 (c_N_count4 (gX.l X) G x A now nx sz hs ahead hS hnx hsz) ml_L_36 im_X5_count sl_X5_count in_X5 cd_X5_count hd_X5_count 0 rfl rfl rfl rfl (Nat.le_of_ble_eq_true rfl) ⟨Nat.le_of_ble_eq_true rfl, Nat.le_of_ble_eq_true rfl⟩ [] [] (by simp only [List.append_assoc, List.nil_append, List.cons_append]) (ws' := ((wO G x A now nx sz hs ahead) ++ [])) (by simp only [List.append_assoc, List.nil_append, List.cons_append]) (st' := [.int (sumF (q_ho now) 60 10), .int b1]) rfl ⟨rfl, rfl⟩ ⟨Nat.le_of_ble_eq_true rfl, Nat.le_of_ble_eq_true rfl⟩ ?_
          refine x_icmp_ne (x := b1) (y := (sumF (q_ho now) 60 10)) (tgt := 565) C dL_areSums_482 (by decide) (fun c7 => False.elim (by exact c7 hU2)) (fun c7 => ?_)
          refine x_iload_n C 9 rfl dL_areSums_485 rfl ?_
          refine x_iload C 3 rfl dL_areSums_486 ?_
          refine x_icmp_ne (x := a2) (y := b2) (tgt := 565) C dL_areSums_488 (by decide) (fun c8 => False.elim (by exact c8 hU3)) (fun c8 => ?_)
          refine x_iload C 3 rfl dL_areSums_491 ?_
          refine x_aload_n C 11 rfl dL_areSums_493 rfl ?_
          refine x_iconst (v := (nI 5)) C dL_areSums_494 (by decide) ?_
          refine x_callVd (As := [.int (nI 5)]) (rest := [.int b2]) C dL_areSums_495 (c_N_count5 (gX.l X) G x A now nx sz hs ahead hS hnx hsz) ml_L_36 im_X5_count sl_X5_count in_X5 cd_X5_count hd_X5_count 0 rfl rfl rfl rfl (Nat.le_of_ble_eq_true rfl) ⟨Nat.le_of_ble_eq_true rfl, Nat.le_of_ble_eq_true rfl⟩ [] [] (by simp only [List.append_assoc, List.nil_append, List.cons_append]) (ws' := ((wO G x A now nx sz hs ahead) ++ [])) (by simp only [List.append_assoc, List.nil_append, List.cons_append]) (st' := [.int (nI (q_fc now)), .int b2]) rfl ⟨rfl, rfl⟩ ⟨Nat.le_of_ble_eq_true rfl, Nat.le_of_ble_eq_true rfl⟩ ?_
          refine x_icmp_ne (x := b2) (y := (nI (q_fc now))) (tgt := 565) C dL_areSums_498 (by decide) (fun c9 => False.elim (by exact c9 hU4)) (fun c9 => ?_)
          refine x_iload C 2 rfl dL_areSums_501 ?_
          refine x_aload_n C 11 rfl dL_areSums_503 rfl ?_
          refine x_bipush (v := (nI 6)) C dL_areSums_504 (by decide) ?_
          refine x_callVd (As := [.int (nI 6)]) (rest := [.int b3]) C dL_areSums_506 (c_N_count6 (gX.l X) G x A now nx sz hs ahead hS hnx hsz) ml_L_36 im_X5_count sl_X5_count in_X5 cd_X5_count hd_X5_count 0 rfl rfl rfl rfl (Nat.le_of_ble_eq_true rfl) ⟨Nat.le_of_ble_eq_true rfl, Nat.le_of_ble_eq_true rfl⟩ [] [] (by simp only [List.append_assoc, List.nil_append, List.cons_append]) (ws' := ((wO G x A now nx sz hs ahead) ++ [])) (by simp only [List.append_assoc, List.nil_append, List.cons_append]) (st' := [.int (sumF (q_ri now) 84 12), .int b3]) rfl ⟨rfl, rfl⟩ ⟨Nat.le_of_ble_eq_true rfl, Nat.le_of_ble_eq_true rfl⟩ ?_
          refine x_icmp_ne (x := b3) (y := (sumF (q_ri now) 84 12)) (tgt := 565) C dL_areSums_509 (by decide) (fun c10 => False.elim (by exact c10 g3)) (fun c10 => ?_)
          refine x_iload C 1 rfl dL_areSums_512 ?_
          refine x_aload_n C 11 rfl dL_areSums_514 rfl ?_
          refine x_iconst (v := (nI 3)) C dL_areSums_515 (by decide) ?_
          refine x_callVd (As := [.int (nI 3)]) (rest := [.int b4]) C dL_areSums_516 (c_N_count3 (gX.l X) G x A now nx sz hs ahead hS hnx hsz) ml_L_36 im_X5_count sl_X5_count in_X5 cd_X5_count hd_X5_count 0 rfl rfl rfl rfl (Nat.le_of_ble_eq_true rfl) ⟨Nat.le_of_ble_eq_true rfl, Nat.le_of_ble_eq_true rfl⟩ [] [] (by simp only [List.append_assoc, List.nil_append, List.cons_append]) (ws' := ((wO G x A now nx sz hs ahead) ++ [])) (by simp only [List.append_assoc, List.nil_append, List.cons_append]) (st' := [.int (nI (q_bc now)), .int b4]) rfl ⟨rfl, rfl⟩ ⟨Nat.le_of_ble_eq_true rfl, Nat.le_of_ble_eq_true rfl⟩ ?_
          refine x_icmp_ne (x := b4) (y := (nI (q_bc now))) (tgt := 565) C dL_areSums_519 (by decide) (fun c11 => False.elim (by exact c11 hU5)) (fun c11 => ?_)
          refine x_iload C 1 rfl dL_areSums_522 ?_
          refine x_bipush (v := (nI 40)) C dL_areSums_524 (by decide) ?_
          refine x_icmp_gt (x := b4) (y := 40) (tgt := 565) C dL_areSums_526 (by decide) (fun c12 => False.elim (by exact hU6 c12)) (fun c12 => ?_)
          refine x_iload_n C 8 rfl dL_areSums_529 rfl ?_
          refine x_aload_n C 11 rfl dL_areSums_530 rfl ?_
          refine x_bipush (v := (nI 8)) C dL_areSums_531 (by decide) ?_
          refine x_callVd (As := [.int (nI 8)]) (rest := [.int a3]) C dL_areSums_533 (c_N_count8 (gX.l X) G x A now nx sz hs ahead hS hnx hsz) ml_L_36 im_X5_count sl_X5_count in_X5 cd_X5_count hd_X5_count 0 rfl rfl rfl rfl (Nat.le_of_ble_eq_true rfl) ⟨Nat.le_of_ble_eq_true rfl, Nat.le_of_ble_eq_true rfl⟩ [] [] (by simp only [List.append_assoc, List.nil_append, List.cons_append]) (ws' := ((wO G x A now nx sz hs ahead) ++ [])) (by simp only [List.append_assoc, List.nil_append, List.cons_append]) (st' := [.int (sumF (q_ho now) 80 10), .int a3]) rfl ⟨rfl, rfl⟩ ⟨Nat.le_of_ble_eq_true rfl, Nat.le_of_ble_eq_true rfl⟩ ?_
          refine x_icmp_ne (x := a3) (y := (sumF (q_ho now) 80 10)) (tgt := 565) C dL_areSums_536 (by decide) (fun c13 => False.elim (by exact c13 h3)) (fun c13 => ?_)
          refine x_iload C 7 rfl dL_areSums_539 ?_
          refine x_aload_n C 11 rfl dL_areSums_541 rfl ?_
          refine x_bipush (v := (nI 9)) C dL_areSums_542 (by decide) ?_
          refine x_callVd (As := [.int (nI 9)]) (rest := [.int a4]) C dL_areSums_544 (c_N_count9 (gX.l X) G x A now nx sz hs ahead hS hnx hsz) ml_L_36 im_X5_count sl_X5_count in_X5 cd_X5_count hd_X5_count 0 rfl rfl rfl rfl (Nat.le_of_ble_eq_true rfl) ⟨Nat.le_of_ble_eq_true rfl, Nat.le_of_ble_eq_true rfl⟩ [] [] (by simp only [List.append_assoc, List.nil_append, List.cons_append]) (ws' := ((wO G x A now nx sz hs ahead) ++ [])) (by simp only [List.append_assoc, List.nil_append, List.cons_append]) (st' := [.int (sumF (q_ho now) 20 10), .int a4]) rfl ⟨rfl, rfl⟩ ⟨Nat.le_of_ble_eq_true rfl, Nat.le_of_ble_eq_true rfl⟩ ?_
          refine x_icmp_ne (x := a4) (y := (sumF (q_ho now) 20 10)) (tgt := 565) C dL_areSums_547 (by decide) (fun c14 => False.elim (by exact c14 h4)) (fun c14 => ?_)
          refine x_iload C 6 rfl dL_areSums_550 ?_
          refine x_aload_n C 11 rfl dL_areSums_552 rfl ?_
          refine x_bipush (v := (nI 7)) C dL_areSums_553 (by decide) ?_
          refine x_callVd (As := [.int (nI 7)]) (rest := [.int a5]) C dL_areSums_555 (c_N_count7 (gX.l X) G x A now nx sz hs ahead hS hnx hsz) ml_L_36 im_X5_count sl_X5_count in_X5 cd_X5_count hd_X5_count 0 rfl rfl rfl rfl (Nat.le_of_ble_eq_true rfl) ⟨Nat.le_of_ble_eq_true rfl, Nat.le_of_ble_eq_true rfl⟩ [] [] (by simp only [List.append_assoc, List.nil_append, List.cons_append]) (ws' := ((wO G x A now nx sz hs ahead) ++ [])) (by simp only [List.append_assoc, List.nil_append, List.cons_append]) (st' := [.int (c_lame (q_ho now) 10), .int a5]) rfl ⟨rfl, rfl⟩ ⟨Nat.le_of_ble_eq_true rfl, Nat.le_of_ble_eq_true rfl⟩ ?_
          refine x_icmp_ne (x := a5) (y := (c_lame (q_ho now) 10)) (tgt := 565) C dL_areSums_558 (by decide) (fun c15 => False.elim (by exact c15 h5)) (fun c15 => ?_)
          refine x_iconst (v := (nI 1)) C dL_areSums_561 (by decide) ?_
          refine x_goto (tgt := 566) C dL_areSums_562 (by decide) ?_
          refine x_istore (lv' := [(6, .int (nI 1)), (11, .int (nI r)), (10, .int b4), (9, .int b3), (8, .int b2), (7, .int b1), (5, .int a5), (4, .int a4), (3, .int a3), (2, .int a2), (1, .int a1), (0, .ref x)]) C dL_areSums_566 (by decide) rfl ?_
          refine x_iload C 0 rfl dL_areSums_568 ?_
          refine x_if_eqN (a := 1) (tgt := 682) C dL_areSums_570 (by decide) (by omega) (fun c16 => False.elim (by omega)) (fun c16 => ?_)
          refine x_aload_n C 11 rfl dL_areSums_573 rfl ?_
          refine x_iconst (v := (nI 1)) C dL_areSums_574 (by decide) ?_
          refine x_callVd (As := [.int (nI 1)]) (rest := []) C dL_areSums_575 (c_N_count1 (gX.l X) G x A now nx sz hs ahead hS hnx hsz) ml_L_36 im_X5_count sl_X5_count in_X5 cd_X5_count hd_X5_count 0 rfl rfl rfl rfl (Nat.le_of_ble_eq_true rfl) ⟨Nat.le_of_ble_eq_true rfl, Nat.le_of_ble_eq_true rfl⟩ [] [] (by simp only [List.append_assoc, List.nil_append, List.cons_append]) (ws' := ((wO G x A now nx sz hs ahead) ++ [])) (by simp only [List.append_assoc, List.nil_append, List.cons_append]) (st' := [.int (nI (q_ti now / 10))]) rfl ⟨rfl, rfl⟩ ⟨Nat.le_of_ble_eq_true rfl, Nat.le_of_ble_eq_true rfl⟩ ?_
          refine x_aload_n C 11 rfl dL_areSums_578 rfl ?_
          refine x_iconst (v := (nI 0)) C dL_areSums_579 (by decide) ?_
          refine x_callVd (As := [.int (nI 0)]) (rest := [.int (nI (q_ti now / 10))]) C dL_areSums_580 (c_N_count0 (gX.l X) G x A now nx sz hs ahead hS hnx hsz) ml_L_36 im_X5_count sl_X5_count in_X5 cd_X5_count hd_X5_count 0 rfl rfl rfl rfl (Nat.le_of_ble_eq_true rfl) ⟨Nat.le_of_ble_eq_true rfl, Nat.le_of_ble_eq_true rfl⟩ [] [] (by simp only [List.append_assoc, List.nil_append, List.cons_append]) (ws' := ((wO G x A now nx sz hs ahead) ++ [])) (by simp only [List.append_assoc, List.nil_append, List.cons_append]) (st' := [.int (nI (q_ti now)), .int (nI (q_ti now / 10))]) rfl ⟨rfl, rfl⟩ ⟨Nat.le_of_ble_eq_true rfl, Nat.le_of_ble_eq_true rfl⟩ ?_
          refine x_bipush (v := (nI 10)) C dL_areSums_583 (by decide) ?_
          refine x_idivN C dL_areSums_585 (by omega) (by omega) (by omega) ?_
          refine x_icmp_neN (a := (q_ti now / 10)) (b := ((q_ti now) / 10)) (tgt := 682) C dL_areSums_586 (by decide) (by omega) (by omega) (fun c17 => False.elim (by omega)) (fun c17 => ?_)
          refine x_aload_n C 11 rfl dL_areSums_589 rfl ?_
          refine x_iconst (v := (nI 2)) C dL_areSums_590 (by decide) ?_
          refine x_callVd (As := [.int (nI 2)]) (rest := []) C dL_areSums_591 (c_N_count2 (gX.l X) G x A now nx sz hs ahead hS hnx hsz) ml_L_36 im_X5_count sl_X5_count in_X5 cd_X5_count hd_X5_count 0 rfl rfl rfl rfl (Nat.le_of_ble_eq_true rfl) ⟨Nat.le_of_ble_eq_true rfl, Nat.le_of_ble_eq_true rfl⟩ [] [] (by simp only [List.append_assoc, List.nil_append, List.cons_append]) (ws' := ((wO G x A now nx sz hs ahead) ++ [])) (by simp only [List.append_assoc, List.nil_append, List.cons_append]) (st' := [.int (nI (q_ti now % 10))]) rfl ⟨rfl, rfl⟩ ⟨Nat.le_of_ble_eq_true rfl, Nat.le_of_ble_eq_true rfl⟩ ?_
          refine x_aload_n C 11 rfl dL_areSums_594 rfl ?_
          refine x_iconst (v := (nI 0)) C dL_areSums_595 (by decide) ?_
          refine x_callVd (As := [.int (nI 0)]) (rest := [.int (nI (q_ti now % 10))]) C dL_areSums_596 (c_N_count0 (gX.l X) G x A now nx sz hs ahead hS hnx hsz) ml_L_36 im_X5_count sl_X5_count in_X5 cd_X5_count hd_X5_count 0 rfl rfl rfl rfl (Nat.le_of_ble_eq_true rfl) ⟨Nat.le_of_ble_eq_true rfl, Nat.le_of_ble_eq_true rfl⟩ [] [] (by simp only [List.append_assoc, List.nil_append, List.cons_append]) (ws' := ((wO G x A now nx sz hs ahead) ++ [])) (by simp only [List.append_assoc, List.nil_append, List.cons_append]) (st' := [.int (nI (q_ti now)), .int (nI (q_ti now % 10))]) rfl ⟨rfl, rfl⟩ ⟨Nat.le_of_ble_eq_true rfl, Nat.le_of_ble_eq_true rfl⟩ ?_
          refine x_bipush (v := (nI 10)) C dL_areSums_599 (by decide) ?_
          refine x_iremN C dL_areSums_601 (by omega) (by omega) (by omega) ?_
          refine x_icmp_neN (a := (q_ti now % 10)) (b := ((q_ti now) % 10)) (tgt := 682) C dL_areSums_602 (by decide) (by omega) (by omega) (fun c18 => False.elim (by omega)) (fun c18 => ?_)
          refine x_aload_n C 11 rfl dL_areSums_605 rfl ?_
          refine x_bipush (v := (nI 10)) C dL_areSums_606 (by decide) ?_
          refine x_callVd (As := [.int (nI 10)]) (rest := []) C dL_areSums_608 (c_N_count10 (gX.l X) G x A now nx sz hs ahead hS hnx hsz) ml_L_36 im_X5_count sl_X5_count in_X5 cd_X5_count hd_X5_count 0 rfl rfl rfl rfl (Nat.le_of_ble_eq_true rfl) ⟨Nat.le_of_ble_eq_true rfl, Nat.le_of_ble_eq_true rfl⟩ [] [] (by simp only [List.append_assoc, List.nil_append, List.cons_append]) (ws' := ((wO G x A now nx sz hs ahead) ++ [])) (by simp only [List.append_assoc, List.nil_append, List.cons_append]) (st' := [.int (bI (c_there (q_se now) (q_ti now)))]) rfl ⟨rfl, rfl⟩ ⟨Nat.le_of_ble_eq_true rfl, Nat.le_of_ble_eq_true rfl⟩ ?_
          refine x_iconst (v := (nI 1)) C dL_areSums_611 (by decide) ?_
          have J20 : ∀ (y21 : Int32) , y21 = bI ((bI (c_there (q_se now) (q_ti now))) = 1) → gW G X ((wO G x A now nx sz hs ahead) ++ []) 0 0 620 [(6, .int (nI 1)), (11, .int (nI r)), (10, .int b4), (9, .int b3), (8, .int b2), (7, .int b1), (5, .int a5), (4, .int a4), (3, .int a3), (2, .int a2), (1, .int a1), (0, .ref x)] [.int y21] := by
            intro y21 ey21
            subst ey21
            refine x_aload_n C 11 rfl dL_areSums_620 rfl ?_
            refine x_iconst (v := (nI 1)) C dL_areSums_621 (by decide) ?_
            refine x_callVd (As := [.int (nI 1)]) (rest := [.int (bI ((bI (c_there (q_se now) (q_ti now))) = 1))]) C dL_areSums_622 (c_N_count1 (gX.l X) G x A now nx sz hs ahead hS hnx hsz) ml_L_36 im_X5_count sl_X5_count in_X5 cd_X5_count hd_X5_count 0 rfl rfl rfl rfl (Nat.le_of_ble_eq_true rfl) ⟨Nat.le_of_ble_eq_true rfl, Nat.le_of_ble_eq_true rfl⟩ [] [] (by simp only [List.append_assoc, List.nil_append, List.cons_append]) (ws' := ((wO G x A now nx sz hs ahead) ++ [])) (by simp only [List.append_assoc, List.nil_append, List.cons_append]) (st' := [.int (nI (q_ti now / 10)), .int (bI ((bI (c_there (q_se now) (q_ti now))) = 1))]) rfl ⟨rfl, rfl⟩ ⟨Nat.le_of_ble_eq_true rfl, Nat.le_of_ble_eq_true rfl⟩ ?_
            refine x_aload_n C 11 rfl dL_areSums_625 rfl ?_
            refine x_bipush (v := (nI 16)) C dL_areSums_626 (by decide) ?_
            refine x_callVd (As := [.int (nI 16)]) (rest := [.int (nI (q_ti now / 10)), .int (bI ((bI (c_there (q_se now) (q_ti now))) = 1))]) C dL_areSums_628 (c_N_count16 (gX.l X) G x A now nx sz hs ahead hS hnx hsz) ml_L_36 im_X5_count sl_X5_count in_X5 cd_X5_count hd_X5_count 0 rfl rfl rfl rfl (Nat.le_of_ble_eq_true rfl) ⟨Nat.le_of_ble_eq_true rfl, Nat.le_of_ble_eq_true rfl⟩ [] [] (by simp only [List.append_assoc, List.nil_append, List.cons_append]) (ws' := ((wO G x A now nx sz hs ahead) ++ [])) (by simp only [List.append_assoc, List.nil_append, List.cons_append]) (st' := [.int (q_se now 4), .int (nI (q_ti now / 10)), .int (bI ((bI (c_there (q_se now) (q_ti now))) = 1))]) rfl ⟨rfl, rfl⟩ ⟨Nat.le_of_ble_eq_true rfl, Nat.le_of_ble_eq_true rfl⟩ ?_
            refine x_irem (x := (nI (q_ti now / 10))) (y := (q_se now 4)) C (i_n0 hI.2.2.2.1) dL_areSums_631 ?_
            have J23 : ∀ (y24 : Int32) , y24 = bI ((iR (nI (q_ti now / 10)) (q_se now 4)) = 0) → gW G X ((wO G x A now nx sz hs ahead) ++ []) 0 0 640 [(6, .int (nI 1)), (11, .int (nI r)), (10, .int b4), (9, .int b3), (8, .int b2), (7, .int b1), (5, .int a5), (4, .int a4), (3, .int a3), (2, .int a2), (1, .int a1), (0, .ref x)] [.int y24, .int (bI ((bI (c_there (q_se now) (q_ti now))) = 1))] := by
              intro y24 ey24
              subst ey24
              refine x_icmp_ne (x := (bI ((bI (c_there (q_se now) (q_ti now))) = 1))) (y := (bI ((iR (nI (q_ti now / 10)) (q_se now 4)) = 0))) (tgt := 682) C dL_areSums_640 (by decide) (fun c25 => False.elim (by exact c25 (bI_iff hU7))) (fun c25 => ?_)
              refine x_aload_n C 11 rfl dL_areSums_643 rfl ?_
              refine x_bipush (v := (nI 11)) C dL_areSums_644 (by decide) ?_
              refine x_callVd (As := [.int (nI 11)]) (rest := []) C dL_areSums_646 (c_N_count11 (gX.l X) G x A now nx sz hs ahead hS hnx hsz) ml_L_36 im_X5_count sl_X5_count in_X5 cd_X5_count hd_X5_count 0 rfl rfl rfl rfl (Nat.le_of_ble_eq_true rfl) ⟨Nat.le_of_ble_eq_true rfl, Nat.le_of_ble_eq_true rfl⟩ [] [] (by simp only [List.append_assoc, List.nil_append, List.cons_append]) (ws' := ((wO G x A now nx sz hs ahead) ++ [])) (by simp only [List.append_assoc, List.nil_append, List.cons_append]) (st' := [.int (c_far (q_se now) (q_ho now) (q_ti now))]) rfl ⟨rfl, rfl⟩ ⟨Nat.le_of_ble_eq_true rfl, Nat.le_of_ble_eq_true rfl⟩ ?_
              refine x_bipush (v := (-5)) C dL_areSums_649 (by decide) ?_
              refine x_icmp_eq (x := (c_far (q_se now) (q_ho now) (q_ti now))) (y := (-5)) (tgt := 678) C dL_areSums_651 (by decide) (fun c26 => ?_) (fun c26 => ?_)
              · refine x_iconst (v := (nI 1)) C dL_areSums_678 (by decide) ?_
                refine x_goto (tgt := 683) C dL_areSums_679 (by decide) ?_
                exact x_zret C hr (by rfl) E dL_areSums_683 (fun _ => 0) rfl rfl
              · have hfar : ¬ c_far (q_se now) (q_ho now) (q_ti now) = -5 := by assumption
                refine x_aload_n C 11 rfl dL_areSums_654 rfl ?_
                refine x_bipush (v := (nI 10)) C dL_areSums_655 (by decide) ?_
                refine x_callVd (As := [.int (nI 10)]) (rest := []) C dL_areSums_657 (c_N_count10 (gX.l X) G x A now nx sz hs ahead hS hnx hsz) ml_L_36 im_X5_count sl_X5_count in_X5 cd_X5_count hd_X5_count 0 rfl rfl rfl rfl (Nat.le_of_ble_eq_true rfl) ⟨Nat.le_of_ble_eq_true rfl, Nat.le_of_ble_eq_true rfl⟩ [] [] (by simp only [List.append_assoc, List.nil_append, List.cons_append]) (ws' := ((wO G x A now nx sz hs ahead) ++ [])) (by simp only [List.append_assoc, List.nil_append, List.cons_append]) (st' := [.int (bI (c_there (q_se now) (q_ti now)))]) rfl ⟨rfl, rfl⟩ ⟨Nat.le_of_ble_eq_true rfl, Nat.le_of_ble_eq_true rfl⟩ ?_
                refine x_iconst (v := (nI 1)) C dL_areSums_660 (by decide) ?_
                refine x_icmp_ne (x := (bI (c_there (q_se now) (q_ti now)))) (y := 1) (tgt := 682) C dL_areSums_661 (by decide) (fun c27 => False.elim (by exact c27 (bI_t (far_is hfar).1))) (fun c27 => ?_)
                refine x_aload_n C 11 rfl dL_areSums_664 rfl ?_
                refine x_aload_n C 11 rfl dL_areSums_665 rfl ?_
                refine x_bipush (v := (nI 11)) C dL_areSums_666 (by decide) ?_
                refine x_callVd (As := [.int (nI 11)]) (rest := [.ref x]) C dL_areSums_668 (c_N_count11 (gX.l X) G x A now nx sz hs ahead hS hnx hsz) ml_L_36 im_X5_count sl_X5_count in_X5 cd_X5_count hd_X5_count 0 rfl rfl rfl rfl (Nat.le_of_ble_eq_true rfl) ⟨Nat.le_of_ble_eq_true rfl, Nat.le_of_ble_eq_true rfl⟩ [] [] (by simp only [List.append_assoc, List.nil_append, List.cons_append]) (ws' := ((wO G x A now nx sz hs ahead) ++ [])) (by simp only [List.append_assoc, List.nil_append, List.cons_append]) (st' := [.int (c_far (q_se now) (q_ho now) (q_ti now)), .ref x]) rfl ⟨rfl, rfl⟩ ⟨Nat.le_of_ble_eq_true rfl, Nat.le_of_ble_eq_true rfl⟩ ?_
                refine x_top (y := (nI (nC (c_far (q_se now) (q_ho now) (q_ti now))))) (far_is hfar).2.2.1 ?_
                refine x_iconst (v := (nI 3)) C dL_areSums_671 (by decide) ?_
                refine x_callVd (As := [.int (nI (nC (c_far (q_se now) (q_ho now) (q_ti now)))), .int (nI 3)]) (rest := []) C dL_areSums_672 (c_N_horse (gX.l X) G x A now nx sz hs ahead (nC (c_far (q_se now) (q_ho now) (q_ti now))) 3 (30 + (nC (c_far (q_se now) (q_ho now) (q_ti now)))) hS hnx hsz (far_is hfar).2.1 (by omega) (by omega)) ml_L_39 im_X5_horse sl_X5_horse in_X5 cd_X5_horse hd_X5_horse 0 rfl rfl rfl rfl (Nat.le_of_ble_eq_true rfl) ⟨Nat.le_of_ble_eq_true rfl, Nat.le_of_ble_eq_true rfl⟩ [] [] (by simp only [List.append_assoc, List.nil_append, List.cons_append]) (ws' := ((wO G x A now nx sz hs ahead) ++ [])) (by simp only [List.append_assoc, List.nil_append, List.cons_append]) (st' := [.int (q_ho now (30 + (nC (c_far (q_se now) (q_ho now) (q_ti now)))))]) rfl ⟨rfl, rfl⟩ ⟨Nat.le_of_ble_eq_true rfl, Nat.le_of_ble_eq_true rfl⟩ ?_
                refine x_if_le (x := (q_ho now (30 + (nC (c_far (q_se now) (q_ho now) (q_ti now)))))) (tgt := 682) C dL_areSums_675 (by decide) (fun c28 => False.elim (by exact c28 (far_is hfar).2.2.2)) (fun c28 => ?_)
                refine x_iconst (v := (nI 1)) C dL_areSums_678 (by decide) ?_
                refine x_goto (tgt := 683) C dL_areSums_679 (by decide) ?_
                exact x_zret C hr (by rfl) E dL_areSums_683 (fun _ => 0) rfl rfl
            refine x_if_ne (x := (iR (nI (q_ti now / 10)) (q_se now 4))) (tgt := 639) C dL_areSums_632 (by decide) (fun c22 => ?_) (fun c22 => ?_)
            · refine x_iconst (v := (nI 0)) C dL_areSums_639 (by decide) ?_
              exact J23 (nI 0) (bI_f (by simp only [c22, if_true, if_false, ite_true, ite_false, and_true, true_and, and_false, false_and, or_true, true_or, or_false, false_or, not_true_eq_false, not_false_eq_true, and_self, or_self] <;> decide)).symm
            · refine x_iconst (v := (nI 1)) C dL_areSums_635 (by decide) ?_
              refine x_goto (tgt := 640) C dL_areSums_636 (by decide) ?_
              exact J23 (nI 1) (bI_t (by simp only [c22, if_true, if_false, ite_true, ite_false, and_true, true_and, and_false, false_and, or_true, true_or, or_false, false_or, not_true_eq_false, not_false_eq_true, and_self, or_self] <;> decide)).symm
          refine x_icmp_ne (x := (bI (c_there (q_se now) (q_ti now)))) (y := 1) (tgt := 619) C dL_areSums_612 (by decide) (fun c19 => ?_) (fun c19 => ?_)
          · refine x_iconst (v := (nI 0)) C dL_areSums_619 (by decide) ?_
            exact J20 (nI 0) (bI_f (by simp only [c19, if_true, if_false, ite_true, ite_false, and_true, true_and, and_false, false_and, or_true, true_or, or_false, false_or, not_true_eq_false, not_false_eq_true, and_self, or_self] <;> decide)).symm
          · refine x_iconst (v := (nI 1)) C dL_areSums_615 (by decide) ?_
            refine x_goto (tgt := 620) C dL_areSums_616 (by decide) ?_
            exact J20 (nI 1) (bI_t (by simp only [c19, if_true, if_false, ite_true, ite_false, and_true, true_and, and_false, false_and, or_true, true_or, or_false, false_or, not_true_eq_false, not_false_eq_true, and_self, or_self] <;> decide)).symm
        | succ fu ih =>
          intro r b1 b2 b3 b4 hn g1 g2 g3 g4
          refine x_iload C 0 rfl dL_areSums_235 ?_
          refine x_bipush (v := (nI 12)) C dL_areSums_237 (by decide) ?_
          refine x_icmp_geN (a := r) (b := 12) (tgt := 464) C dL_areSums_239 (by decide) (by omega) (by omega) (fun c29 => False.elim (by omega)) (fun c29 => ?_)
          have hR := hI.2.2.1 r (by omega)
          refine x_aload_n C 11 rfl dL_areSums_242 rfl ?_
          refine x_iload C 0 rfl dL_areSums_243 ?_
          refine x_iconst (v := (nI 1)) C dL_areSums_245 (by decide) ?_
          refine x_callVd (As := [.int (nI r), .int (nI 1)]) (rest := []) C dL_areSums_246 (c_N_rider (gX.l X) G x A now nx sz hs ahead r 1 (12 + r) hS hnx hsz (by omega) (by omega) (by decide) (by omega)) ml_L_42 im_X5_rider sl_X5_rider in_X5 cd_X5_rider hd_X5_rider 0 rfl rfl rfl rfl (Nat.le_of_ble_eq_true rfl) ⟨Nat.le_of_ble_eq_true rfl, Nat.le_of_ble_eq_true rfl⟩ [] [] (by simp only [List.append_assoc, List.nil_append, List.cons_append]) (ws' := ((wO G x A now nx sz hs ahead) ++ [])) (by simp only [List.append_assoc, List.nil_append, List.cons_append]) (st' := [.int (q_ri now (12 + r))]) rfl ⟨rfl, rfl⟩ ⟨Nat.le_of_ble_eq_true rfl, Nat.le_of_ble_eq_true rfl⟩ ?_
          refine x_aload_n C 11 rfl dL_areSums_249 rfl ?_
          refine x_iload C 0 rfl dL_areSums_250 ?_
          refine x_iconst (v := (nI 2)) C dL_areSums_252 (by decide) ?_
          refine x_callVd (As := [.int (nI r), .int (nI 2)]) (rest := [.int (q_ri now (12 + r))]) C dL_areSums_253 (c_N_rider (gX.l X) G x A now nx sz hs ahead r 2 (24 + r) hS hnx hsz (by omega) (by omega) (by decide) (by omega)) ml_L_42 im_X5_rider sl_X5_rider in_X5 cd_X5_rider hd_X5_rider 0 rfl rfl rfl rfl (Nat.le_of_ble_eq_true rfl) ⟨Nat.le_of_ble_eq_true rfl, Nat.le_of_ble_eq_true rfl⟩ [] [] (by simp only [List.append_assoc, List.nil_append, List.cons_append]) (ws' := ((wO G x A now nx sz hs ahead) ++ [])) (by simp only [List.append_assoc, List.nil_append, List.cons_append]) (st' := [.int (q_ri now (24 + r)), .int (q_ri now (12 + r))]) rfl ⟨rfl, rfl⟩ ⟨Nat.le_of_ble_eq_true rfl, Nat.le_of_ble_eq_true rfl⟩ ?_
          refine x_isub (x := (q_ri now (12 + r))) (y := (q_ri now (24 + r))) C dL_areSums_256 ?_
          refine x_istore (lv' := [(12, .int ((q_ri now (12 + r)) - (q_ri now (24 + r)))), (11, .int (nI r)), (10, .int b4), (9, .int b3), (8, .int b2), (7, .int b1), (6, .int (nI 1)), (5, .int a5), (4, .int a4), (3, .int a3), (2, .int a2), (1, .int a1), (0, .ref x)]) C dL_areSums_257 (by decide) rfl ?_
          refine x_iload C 5 rfl dL_areSums_259 ?_
          refine x_aload_n C 12 rfl dL_areSums_261 rfl ?_
          refine x_iload C 1 rfl dL_areSums_262 ?_
          refine x_iconst (v := (nI 5)) C dL_areSums_264 (by decide) ?_
          refine x_callVd (As := [.int (nI r), .int (nI 5)]) (rest := [.int b1]) C dL_areSums_265 (c_N_rider (gX.l X) G x A now nx sz hs ahead r 5 (60 + r) hS hnx hsz (by omega) (by omega) (by decide) (by omega)) ml_L_42 im_X5_rider sl_X5_rider in_X5 cd_X5_rider hd_X5_rider 0 rfl rfl rfl rfl (Nat.le_of_ble_eq_true rfl) ⟨Nat.le_of_ble_eq_true rfl, Nat.le_of_ble_eq_true rfl⟩ [] [] (by simp only [List.append_assoc, List.nil_append, List.cons_append]) (ws' := ((wO G x A now nx sz hs ahead) ++ [])) (by simp only [List.append_assoc, List.nil_append, List.cons_append]) (st' := [.int (q_ri now (60 + r)), .int b1]) rfl ⟨rfl, rfl⟩ ⟨Nat.le_of_ble_eq_true rfl, Nat.le_of_ble_eq_true rfl⟩ ?_
          refine x_iadd (x := b1) (y := (q_ri now (60 + r))) C dL_areSums_268 ?_
          refine x_istore (lv' := [(7, .int (b1 + (q_ri now (60 + r)))), (12, .int ((q_ri now (12 + r)) - (q_ri now (24 + r)))), (11, .int (nI r)), (10, .int b4), (9, .int b3), (8, .int b2), (6, .int (nI 1)), (5, .int a5), (4, .int a4), (3, .int a3), (2, .int a2), (1, .int a1), (0, .ref x)]) C dL_areSums_269 (by decide) rfl ?_
          refine x_iload C 5 rfl dL_areSums_271 ?_
          refine x_aload_n C 12 rfl dL_areSums_273 rfl ?_
          refine x_iload C 2 rfl dL_areSums_274 ?_
          refine x_bipush (v := (nI 6)) C dL_areSums_276 (by decide) ?_
          refine x_callVd (As := [.int (nI r), .int (nI 6)]) (rest := [.int b2]) C dL_areSums_278 (c_N_rider (gX.l X) G x A now nx sz hs ahead r 6 (72 + r) hS hnx hsz (by omega) (by omega) (by decide) (by omega)) ml_L_42 im_X5_rider sl_X5_rider in_X5 cd_X5_rider hd_X5_rider 0 rfl rfl rfl rfl (Nat.le_of_ble_eq_true rfl) ⟨Nat.le_of_ble_eq_true rfl, Nat.le_of_ble_eq_true rfl⟩ [] [] (by simp only [List.append_assoc, List.nil_append, List.cons_append]) (ws' := ((wO G x A now nx sz hs ahead) ++ [])) (by simp only [List.append_assoc, List.nil_append, List.cons_append]) (st' := [.int (q_ri now (72 + r)), .int b2]) rfl ⟨rfl, rfl⟩ ⟨Nat.le_of_ble_eq_true rfl, Nat.le_of_ble_eq_true rfl⟩ ?_
          refine x_iadd (x := b2) (y := (q_ri now (72 + r))) C dL_areSums_281 ?_
          refine x_istore (lv' := [(8, .int (b2 + (q_ri now (72 + r)))), (7, .int (b1 + (q_ri now (60 + r)))), (12, .int ((q_ri now (12 + r)) - (q_ri now (24 + r)))), (11, .int (nI r)), (10, .int b4), (9, .int b3), (6, .int (nI 1)), (5, .int a5), (4, .int a4), (3, .int a3), (2, .int a2), (1, .int a1), (0, .ref x)]) C dL_areSums_282 (by decide) rfl ?_
          refine x_iload C 5 rfl dL_areSums_284 ?_
          refine x_aload_n C 12 rfl dL_areSums_286 rfl ?_
          refine x_iload C 3 rfl dL_areSums_287 ?_
          refine x_bipush (v := (nI 7)) C dL_areSums_289 (by decide) ?_
          refine x_callVd (As := [.int (nI r), .int (nI 7)]) (rest := [.int b3]) C dL_areSums_291 (c_N_rider (gX.l X) G x A now nx sz hs ahead r 7 (84 + r) hS hnx hsz (by omega) (by omega) (by decide) (by omega)) ml_L_42 im_X5_rider sl_X5_rider in_X5 cd_X5_rider hd_X5_rider 0 rfl rfl rfl rfl (Nat.le_of_ble_eq_true rfl) ⟨Nat.le_of_ble_eq_true rfl, Nat.le_of_ble_eq_true rfl⟩ [] [] (by simp only [List.append_assoc, List.nil_append, List.cons_append]) (ws' := ((wO G x A now nx sz hs ahead) ++ [])) (by simp only [List.append_assoc, List.nil_append, List.cons_append]) (st' := [.int (q_ri now (84 + r)), .int b3]) rfl ⟨rfl, rfl⟩ ⟨Nat.le_of_ble_eq_true rfl, Nat.le_of_ble_eq_true rfl⟩ ?_
          refine x_iadd (x := b3) (y := (q_ri now (84 + r))) C dL_areSums_294 ?_
          refine x_istore (lv' := [(9, .int (b3 + (q_ri now (84 + r)))), (8, .int (b2 + (q_ri now (72 + r)))), (7, .int (b1 + (q_ri now (60 + r)))), (12, .int ((q_ri now (12 + r)) - (q_ri now (24 + r)))), (11, .int (nI r)), (10, .int b4), (6, .int (nI 1)), (5, .int a5), (4, .int a4), (3, .int a3), (2, .int a2), (1, .int a1), (0, .ref x)]) C dL_areSums_295 (by decide) rfl ?_
          refine x_iload C 5 rfl dL_areSums_297 ?_
          refine x_aload_n C 12 rfl dL_areSums_299 rfl ?_
          refine x_iload C 4 rfl dL_areSums_300 ?_
          refine x_bipush (v := (nI 8)) C dL_areSums_302 (by decide) ?_
          refine x_callVd (As := [.int (nI r), .int (nI 8)]) (rest := [.int b4]) C dL_areSums_304 (c_N_riderB (gX.l X) G x A now nx sz hs ahead r hS hnx hsz (by omega)) ml_L_42 im_X5_rider sl_X5_rider in_X5 cd_X5_rider hd_X5_rider 0 rfl rfl rfl rfl (Nat.le_of_ble_eq_true rfl) ⟨Nat.le_of_ble_eq_true rfl, Nat.le_of_ble_eq_true rfl⟩ [] [] (by simp only [List.append_assoc, List.nil_append, List.cons_append]) (ws' := ((wO G x A now nx sz hs ahead) ++ [])) (by simp only [List.append_assoc, List.nil_append, List.cons_append]) (st' := [.int (c_bof (q_bo now) (nI r) (q_bc now)), .int b4]) rfl ⟨rfl, rfl⟩ ⟨Nat.le_of_ble_eq_true rfl, Nat.le_of_ble_eq_true rfl⟩ ?_
          refine x_iadd (x := b4) (y := (c_bof (q_bo now) (nI r) (q_bc now))) C dL_areSums_307 ?_
          refine x_istore (lv' := [(10, .int (b4 + (c_bof (q_bo now) (nI r) (q_bc now)))), (9, .int (b3 + (q_ri now (84 + r)))), (8, .int (b2 + (q_ri now (72 + r)))), (7, .int (b1 + (q_ri now (60 + r)))), (12, .int ((q_ri now (12 + r)) - (q_ri now (24 + r)))), (11, .int (nI r)), (6, .int (nI 1)), (5, .int a5), (4, .int a4), (3, .int a3), (2, .int a2), (1, .int a1), (0, .ref x)]) C dL_areSums_308 (by decide) rfl ?_
          refine x_iload C 6 rfl dL_areSums_310 ?_
          refine x_if_eqN (a := 1) (tgt := 455) C dL_areSums_312 (by decide) (by omega) (fun c30 => False.elim (by omega)) (fun c30 => ?_)
          refine x_aload_n C 12 rfl dL_areSums_315 rfl ?_
          refine x_iload C 5 rfl dL_areSums_316 ?_
          refine x_iconst (v := (nI 2)) C dL_areSums_318 (by decide) ?_
          refine x_callVd (As := [.int (nI r), .int (nI 2)]) (rest := []) C dL_areSums_319 (c_N_rider (gX.l X) G x A now nx sz hs ahead r 2 (24 + r) hS hnx hsz (by omega) (by omega) (by decide) (by omega)) ml_L_42 im_X5_rider sl_X5_rider in_X5 cd_X5_rider hd_X5_rider 0 rfl rfl rfl rfl (Nat.le_of_ble_eq_true rfl) ⟨Nat.le_of_ble_eq_true rfl, Nat.le_of_ble_eq_true rfl⟩ [] [] (by simp only [List.append_assoc, List.nil_append, List.cons_append]) (ws' := ((wO G x A now nx sz hs ahead) ++ [])) (by simp only [List.append_assoc, List.nil_append, List.cons_append]) (st' := [.int (q_ri now (24 + r))]) rfl ⟨rfl, rfl⟩ ⟨Nat.le_of_ble_eq_true rfl, Nat.le_of_ble_eq_true rfl⟩ ?_
          refine x_if_lt (x := (q_ri now (24 + r))) (tgt := 455) C dL_areSums_322 (by decide) (fun c31 => False.elim (by exact ok_nn hR.2.2.1 (by omega) c31)) (fun c31 => ?_)
          refine x_aload_n C 12 rfl dL_areSums_325 rfl ?_
          refine x_iload C 5 rfl dL_areSums_326 ?_
          refine x_iconst (v := (nI 2)) C dL_areSums_328 (by decide) ?_
          refine x_callVd (As := [.int (nI r), .int (nI 2)]) (rest := []) C dL_areSums_329 (c_N_rider (gX.l X) G x A now nx sz hs ahead r 2 (24 + r) hS hnx hsz (by omega) (by omega) (by decide) (by omega)) ml_L_42 im_X5_rider sl_X5_rider in_X5 cd_X5_rider hd_X5_rider 0 rfl rfl rfl rfl (Nat.le_of_ble_eq_true rfl) ⟨Nat.le_of_ble_eq_true rfl, Nat.le_of_ble_eq_true rfl⟩ [] [] (by simp only [List.append_assoc, List.nil_append, List.cons_append]) (ws' := ((wO G x A now nx sz hs ahead) ++ [])) (by simp only [List.append_assoc, List.nil_append, List.cons_append]) (st' := [.int (q_ri now (24 + r))]) rfl ⟨rfl, rfl⟩ ⟨Nat.le_of_ble_eq_true rfl, Nat.le_of_ble_eq_true rfl⟩ ?_
          refine x_bipush (v := (nI 10)) C dL_areSums_332 (by decide) ?_
          refine x_icmp_ge (x := (q_ri now (24 + r))) (y := 10) (tgt := 455) C dL_areSums_334 (by decide) (fun c32 => False.elim (by exact c32 (ok_lt (n := 10) hR.2.2.1 (by omega) (by omega)))) (fun c32 => ?_)
          refine x_aload_n C 12 rfl dL_areSums_337 rfl ?_
          refine x_iload C 5 rfl dL_areSums_338 ?_
          refine x_iconst (v := (nI 1)) C dL_areSums_340 (by decide) ?_
          refine x_callVd (As := [.int (nI r), .int (nI 1)]) (rest := []) C dL_areSums_341 (c_N_rider (gX.l X) G x A now nx sz hs ahead r 1 (12 + r) hS hnx hsz (by omega) (by omega) (by decide) (by omega)) ml_L_42 im_X5_rider sl_X5_rider in_X5 cd_X5_rider hd_X5_rider 0 rfl rfl rfl rfl (Nat.le_of_ble_eq_true rfl) ⟨Nat.le_of_ble_eq_true rfl, Nat.le_of_ble_eq_true rfl⟩ [] [] (by simp only [List.append_assoc, List.nil_append, List.cons_append]) (ws' := ((wO G x A now nx sz hs ahead) ++ [])) (by simp only [List.append_assoc, List.nil_append, List.cons_append]) (st' := [.int (q_ri now (12 + r))]) rfl ⟨rfl, rfl⟩ ⟨Nat.le_of_ble_eq_true rfl, Nat.le_of_ble_eq_true rfl⟩ ?_
          refine x_bipush (v := (nI 10)) C dL_areSums_344 (by decide) ?_
          refine x_icmp_ge (x := (q_ri now (12 + r))) (y := 10) (tgt := 455) C dL_areSums_346 (by decide) (fun c33 => False.elim (by exact c33 (ok_lt (n := 10) hR.2.1 (by omega) (by omega)))) (fun c33 => ?_)
          refine x_aload_n C 12 rfl dL_areSums_349 rfl ?_
          refine x_iload C 5 rfl dL_areSums_350 ?_
          refine x_iconst (v := (nI 3)) C dL_areSums_352 (by decide) ?_
          refine x_callVd (As := [.int (nI r), .int (nI 3)]) (rest := []) C dL_areSums_353 (c_N_riderA (gX.l X) G x A now nx sz hs ahead r hS hnx hsz (by omega)) ml_L_42 im_X5_rider sl_X5_rider in_X5 cd_X5_rider hd_X5_rider 0 rfl rfl rfl rfl (Nat.le_of_ble_eq_true rfl) ⟨Nat.le_of_ble_eq_true rfl, Nat.le_of_ble_eq_true rfl⟩ [] [] (by simp only [List.append_assoc, List.nil_append, List.cons_append]) (ws' := ((wO G x A now nx sz hs ahead) ++ [])) (by simp only [List.append_assoc, List.nil_append, List.cons_append]) (st' := [.int (c_abil (q_ri now) r)]) rfl ⟨rfl, rfl⟩ ⟨Nat.le_of_ble_eq_true rfl, Nat.le_of_ble_eq_true rfl⟩ ?_
          refine x_iload C 4 rfl dL_areSums_356 ?_
          have J35 : ∀ (y36 : Int32) , y36 = (if ((q_ri now (12 + r)) - (q_ri now (24 + r))) < 0 then 0 else ((q_ri now (12 + r)) - (q_ri now (24 + r)))) → gW G X ((wO G x A now nx sz hs ahead) ++ []) 0 0 367 [(10, .int (b4 + (c_bof (q_bo now) (nI r) (q_bc now)))), (9, .int (b3 + (q_ri now (84 + r)))), (8, .int (b2 + (q_ri now (72 + r)))), (7, .int (b1 + (q_ri now (60 + r)))), (12, .int ((q_ri now (12 + r)) - (q_ri now (24 + r)))), (11, .int (nI r)), (6, .int (nI 1)), (5, .int a5), (4, .int a4), (3, .int a3), (2, .int a2), (1, .int a1), (0, .ref x)] [.int y36, .int (c_abil (q_ri now) r)] := by
            intro y36 ey36
            subst ey36
            refine x_icmp_ne (x := (c_abil (q_ri now) r)) (y := (if ((q_ri now (12 + r)) - (q_ri now (24 + r))) < 0 then 0 else ((q_ri now (12 + r)) - (q_ri now (24 + r))))) (tgt := 455) C dL_areSums_367 (by decide) (fun c37 => False.elim (by exact c37 abil_eq)) (fun c37 => ?_)
            refine x_aload_n C 12 rfl dL_areSums_370 rfl ?_
            refine x_iload C 5 rfl dL_areSums_371 ?_
            refine x_iconst (v := (nI 4)) C dL_areSums_373 (by decide) ?_
            refine x_callVd (As := [.int (nI r), .int (nI 4)]) (rest := []) C dL_areSums_374 (c_N_rider (gX.l X) G x A now nx sz hs ahead r 4 (48 + r) hS hnx hsz (by omega) (by omega) (by decide) (by omega)) ml_L_42 im_X5_rider sl_X5_rider in_X5 cd_X5_rider hd_X5_rider 0 rfl rfl rfl rfl (Nat.le_of_ble_eq_true rfl) ⟨Nat.le_of_ble_eq_true rfl, Nat.le_of_ble_eq_true rfl⟩ [] [] (by simp only [List.append_assoc, List.nil_append, List.cons_append]) (ws' := ((wO G x A now nx sz hs ahead) ++ [])) (by simp only [List.append_assoc, List.nil_append, List.cons_append]) (st' := [.int (q_ri now (48 + r))]) rfl ⟨rfl, rfl⟩ ⟨Nat.le_of_ble_eq_true rfl, Nat.le_of_ble_eq_true rfl⟩ ?_
            refine x_if_lt (x := (q_ri now (48 + r))) (tgt := 455) C dL_areSums_377 (by decide) (fun c38 => False.elim (by exact ok_nn hR.2.2.2.2.1.1 (by omega) c38)) (fun c38 => ?_)
            refine x_aload_n C 12 rfl dL_areSums_380 rfl ?_
            refine x_iload C 5 rfl dL_areSums_381 ?_
            refine x_iconst (v := (nI 4)) C dL_areSums_383 (by decide) ?_
            refine x_callVd (As := [.int (nI r), .int (nI 4)]) (rest := []) C dL_areSums_384 (c_N_rider (gX.l X) G x A now nx sz hs ahead r 4 (48 + r) hS hnx hsz (by omega) (by omega) (by decide) (by omega)) ml_L_42 im_X5_rider sl_X5_rider in_X5 cd_X5_rider hd_X5_rider 0 rfl rfl rfl rfl (Nat.le_of_ble_eq_true rfl) ⟨Nat.le_of_ble_eq_true rfl, Nat.le_of_ble_eq_true rfl⟩ [] [] (by simp only [List.append_assoc, List.nil_append, List.cons_append]) (ws' := ((wO G x A now nx sz hs ahead) ++ [])) (by simp only [List.append_assoc, List.nil_append, List.cons_append]) (st' := [.int (q_ri now (48 + r))]) rfl ⟨rfl, rfl⟩ ⟨Nat.le_of_ble_eq_true rfl, Nat.le_of_ble_eq_true rfl⟩ ?_
            refine x_aload_n C 12 rfl dL_areSums_387 rfl ?_
            refine x_iload C 5 rfl dL_areSums_388 ?_
            refine x_iconst (v := (nI 5)) C dL_areSums_390 (by decide) ?_
            refine x_callVd (As := [.int (nI r), .int (nI 5)]) (rest := [.int (q_ri now (48 + r))]) C dL_areSums_391 (c_N_rider (gX.l X) G x A now nx sz hs ahead r 5 (60 + r) hS hnx hsz (by omega) (by omega) (by decide) (by omega)) ml_L_42 im_X5_rider sl_X5_rider in_X5 cd_X5_rider hd_X5_rider 0 rfl rfl rfl rfl (Nat.le_of_ble_eq_true rfl) ⟨Nat.le_of_ble_eq_true rfl, Nat.le_of_ble_eq_true rfl⟩ [] [] (by simp only [List.append_assoc, List.nil_append, List.cons_append]) (ws' := ((wO G x A now nx sz hs ahead) ++ [])) (by simp only [List.append_assoc, List.nil_append, List.cons_append]) (st' := [.int (q_ri now (60 + r)), .int (q_ri now (48 + r))]) rfl ⟨rfl, rfl⟩ ⟨Nat.le_of_ble_eq_true rfl, Nat.le_of_ble_eq_true rfl⟩ ?_
            refine x_icmp_gt (x := (q_ri now (48 + r))) (y := (q_ri now (60 + r))) (tgt := 455) C dL_areSums_394 (by decide) (fun c39 => False.elim (by exact ok_le hR.2.2.2.2.1.1 hR.2.2.2.1 hR.2.2.2.2.1.2 (by omega) (by omega) c39)) (fun c39 => ?_)
            refine x_aload_n C 12 rfl dL_areSums_397 rfl ?_
            refine x_iload C 5 rfl dL_areSums_398 ?_
            refine x_bipush (v := (nI 6)) C dL_areSums_400 (by decide) ?_
            refine x_callVd (As := [.int (nI r), .int (nI 6)]) (rest := []) C dL_areSums_402 (c_N_rider (gX.l X) G x A now nx sz hs ahead r 6 (72 + r) hS hnx hsz (by omega) (by omega) (by decide) (by omega)) ml_L_42 im_X5_rider sl_X5_rider in_X5 cd_X5_rider hd_X5_rider 0 rfl rfl rfl rfl (Nat.le_of_ble_eq_true rfl) ⟨Nat.le_of_ble_eq_true rfl, Nat.le_of_ble_eq_true rfl⟩ [] [] (by simp only [List.append_assoc, List.nil_append, List.cons_append]) (ws' := ((wO G x A now nx sz hs ahead) ++ [])) (by simp only [List.append_assoc, List.nil_append, List.cons_append]) (st' := [.int (q_ri now (72 + r))]) rfl ⟨rfl, rfl⟩ ⟨Nat.le_of_ble_eq_true rfl, Nat.le_of_ble_eq_true rfl⟩ ?_
            refine x_aload_n C 12 rfl dL_areSums_405 rfl ?_
            refine x_iload C 5 rfl dL_areSums_406 ?_
            refine x_iconst (v := (nI 5)) C dL_areSums_408 (by decide) ?_
            refine x_callVd (As := [.int (nI r), .int (nI 5)]) (rest := [.int (q_ri now (72 + r))]) C dL_areSums_409 (c_N_rider (gX.l X) G x A now nx sz hs ahead r 5 (60 + r) hS hnx hsz (by omega) (by omega) (by decide) (by omega)) ml_L_42 im_X5_rider sl_X5_rider in_X5 cd_X5_rider hd_X5_rider 0 rfl rfl rfl rfl (Nat.le_of_ble_eq_true rfl) ⟨Nat.le_of_ble_eq_true rfl, Nat.le_of_ble_eq_true rfl⟩ [] [] (by simp only [List.append_assoc, List.nil_append, List.cons_append]) (ws' := ((wO G x A now nx sz hs ahead) ++ [])) (by simp only [List.append_assoc, List.nil_append, List.cons_append]) (st' := [.int (q_ri now (60 + r)), .int (q_ri now (72 + r))]) rfl ⟨rfl, rfl⟩ ⟨Nat.le_of_ble_eq_true rfl, Nat.le_of_ble_eq_true rfl⟩ ?_
            refine x_icmp_gt (x := (q_ri now (72 + r))) (y := (q_ri now (60 + r))) (tgt := 455) C dL_areSums_412 (by decide) (fun c40 => False.elim (by exact ok_le hR.2.2.2.2.2.1.1 hR.2.2.2.1 hR.2.2.2.2.2.1.2 (by omega) (by omega) c40)) (fun c40 => ?_)
            refine x_aload_n C 12 rfl dL_areSums_415 rfl ?_
            refine x_iload C 5 rfl dL_areSums_416 ?_
            refine x_bipush (v := (nI 9)) C dL_areSums_418 (by decide) ?_
            refine x_callVd (As := [.int (nI r), .int (nI 9)]) (rest := []) C dL_areSums_420 (c_N_rider (gX.l X) G x A now nx sz hs ahead r 9 (108 + r) hS hnx hsz (by omega) (by omega) (by decide) (by omega)) ml_L_42 im_X5_rider sl_X5_rider in_X5 cd_X5_rider hd_X5_rider 0 rfl rfl rfl rfl (Nat.le_of_ble_eq_true rfl) ⟨Nat.le_of_ble_eq_true rfl, Nat.le_of_ble_eq_true rfl⟩ [] [] (by simp only [List.append_assoc, List.nil_append, List.cons_append]) (ws' := ((wO G x A now nx sz hs ahead) ++ [])) (by simp only [List.append_assoc, List.nil_append, List.cons_append]) (st' := [.int (q_ri now (108 + r))]) rfl ⟨rfl, rfl⟩ ⟨Nat.le_of_ble_eq_true rfl, Nat.le_of_ble_eq_true rfl⟩ ?_
            refine x_bipush (v := (-5)) C dL_areSums_423 (by decide) ?_
            have J42 : ∀ (y43 : Int32) , y43 = bI ((q_ri now (108 + r)) = (-5)) → gW G X ((wO G x A now nx sz hs ahead) ++ []) 0 0 433 [(10, .int (b4 + (c_bof (q_bo now) (nI r) (q_bc now)))), (9, .int (b3 + (q_ri now (84 + r)))), (8, .int (b2 + (q_ri now (72 + r)))), (7, .int (b1 + (q_ri now (60 + r)))), (12, .int ((q_ri now (12 + r)) - (q_ri now (24 + r)))), (11, .int (nI r)), (6, .int (nI 1)), (5, .int a5), (4, .int a4), (3, .int a3), (2, .int a2), (1, .int a1), (0, .ref x)] [.int y43] := by
              intro y43 ey43
              subst ey43
              refine x_aload_n C 12 rfl dL_areSums_433 rfl ?_
              refine x_iload C 5 rfl dL_areSums_434 ?_
              refine x_iconst (v := (nI 5)) C dL_areSums_436 (by decide) ?_
              refine x_callVd (As := [.int (nI r), .int (nI 5)]) (rest := [.int (bI ((q_ri now (108 + r)) = (-5)))]) C dL_areSums_437 (c_N_rider (gX.l X) G x A now nx sz hs ahead r 5 (60 + r) hS hnx hsz (by omega) (by omega) (by decide) (by omega)) ml_L_42 im_X5_rider sl_X5_rider in_X5 cd_X5_rider hd_X5_rider 0 rfl rfl rfl rfl (Nat.le_of_ble_eq_true rfl) ⟨Nat.le_of_ble_eq_true rfl, Nat.le_of_ble_eq_true rfl⟩ [] [] (by simp only [List.append_assoc, List.nil_append, List.cons_append]) (ws' := ((wO G x A now nx sz hs ahead) ++ [])) (by simp only [List.append_assoc, List.nil_append, List.cons_append]) (st' := [.int (q_ri now (60 + r)), .int (bI ((q_ri now (108 + r)) = (-5)))]) rfl ⟨rfl, rfl⟩ ⟨Nat.le_of_ble_eq_true rfl, Nat.le_of_ble_eq_true rfl⟩ ?_
              have J45 : ∀ (y46 : Int32) , y46 = bI ((q_ri now (60 + r)) = 0) → gW G X ((wO G x A now nx sz hs ahead) ++ []) 0 0 448 [(10, .int (b4 + (c_bof (q_bo now) (nI r) (q_bc now)))), (9, .int (b3 + (q_ri now (84 + r)))), (8, .int (b2 + (q_ri now (72 + r)))), (7, .int (b1 + (q_ri now (60 + r)))), (12, .int ((q_ri now (12 + r)) - (q_ri now (24 + r)))), (11, .int (nI r)), (6, .int (nI 1)), (5, .int a5), (4, .int a4), (3, .int a3), (2, .int a2), (1, .int a1), (0, .ref x)] [.int y46, .int (bI ((q_ri now (108 + r)) = (-5)))] := by
                intro y46 ey46
                subst ey46
                refine x_icmp_ne (x := (bI ((q_ri now (108 + r)) = (-5)))) (y := (bI ((q_ri now (60 + r)) = 0))) (tgt := 455) C dL_areSums_448 (by decide) (fun c47 => False.elim (by exact c47 (bI_iff hR.2.2.2.2.2.2))) (fun c47 => ?_)
                refine x_iconst (v := (nI 1)) C dL_areSums_451 (by decide) ?_
                refine x_goto (tgt := 456) C dL_areSums_452 (by decide) ?_
                refine x_istore (lv' := [(6, .int (nI 1)), (10, .int (b4 + (c_bof (q_bo now) (nI r) (q_bc now)))), (9, .int (b3 + (q_ri now (84 + r)))), (8, .int (b2 + (q_ri now (72 + r)))), (7, .int (b1 + (q_ri now (60 + r)))), (12, .int ((q_ri now (12 + r)) - (q_ri now (24 + r)))), (11, .int (nI r)), (5, .int a5), (4, .int a4), (3, .int a3), (2, .int a2), (1, .int a1), (0, .ref x)]) C dL_areSums_456 (by decide) rfl ?_
                refine x_iinc (v := (nI (r + 1))) (lv' := [(11, .int (nI (r + 1))), (6, .int (nI 1)), (10, .int (b4 + (c_bof (q_bo now) (nI r) (q_bc now)))), (9, .int (b3 + (q_ri now (84 + r)))), (8, .int (b2 + (q_ri now (72 + r)))), (7, .int (b1 + (q_ri now (60 + r)))), (12, .int ((q_ri now (12 + r)) - (q_ri now (24 + r)))), (5, .int a5), (4, .int a4), (3, .int a3), (2, .int a2), (1, .int a1), (0, .ref x)]) C 6 rfl dL_areSums_458 (by rw [show Int32.ofInt 1 = nI 1 from rfl]; exact nI_add _ _) (by decide) rfl ?_
                refine x_goto (tgt := 235) C dL_areSums_461 (by decide) ?_
                refine x_lv [0, 2, 3, 4, 5, 1, 7, 8, 9, 10, 11, 12] (lv' := [(11, .int (nI (r + 1))), (10, .int (b4 + (c_bof (q_bo now) (nI r) (q_bc now)))), (9, .int (b3 + (q_ri now (84 + r)))), (8, .int (b2 + (q_ri now (72 + r)))), (7, .int (b1 + (q_ri now (60 + r)))), (6, .int (nI 1)), (5, .int a5), (4, .int a4), (3, .int a3), (2, .int a2), (1, .int a1), (0, .ref x)]) rfl ?_
                exact ih (r + 1) (b1 + (q_ri now (60 + r))) (b2 + (q_ri now (72 + r))) (b3 + (q_ri now (84 + r))) (b4 + (c_bof (q_bo now) (nI r) (q_bc now))) (by omega) (by rw [g1]; rfl) (by rw [g2]; rfl) (by rw [g3]; rfl) (by rw [g4]; rfl)
              refine x_if_ne (x := (q_ri now (60 + r))) (tgt := 447) C dL_areSums_440 (by decide) (fun c44 => ?_) (fun c44 => ?_)
              · refine x_iconst (v := (nI 0)) C dL_areSums_447 (by decide) ?_
                exact J45 (nI 0) (bI_f (by simp only [c44, if_true, if_false, ite_true, ite_false, and_true, true_and, and_false, false_and, or_true, true_or, or_false, false_or, not_true_eq_false, not_false_eq_true, and_self, or_self] <;> decide)).symm
              · refine x_iconst (v := (nI 1)) C dL_areSums_443 (by decide) ?_
                refine x_goto (tgt := 448) C dL_areSums_444 (by decide) ?_
                exact J45 (nI 1) (bI_t (by simp only [c44, if_true, if_false, ite_true, ite_false, and_true, true_and, and_false, false_and, or_true, true_or, or_false, false_or, not_true_eq_false, not_false_eq_true, and_self, or_self] <;> decide)).symm
            refine x_icmp_ne (x := (q_ri now (108 + r))) (y := (-5)) (tgt := 432) C dL_areSums_425 (by decide) (fun c41 => ?_) (fun c41 => ?_)
            · refine x_iconst (v := (nI 0)) C dL_areSums_432 (by decide) ?_
              exact J42 (nI 0) (bI_f (by simp only [c41, if_true, if_false, ite_true, ite_false, and_true, true_and, and_false, false_and, or_true, true_or, or_false, false_or, not_true_eq_false, not_false_eq_true, and_self, or_self] <;> decide)).symm
            · refine x_iconst (v := (nI 1)) C dL_areSums_428 (by decide) ?_
              refine x_goto (tgt := 433) C dL_areSums_429 (by decide) ?_
              exact J42 (nI 1) (bI_t (by simp only [c41, if_true, if_false, ite_true, ite_false, and_true, true_and, and_false, false_and, or_true, true_or, or_false, false_or, not_true_eq_false, not_false_eq_true, and_self, or_self] <;> decide)).symm
          refine x_if_ge (x := ((q_ri now (12 + r)) - (q_ri now (24 + r)))) (tgt := 365) C dL_areSums_358 (by decide) (fun c34 => ?_) (fun c34 => ?_)
          · refine x_iload C 4 rfl dL_areSums_365 ?_
            exact J35 ((q_ri now (12 + r)) - (q_ri now (24 + r))) (by rw [if_neg c34] <;> rfl)
          · refine x_iconst (v := (nI 0)) C dL_areSums_361 (by decide) ?_
            refine x_goto (tgt := 367) C dL_areSums_362 (by decide) ?_
            exact J35 0 (by rw [if_pos c34] <;> rfl)
      exact L3 12 0 0 0 0 0 (by omega) (by rfl) (by rfl) (by rfl) (by rfl)
    | succ fu ih =>
      intro k a1 a2 a3 a4 a5 hn h1 h2 h3 h4 h5
      refine x_iload C 0 rfl dL_areSums_18 ?_
      refine x_bipush (v := (nI 10)) C dL_areSums_20 (by decide) ?_
      refine x_icmp_geN (a := k) (b := 10) (tgt := 220) C dL_areSums_22 (by decide) (by omega) (by omega) (fun c48 => False.elim (by omega)) (fun c48 => ?_)
      have hH := hI.2.1 k (by omega)
      refine x_iload_n C 6 rfl dL_areSums_25 rfl ?_
      refine x_aload_n C 7 rfl dL_areSums_26 rfl ?_
      refine x_iload C 0 rfl dL_areSums_27 ?_
      refine x_bipush (v := (nI 6)) C dL_areSums_29 (by decide) ?_
      refine x_callVd (As := [.int (nI k), .int (nI 6)]) (rest := [.int a1]) C dL_areSums_31 (c_N_horse (gX.l X) G x A now nx sz hs ahead k 6 (60 + k) hS hnx hsz (by omega) (by omega) (by omega)) ml_L_39 im_X5_horse sl_X5_horse in_X5 cd_X5_horse hd_X5_horse 0 rfl rfl rfl rfl (Nat.le_of_ble_eq_true rfl) ⟨Nat.le_of_ble_eq_true rfl, Nat.le_of_ble_eq_true rfl⟩ [] [] (by simp only [List.append_assoc, List.nil_append, List.cons_append]) (ws' := ((wO G x A now nx sz hs ahead) ++ [])) (by simp only [List.append_assoc, List.nil_append, List.cons_append]) (st' := [.int (q_ho now (60 + k)), .int a1]) rfl ⟨rfl, rfl⟩ ⟨Nat.le_of_ble_eq_true rfl, Nat.le_of_ble_eq_true rfl⟩ ?_
      refine x_iadd (x := a1) (y := (q_ho now (60 + k))) C dL_areSums_34 ?_
      refine x_istore_n (lv' := [(1, .int (a1 + (q_ho now (60 + k)))), (7, .int (nI k)), (6, .int (nI 1)), (5, .int a5), (4, .int a4), (3, .int a3), (2, .int a2), (0, .ref x)]) C dL_areSums_35 rfl (by decide) rfl ?_
      refine x_iload_n C 6 rfl dL_areSums_36 rfl ?_
      refine x_aload_n C 7 rfl dL_areSums_37 rfl ?_
      refine x_iload C 1 rfl dL_areSums_38 ?_
      refine x_bipush (v := (nI 7)) C dL_areSums_40 (by decide) ?_
      refine x_callVd (As := [.int (nI k), .int (nI 7)]) (rest := [.int a2]) C dL_areSums_42 (c_N_horse (gX.l X) G x A now nx sz hs ahead k 7 (70 + k) hS hnx hsz (by omega) (by omega) (by omega)) ml_L_39 im_X5_horse sl_X5_horse in_X5 cd_X5_horse hd_X5_horse 0 rfl rfl rfl rfl (Nat.le_of_ble_eq_true rfl) ⟨Nat.le_of_ble_eq_true rfl, Nat.le_of_ble_eq_true rfl⟩ [] [] (by simp only [List.append_assoc, List.nil_append, List.cons_append]) (ws' := ((wO G x A now nx sz hs ahead) ++ [])) (by simp only [List.append_assoc, List.nil_append, List.cons_append]) (st' := [.int (q_ho now (70 + k)), .int a2]) rfl ⟨rfl, rfl⟩ ⟨Nat.le_of_ble_eq_true rfl, Nat.le_of_ble_eq_true rfl⟩ ?_
      refine x_iadd (x := a2) (y := (q_ho now (70 + k))) C dL_areSums_45 ?_
      refine x_istore_n (lv' := [(2, .int (a2 + (q_ho now (70 + k)))), (1, .int (a1 + (q_ho now (60 + k)))), (7, .int (nI k)), (6, .int (nI 1)), (5, .int a5), (4, .int a4), (3, .int a3), (0, .ref x)]) C dL_areSums_46 rfl (by decide) rfl ?_
      refine x_iload_n C 6 rfl dL_areSums_47 rfl ?_
      refine x_aload_n C 7 rfl dL_areSums_48 rfl ?_
      refine x_iload C 2 rfl dL_areSums_49 ?_
      refine x_bipush (v := (nI 8)) C dL_areSums_51 (by decide) ?_
      refine x_callVd (As := [.int (nI k), .int (nI 8)]) (rest := [.int a3]) C dL_areSums_53 (c_N_horse (gX.l X) G x A now nx sz hs ahead k 8 (80 + k) hS hnx hsz (by omega) (by omega) (by omega)) ml_L_39 im_X5_horse sl_X5_horse in_X5 cd_X5_horse hd_X5_horse 0 rfl rfl rfl rfl (Nat.le_of_ble_eq_true rfl) ⟨Nat.le_of_ble_eq_true rfl, Nat.le_of_ble_eq_true rfl⟩ [] [] (by simp only [List.append_assoc, List.nil_append, List.cons_append]) (ws' := ((wO G x A now nx sz hs ahead) ++ [])) (by simp only [List.append_assoc, List.nil_append, List.cons_append]) (st' := [.int (q_ho now (80 + k)), .int a3]) rfl ⟨rfl, rfl⟩ ⟨Nat.le_of_ble_eq_true rfl, Nat.le_of_ble_eq_true rfl⟩ ?_
      refine x_iadd (x := a3) (y := (q_ho now (80 + k))) C dL_areSums_56 ?_
      refine x_istore_n (lv' := [(3, .int (a3 + (q_ho now (80 + k)))), (2, .int (a2 + (q_ho now (70 + k)))), (1, .int (a1 + (q_ho now (60 + k)))), (7, .int (nI k)), (6, .int (nI 1)), (5, .int a5), (4, .int a4), (0, .ref x)]) C dL_areSums_57 rfl (by decide) rfl ?_
      refine x_iload C 6 rfl dL_areSums_58 ?_
      refine x_aload_n C 7 rfl dL_areSums_60 rfl ?_
      refine x_iload C 3 rfl dL_areSums_61 ?_
      refine x_iconst (v := (nI 2)) C dL_areSums_63 (by decide) ?_
      refine x_callVd (As := [.int (nI k), .int (nI 2)]) (rest := [.int a4]) C dL_areSums_64 (c_N_horse (gX.l X) G x A now nx sz hs ahead k 2 (20 + k) hS hnx hsz (by omega) (by omega) (by omega)) ml_L_39 im_X5_horse sl_X5_horse in_X5 cd_X5_horse hd_X5_horse 0 rfl rfl rfl rfl (Nat.le_of_ble_eq_true rfl) ⟨Nat.le_of_ble_eq_true rfl, Nat.le_of_ble_eq_true rfl⟩ [] [] (by simp only [List.append_assoc, List.nil_append, List.cons_append]) (ws' := ((wO G x A now nx sz hs ahead) ++ [])) (by simp only [List.append_assoc, List.nil_append, List.cons_append]) (st' := [.int (q_ho now (20 + k)), .int a4]) rfl ⟨rfl, rfl⟩ ⟨Nat.le_of_ble_eq_true rfl, Nat.le_of_ble_eq_true rfl⟩ ?_
      refine x_iadd (x := a4) (y := (q_ho now (20 + k))) C dL_areSums_67 ?_
      refine x_istore (lv' := [(4, .int (a4 + (q_ho now (20 + k)))), (3, .int (a3 + (q_ho now (80 + k)))), (2, .int (a2 + (q_ho now (70 + k)))), (1, .int (a1 + (q_ho now (60 + k)))), (7, .int (nI k)), (6, .int (nI 1)), (5, .int a5), (0, .ref x)]) C dL_areSums_68 (by decide) rfl ?_
      refine x_iload C 6 rfl dL_areSums_70 ?_
      refine x_aload_n C 7 rfl dL_areSums_72 rfl ?_
      refine x_iload C 4 rfl dL_areSums_73 ?_
      refine x_iconst (v := (nI 5)) C dL_areSums_75 (by decide) ?_
      refine x_callVd (As := [.int (nI k), .int (nI 5)]) (rest := [.int a5]) C dL_areSums_76 (c_N_horse (gX.l X) G x A now nx sz hs ahead k 5 (50 + k) hS hnx hsz (by omega) (by omega) (by omega)) ml_L_39 im_X5_horse sl_X5_horse in_X5 cd_X5_horse hd_X5_horse 0 rfl rfl rfl rfl (Nat.le_of_ble_eq_true rfl) ⟨Nat.le_of_ble_eq_true rfl, Nat.le_of_ble_eq_true rfl⟩ [] [] (by simp only [List.append_assoc, List.nil_append, List.cons_append]) (ws' := ((wO G x A now nx sz hs ahead) ++ [])) (by simp only [List.append_assoc, List.nil_append, List.cons_append]) (st' := [.int (q_ho now (50 + k)), .int a5]) rfl ⟨rfl, rfl⟩ ⟨Nat.le_of_ble_eq_true rfl, Nat.le_of_ble_eq_true rfl⟩ ?_
      have J50 : ∀ (y51 : Int32) , y51 = bI (0 < (q_ho now (50 + k))) → gW G X ((wO G x A now nx sz hs ahead) ++ []) 0 0 87 [(4, .int (a4 + (q_ho now (20 + k)))), (3, .int (a3 + (q_ho now (80 + k)))), (2, .int (a2 + (q_ho now (70 + k)))), (1, .int (a1 + (q_ho now (60 + k)))), (7, .int (nI k)), (6, .int (nI 1)), (5, .int a5), (0, .ref x)] [.int y51, .int a5] := by
        intro y51 ey51
        subst ey51
        refine x_iadd (x := a5) (y := (bI (0 < (q_ho now (50 + k))))) C dL_areSums_87 ?_
        refine x_istore (lv' := [(5, .int (a5 + (bI (0 < (q_ho now (50 + k)))))), (4, .int (a4 + (q_ho now (20 + k)))), (3, .int (a3 + (q_ho now (80 + k)))), (2, .int (a2 + (q_ho now (70 + k)))), (1, .int (a1 + (q_ho now (60 + k)))), (7, .int (nI k)), (6, .int (nI 1)), (0, .ref x)]) C dL_areSums_88 (by decide) rfl ?_
        refine x_iload C 6 rfl dL_areSums_90 ?_
        refine x_if_eqN (a := 1) (tgt := 211) C dL_areSums_92 (by decide) (by omega) (fun c52 => False.elim (by omega)) (fun c52 => ?_)
        refine x_aload_n C 7 rfl dL_areSums_95 rfl ?_
        refine x_iload C 5 rfl dL_areSums_96 ?_
        refine x_iconst (v := (nI 2)) C dL_areSums_98 (by decide) ?_
        refine x_callVd (As := [.int (nI k), .int (nI 2)]) (rest := []) C dL_areSums_99 (c_N_horse (gX.l X) G x A now nx sz hs ahead k 2 (20 + k) hS hnx hsz (by omega) (by omega) (by omega)) ml_L_39 im_X5_horse sl_X5_horse in_X5 cd_X5_horse hd_X5_horse 0 rfl rfl rfl rfl (Nat.le_of_ble_eq_true rfl) ⟨Nat.le_of_ble_eq_true rfl, Nat.le_of_ble_eq_true rfl⟩ [] [] (by simp only [List.append_assoc, List.nil_append, List.cons_append]) (ws' := ((wO G x A now nx sz hs ahead) ++ [])) (by simp only [List.append_assoc, List.nil_append, List.cons_append]) (st' := [.int (q_ho now (20 + k))]) rfl ⟨rfl, rfl⟩ ⟨Nat.le_of_ble_eq_true rfl, Nat.le_of_ble_eq_true rfl⟩ ?_
        refine x_if_lt (x := (q_ho now (20 + k))) (tgt := 211) C dL_areSums_102 (by decide) (fun c53 => False.elim (by exact ok_nn hH.2.2.1 (by omega) c53)) (fun c53 => ?_)
        refine x_aload_n C 7 rfl dL_areSums_105 rfl ?_
        refine x_iload C 5 rfl dL_areSums_106 ?_
        refine x_iconst (v := (nI 2)) C dL_areSums_108 (by decide) ?_
        refine x_callVd (As := [.int (nI k), .int (nI 2)]) (rest := []) C dL_areSums_109 (c_N_horse (gX.l X) G x A now nx sz hs ahead k 2 (20 + k) hS hnx hsz (by omega) (by omega) (by omega)) ml_L_39 im_X5_horse sl_X5_horse in_X5 cd_X5_horse hd_X5_horse 0 rfl rfl rfl rfl (Nat.le_of_ble_eq_true rfl) ⟨Nat.le_of_ble_eq_true rfl, Nat.le_of_ble_eq_true rfl⟩ [] [] (by simp only [List.append_assoc, List.nil_append, List.cons_append]) (ws' := ((wO G x A now nx sz hs ahead) ++ [])) (by simp only [List.append_assoc, List.nil_append, List.cons_append]) (st' := [.int (q_ho now (20 + k))]) rfl ⟨rfl, rfl⟩ ⟨Nat.le_of_ble_eq_true rfl, Nat.le_of_ble_eq_true rfl⟩ ?_
        refine x_bipush (v := (nI 10)) C dL_areSums_112 (by decide) ?_
        refine x_icmp_ge (x := (q_ho now (20 + k))) (y := 10) (tgt := 211) C dL_areSums_114 (by decide) (fun c54 => False.elim (by exact c54 (ok_lt (n := 10) hH.2.2.1 (by omega) (by omega)))) (fun c54 => ?_)
        refine x_aload_n C 7 rfl dL_areSums_117 rfl ?_
        refine x_iload C 5 rfl dL_areSums_118 ?_
        refine x_iconst (v := (nI 3)) C dL_areSums_120 (by decide) ?_
        refine x_callVd (As := [.int (nI k), .int (nI 3)]) (rest := []) C dL_areSums_121 (c_N_horse (gX.l X) G x A now nx sz hs ahead k 3 (30 + k) hS hnx hsz (by omega) (by omega) (by omega)) ml_L_39 im_X5_horse sl_X5_horse in_X5 cd_X5_horse hd_X5_horse 0 rfl rfl rfl rfl (Nat.le_of_ble_eq_true rfl) ⟨Nat.le_of_ble_eq_true rfl, Nat.le_of_ble_eq_true rfl⟩ [] [] (by simp only [List.append_assoc, List.nil_append, List.cons_append]) (ws' := ((wO G x A now nx sz hs ahead) ++ [])) (by simp only [List.append_assoc, List.nil_append, List.cons_append]) (st' := [.int (q_ho now (30 + k))]) rfl ⟨rfl, rfl⟩ ⟨Nat.le_of_ble_eq_true rfl, Nat.le_of_ble_eq_true rfl⟩ ?_
        refine x_if_lt (x := (q_ho now (30 + k))) (tgt := 211) C dL_areSums_124 (by decide) (fun c55 => False.elim (by exact ok_nn hH.2.2.2.2.2.2.1.1 (by omega) c55)) (fun c55 => ?_)
        refine x_aload_n C 7 rfl dL_areSums_127 rfl ?_
        refine x_iload C 5 rfl dL_areSums_128 ?_
        refine x_iconst (v := (nI 3)) C dL_areSums_130 (by decide) ?_
        refine x_callVd (As := [.int (nI k), .int (nI 3)]) (rest := []) C dL_areSums_131 (c_N_horse (gX.l X) G x A now nx sz hs ahead k 3 (30 + k) hS hnx hsz (by omega) (by omega) (by omega)) ml_L_39 im_X5_horse sl_X5_horse in_X5 cd_X5_horse hd_X5_horse 0 rfl rfl rfl rfl (Nat.le_of_ble_eq_true rfl) ⟨Nat.le_of_ble_eq_true rfl, Nat.le_of_ble_eq_true rfl⟩ [] [] (by simp only [List.append_assoc, List.nil_append, List.cons_append]) (ws' := ((wO G x A now nx sz hs ahead) ++ [])) (by simp only [List.append_assoc, List.nil_append, List.cons_append]) (st' := [.int (q_ho now (30 + k))]) rfl ⟨rfl, rfl⟩ ⟨Nat.le_of_ble_eq_true rfl, Nat.le_of_ble_eq_true rfl⟩ ?_
        refine x_aload_n C 7 rfl dL_areSums_134 rfl ?_
        refine x_iload C 5 rfl dL_areSums_135 ?_
        refine x_bipush (v := (nI 6)) C dL_areSums_137 (by decide) ?_
        refine x_callVd (As := [.int (nI k), .int (nI 6)]) (rest := [.int (q_ho now (30 + k))]) C dL_areSums_139 (c_N_horse (gX.l X) G x A now nx sz hs ahead k 6 (60 + k) hS hnx hsz (by omega) (by omega) (by omega)) ml_L_39 im_X5_horse sl_X5_horse in_X5 cd_X5_horse hd_X5_horse 0 rfl rfl rfl rfl (Nat.le_of_ble_eq_true rfl) ⟨Nat.le_of_ble_eq_true rfl, Nat.le_of_ble_eq_true rfl⟩ [] [] (by simp only [List.append_assoc, List.nil_append, List.cons_append]) (ws' := ((wO G x A now nx sz hs ahead) ++ [])) (by simp only [List.append_assoc, List.nil_append, List.cons_append]) (st' := [.int (q_ho now (60 + k)), .int (q_ho now (30 + k))]) rfl ⟨rfl, rfl⟩ ⟨Nat.le_of_ble_eq_true rfl, Nat.le_of_ble_eq_true rfl⟩ ?_
        refine x_icmp_gt (x := (q_ho now (30 + k))) (y := (q_ho now (60 + k))) (tgt := 211) C dL_areSums_142 (by decide) (fun c56 => False.elim (by exact ok_le hH.2.2.2.2.2.2.1.1 hH.2.2.2.2.2.1 hH.2.2.2.2.2.2.1.2 (by omega) (by omega) c56)) (fun c56 => ?_)
        refine x_aload_n C 7 rfl dL_areSums_145 rfl ?_
        refine x_iload C 5 rfl dL_areSums_146 ?_
        refine x_iconst (v := (nI 4)) C dL_areSums_148 (by decide) ?_
        refine x_callVd (As := [.int (nI k), .int (nI 4)]) (rest := []) C dL_areSums_149 (c_N_horse (gX.l X) G x A now nx sz hs ahead k 4 (40 + k) hS hnx hsz (by omega) (by omega) (by omega)) ml_L_39 im_X5_horse sl_X5_horse in_X5 cd_X5_horse hd_X5_horse 0 rfl rfl rfl rfl (Nat.le_of_ble_eq_true rfl) ⟨Nat.le_of_ble_eq_true rfl, Nat.le_of_ble_eq_true rfl⟩ [] [] (by simp only [List.append_assoc, List.nil_append, List.cons_append]) (ws' := ((wO G x A now nx sz hs ahead) ++ [])) (by simp only [List.append_assoc, List.nil_append, List.cons_append]) (st' := [.int (q_ho now (40 + k))]) rfl ⟨rfl, rfl⟩ ⟨Nat.le_of_ble_eq_true rfl, Nat.le_of_ble_eq_true rfl⟩ ?_
        refine x_if_lt (x := (q_ho now (40 + k))) (tgt := 211) C dL_areSums_152 (by decide) (fun c57 => False.elim (by exact ok_nn hH.2.2.2.1 (by omega) c57)) (fun c57 => ?_)
        refine x_aload_n C 7 rfl dL_areSums_155 rfl ?_
        refine x_iload C 5 rfl dL_areSums_156 ?_
        refine x_iconst (v := (nI 4)) C dL_areSums_158 (by decide) ?_
        refine x_callVd (As := [.int (nI k), .int (nI 4)]) (rest := []) C dL_areSums_159 (c_N_horse (gX.l X) G x A now nx sz hs ahead k 4 (40 + k) hS hnx hsz (by omega) (by omega) (by omega)) ml_L_39 im_X5_horse sl_X5_horse in_X5 cd_X5_horse hd_X5_horse 0 rfl rfl rfl rfl (Nat.le_of_ble_eq_true rfl) ⟨Nat.le_of_ble_eq_true rfl, Nat.le_of_ble_eq_true rfl⟩ [] [] (by simp only [List.append_assoc, List.nil_append, List.cons_append]) (ws' := ((wO G x A now nx sz hs ahead) ++ [])) (by simp only [List.append_assoc, List.nil_append, List.cons_append]) (st' := [.int (q_ho now (40 + k))]) rfl ⟨rfl, rfl⟩ ⟨Nat.le_of_ble_eq_true rfl, Nat.le_of_ble_eq_true rfl⟩ ?_
        refine x_iconst (v := (nI 3)) C dL_areSums_162 (by decide) ?_
        refine x_icmp_ge (x := (q_ho now (40 + k))) (y := 3) (tgt := 211) C dL_areSums_163 (by decide) (fun c58 => False.elim (by exact c58 (ok_lt (n := 3) hH.2.2.2.1 (by omega) (by omega)))) (fun c58 => ?_)
        refine x_aload_n C 7 rfl dL_areSums_166 rfl ?_
        refine x_iload C 5 rfl dL_areSums_167 ?_
        refine x_iconst (v := (nI 5)) C dL_areSums_169 (by decide) ?_
        refine x_callVd (As := [.int (nI k), .int (nI 5)]) (rest := []) C dL_areSums_170 (c_N_horse (gX.l X) G x A now nx sz hs ahead k 5 (50 + k) hS hnx hsz (by omega) (by omega) (by omega)) ml_L_39 im_X5_horse sl_X5_horse in_X5 cd_X5_horse hd_X5_horse 0 rfl rfl rfl rfl (Nat.le_of_ble_eq_true rfl) ⟨Nat.le_of_ble_eq_true rfl, Nat.le_of_ble_eq_true rfl⟩ [] [] (by simp only [List.append_assoc, List.nil_append, List.cons_append]) (ws' := ((wO G x A now nx sz hs ahead) ++ [])) (by simp only [List.append_assoc, List.nil_append, List.cons_append]) (st' := [.int (q_ho now (50 + k))]) rfl ⟨rfl, rfl⟩ ⟨Nat.le_of_ble_eq_true rfl, Nat.le_of_ble_eq_true rfl⟩ ?_
        refine x_if_lt (x := (q_ho now (50 + k))) (tgt := 211) C dL_areSums_173 (by decide) (fun c59 => False.elim (by exact ok_nn hH.2.2.2.2.1 (by omega) c59)) (fun c59 => ?_)
        refine x_aload_n C 7 rfl dL_areSums_176 rfl ?_
        refine x_iload C 5 rfl dL_areSums_177 ?_
        refine x_iconst (v := (nI 5)) C dL_areSums_179 (by decide) ?_
        refine x_callVd (As := [.int (nI k), .int (nI 5)]) (rest := []) C dL_areSums_180 (c_N_horse (gX.l X) G x A now nx sz hs ahead k 5 (50 + k) hS hnx hsz (by omega) (by omega) (by omega)) ml_L_39 im_X5_horse sl_X5_horse in_X5 cd_X5_horse hd_X5_horse 0 rfl rfl rfl rfl (Nat.le_of_ble_eq_true rfl) ⟨Nat.le_of_ble_eq_true rfl, Nat.le_of_ble_eq_true rfl⟩ [] [] (by simp only [List.append_assoc, List.nil_append, List.cons_append]) (ws' := ((wO G x A now nx sz hs ahead) ++ [])) (by simp only [List.append_assoc, List.nil_append, List.cons_append]) (st' := [.int (q_ho now (50 + k))]) rfl ⟨rfl, rfl⟩ ⟨Nat.le_of_ble_eq_true rfl, Nat.le_of_ble_eq_true rfl⟩ ?_
        refine x_bipush (v := (nI 100)) C dL_areSums_183 (by decide) ?_
        refine x_icmp_ge (x := (q_ho now (50 + k))) (y := 100) (tgt := 211) C dL_areSums_185 (by decide) (fun c60 => False.elim (by exact c60 (ok_lt (n := 100) hH.2.2.2.2.1 (by omega) (by omega)))) (fun c60 => ?_)
        refine x_aload_n C 7 rfl dL_areSums_188 rfl ?_
        refine x_iload C 5 rfl dL_areSums_189 ?_
        refine x_bipush (v := (nI 7)) C dL_areSums_191 (by decide) ?_
        refine x_callVd (As := [.int (nI k), .int (nI 7)]) (rest := []) C dL_areSums_193 (c_N_horse (gX.l X) G x A now nx sz hs ahead k 7 (70 + k) hS hnx hsz (by omega) (by omega) (by omega)) ml_L_39 im_X5_horse sl_X5_horse in_X5 cd_X5_horse hd_X5_horse 0 rfl rfl rfl rfl (Nat.le_of_ble_eq_true rfl) ⟨Nat.le_of_ble_eq_true rfl, Nat.le_of_ble_eq_true rfl⟩ [] [] (by simp only [List.append_assoc, List.nil_append, List.cons_append]) (ws' := ((wO G x A now nx sz hs ahead) ++ [])) (by simp only [List.append_assoc, List.nil_append, List.cons_append]) (st' := [.int (q_ho now (70 + k))]) rfl ⟨rfl, rfl⟩ ⟨Nat.le_of_ble_eq_true rfl, Nat.le_of_ble_eq_true rfl⟩ ?_
        refine x_aload_n C 7 rfl dL_areSums_196 rfl ?_
        refine x_iload C 5 rfl dL_areSums_197 ?_
        refine x_bipush (v := (nI 6)) C dL_areSums_199 (by decide) ?_
        refine x_callVd (As := [.int (nI k), .int (nI 6)]) (rest := [.int (q_ho now (70 + k))]) C dL_areSums_201 (c_N_horse (gX.l X) G x A now nx sz hs ahead k 6 (60 + k) hS hnx hsz (by omega) (by omega) (by omega)) ml_L_39 im_X5_horse sl_X5_horse in_X5 cd_X5_horse hd_X5_horse 0 rfl rfl rfl rfl (Nat.le_of_ble_eq_true rfl) ⟨Nat.le_of_ble_eq_true rfl, Nat.le_of_ble_eq_true rfl⟩ [] [] (by simp only [List.append_assoc, List.nil_append, List.cons_append]) (ws' := ((wO G x A now nx sz hs ahead) ++ [])) (by simp only [List.append_assoc, List.nil_append, List.cons_append]) (st' := [.int (q_ho now (60 + k)), .int (q_ho now (70 + k))]) rfl ⟨rfl, rfl⟩ ⟨Nat.le_of_ble_eq_true rfl, Nat.le_of_ble_eq_true rfl⟩ ?_
        refine x_icmp_gt (x := (q_ho now (70 + k))) (y := (q_ho now (60 + k))) (tgt := 211) C dL_areSums_204 (by decide) (fun c61 => False.elim (by exact ok_le hH.2.2.2.2.2.2.2.1 hH.2.2.2.2.2.1 hH.2.2.2.2.2.2.2.2 (by omega) (by omega) c61)) (fun c61 => ?_)
        refine x_iconst (v := (nI 1)) C dL_areSums_207 (by decide) ?_
        refine x_goto (tgt := 212) C dL_areSums_208 (by decide) ?_
        refine x_istore (lv' := [(6, .int (nI 1)), (5, .int (a5 + (bI (0 < (q_ho now (50 + k)))))), (4, .int (a4 + (q_ho now (20 + k)))), (3, .int (a3 + (q_ho now (80 + k)))), (2, .int (a2 + (q_ho now (70 + k)))), (1, .int (a1 + (q_ho now (60 + k)))), (7, .int (nI k)), (0, .ref x)]) C dL_areSums_212 (by decide) rfl ?_
        refine x_iinc (v := (nI (k + 1))) (lv' := [(7, .int (nI (k + 1))), (6, .int (nI 1)), (5, .int (a5 + (bI (0 < (q_ho now (50 + k)))))), (4, .int (a4 + (q_ho now (20 + k)))), (3, .int (a3 + (q_ho now (80 + k)))), (2, .int (a2 + (q_ho now (70 + k)))), (1, .int (a1 + (q_ho now (60 + k)))), (0, .ref x)]) C 6 rfl dL_areSums_214 (by rw [show Int32.ofInt 1 = nI 1 from rfl]; exact nI_add _ _) (by decide) rfl ?_
        refine x_goto (tgt := 18) C dL_areSums_217 (by decide) ?_
        exact ih (k + 1) (a1 + (q_ho now (60 + k))) (a2 + (q_ho now (70 + k))) (a3 + (q_ho now (80 + k))) (a4 + (q_ho now (20 + k))) (a5 + (bI (0 < (q_ho now (50 + k))))) (by omega) (by rw [h1]; rfl) (by rw [h2]; rfl) (by rw [h3]; rfl) (by rw [h4]; rfl) (by rw [h5]; rfl)
      refine x_if_le (x := (q_ho now (50 + k))) (tgt := 86) C dL_areSums_79 (by decide) (fun c49 => ?_) (fun c49 => ?_)
      · refine x_iconst (v := (nI 0)) C dL_areSums_86 (by decide) ?_
        exact J50 (nI 0) (bI_f (by simp only [c49, if_true, if_false, ite_true, ite_false, and_true, true_and, and_false, false_and, or_true, true_or, or_false, false_or, not_true_eq_false, not_false_eq_true, and_self, or_self] <;> decide)).symm
      · refine x_iconst (v := (nI 1)) C dL_areSums_82 (by decide) ?_
        refine x_goto (tgt := 87) C dL_areSums_83 (by decide) ?_
        exact J50 (nI 1) (bI_t (by simp only [c49, if_true, if_false, ite_true, ite_false, and_true, true_and, and_false, false_and, or_true, true_or, or_false, false_or, not_true_eq_false, not_false_eq_true, and_self, or_self] <;> decide)).symm
  exact L1 10 0 0 0 0 0 0 (by omega) (by rfl) (by rfl) (by rfl) (by rfl) (by rfl)
