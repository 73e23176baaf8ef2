def rm_L_isBestSo : Room := { frames := 7, cells := 0, slots := 0, locals := 171 }
set_option maxRecDepth 100000 in
set_option maxHeartbeats 600000 in
theorem c_L_isBestSo (l : Launch) (G : gG) (x : Nat) (A : oA) (now : c_S) (nx sz : Nat) (hs : Nat → c_S) (ahead : c_S) (r : Nat)  (hS : okS 10000 now) (hnx : nx < 4) (hsz : sz ≤ 4) (hI : INV now) (hr0 : r < 12) : CT l yL_isBestSo cL_isBestSo 10 (some .boolean) rm_L_isBestSo G [.ref x, .int (nI r)] ((wO G x A now nx sz hs ahead) ++ []) (some (.int (nI 1))) (fun u => ((wO G x A now nx sz hs (decS u)) ++ [])) := by
  refine gMet (by decide) (Nat.le_of_ble_eq_true rfl) (fun X hX C hr hin E => ?_)
  clear hX
  refine (show gW G X ((wO G x A now nx sz hs ahead) ++ []) 0 0 0 [(0, .ref x), (1, .int (nI r))] [] from ?_)
  have hS1 := hS.1
  have hS2 := hS.2.1
  have hS3 := hS.2.2.1
  have hS4 := hS.2.2.2
  have hti : q_ti now ≤ 2 ^ 31 := by omega
  have hFA := hI.2.2.2.2.2.2
  refine x_aload_n C 0 rfl dL_isBestSo_0 rfl ?_
  refine x_iload_n C 1 rfl dL_isBestSo_1 rfl ?_
  refine x_callVd (As := [.int (nI r)]) (rest := []) C dL_isBestSo_2 (c_N_best (gX.l X) G x A now nx sz hs ahead r hS hnx hsz (by omega)) ml_L_55 im_X5_best sl_X5_best in_X5 cd_X5_best hd_X5_best 0 rfl rfl rfl rfl (Nat.le_of_ble_eq_true rfl) ⟨Nat.le_of_ble_eq_true rfl, Nat.le_of_ble_eq_true rfl⟩ [] [] (by simp only [List.append_assoc, List.nil_append, List.cons_append]) (ws' := ((wO G x A now nx sz hs ahead) ++ [])) (by simp only [List.append_assoc, List.nil_append, List.cons_append]) (st' := [.int (k_bst now r)]) rfl ⟨rfl, rfl⟩ ⟨Nat.le_of_ble_eq_true rfl, Nat.le_of_ble_eq_true rfl⟩ ?_
  refine x_gen (fun f f_e => ?_)
  have hf := bst_is hI f_e
  refine x_istore_n (lv' := [(2, .int f), (0, .ref x), (1, .int (nI r))]) C dL_isBestSo_5 rfl (by decide) rfl ?_
  refine x_iload_n C 0 rfl dL_isBestSo_6 rfl ?_
  refine x_bipush (v := (-5)) C dL_isBestSo_7 (by decide) ?_
  have J4 : ∀ (y5 : c_S) , y5 = (if f = (-5) then ahead else (kX_takenIn now ahead (nI (nC f)) (nI r)).2) → gW G X ((wO G x A now nx sz hs y5) ++ []) 0 0 30 [(2, .int f), (0, .ref x), (1, .int (nI r))] [] := by
    intro y5 ey5
    subst ey5
    refine x_iconst (v := (nI 1)) C dL_isBestSo_30 (by decide) ?_
    refine x_goto (tgt := 35) C dL_isBestSo_31 (by decide) ?_
    refine x_istore_n (lv' := [(3, .int (nI 1)), (2, .int f), (0, .ref x), (1, .int (nI r))]) C dL_isBestSo_35 rfl (by decide) rfl ?_
    refine x_iload_n C 1 rfl dL_isBestSo_36 rfl ?_
    refine x_bipush (v := (-5)) C dL_isBestSo_37 (by decide) ?_
    have J8 : ∀ (y9 : Int32) , y9 = bI (¬ (f = (-5)) ∧ ((c_abil (q_ri now) r) < (q_ho now (10 + (nC f))))) → gW G X ((wO G x A now nx sz hs (if f = (-5) then ahead else (kX_takenIn now ahead (nI (nC f)) (nI r)).2)) ++ []) 0 0 66 [(3, .int (nI 1)), (2, .int f), (0, .ref x), (1, .int (nI r))] [.int y9] := by
      intro y9 ey9
      subst ey9
      refine x_istore (lv' := [(4, .int (bI (¬ (f = (-5)) ∧ ((c_abil (q_ri now) r) < (q_ho now (10 + (nC f))))))), (3, .int (nI 1)), (2, .int f), (0, .ref x), (1, .int (nI r))]) C dL_isBestSo_66 (by decide) rfl ?_
      refine x_iconst (v := (nI 0)) C dL_isBestSo_68 (by decide) ?_
      refine x_istore (lv' := [(5, .int (nI 0)), (4, .int (bI (¬ (f = (-5)) ∧ ((c_abil (q_ri now) r) < (q_ho now (10 + (nC f))))))), (3, .int (nI 1)), (2, .int f), (0, .ref x), (1, .int (nI r))]) C dL_isBestSo_69 (by decide) rfl ?_
      have L10 : ∀ (fu : Nat) (k : Nat) (ah : c_S), k + fu = 10 → gW G X ((wO G x A now nx sz hs ah) ++ []) 0 0 71 [(5, .int (nI k)), (4, .int (bI (¬ (f = (-5)) ∧ ((c_abil (q_ri now) r) < (q_ho now (10 + (nC f))))))), (3, .int (nI 1)), (2, .int f), (0, .ref x), (1, .int (nI r))] [] := by
        intro fu
        induction fu with
        | zero =>
          intro k ah hn
          refine x_iload C 0 rfl dL_isBestSo_71 ?_
          refine x_bipush (v := (nI 10)) C dL_isBestSo_73 (by decide) ?_
          refine x_icmp_geN (a := k) (b := 10) (tgt := 418) C dL_isBestSo_75 (by decide) (by omega) (by omega) (fun c11 => ?_) (fun c11 => False.elim (by omega))
          refine x_iconst (v := (nI 1)) C dL_isBestSo_418 (by decide) ?_
          refine x_istore (lv' := [(5, .int (nI 1)), (4, .int (bI (¬ (f = (-5)) ∧ ((c_abil (q_ri now) r) < (q_ho now (10 + (nC f))))))), (3, .int (nI 1)), (2, .int f), (0, .ref x), (1, .int (nI r))]) C dL_isBestSo_419 (by decide) rfl ?_
          have L12 : ∀ (fu : Nat) (j : Nat), j + fu = 20 → (1 ≤ j) → gW G X ((wO G x A now nx sz hs ah) ++ []) 0 0 421 [(5, .int (nI j)), (4, .int (bI (¬ (f = (-5)) ∧ ((c_abil (q_ri now) r) < (q_ho now (10 + (nC f))))))), (3, .int (nI 1)), (2, .int f), (0, .ref x), (1, .int (nI r))] [] := by
            intro fu
            induction fu with
            | zero =>
              intro j hn hj1
              refine x_iload C 0 rfl dL_isBestSo_421 ?_
              refine x_bipush (v := (nI 20)) C dL_isBestSo_423 (by decide) ?_
              refine x_icmp_geN (a := j) (b := 20) (tgt := 490) C dL_isBestSo_425 (by decide) (by omega) (by omega) (fun c13 => ?_) (fun c13 => False.elim (by omega))
              refine x_iload_n C 2 rfl dL_isBestSo_490 rfl ?_
              refine x_if_eqN (a := 1) (tgt := 540) C dL_isBestSo_491 (by decide) (by omega) (fun c14 => False.elim (by omega)) (fun c14 => ?_)
              refine x_aload_n C 4 rfl dL_isBestSo_494 rfl ?_
              refine x_bipush (v := (nI 20)) C dL_isBestSo_495 (by decide) ?_
              refine x_iconst (v := (nI 0)) C dL_isBestSo_497 (by decide) ?_
              refine x_callVd (As := [.int (nI 20), .int (nI 0)]) (rest := []) C dL_isBestSo_498 (c_N_fall (gX.l X) G x A now nx sz hs ah 20 0 hS hnx hsz (by omega) (by omega)) ml_L_45 im_X5_fall sl_X5_fall in_X5 cd_X5_fall hd_X5_fall 0 rfl rfl rfl rfl (Nat.le_of_ble_eq_true rfl) ⟨Nat.le_of_ble_eq_true rfl, Nat.le_of_ble_eq_true rfl⟩ [] [] (by simp only [List.append_assoc, List.nil_append, List.cons_append]) (ws' := ((wO G x A now nx sz hs ah) ++ [])) (by simp only [List.append_assoc, List.nil_append, List.cons_append]) (st' := [.int (c_ofFall (q_fs now) (q_fc now) 20 0)]) rfl ⟨rfl, rfl⟩ ⟨Nat.le_of_ble_eq_true rfl, Nat.le_of_ble_eq_true rfl⟩ ?_
              refine x_bipush (v := (-5)) C dL_isBestSo_501 (by decide) ?_
              refine x_icmp_ne (x := (c_ofFall (q_fs now) (q_fc now) 20 0)) (y := (-5)) (tgt := 540) C dL_isBestSo_503 (by decide) (fun c15 => False.elim (by exact c15 fa_20)) (fun c15 => ?_)
              refine x_aload_n C 4 rfl dL_isBestSo_506 rfl ?_
              refine x_iconst (v := (nI 0)) C dL_isBestSo_507 (by decide) ?_
              refine x_iconst (v := (nI 0)) C dL_isBestSo_508 (by decide) ?_
              refine x_callVd (As := [.int (nI 0), .int (nI 0)]) (rest := []) C dL_isBestSo_509 (c_N_fall (gX.l X) G x A now nx sz hs ah 0 0 hS hnx hsz (by omega) (by omega)) ml_L_45 im_X5_fall sl_X5_fall in_X5 cd_X5_fall hd_X5_fall 0 rfl rfl rfl rfl (Nat.le_of_ble_eq_true rfl) ⟨Nat.le_of_ble_eq_true rfl, Nat.le_of_ble_eq_true rfl⟩ [] [] (by simp only [List.append_assoc, List.nil_append, List.cons_append]) (ws' := ((wO G x A now nx sz hs ah) ++ [])) (by simp only [List.append_assoc, List.nil_append, List.cons_append]) (st' := [.int (c_ofFall (q_fs now) (q_fc now) 0 0)]) rfl ⟨rfl, rfl⟩ ⟨Nat.le_of_ble_eq_true rfl, Nat.le_of_ble_eq_true rfl⟩ ?_
              have J17 : ∀ (y18 : Int32) , y18 = bI (¬ ((c_ofFall (q_fs now) (q_fc now) 0 0) < 0)) → gW G X ((wO G x A now nx sz hs ah) ++ []) 0 0 520 [(5, .int (nI j)), (4, .int (bI (¬ (f = (-5)) ∧ ((c_abil (q_ri now) r) < (q_ho now (10 + (nC f))))))), (3, .int (nI 1)), (2, .int f), (0, .ref x), (1, .int (nI r))] [.int y18] := by
                intro y18 ey18
                subst ey18
                refine x_aload_n C 4 rfl dL_isBestSo_520 rfl ?_
                refine x_iconst (v := (nI 5)) C dL_isBestSo_521 (by decide) ?_
                refine x_callVd (As := [.int (nI 5)]) (rest := [.int (bI (¬ ((c_ofFall (q_fs now) (q_fc now) 0 0) < 0)))]) C dL_isBestSo_522 (c_N_count5 (gX.l X) G x A now nx sz hs ah hS hnx hsz) ml_L_36 im_X5_count sl_X5_count in_X5 cd_X5_count hd_X5_count 0 rfl rfl rfl rfl (Nat.le_of_ble_eq_true rfl) ⟨Nat.le_of_ble_eq_true rfl, Nat.le_of_ble_eq_true rfl⟩ [] [] (by simp only [List.append_assoc, List.nil_append, List.cons_append]) (ws' := ((wO G x A now nx sz hs ah) ++ [])) (by simp only [List.append_assoc, List.nil_append, List.cons_append]) (st' := [.int (nI (q_fc now)), .int (bI (¬ ((c_ofFall (q_fs now) (q_fc now) 0 0) < 0)))]) rfl ⟨rfl, rfl⟩ ⟨Nat.le_of_ble_eq_true rfl, Nat.le_of_ble_eq_true rfl⟩ ?_
                have J20 : ∀ (y21 : Int32) , y21 = bI (0 < (q_fc now)) → gW G X ((wO G x A now nx sz hs ah) ++ []) 0 0 533 [(5, .int (nI j)), (4, .int (bI (¬ (f = (-5)) ∧ ((c_abil (q_ri now) r) < (q_ho now (10 + (nC f))))))), (3, .int (nI 1)), (2, .int f), (0, .ref x), (1, .int (nI r))] [.int y21, .int (bI (¬ ((c_ofFall (q_fs now) (q_fc now) 0 0) < 0)))] := by
                  intro y21 ey21
                  subst ey21
                  refine x_icmp_ne (x := (bI (¬ ((c_ofFall (q_fs now) (q_fc now) 0 0) < 0)))) (y := (bI (0 < (q_fc now)))) (tgt := 540) C dL_isBestSo_533 (by decide) (fun c22 => False.elim (by exact c22 (bI_iff (fa_0 hti hFA)))) (fun c22 => ?_)
                  refine x_iconst (v := (nI 1)) C dL_isBestSo_536 (by decide) ?_
                  refine x_goto (tgt := 541) C dL_isBestSo_537 (by decide) ?_
                  exact x_zret C hr (by rfl) E dL_isBestSo_541 (encS ah) rfl (by rw [decS_enc])
                refine x_if_leN (a := (q_fc now)) (tgt := 532) C dL_isBestSo_525 (by decide) (by omega) (fun c19 => ?_) (fun c19 => ?_)
                · refine x_iconst (v := (nI 0)) C dL_isBestSo_532 (by decide) ?_
                  exact J20 (nI 0) (bI_f (by simp only [c19, if_true, if_false, ite_true, ite_false, and_true, true_and, and_false, false_and, or_true, true_or, or_false, false_or, not_true_eq_false, not_false_eq_true, and_self, or_self] <;> decide)).symm
                · refine x_iconst (v := (nI 1)) C dL_isBestSo_528 (by decide) ?_
                  refine x_goto (tgt := 533) C dL_isBestSo_529 (by decide) ?_
                  exact J20 (nI 1) (bI_t (by simp only [c19, if_true, if_false, ite_true, ite_false, and_true, true_and, and_false, false_and, or_true, true_or, or_false, false_or, not_true_eq_false, not_false_eq_true, and_self, or_self] <;> decide)).symm
              refine x_if_lt (x := (c_ofFall (q_fs now) (q_fc now) 0 0)) (tgt := 519) C dL_isBestSo_512 (by decide) (fun c16 => ?_) (fun c16 => ?_)
              · refine x_iconst (v := (nI 0)) C dL_isBestSo_519 (by decide) ?_
                exact J17 (nI 0) (bI_f (by simp only [c16, if_true, if_false, ite_true, ite_false, and_true, true_and, and_false, false_and, or_true, true_or, or_false, false_or, not_true_eq_false, not_false_eq_true, and_self, or_self] <;> decide)).symm
              · refine x_iconst (v := (nI 1)) C dL_isBestSo_515 (by decide) ?_
                refine x_goto (tgt := 520) C dL_isBestSo_516 (by decide) ?_
                exact J17 (nI 1) (bI_t (by simp only [c16, if_true, if_false, ite_true, ite_false, and_true, true_and, and_false, false_and, or_true, true_or, or_false, false_or, not_true_eq_false, not_false_eq_true, and_self, or_self] <;> decide)).symm
            | succ fu ih =>
              intro j hn hj1
              refine x_iload C 0 rfl dL_isBestSo_421 ?_
              refine x_bipush (v := (nI 20)) C dL_isBestSo_423 (by decide) ?_
              refine x_icmp_geN (a := j) (b := 20) (tgt := 490) C dL_isBestSo_425 (by decide) (by omega) (by omega) (fun c23 => False.elim (by omega)) (fun c23 => ?_)
              refine x_aload_n C 4 rfl dL_isBestSo_428 rfl ?_
              refine x_iload C 0 rfl dL_isBestSo_429 ?_
              refine x_iconst (v := (nI 0)) C dL_isBestSo_431 (by decide) ?_
              refine x_callVd (As := [.int (nI j), .int (nI 0)]) (rest := []) C dL_isBestSo_432 (c_N_fall (gX.l X) G x A now nx sz hs ah j 0 hS hnx hsz (by omega) (by omega)) ml_L_45 im_X5_fall sl_X5_fall in_X5 cd_X5_fall hd_X5_fall 0 rfl rfl rfl rfl (Nat.le_of_ble_eq_true rfl) ⟨Nat.le_of_ble_eq_true rfl, Nat.le_of_ble_eq_true rfl⟩ [] [] (by simp only [List.append_assoc, List.nil_append, List.cons_append]) (ws' := ((wO G x A now nx sz hs ah) ++ [])) (by simp only [List.append_assoc, List.nil_append, List.cons_append]) (st' := [.int (c_ofFall (q_fs now) (q_fc now) j 0)]) rfl ⟨rfl, rfl⟩ ⟨Nat.le_of_ble_eq_true rfl, Nat.le_of_ble_eq_true rfl⟩ ?_
              refine x_if_lt (x := (c_ofFall (q_fs now) (q_fc now) j 0)) (tgt := 490) C dL_isBestSo_435 (by decide) (fun c24 => ?_) (fun c24 => ?_)
              · refine x_iload_n C 2 rfl dL_isBestSo_490 rfl ?_
                refine x_if_eqN (a := 1) (tgt := 540) C dL_isBestSo_491 (by decide) (by omega) (fun c25 => False.elim (by omega)) (fun c25 => ?_)
                refine x_aload_n C 4 rfl dL_isBestSo_494 rfl ?_
                refine x_bipush (v := (nI 20)) C dL_isBestSo_495 (by decide) ?_
                refine x_iconst (v := (nI 0)) C dL_isBestSo_497 (by decide) ?_
                refine x_callVd (As := [.int (nI 20), .int (nI 0)]) (rest := []) C dL_isBestSo_498 (c_N_fall (gX.l X) G x A now nx sz hs ah 20 0 hS hnx hsz (by omega) (by omega)) ml_L_45 im_X5_fall sl_X5_fall in_X5 cd_X5_fall hd_X5_fall 0 rfl rfl rfl rfl (Nat.le_of_ble_eq_true rfl) ⟨Nat.le_of_ble_eq_true rfl, Nat.le_of_ble_eq_true rfl⟩ [] [] (by simp only [List.append_assoc, List.nil_append, List.cons_append]) (ws' := ((wO G x A now nx sz hs ah) ++ [])) (by simp only [List.append_assoc, List.nil_append, List.cons_append]) (st' := [.int (c_ofFall (q_fs now) (q_fc now) 20 0)]) rfl ⟨rfl, rfl⟩ ⟨Nat.le_of_ble_eq_true rfl, Nat.le_of_ble_eq_true rfl⟩ ?_
                refine x_bipush (v := (-5)) C dL_isBestSo_501 (by decide) ?_
                refine x_icmp_ne (x := (c_ofFall (q_fs now) (q_fc now) 20 0)) (y := (-5)) (tgt := 540) C dL_isBestSo_503 (by decide) (fun c26 => False.elim (by exact c26 fa_20)) (fun c26 => ?_)
                refine x_aload_n C 4 rfl dL_isBestSo_506 rfl ?_
                refine x_iconst (v := (nI 0)) C dL_isBestSo_507 (by decide) ?_
                refine x_iconst (v := (nI 0)) C dL_isBestSo_508 (by decide) ?_
                refine x_callVd (As := [.int (nI 0), .int (nI 0)]) (rest := []) C dL_isBestSo_509 (c_N_fall (gX.l X) G x A now nx sz hs ah 0 0 hS hnx hsz (by omega) (by omega)) ml_L_45 im_X5_fall sl_X5_fall in_X5 cd_X5_fall hd_X5_fall 0 rfl rfl rfl rfl (Nat.le_of_ble_eq_true rfl) ⟨Nat.le_of_ble_eq_true rfl, Nat.le_of_ble_eq_true rfl⟩ [] [] (by simp only [List.append_assoc, List.nil_append, List.cons_append]) (ws' := ((wO G x A now nx sz hs ah) ++ [])) (by simp only [List.append_assoc, List.nil_append, List.cons_append]) (st' := [.int (c_ofFall (q_fs now) (q_fc now) 0 0)]) rfl ⟨rfl, rfl⟩ ⟨Nat.le_of_ble_eq_true rfl, Nat.le_of_ble_eq_true rfl⟩ ?_
                have J28 : ∀ (y29 : Int32) , y29 = bI (¬ ((c_ofFall (q_fs now) (q_fc now) 0 0) < 0)) → gW G X ((wO G x A now nx sz hs ah) ++ []) 0 0 520 [(5, .int (nI j)), (4, .int (bI (¬ (f = (-5)) ∧ ((c_abil (q_ri now) r) < (q_ho now (10 + (nC f))))))), (3, .int (nI 1)), (2, .int f), (0, .ref x), (1, .int (nI r))] [.int y29] := by
                  intro y29 ey29
                  subst ey29
                  refine x_aload_n C 4 rfl dL_isBestSo_520 rfl ?_
                  refine x_iconst (v := (nI 5)) C dL_isBestSo_521 (by decide) ?_
                  refine x_callVd (As := [.int (nI 5)]) (rest := [.int (bI (¬ ((c_ofFall (q_fs now) (q_fc now) 0 0) < 0)))]) C dL_isBestSo_522 (c_N_count5 (gX.l X) G x A now nx sz hs ah hS hnx hsz) ml_L_36 im_X5_count sl_X5_count in_X5 cd_X5_count hd_X5_count 0 rfl rfl rfl rfl (Nat.le_of_ble_eq_true rfl) ⟨Nat.le_of_ble_eq_true rfl, Nat.le_of_ble_eq_true rfl⟩ [] [] (by simp only [List.append_assoc, List.nil_append, List.cons_append]) (ws' := ((wO G x A now nx sz hs ah) ++ [])) (by simp only [List.append_assoc, List.nil_append, List.cons_append]) (st' := [.int (nI (q_fc now)), .int (bI (¬ ((c_ofFall (q_fs now) (q_fc now) 0 0) < 0)))]) rfl ⟨rfl, rfl⟩ ⟨Nat.le_of_ble_eq_true rfl, Nat.le_of_ble_eq_true rfl⟩ ?_
                  have J31 : ∀ (y32 : Int32) , y32 = bI (0 < (q_fc now)) → gW G X ((wO G x A now nx sz hs ah) ++ []) 0 0 533 [(5, .int (nI j)), (4, .int (bI (¬ (f = (-5)) ∧ ((c_abil (q_ri now) r) < (q_ho now (10 + (nC f))))))), (3, .int (nI 1)), (2, .int f), (0, .ref x), (1, .int (nI r))] [.int y32, .int (bI (¬ ((c_ofFall (q_fs now) (q_fc now) 0 0) < 0)))] := by
                    intro y32 ey32
                    subst ey32
                    refine x_icmp_ne (x := (bI (¬ ((c_ofFall (q_fs now) (q_fc now) 0 0) < 0)))) (y := (bI (0 < (q_fc now)))) (tgt := 540) C dL_isBestSo_533 (by decide) (fun c33 => False.elim (by exact c33 (bI_iff (fa_0 hti hFA)))) (fun c33 => ?_)
                    refine x_iconst (v := (nI 1)) C dL_isBestSo_536 (by decide) ?_
                    refine x_goto (tgt := 541) C dL_isBestSo_537 (by decide) ?_
                    exact x_zret C hr (by rfl) E dL_isBestSo_541 (encS ah) rfl (by rw [decS_enc])
                  refine x_if_leN (a := (q_fc now)) (tgt := 532) C dL_isBestSo_525 (by decide) (by omega) (fun c30 => ?_) (fun c30 => ?_)
                  · refine x_iconst (v := (nI 0)) C dL_isBestSo_532 (by decide) ?_
                    exact J31 (nI 0) (bI_f (by simp only [c30, if_true, if_false, ite_true, ite_false, and_true, true_and, and_false, false_and, or_true, true_or, or_false, false_or, not_true_eq_false, not_false_eq_true, and_self, or_self] <;> decide)).symm
                  · refine x_iconst (v := (nI 1)) C dL_isBestSo_528 (by decide) ?_
                    refine x_goto (tgt := 533) C dL_isBestSo_529 (by decide) ?_
                    exact J31 (nI 1) (bI_t (by simp only [c30, if_true, if_false, ite_true, ite_false, and_true, true_and, and_false, false_and, or_true, true_or, or_false, false_or, not_true_eq_false, not_false_eq_true, and_self, or_self] <;> decide)).symm
                refine x_if_lt (x := (c_ofFall (q_fs now) (q_fc now) 0 0)) (tgt := 519) C dL_isBestSo_512 (by decide) (fun c27 => ?_) (fun c27 => ?_)
                · refine x_iconst (v := (nI 0)) C dL_isBestSo_519 (by decide) ?_
                  exact J28 (nI 0) (bI_f (by simp only [c27, if_true, if_false, ite_true, ite_false, and_true, true_and, and_false, false_and, or_true, true_or, or_false, false_or, not_true_eq_false, not_false_eq_true, and_self, or_self] <;> decide)).symm
                · refine x_iconst (v := (nI 1)) C dL_isBestSo_515 (by decide) ?_
                  refine x_goto (tgt := 520) C dL_isBestSo_516 (by decide) ?_
                  exact J28 (nI 1) (bI_t (by simp only [c27, if_true, if_false, ite_true, ite_false, and_true, true_and, and_false, false_and, or_true, true_or, or_false, false_or, not_true_eq_false, not_false_eq_true, and_self, or_self] <;> decide)).symm
              · have hjm := fa_in (by assumption)
                refine x_iload_n C 2 rfl dL_isBestSo_438 rfl ?_
                refine x_if_eqN (a := 1) (tgt := 482) C dL_isBestSo_439 (by decide) (by omega) (fun c34 => False.elim (by omega)) (fun c34 => ?_)
                refine x_aload_n C 4 rfl dL_isBestSo_442 rfl ?_
                refine x_iload C 0 rfl dL_isBestSo_443 ?_
                refine x_iconst (v := (nI 0)) C dL_isBestSo_445 (by decide) ?_
                refine x_callVd (As := [.int (nI j), .int (nI 0)]) (rest := []) C dL_isBestSo_446 (c_N_fall (gX.l X) G x A now nx sz hs ah j 0 hS hnx hsz (by omega) (by omega)) ml_L_45 im_X5_fall sl_X5_fall in_X5 cd_X5_fall hd_X5_fall 0 rfl rfl rfl rfl (Nat.le_of_ble_eq_true rfl) ⟨Nat.le_of_ble_eq_true rfl, Nat.le_of_ble_eq_true rfl⟩ [] [] (by simp only [List.append_assoc, List.nil_append, List.cons_append]) (ws' := ((wO G x A now nx sz hs ah) ++ [])) (by simp only [List.append_assoc, List.nil_append, List.cons_append]) (st' := [.int (c_ofFall (q_fs now) (q_fc now) j 0)]) rfl ⟨rfl, rfl⟩ ⟨Nat.le_of_ble_eq_true rfl, Nat.le_of_ble_eq_true rfl⟩ ?_
                refine x_aload_n C 4 rfl dL_isBestSo_449 rfl ?_
                refine x_iload C 0 rfl dL_isBestSo_450 ?_
                refine x_iconst (v := (nI 1)) C dL_isBestSo_452 (by decide) ?_
                refine x_isubN C dL_isBestSo_453 (by omega) ?_
                refine x_iconst (v := (nI 0)) C dL_isBestSo_454 (by decide) ?_
                refine x_callVd (As := [.int (nI (j - 1)), .int (nI 0)]) (rest := [.int (c_ofFall (q_fs now) (q_fc now) j 0)]) C dL_isBestSo_455 (c_N_fall (gX.l X) G x A now nx sz hs ah (j - 1) 0 hS hnx hsz (by omega) (by omega)) ml_L_45 im_X5_fall sl_X5_fall in_X5 cd_X5_fall hd_X5_fall 0 rfl rfl rfl rfl (Nat.le_of_ble_eq_true rfl) ⟨Nat.le_of_ble_eq_true rfl, Nat.le_of_ble_eq_true rfl⟩ [] [] (by simp only [List.append_assoc, List.nil_append, List.cons_append]) (ws' := ((wO G x A now nx sz hs ah) ++ [])) (by simp only [List.append_assoc, List.nil_append, List.cons_append]) (st' := [.int (c_ofFall (q_fs now) (q_fc now) (j - 1) 0), .int (c_ofFall (q_fs now) (q_fc now) j 0)]) rfl ⟨rfl, rfl⟩ ⟨Nat.le_of_ble_eq_true rfl, Nat.le_of_ble_eq_true rfl⟩ ?_
                refine x_icmp_gt (x := (c_ofFall (q_fs now) (q_fc now) j 0)) (y := (c_ofFall (q_fs now) (q_fc now) (j - 1) 0)) (tgt := 482) C dL_isBestSo_458 (by decide) (fun c35 => False.elim (by exact fa_le hti hFA hj1 hjm c35)) (fun c35 => ?_)
                refine x_aload_n C 4 rfl dL_isBestSo_461 rfl ?_
                refine x_iload C 0 rfl dL_isBestSo_462 ?_
                refine x_iconst (v := (nI 1)) C dL_isBestSo_464 (by decide) ?_
                refine x_isubN C dL_isBestSo_465 (by omega) ?_
                refine x_iconst (v := (nI 0)) C dL_isBestSo_466 (by decide) ?_
                refine x_callVd (As := [.int (nI (j - 1)), .int (nI 0)]) (rest := []) C dL_isBestSo_467 (c_N_fall (gX.l X) G x A now nx sz hs ah (j - 1) 0 hS hnx hsz (by omega) (by omega)) ml_L_45 im_X5_fall sl_X5_fall in_X5 cd_X5_fall hd_X5_fall 0 rfl rfl rfl rfl (Nat.le_of_ble_eq_true rfl) ⟨Nat.le_of_ble_eq_true rfl, Nat.le_of_ble_eq_true rfl⟩ [] [] (by simp only [List.append_assoc, List.nil_append, List.cons_append]) (ws' := ((wO G x A now nx sz hs ah) ++ [])) (by simp only [List.append_assoc, List.nil_append, List.cons_append]) (st' := [.int (c_ofFall (q_fs now) (q_fc now) (j - 1) 0)]) rfl ⟨rfl, rfl⟩ ⟨Nat.le_of_ble_eq_true rfl, Nat.le_of_ble_eq_true rfl⟩ ?_
                refine x_aload_n C 4 rfl dL_isBestSo_470 rfl ?_
                refine x_iconst (v := (nI 0)) C dL_isBestSo_471 (by decide) ?_
                refine x_callVd (As := [.int (nI 0)]) (rest := [.int (c_ofFall (q_fs now) (q_fc now) (j - 1) 0)]) C dL_isBestSo_472 (c_N_count0 (gX.l X) G x A now nx sz hs ah hS hnx hsz) ml_L_36 im_X5_count sl_X5_count in_X5 cd_X5_count hd_X5_count 0 rfl rfl rfl rfl (Nat.le_of_ble_eq_true rfl) ⟨Nat.le_of_ble_eq_true rfl, Nat.le_of_ble_eq_true rfl⟩ [] [] (by simp only [List.append_assoc, List.nil_append, List.cons_append]) (ws' := ((wO G x A now nx sz hs ah) ++ [])) (by simp only [List.append_assoc, List.nil_append, List.cons_append]) (st' := [.int (nI (q_ti now)), .int (c_ofFall (q_fs now) (q_fc now) (j - 1) 0)]) rfl ⟨rfl, rfl⟩ ⟨Nat.le_of_ble_eq_true rfl, Nat.le_of_ble_eq_true rfl⟩ ?_
                refine x_icmp_ge (x := (c_ofFall (q_fs now) (q_fc now) (j - 1) 0)) (y := (nI (q_ti now))) (tgt := 482) C dL_isBestSo_475 (by decide) (fun c36 => False.elim (by exact c36 (fa_lt (by omega) hFA hj1 hjm))) (fun c36 => ?_)
                refine x_iconst (v := (nI 1)) C dL_isBestSo_478 (by decide) ?_
                refine x_goto (tgt := 483) C dL_isBestSo_479 (by decide) ?_
                refine x_istore_n (lv' := [(3, .int (nI 1)), (5, .int (nI j)), (4, .int (bI (¬ (f = (-5)) ∧ ((c_abil (q_ri now) r) < (q_ho now (10 + (nC f))))))), (2, .int f), (0, .ref x), (1, .int (nI r))]) C dL_isBestSo_483 rfl (by decide) rfl ?_
                refine x_iinc (v := (nI (j + 1))) (lv' := [(5, .int (nI (j + 1))), (3, .int (nI 1)), (4, .int (bI (¬ (f = (-5)) ∧ ((c_abil (q_ri now) r) < (q_ho now (10 + (nC f))))))), (2, .int f), (0, .ref x), (1, .int (nI r))]) C 1 rfl dL_isBestSo_484 (by rw [show Int32.ofInt 1 = nI 1 from rfl]; exact nI_add _ _) (by decide) rfl ?_
                refine x_goto (tgt := 421) C dL_isBestSo_487 (by decide) ?_
                refine x_lv [0, 2, 1, 3, 4, 5] (lv' := [(5, .int (nI (j + 1))), (4, .int (bI (¬ (f = (-5)) ∧ ((c_abil (q_ri now) r) < (q_ho now (10 + (nC f))))))), (3, .int (nI 1)), (2, .int f), (0, .ref x), (1, .int (nI r))]) rfl ?_
                exact ih (j + 1) (by omega) (by omega)
          exact L12 19 1 (by omega) (by omega)
        | succ fu ih =>
          intro k ah hn
          refine x_iload C 0 rfl dL_isBestSo_71 ?_
          refine x_bipush (v := (nI 10)) C dL_isBestSo_73 (by decide) ?_
          refine x_icmp_geN (a := k) (b := 10) (tgt := 418) C dL_isBestSo_75 (by decide) (by omega) (by omega) (fun c37 => False.elim (by omega)) (fun c37 => ?_)
          have hk10 : k < 10 := by omega
          refine x_aload_n C 4 rfl dL_isBestSo_78 rfl ?_
          refine x_iload C 0 rfl dL_isBestSo_79 ?_
          refine x_iload_n C 5 rfl dL_isBestSo_81 rfl ?_
          refine x_callVd (As := [.int (nI k), .int (nI r)]) (rest := []) C dL_isBestSo_82 (c_N_reason (gX.l X) G x A now nx sz hs ah k r hS hnx hsz (by omega) (by omega)) ml_L_58 im_X5_reason sl_X5_reason in_X5 cd_X5_reason hd_X5_reason 0 rfl rfl rfl rfl (Nat.le_of_ble_eq_true rfl) ⟨Nat.le_of_ble_eq_true rfl, Nat.le_of_ble_eq_true rfl⟩ [] [] (by simp only [List.append_assoc, List.nil_append, List.cons_append]) (ws' := ((wO G x A now nx sz hs ah) ++ [])) (by simp only [List.append_assoc, List.nil_append, List.cons_append]) (st' := [.int (k_hin now k r)]) rfl ⟨rfl, rfl⟩ ⟨Nat.le_of_ble_eq_true rfl, Nat.le_of_ble_eq_true rfl⟩ ?_
          refine x_gen (fun re re_e => ?_)
          have hre := hin_r re_e
          refine x_istore (lv' := [(6, .int re), (5, .int (nI k)), (4, .int (bI (¬ (f = (-5)) ∧ ((c_abil (q_ri now) r) < (q_ho now (10 + (nC f))))))), (3, .int (nI 1)), (2, .int f), (0, .ref x), (1, .int (nI r))]) C dL_isBestSo_85 (by decide) rfl ?_
          refine x_aload_n C 5 rfl dL_isBestSo_87 rfl ?_
          refine x_iload C 1 rfl dL_isBestSo_88 ?_
          refine x_iconst (v := (nI 1)) C dL_isBestSo_90 (by decide) ?_
          refine x_callVd (As := [.int (nI k), .int (nI 1)]) (rest := []) C dL_isBestSo_91 (c_N_horse (gX.l X) G x A now nx sz hs ah k 1 (10 + k) hS hnx hsz (by omega) (by omega) (by omega)) ml_L_39 im_X5_horse sl_X5_horse in_X5 cd_X5_horse hd_X5_horse 0 rfl rfl rfl rfl (Nat.le_of_ble_eq_true rfl) ⟨Nat.le_of_ble_eq_true rfl, Nat.le_of_ble_eq_true rfl⟩ [] [] (by simp only [List.append_assoc, List.nil_append, List.cons_append]) (ws' := ((wO G x A now nx sz hs ah) ++ [])) (by simp only [List.append_assoc, List.nil_append, List.cons_append]) (st' := [.int (q_ho now (10 + k))]) rfl ⟨rfl, rfl⟩ ⟨Nat.le_of_ble_eq_true rfl, Nat.le_of_ble_eq_true rfl⟩ ?_
          refine x_aload_n C 5 rfl dL_isBestSo_94 rfl ?_
          refine x_iload_n C 6 rfl dL_isBestSo_95 rfl ?_
          refine x_iconst (v := (nI 3)) C dL_isBestSo_96 (by decide) ?_
          refine x_callVd (As := [.int (nI r), .int (nI 3)]) (rest := [.int (q_ho now (10 + k))]) C dL_isBestSo_97 (c_N_riderA (gX.l X) G x A now nx sz hs ah r hS hnx hsz (by omega)) ml_L_42 im_X5_rider sl_X5_rider in_X5 cd_X5_rider hd_X5_rider 0 rfl rfl rfl rfl (Nat.le_of_ble_eq_true rfl) ⟨Nat.le_of_ble_eq_true rfl, Nat.le_of_ble_eq_true rfl⟩ [] [] (by simp only [List.append_assoc, List.nil_append, List.cons_append]) (ws' := ((wO G x A now nx sz hs ah) ++ [])) (by simp only [List.append_assoc, List.nil_append, List.cons_append]) (st' := [.int (c_abil (q_ri now) r), .int (q_ho now (10 + k))]) rfl ⟨rfl, rfl⟩ ⟨Nat.le_of_ble_eq_true rfl, Nat.le_of_ble_eq_true rfl⟩ ?_
          have J39 : ∀ (y40 : Int32) , y40 = bI ((c_abil (q_ri now) r) < (q_ho now (10 + k))) → gW G X ((wO G x A now nx sz hs ah) ++ []) 0 0 108 [(6, .int re), (5, .int (nI k)), (4, .int (bI (¬ (f = (-5)) ∧ ((c_abil (q_ri now) r) < (q_ho now (10 + (nC f))))))), (3, .int (nI 1)), (2, .int f), (0, .ref x), (1, .int (nI r))] [.int y40] := by
            intro y40 ey40
            subst ey40
            refine x_istore (lv' := [(7, .int (bI ((c_abil (q_ri now) r) < (q_ho now (10 + k))))), (6, .int re), (5, .int (nI k)), (4, .int (bI (¬ (f = (-5)) ∧ ((c_abil (q_ri now) r) < (q_ho now (10 + (nC f))))))), (3, .int (nI 1)), (2, .int f), (0, .ref x), (1, .int (nI r))]) C dL_isBestSo_108 (by decide) rfl ?_
            refine x_aload_n C 6 rfl dL_isBestSo_110 rfl ?_
            refine x_iload C 2 rfl dL_isBestSo_111 ?_
            refine x_iconst (v := (nI 0)) C dL_isBestSo_113 (by decide) ?_
            refine x_callVd (As := [.int (nI k), .int (nI 0)]) (rest := []) C dL_isBestSo_114 (c_N_horse (gX.l X) G x A now nx sz hs ah k 0 k hS hnx hsz (by omega) (by omega) (by omega)) ml_L_39 im_X5_horse sl_X5_horse in_X5 cd_X5_horse hd_X5_horse 0 rfl rfl rfl rfl (Nat.le_of_ble_eq_true rfl) ⟨Nat.le_of_ble_eq_true rfl, Nat.le_of_ble_eq_true rfl⟩ [] [] (by simp only [List.append_assoc, List.nil_append, List.cons_append]) (ws' := ((wO G x A now nx sz hs ah) ++ [])) (by simp only [List.append_assoc, List.nil_append, List.cons_append]) (st' := [.int (q_ho now k)]) rfl ⟨rfl, rfl⟩ ⟨Nat.le_of_ble_eq_true rfl, Nat.le_of_ble_eq_true rfl⟩ ?_
            refine x_aload_n C 6 rfl dL_isBestSo_117 rfl ?_
            refine x_iload_n C 7 rfl dL_isBestSo_118 rfl ?_
            refine x_iconst (v := (nI 0)) C dL_isBestSo_119 (by decide) ?_
            refine x_callVd (As := [.int (nI r), .int (nI 0)]) (rest := [.int (q_ho now k)]) C dL_isBestSo_120 (c_N_rider (gX.l X) G x A now nx sz hs ah r 0 r hS hnx hsz (by omega) (by omega) (by decide) (by omega)) ml_L_42 im_X5_rider sl_X5_rider in_X5 cd_X5_rider hd_X5_rider 0 rfl rfl rfl rfl (Nat.le_of_ble_eq_true rfl) ⟨Nat.le_of_ble_eq_true rfl, Nat.le_of_ble_eq_true rfl⟩ [] [] (by simp only [List.append_assoc, List.nil_append, List.cons_append]) (ws' := ((wO G x A now nx sz hs ah) ++ [])) (by simp only [List.append_assoc, List.nil_append, List.cons_append]) (st' := [.int (q_ri now r), .int (q_ho now k)]) rfl ⟨rfl, rfl⟩ ⟨Nat.le_of_ble_eq_true rfl, Nat.le_of_ble_eq_true rfl⟩ ?_
            have J42 : ∀ (y43 : Int32) , y43 = bI (¬ ((q_ho now k) < (q_ri now r))) → gW G X ((wO G x A now nx sz hs ah) ++ []) 0 0 131 [(7, .int (bI ((c_abil (q_ri now) r) < (q_ho now (10 + k))))), (6, .int re), (5, .int (nI k)), (4, .int (bI (¬ (f = (-5)) ∧ ((c_abil (q_ri now) r) < (q_ho now (10 + (nC f))))))), (3, .int (nI 1)), (2, .int f), (0, .ref x), (1, .int (nI r))] [.int y43] := by
              intro y43 ey43
              subst ey43
              refine x_istore (lv' := [(8, .int (bI (¬ ((q_ho now k) < (q_ri now r))))), (7, .int (bI ((c_abil (q_ri now) r) < (q_ho now (10 + k))))), (6, .int re), (5, .int (nI k)), (4, .int (bI (¬ (f = (-5)) ∧ ((c_abil (q_ri now) r) < (q_ho now (10 + (nC f))))))), (3, .int (nI 1)), (2, .int f), (0, .ref x), (1, .int (nI r))]) C dL_isBestSo_131 (by decide) rfl ?_
              refine x_iload_n C 5 rfl dL_isBestSo_133 rfl ?_
              refine x_if_eqN (a := 1) (tgt := 261) C dL_isBestSo_134 (by decide) (by omega) (fun c44 => False.elim (by omega)) (fun c44 => ?_)
              refine x_iload C 2 rfl dL_isBestSo_137 ?_
              refine x_iconst (v := (nI 1)) C dL_isBestSo_139 (by decide) ?_
              have J47 : gW G X ((wO G x A now nx sz hs ah) ++ []) 0 0 153 [(8, .int (bI (¬ ((q_ho now k) < (q_ri now r))))), (7, .int (bI ((c_abil (q_ri now) r) < (q_ho now (10 + k))))), (6, .int re), (5, .int (nI k)), (4, .int (bI (¬ (f = (-5)) ∧ ((c_abil (q_ri now) r) < (q_ho now (10 + (nC f))))))), (3, .int (nI 1)), (2, .int f), (0, .ref x), (1, .int (nI r))] [] := by
                refine x_iload C 2 rfl dL_isBestSo_153 ?_
                refine x_iconst (v := (nI 2)) C dL_isBestSo_155 (by decide) ?_
                have J50 : gW G X ((wO G x A now nx sz hs ah) ++ []) 0 0 170 [(8, .int (bI (¬ ((q_ho now k) < (q_ri now r))))), (7, .int (bI ((c_abil (q_ri now) r) < (q_ho now (10 + k))))), (6, .int re), (5, .int (nI k)), (4, .int (bI (¬ (f = (-5)) ∧ ((c_abil (q_ri now) r) < (q_ho now (10 + (nC f))))))), (3, .int (nI 1)), (2, .int f), (0, .ref x), (1, .int (nI r))] [] := by
                  refine x_iload C 2 rfl dL_isBestSo_170 ?_
                  refine x_iconst (v := (nI 3)) C dL_isBestSo_172 (by decide) ?_
                  have J53 : gW G X ((wO G x A now nx sz hs ah) ++ []) 0 0 192 [(8, .int (bI (¬ ((q_ho now k) < (q_ri now r))))), (7, .int (bI ((c_abil (q_ri now) r) < (q_ho now (10 + k))))), (6, .int re), (5, .int (nI k)), (4, .int (bI (¬ (f = (-5)) ∧ ((c_abil (q_ri now) r) < (q_ho now (10 + (nC f))))))), (3, .int (nI 1)), (2, .int f), (0, .ref x), (1, .int (nI r))] [] := by
                    refine x_iload C 2 rfl dL_isBestSo_192 ?_
                    refine x_iconst (v := (nI 4)) C dL_isBestSo_194 (by decide) ?_
                    have J56 : gW G X ((wO G x A now nx sz hs ah) ++ []) 0 0 214 [(8, .int (bI (¬ ((q_ho now k) < (q_ri now r))))), (7, .int (bI ((c_abil (q_ri now) r) < (q_ho now (10 + k))))), (6, .int re), (5, .int (nI k)), (4, .int (bI (¬ (f = (-5)) ∧ ((c_abil (q_ri now) r) < (q_ho now (10 + (nC f))))))), (3, .int (nI 1)), (2, .int f), (0, .ref x), (1, .int (nI r))] [] := by
                      refine x_iload C 2 rfl dL_isBestSo_214 ?_
                      refine x_iconst (v := (nI 5)) C dL_isBestSo_216 (by decide) ?_
                      have J59 : gW G X ((wO G x A now nx sz hs ah) ++ []) 0 0 225 [(8, .int (bI (¬ ((q_ho now k) < (q_ri now r))))), (7, .int (bI ((c_abil (q_ri now) r) < (q_ho now (10 + k))))), (6, .int re), (5, .int (nI k)), (4, .int (bI (¬ (f = (-5)) ∧ ((c_abil (q_ri now) r) < (q_ho now (10 + (nC f))))))), (3, .int (nI 1)), (2, .int f), (0, .ref x), (1, .int (nI r))] [] := by
                        refine x_iload C 2 rfl dL_isBestSo_225 ?_
                        have J62 : ∀ (y63 : c_S) , y63 = (if re = 0 then ah else (kX_takenIn now ah (nI k) (nI r)).2) → gW G X ((wO G x A now nx sz hs y63) ++ []) 0 0 240 [(8, .int (bI (¬ ((q_ho now k) < (q_ri now r))))), (7, .int (bI ((c_abil (q_ri now) r) < (q_ho now (10 + k))))), (6, .int re), (5, .int (nI k)), (4, .int (bI (¬ (f = (-5)) ∧ ((c_abil (q_ri now) r) < (q_ho now (10 + (nC f))))))), (3, .int (nI 1)), (2, .int f), (0, .ref x), (1, .int (nI r))] [] := by
                          intro y63 ey63
                          subst ey63
                          refine x_iload C 0 rfl dL_isBestSo_240 ?_
                          have J66 : ∀ (y67 : c_S) , y67 = (if ¬ ((q_ho now k) < (q_ri now r)) then (if re = 0 then ah else (kX_takenIn now ah (nI k) (nI r)).2) else (kX_takenIn now (if re = 0 then ah else (kX_takenIn now ah (nI k) (nI r)).2) (nI k) (nI r)).2) → gW G X ((wO G x A now nx sz hs y67) ++ []) 0 0 257 [(8, .int (bI (¬ ((q_ho now k) < (q_ri now r))))), (7, .int (bI ((c_abil (q_ri now) r) < (q_ho now (10 + k))))), (6, .int re), (5, .int (nI k)), (4, .int (bI (¬ (f = (-5)) ∧ ((c_abil (q_ri now) r) < (q_ho now (10 + (nC f))))))), (3, .int (nI 1)), (2, .int f), (0, .ref x), (1, .int (nI r))] [] := by
                            intro y67 ey67
                            subst ey67
                            refine x_iconst (v := (nI 1)) C dL_isBestSo_257 (by decide) ?_
                            refine x_goto (tgt := 262) C dL_isBestSo_258 (by decide) ?_
                            refine x_istore_n (lv' := [(3, .int (nI 1)), (8, .int (bI (¬ ((q_ho now k) < (q_ri now r))))), (7, .int (bI ((c_abil (q_ri now) r) < (q_ho now (10 + k))))), (6, .int re), (5, .int (nI k)), (4, .int (bI (¬ (f = (-5)) ∧ ((c_abil (q_ri now) r) < (q_ho now (10 + (nC f))))))), (2, .int f), (0, .ref x), (1, .int (nI r))]) C dL_isBestSo_262 rfl (by decide) rfl ?_
                            refine x_iload C 3 rfl dL_isBestSo_263 ?_
                            refine x_if_ne (x := re) (tgt := 412) C dL_isBestSo_265 (by decide) (fun c68 => ?_) (fun c68 => ?_)
                            · refine x_iinc (v := (nI (k + 1))) (lv' := [(5, .int (nI (k + 1))), (3, .int (nI 1)), (8, .int (bI (¬ ((q_ho now k) < (q_ri now r))))), (7, .int (bI ((c_abil (q_ri now) r) < (q_ho now (10 + k))))), (6, .int re), (4, .int (bI (¬ (f = (-5)) ∧ ((c_abil (q_ri now) r) < (q_ho now (10 + (nC f))))))), (2, .int f), (0, .ref x), (1, .int (nI r))]) C 4 rfl dL_isBestSo_412 (by rw [show Int32.ofInt 1 = nI 1 from rfl]; exact nI_add _ _) (by decide) rfl ?_
                              refine x_goto (tgt := 71) C dL_isBestSo_415 (by decide) ?_
                              refine x_lv [0, 5, 1, 6, 7, 8] (lv' := [(5, .int (nI (k + 1))), (4, .int (bI (¬ (f = (-5)) ∧ ((c_abil (q_ri now) r) < (q_ho now (10 + (nC f))))))), (3, .int (nI 1)), (2, .int f), (0, .ref x), (1, .int (nI r))]) rfl ?_
                              exact ih (k + 1) (if ¬ ((q_ho now k) < (q_ri now r)) then (if re = 0 then ah else (kX_takenIn now ah (nI k) (nI r)).2) else (kX_takenIn now (if re = 0 then ah else (kX_takenIn now ah (nI k) (nI r)).2) (nI k) (nI r)).2) (by omega) 
                            · have hre0 : k_hin now k r = 0 := by rw [← re_e]; assumption
                              have hfo : okV 10 f ∧ True := ⟨bst_ok2 hI f_e hk10 hre0, trivial⟩
                              have hfn : ¬ f < 0 := ok_nn hfo.1 (by omega)
                              have hf10 := hfo.1.1
                              have hlex := bst_lex hI f_e hk10 hre0 _ _ _ rfl rfl rfl
                              have hG0 := hre.2.2.2.2.2 (by assumption)
                              refine x_iload C 2 rfl dL_isBestSo_268 ?_
                              refine x_iload C 5 rfl dL_isBestSo_270 ?_
                              refine x_isub (x := (bI ((c_abil (q_ri now) r) < (q_ho now (10 + k))))) (y := (bI (¬ (f = (-5)) ∧ ((c_abil (q_ri now) r) < (q_ho now (10 + (nC f))))))) C dL_isBestSo_272 ?_
                              refine x_istore (lv' := [(9, .int ((bI ((c_abil (q_ri now) r) < (q_ho now (10 + k)))) - (bI (¬ (f = (-5)) ∧ ((c_abil (q_ri now) r) < (q_ho now (10 + (nC f)))))))), (3, .int (nI 1)), (8, .int (bI (¬ ((q_ho now k) < (q_ri now r))))), (7, .int (bI ((c_abil (q_ri now) r) < (q_ho now (10 + k))))), (6, .int re), (5, .int (nI k)), (4, .int (bI (¬ (f = (-5)) ∧ ((c_abil (q_ri now) r) < (q_ho now (10 + (nC f))))))), (2, .int f), (0, .ref x), (1, .int (nI r))]) C dL_isBestSo_273 (by decide) rfl ?_
                              refine x_iload C 0 rfl dL_isBestSo_275 ?_
                              have J92 : ∀ (y93 : Int32) , y93 = (if ((bI ((c_abil (q_ri now) r) < (q_ho now (10 + k)))) - (bI (¬ (f = (-5)) ∧ ((c_abil (q_ri now) r) < (q_ho now (10 + (nC f))))))) = 0 then ((q_ho now (20 + k)) - (q_ho now (20 + (nC f)))) else ((bI ((c_abil (q_ri now) r) < (q_ho now (10 + k)))) - (bI (¬ (f = (-5)) ∧ ((c_abil (q_ri now) r) < (q_ho now (10 + (nC f)))))))) → gW G X ((wO G x A now nx sz hs (if ¬ ((q_ho now k) < (q_ri now r)) then (if re = 0 then ah else (kX_takenIn now ah (nI k) (nI r)).2) else (kX_takenIn now (if re = 0 then ah else (kX_takenIn now ah (nI k) (nI r)).2) (nI k) (nI r)).2)) ++ []) 0 0 303 [(9, .int ((bI ((c_abil (q_ri now) r) < (q_ho now (10 + k)))) - (bI (¬ (f = (-5)) ∧ ((c_abil (q_ri now) r) < (q_ho now (10 + (nC f)))))))), (3, .int (nI 1)), (8, .int (bI (¬ ((q_ho now k) < (q_ri now r))))), (7, .int (bI ((c_abil (q_ri now) r) < (q_ho now (10 + k))))), (6, .int re), (5, .int (nI k)), (4, .int (bI (¬ (f = (-5)) ∧ ((c_abil (q_ri now) r) < (q_ho now (10 + (nC f))))))), (2, .int f), (0, .ref x), (1, .int (nI r))] [.int y93] := by
                                intro y93 ey93
                                subst ey93
                                refine x_istore (lv' := [(9, .int (if ((bI ((c_abil (q_ri now) r) < (q_ho now (10 + k)))) - (bI (¬ (f = (-5)) ∧ ((c_abil (q_ri now) r) < (q_ho now (10 + (nC f))))))) = 0 then ((q_ho now (20 + k)) - (q_ho now (20 + (nC f)))) else ((bI ((c_abil (q_ri now) r) < (q_ho now (10 + k)))) - (bI (¬ (f = (-5)) ∧ ((c_abil (q_ri now) r) < (q_ho now (10 + (nC f))))))))), (3, .int (nI 1)), (8, .int (bI (¬ ((q_ho now k) < (q_ri now r))))), (7, .int (bI ((c_abil (q_ri now) r) < (q_ho now (10 + k))))), (6, .int re), (5, .int (nI k)), (4, .int (bI (¬ (f = (-5)) ∧ ((c_abil (q_ri now) r) < (q_ho now (10 + (nC f))))))), (2, .int f), (0, .ref x), (1, .int (nI r))]) C dL_isBestSo_303 (by decide) rfl ?_
                                refine x_iload C 0 rfl dL_isBestSo_305 ?_
                                have J96 : ∀ (y97 : Int32) , y97 = (if (if ((bI ((c_abil (q_ri now) r) < (q_ho now (10 + k)))) - (bI (¬ (f = (-5)) ∧ ((c_abil (q_ri now) r) < (q_ho now (10 + (nC f))))))) = 0 then ((q_ho now (20 + k)) - (q_ho now (20 + (nC f)))) else ((bI ((c_abil (q_ri now) r) < (q_ho now (10 + k)))) - (bI (¬ (f = (-5)) ∧ ((c_abil (q_ri now) r) < (q_ho now (10 + (nC f)))))))) = 0 then ((q_ho now k) - (q_ho now (nC f))) else (if ((bI ((c_abil (q_ri now) r) < (q_ho now (10 + k)))) - (bI (¬ (f = (-5)) ∧ ((c_abil (q_ri now) r) < (q_ho now (10 + (nC f))))))) = 0 then ((q_ho now (20 + k)) - (q_ho now (20 + (nC f)))) else ((bI ((c_abil (q_ri now) r) < (q_ho now (10 + k)))) - (bI (¬ (f = (-5)) ∧ ((c_abil (q_ri now) r) < (q_ho now (10 + (nC f))))))))) → gW G X ((wO G x A now nx sz hs (if ¬ ((q_ho now k) < (q_ri now r)) then (if re = 0 then ah else (kX_takenIn now ah (nI k) (nI r)).2) else (kX_takenIn now (if re = 0 then ah else (kX_takenIn now ah (nI k) (nI r)).2) (nI k) (nI r)).2)) ++ []) 0 0 333 [(9, .int (if ((bI ((c_abil (q_ri now) r) < (q_ho now (10 + k)))) - (bI (¬ (f = (-5)) ∧ ((c_abil (q_ri now) r) < (q_ho now (10 + (nC f))))))) = 0 then ((q_ho now (20 + k)) - (q_ho now (20 + (nC f)))) else ((bI ((c_abil (q_ri now) r) < (q_ho now (10 + k)))) - (bI (¬ (f = (-5)) ∧ ((c_abil (q_ri now) r) < (q_ho now (10 + (nC f))))))))), (3, .int (nI 1)), (8, .int (bI (¬ ((q_ho now k) < (q_ri now r))))), (7, .int (bI ((c_abil (q_ri now) r) < (q_ho now (10 + k))))), (6, .int re), (5, .int (nI k)), (4, .int (bI (¬ (f = (-5)) ∧ ((c_abil (q_ri now) r) < (q_ho now (10 + (nC f))))))), (2, .int f), (0, .ref x), (1, .int (nI r))] [.int y97] := by
                                  intro y97 ey97
                                  subst ey97
                                  refine x_istore (lv' := [(9, .int (if (if ((bI ((c_abil (q_ri now) r) < (q_ho now (10 + k)))) - (bI (¬ (f = (-5)) ∧ ((c_abil (q_ri now) r) < (q_ho now (10 + (nC f))))))) = 0 then ((q_ho now (20 + k)) - (q_ho now (20 + (nC f)))) else ((bI ((c_abil (q_ri now) r) < (q_ho now (10 + k)))) - (bI (¬ (f = (-5)) ∧ ((c_abil (q_ri now) r) < (q_ho now (10 + (nC f)))))))) = 0 then ((q_ho now k) - (q_ho now (nC f))) else (if ((bI ((c_abil (q_ri now) r) < (q_ho now (10 + k)))) - (bI (¬ (f = (-5)) ∧ ((c_abil (q_ri now) r) < (q_ho now (10 + (nC f))))))) = 0 then ((q_ho now (20 + k)) - (q_ho now (20 + (nC f)))) else ((bI ((c_abil (q_ri now) r) < (q_ho now (10 + k)))) - (bI (¬ (f = (-5)) ∧ ((c_abil (q_ri now) r) < (q_ho now (10 + (nC f)))))))))), (3, .int (nI 1)), (8, .int (bI (¬ ((q_ho now k) < (q_ri now r))))), (7, .int (bI ((c_abil (q_ri now) r) < (q_ho now (10 + k))))), (6, .int re), (5, .int (nI k)), (4, .int (bI (¬ (f = (-5)) ∧ ((c_abil (q_ri now) r) < (q_ho now (10 + (nC f))))))), (2, .int f), (0, .ref x), (1, .int (nI r))]) C dL_isBestSo_333 (by decide) rfl ?_
                                  refine x_iload_n C 1 rfl dL_isBestSo_335 rfl ?_
                                  refine x_if_eqN (a := 1) (tgt := 410) C dL_isBestSo_336 (by decide) (by omega) (fun c98 => False.elim (by omega)) (fun c98 => ?_)
                                  refine x_iload_n C 7 rfl dL_isBestSo_339 rfl ?_
                                  refine x_if_lt (x := f) (tgt := 410) C dL_isBestSo_340 (by decide) (fun c99 => False.elim (by exact hfn c99)) (fun c99 => ?_)
                                  refine x_iload C 0 rfl dL_isBestSo_343 ?_
                                  refine x_if_gt (x := (if (if ((bI ((c_abil (q_ri now) r) < (q_ho now (10 + k)))) - (bI (¬ (f = (-5)) ∧ ((c_abil (q_ri now) r) < (q_ho now (10 + (nC f))))))) = 0 then ((q_ho now (20 + k)) - (q_ho now (20 + (nC f)))) else ((bI ((c_abil (q_ri now) r) < (q_ho now (10 + k)))) - (bI (¬ (f = (-5)) ∧ ((c_abil (q_ri now) r) < (q_ho now (10 + (nC f)))))))) = 0 then ((q_ho now k) - (q_ho now (nC f))) else (if ((bI ((c_abil (q_ri now) r) < (q_ho now (10 + k)))) - (bI (¬ (f = (-5)) ∧ ((c_abil (q_ri now) r) < (q_ho now (10 + (nC f))))))) = 0 then ((q_ho now (20 + k)) - (q_ho now (20 + (nC f)))) else ((bI ((c_abil (q_ri now) r) < (q_ho now (10 + k)))) - (bI (¬ (f = (-5)) ∧ ((c_abil (q_ri now) r) < (q_ho now (10 + (nC f)))))))))) (tgt := 359) C dL_isBestSo_345 (by decide) (fun c100 => ?_) (fun c100 => ?_)
                                  · refine x_iload C 2 rfl dL_isBestSo_359 ?_
                                    refine x_if_eqB (P := ¬ ((q_ho now k) < (q_ri now r))) (tgt := 410) C dL_isBestSo_361 (by decide) (fun c101 => False.elim (by exact c101 hG0.2.2.2)) (fun c101 => ?_)
                                    refine x_aload_n C 8 rfl dL_isBestSo_364 rfl ?_
                                    refine x_iload C 5 rfl dL_isBestSo_365 ?_
                                    refine x_iconst (v := (nI 5)) C dL_isBestSo_367 (by decide) ?_
                                    refine x_callVd (As := [.int (nI k), .int (nI 5)]) (rest := []) C dL_isBestSo_368 (c_N_horse (gX.l X) G x A now nx sz hs (if ¬ ((q_ho now k) < (q_ri now r)) then (if re = 0 then ah else (kX_takenIn now ah (nI k) (nI r)).2) else (kX_takenIn now (if re = 0 then ah else (kX_takenIn now ah (nI k) (nI r)).2) (nI k) (nI r)).2) k 5 (50 + k) hS hnx hsz (by omega) (by omega) (by omega)) ml_L_39 im_X5_horse sl_X5_horse in_X5 cd_X5_horse hd_X5_horse 0 rfl rfl rfl rfl (Nat.le_of_ble_eq_true rfl) ⟨Nat.le_of_ble_eq_true rfl, Nat.le_of_ble_eq_true rfl⟩ [] [] (by simp only [List.append_assoc, List.nil_append, List.cons_append]) (ws' := ((wO G x A now nx sz hs (if ¬ ((q_ho now k) < (q_ri now r)) then (if re = 0 then ah else (kX_takenIn now ah (nI k) (nI r)).2) else (kX_takenIn now (if re = 0 then ah else (kX_takenIn now ah (nI k) (nI r)).2) (nI k) (nI r)).2)) ++ [])) (by simp only [List.append_assoc, List.nil_append, List.cons_append]) (st' := [.int (q_ho now (50 + k))]) rfl ⟨rfl, rfl⟩ ⟨Nat.le_of_ble_eq_true rfl, Nat.le_of_ble_eq_true rfl⟩ ?_
                                    refine x_if_ne (x := (q_ho now (50 + k))) (tgt := 410) C dL_isBestSo_371 (by decide) (fun c102 => False.elim (by exact c102 (ok_z (hI.2.1 k hk10).2.2.2.2.1 (by omega) hG0.1))) (fun c102 => ?_)
                                    refine x_aload_n C 8 rfl dL_isBestSo_374 rfl ?_
                                    refine x_iload C 5 rfl dL_isBestSo_375 ?_
                                    refine x_iconst (v := (nI 2)) C dL_isBestSo_377 (by decide) ?_
                                    refine x_callVd (As := [.int (nI k), .int (nI 2)]) (rest := []) C dL_isBestSo_378 (c_N_horse (gX.l X) G x A now nx sz hs (if ¬ ((q_ho now k) < (q_ri now r)) then (if re = 0 then ah else (kX_takenIn now ah (nI k) (nI r)).2) else (kX_takenIn now (if re = 0 then ah else (kX_takenIn now ah (nI k) (nI r)).2) (nI k) (nI r)).2) k 2 (20 + k) hS hnx hsz (by omega) (by omega) (by omega)) ml_L_39 im_X5_horse sl_X5_horse in_X5 cd_X5_horse hd_X5_horse 0 rfl rfl rfl rfl (Nat.le_of_ble_eq_true rfl) ⟨Nat.le_of_ble_eq_true rfl, Nat.le_of_ble_eq_true rfl⟩ [] [] (by simp only [List.append_assoc, List.nil_append, List.cons_append]) (ws' := ((wO G x A now nx sz hs (if ¬ ((q_ho now k) < (q_ri now r)) then (if re = 0 then ah else (kX_takenIn now ah (nI k) (nI r)).2) else (kX_takenIn now (if re = 0 then ah else (kX_takenIn now ah (nI k) (nI r)).2) (nI k) (nI r)).2)) ++ [])) (by simp only [List.append_assoc, List.nil_append, List.cons_append]) (st' := [.int (q_ho now (20 + k))]) rfl ⟨rfl, rfl⟩ ⟨Nat.le_of_ble_eq_true rfl, Nat.le_of_ble_eq_true rfl⟩ ?_
                                    refine x_aload_n C 8 rfl dL_isBestSo_381 rfl ?_
                                    refine x_bipush (v := (nI 12)) C dL_isBestSo_382 (by decide) ?_
                                    refine x_callVd (As := [.int (nI 12)]) (rest := [.int (q_ho now (20 + k))]) C dL_isBestSo_384 (c_N_count12 (gX.l X) G x A now nx sz hs (if ¬ ((q_ho now k) < (q_ri now r)) then (if re = 0 then ah else (kX_takenIn now ah (nI k) (nI r)).2) else (kX_takenIn now (if re = 0 then ah else (kX_takenIn now ah (nI k) (nI r)).2) (nI k) (nI r)).2) hS hnx hsz) ml_L_36 im_X5_count sl_X5_count in_X5 cd_X5_count hd_X5_count 0 rfl rfl rfl rfl (Nat.le_of_ble_eq_true rfl) ⟨Nat.le_of_ble_eq_true rfl, Nat.le_of_ble_eq_true rfl⟩ [] [] (by simp only [List.append_assoc, List.nil_append, List.cons_append]) (ws' := ((wO G x A now nx sz hs (if ¬ ((q_ho now k) < (q_ri now r)) then (if re = 0 then ah else (kX_takenIn now ah (nI k) (nI r)).2) else (kX_takenIn now (if re = 0 then ah else (kX_takenIn now ah (nI k) (nI r)).2) (nI k) (nI r)).2)) ++ [])) (by simp only [List.append_assoc, List.nil_append, List.cons_append]) (st' := [.int (q_se now 0), .int (q_ho now (20 + k))]) rfl ⟨rfl, rfl⟩ ⟨Nat.le_of_ble_eq_true rfl, Nat.le_of_ble_eq_true rfl⟩ ?_
                                    refine x_icmp_ge (x := (q_ho now (20 + k))) (y := (q_se now 0)) (tgt := 410) C dL_isBestSo_387 (by decide) (fun c103 => False.elim (by exact c103 hG0.2.2.1)) (fun c103 => ?_)
                                    refine x_aload_n C 8 rfl dL_isBestSo_390 rfl ?_
                                    refine x_iload C 5 rfl dL_isBestSo_391 ?_
                                    refine x_iconst (v := (nI 3)) C dL_isBestSo_393 (by decide) ?_
                                    refine x_callVd (As := [.int (nI k), .int (nI 3)]) (rest := []) C dL_isBestSo_394 (c_N_horse (gX.l X) G x A now nx sz hs (if ¬ ((q_ho now k) < (q_ri now r)) then (if re = 0 then ah else (kX_takenIn now ah (nI k) (nI r)).2) else (kX_takenIn now (if re = 0 then ah else (kX_takenIn now ah (nI k) (nI r)).2) (nI k) (nI r)).2) k 3 (30 + k) hS hnx hsz (by omega) (by omega) (by omega)) ml_L_39 im_X5_horse sl_X5_horse in_X5 cd_X5_horse hd_X5_horse 0 rfl rfl rfl rfl (Nat.le_of_ble_eq_true rfl) ⟨Nat.le_of_ble_eq_true rfl, Nat.le_of_ble_eq_true rfl⟩ [] [] (by simp only [List.append_assoc, List.nil_append, List.cons_append]) (ws' := ((wO G x A now nx sz hs (if ¬ ((q_ho now k) < (q_ri now r)) then (if re = 0 then ah else (kX_takenIn now ah (nI k) (nI r)).2) else (kX_takenIn now (if re = 0 then ah else (kX_takenIn now ah (nI k) (nI r)).2) (nI k) (nI r)).2)) ++ [])) (by simp only [List.append_assoc, List.nil_append, List.cons_append]) (st' := [.int (q_ho now (30 + k))]) rfl ⟨rfl, rfl⟩ ⟨Nat.le_of_ble_eq_true rfl, Nat.le_of_ble_eq_true rfl⟩ ?_
                                    refine x_aload_n C 8 rfl dL_isBestSo_397 rfl ?_
                                    refine x_bipush (v := (nI 13)) C dL_isBestSo_398 (by decide) ?_
                                    refine x_callVd (As := [.int (nI 13)]) (rest := [.int (q_ho now (30 + k))]) C dL_isBestSo_400 (c_N_count13 (gX.l X) G x A now nx sz hs (if ¬ ((q_ho now k) < (q_ri now r)) then (if re = 0 then ah else (kX_takenIn now ah (nI k) (nI r)).2) else (kX_takenIn now (if re = 0 then ah else (kX_takenIn now ah (nI k) (nI r)).2) (nI k) (nI r)).2) hS hnx hsz) ml_L_36 im_X5_count sl_X5_count in_X5 cd_X5_count hd_X5_count 0 rfl rfl rfl rfl (Nat.le_of_ble_eq_true rfl) ⟨Nat.le_of_ble_eq_true rfl, Nat.le_of_ble_eq_true rfl⟩ [] [] (by simp only [List.append_assoc, List.nil_append, List.cons_append]) (ws' := ((wO G x A now nx sz hs (if ¬ ((q_ho now k) < (q_ri now r)) then (if re = 0 then ah else (kX_takenIn now ah (nI k) (nI r)).2) else (kX_takenIn now (if re = 0 then ah else (kX_takenIn now ah (nI k) (nI r)).2) (nI k) (nI r)).2)) ++ [])) (by simp only [List.append_assoc, List.nil_append, List.cons_append]) (st' := [.int (q_se now 1), .int (q_ho now (30 + k))]) rfl ⟨rfl, rfl⟩ ⟨Nat.le_of_ble_eq_true rfl, Nat.le_of_ble_eq_true rfl⟩ ?_
                                    refine x_icmp_ge (x := (q_ho now (30 + k))) (y := (q_se now 1)) (tgt := 410) C dL_isBestSo_403 (by decide) (fun c104 => False.elim (by exact c104 hG0.2.1)) (fun c104 => ?_)
                                    refine x_iconst (v := (nI 1)) C dL_isBestSo_406 (by decide) ?_
                                    refine x_goto (tgt := 411) C dL_isBestSo_407 (by decide) ?_
                                    refine x_istore_n (lv' := [(3, .int (nI 1)), (9, .int (if (if ((bI ((c_abil (q_ri now) r) < (q_ho now (10 + k)))) - (bI (¬ (f = (-5)) ∧ ((c_abil (q_ri now) r) < (q_ho now (10 + (nC f))))))) = 0 then ((q_ho now (20 + k)) - (q_ho now (20 + (nC f)))) else ((bI ((c_abil (q_ri now) r) < (q_ho now (10 + k)))) - (bI (¬ (f = (-5)) ∧ ((c_abil (q_ri now) r) < (q_ho now (10 + (nC f)))))))) = 0 then ((q_ho now k) - (q_ho now (nC f))) else (if ((bI ((c_abil (q_ri now) r) < (q_ho now (10 + k)))) - (bI (¬ (f = (-5)) ∧ ((c_abil (q_ri now) r) < (q_ho now (10 + (nC f))))))) = 0 then ((q_ho now (20 + k)) - (q_ho now (20 + (nC f)))) else ((bI ((c_abil (q_ri now) r) < (q_ho now (10 + k)))) - (bI (¬ (f = (-5)) ∧ ((c_abil (q_ri now) r) < (q_ho now (10 + (nC f)))))))))), (8, .int (bI (¬ ((q_ho now k) < (q_ri now r))))), (7, .int (bI ((c_abil (q_ri now) r) < (q_ho now (10 + k))))), (6, .int re), (5, .int (nI k)), (4, .int (bI (¬ (f = (-5)) ∧ ((c_abil (q_ri now) r) < (q_ho now (10 + (nC f))))))), (2, .int f), (0, .ref x), (1, .int (nI r))]) C dL_isBestSo_411 rfl (by decide) rfl ?_
                                    refine x_iinc (v := (nI (k + 1))) (lv' := [(5, .int (nI (k + 1))), (3, .int (nI 1)), (9, .int (if (if ((bI ((c_abil (q_ri now) r) < (q_ho now (10 + k)))) - (bI (¬ (f = (-5)) ∧ ((c_abil (q_ri now) r) < (q_ho now (10 + (nC f))))))) = 0 then ((q_ho now (20 + k)) - (q_ho now (20 + (nC f)))) else ((bI ((c_abil (q_ri now) r) < (q_ho now (10 + k)))) - (bI (¬ (f = (-5)) ∧ ((c_abil (q_ri now) r) < (q_ho now (10 + (nC f)))))))) = 0 then ((q_ho now k) - (q_ho now (nC f))) else (if ((bI ((c_abil (q_ri now) r) < (q_ho now (10 + k)))) - (bI (¬ (f = (-5)) ∧ ((c_abil (q_ri now) r) < (q_ho now (10 + (nC f))))))) = 0 then ((q_ho now (20 + k)) - (q_ho now (20 + (nC f)))) else ((bI ((c_abil (q_ri now) r) < (q_ho now (10 + k)))) - (bI (¬ (f = (-5)) ∧ ((c_abil (q_ri now) r) < (q_ho now (10 + (nC f)))))))))), (8, .int (bI (¬ ((q_ho now k) < (q_ri now r))))), (7, .int (bI ((c_abil (q_ri now) r) < (q_ho now (10 + k))))), (6, .int re), (4, .int (bI (¬ (f = (-5)) ∧ ((c_abil (q_ri now) r) < (q_ho now (10 + (nC f))))))), (2, .int f), (0, .ref x), (1, .int (nI r))]) C 5 rfl dL_isBestSo_412 (by rw [show Int32.ofInt 1 = nI 1 from rfl]; exact nI_add _ _) (by decide) rfl ?_
                                    refine x_goto (tgt := 71) C dL_isBestSo_415 (by decide) ?_
                                    refine x_lv [0, 6, 1, 7, 8, 9] (lv' := [(5, .int (nI (k + 1))), (4, .int (bI (¬ (f = (-5)) ∧ ((c_abil (q_ri now) r) < (q_ho now (10 + (nC f))))))), (3, .int (nI 1)), (2, .int f), (0, .ref x), (1, .int (nI r))]) rfl ?_
                                    exact ih (k + 1) (if ¬ ((q_ho now k) < (q_ri now r)) then (if re = 0 then ah else (kX_takenIn now ah (nI k) (nI r)).2) else (kX_takenIn now (if re = 0 then ah else (kX_takenIn now ah (nI k) (nI r)).2) (nI k) (nI r)).2) (by omega) 
                                  · refine x_iload C 0 rfl dL_isBestSo_348 ?_
                                    refine x_if_ne (x := (if (if ((bI ((c_abil (q_ri now) r) < (q_ho now (10 + k)))) - (bI (¬ (f = (-5)) ∧ ((c_abil (q_ri now) r) < (q_ho now (10 + (nC f))))))) = 0 then ((q_ho now (20 + k)) - (q_ho now (20 + (nC f)))) else ((bI ((c_abil (q_ri now) r) < (q_ho now (10 + k)))) - (bI (¬ (f = (-5)) ∧ ((c_abil (q_ri now) r) < (q_ho now (10 + (nC f)))))))) = 0 then ((q_ho now k) - (q_ho now (nC f))) else (if ((bI ((c_abil (q_ri now) r) < (q_ho now (10 + k)))) - (bI (¬ (f = (-5)) ∧ ((c_abil (q_ri now) r) < (q_ho now (10 + (nC f))))))) = 0 then ((q_ho now (20 + k)) - (q_ho now (20 + (nC f)))) else ((bI ((c_abil (q_ri now) r) < (q_ho now (10 + k)))) - (bI (¬ (f = (-5)) ∧ ((c_abil (q_ri now) r) < (q_ho now (10 + (nC f)))))))))) (tgt := 410) C dL_isBestSo_350 (by decide) (fun c105 => False.elim (by exact c105 (hlex.resolve_left (by assumption)).1)) (fun c105 => ?_)
                                    refine x_iload C 5 rfl dL_isBestSo_353 ?_
                                    refine x_iload_n C 7 rfl dL_isBestSo_355 rfl ?_
                                    refine x_icmp_lt (x := (nI k)) (y := f) (tgt := 410) C dL_isBestSo_356 (by decide) (fun c106 => False.elim (by exact (hlex.resolve_left (by assumption)).2 c106)) (fun c106 => ?_)
                                    refine x_iload C 2 rfl dL_isBestSo_359 ?_
                                    refine x_if_eqB (P := ¬ ((q_ho now k) < (q_ri now r))) (tgt := 410) C dL_isBestSo_361 (by decide) (fun c107 => False.elim (by exact c107 hG0.2.2.2)) (fun c107 => ?_)
                                    refine x_aload_n C 8 rfl dL_isBestSo_364 rfl ?_
                                    refine x_iload C 5 rfl dL_isBestSo_365 ?_
                                    refine x_iconst (v := (nI 5)) C dL_isBestSo_367 (by decide) ?_
                                    refine x_callVd (As := [.int (nI k), .int (nI 5)]) (rest := []) C dL_isBestSo_368 (c_N_horse (gX.l X) G x A now nx sz hs (if ¬ ((q_ho now k) < (q_ri now r)) then (if re = 0 then ah else (kX_takenIn now ah (nI k) (nI r)).2) else (kX_takenIn now (if re = 0 then ah else (kX_takenIn now ah (nI k) (nI r)).2) (nI k) (nI r)).2) k 5 (50 + k) hS hnx hsz (by omega) (by omega) (by omega)) ml_L_39 im_X5_horse sl_X5_horse in_X5 cd_X5_horse hd_X5_horse 0 rfl rfl rfl rfl (Nat.le_of_ble_eq_true rfl) ⟨Nat.le_of_ble_eq_true rfl, Nat.le_of_ble_eq_true rfl⟩ [] [] (by simp only [List.append_assoc, List.nil_append, List.cons_append]) (ws' := ((wO G x A now nx sz hs (if ¬ ((q_ho now k) < (q_ri now r)) then (if re = 0 then ah else (kX_takenIn now ah (nI k) (nI r)).2) else (kX_takenIn now (if re = 0 then ah else (kX_takenIn now ah (nI k) (nI r)).2) (nI k) (nI r)).2)) ++ [])) (by simp only [List.append_assoc, List.nil_append, List.cons_append]) (st' := [.int (q_ho now (50 + k))]) rfl ⟨rfl, rfl⟩ ⟨Nat.le_of_ble_eq_true rfl, Nat.le_of_ble_eq_true rfl⟩ ?_
                                    refine x_if_ne (x := (q_ho now (50 + k))) (tgt := 410) C dL_isBestSo_371 (by decide) (fun c108 => False.elim (by exact c108 (ok_z (hI.2.1 k hk10).2.2.2.2.1 (by omega) hG0.1))) (fun c108 => ?_)
                                    refine x_aload_n C 8 rfl dL_isBestSo_374 rfl ?_
                                    refine x_iload C 5 rfl dL_isBestSo_375 ?_
                                    refine x_iconst (v := (nI 2)) C dL_isBestSo_377 (by decide) ?_
                                    refine x_callVd (As := [.int (nI k), .int (nI 2)]) (rest := []) C dL_isBestSo_378 (c_N_horse (gX.l X) G x A now nx sz hs (if ¬ ((q_ho now k) < (q_ri now r)) then (if re = 0 then ah else (kX_takenIn now ah (nI k) (nI r)).2) else (kX_takenIn now (if re = 0 then ah else (kX_takenIn now ah (nI k) (nI r)).2) (nI k) (nI r)).2) k 2 (20 + k) hS hnx hsz (by omega) (by omega) (by omega)) ml_L_39 im_X5_horse sl_X5_horse in_X5 cd_X5_horse hd_X5_horse 0 rfl rfl rfl rfl (Nat.le_of_ble_eq_true rfl) ⟨Nat.le_of_ble_eq_true rfl, Nat.le_of_ble_eq_true rfl⟩ [] [] (by simp only [List.append_assoc, List.nil_append, List.cons_append]) (ws' := ((wO G x A now nx sz hs (if ¬ ((q_ho now k) < (q_ri now r)) then (if re = 0 then ah else (kX_takenIn now ah (nI k) (nI r)).2) else (kX_takenIn now (if re = 0 then ah else (kX_takenIn now ah (nI k) (nI r)).2) (nI k) (nI r)).2)) ++ [])) (by simp only [List.append_assoc, List.nil_append, List.cons_append]) (st' := [.int (q_ho now (20 + k))]) rfl ⟨rfl, rfl⟩ ⟨Nat.le_of_ble_eq_true rfl, Nat.le_of_ble_eq_true rfl⟩ ?_
                                    refine x_aload_n C 8 rfl dL_isBestSo_381 rfl ?_
                                    refine x_bipush (v := (nI 12)) C dL_isBestSo_382 (by decide) ?_
                                    refine x_callVd (As := [.int (nI 12)]) (rest := [.int (q_ho now (20 + k))]) C dL_isBestSo_384 (c_N_count12 (gX.l X) G x A now nx sz hs (if ¬ ((q_ho now k) < (q_ri now r)) then (if re = 0 then ah else (kX_takenIn now ah (nI k) (nI r)).2) else (kX_takenIn now (if re = 0 then ah else (kX_takenIn now ah (nI k) (nI r)).2) (nI k) (nI r)).2) hS hnx hsz) ml_L_36 im_X5_count sl_X5_count in_X5 cd_X5_count hd_X5_count 0 rfl rfl rfl rfl (Nat.le_of_ble_eq_true rfl) ⟨Nat.le_of_ble_eq_true rfl, Nat.le_of_ble_eq_true rfl⟩ [] [] (by simp only [List.append_assoc, List.nil_append, List.cons_append]) (ws' := ((wO G x A now nx sz hs (if ¬ ((q_ho now k) < (q_ri now r)) then (if re = 0 then ah else (kX_takenIn now ah (nI k) (nI r)).2) else (kX_takenIn now (if re = 0 then ah else (kX_takenIn now ah (nI k) (nI r)).2) (nI k) (nI r)).2)) ++ [])) (by simp only [List.append_assoc, List.nil_append, List.cons_append]) (st' := [.int (q_se now 0), .int (q_ho now (20 + k))]) rfl ⟨rfl, rfl⟩ ⟨Nat.le_of_ble_eq_true rfl, Nat.le_of_ble_eq_true rfl⟩ ?_
                                    refine x_icmp_ge (x := (q_ho now (20 + k))) (y := (q_se now 0)) (tgt := 410) C dL_isBestSo_387 (by decide) (fun c109 => False.elim (by exact c109 hG0.2.2.1)) (fun c109 => ?_)
                                    refine x_aload_n C 8 rfl dL_isBestSo_390 rfl ?_
                                    refine x_iload C 5 rfl dL_isBestSo_391 ?_
                                    refine x_iconst (v := (nI 3)) C dL_isBestSo_393 (by decide) ?_
                                    refine x_callVd (As := [.int (nI k), .int (nI 3)]) (rest := []) C dL_isBestSo_394 (c_N_horse (gX.l X) G x A now nx sz hs (if ¬ ((q_ho now k) < (q_ri now r)) then (if re = 0 then ah else (kX_takenIn now ah (nI k) (nI r)).2) else (kX_takenIn now (if re = 0 then ah else (kX_takenIn now ah (nI k) (nI r)).2) (nI k) (nI r)).2) k 3 (30 + k) hS hnx hsz (by omega) (by omega) (by omega)) ml_L_39 im_X5_horse sl_X5_horse in_X5 cd_X5_horse hd_X5_horse 0 rfl rfl rfl rfl (Nat.le_of_ble_eq_true rfl) ⟨Nat.le_of_ble_eq_true rfl, Nat.le_of_ble_eq_true rfl⟩ [] [] (by simp only [List.append_assoc, List.nil_append, List.cons_append]) (ws' := ((wO G x A now nx sz hs (if ¬ ((q_ho now k) < (q_ri now r)) then (if re = 0 then ah else (kX_takenIn now ah (nI k) (nI r)).2) else (kX_takenIn now (if re = 0 then ah else (kX_takenIn now ah (nI k) (nI r)).2) (nI k) (nI r)).2)) ++ [])) (by simp only [List.append_assoc, List.nil_append, List.cons_append]) (st' := [.int (q_ho now (30 + k))]) rfl ⟨rfl, rfl⟩ ⟨Nat.le_of_ble_eq_true rfl, Nat.le_of_ble_eq_true rfl⟩ ?_
                                    refine x_aload_n C 8 rfl dL_isBestSo_397 rfl ?_
                                    refine x_bipush (v := (nI 13)) C dL_isBestSo_398 (by decide) ?_
                                    refine x_callVd (As := [.int (nI 13)]) (rest := [.int (q_ho now (30 + k))]) C dL_isBestSo_400 (c_N_count13 (gX.l X) G x A now nx sz hs (if ¬ ((q_ho now k) < (q_ri now r)) then (if re = 0 then ah else (kX_takenIn now ah (nI k) (nI r)).2) else (kX_takenIn now (if re = 0 then ah else (kX_takenIn now ah (nI k) (nI r)).2) (nI k) (nI r)).2) hS hnx hsz) ml_L_36 im_X5_count sl_X5_count in_X5 cd_X5_count hd_X5_count 0 rfl rfl rfl rfl (Nat.le_of_ble_eq_true rfl) ⟨Nat.le_of_ble_eq_true rfl, Nat.le_of_ble_eq_true rfl⟩ [] [] (by simp only [List.append_assoc, List.nil_append, List.cons_append]) (ws' := ((wO G x A now nx sz hs (if ¬ ((q_ho now k) < (q_ri now r)) then (if re = 0 then ah else (kX_takenIn now ah (nI k) (nI r)).2) else (kX_takenIn now (if re = 0 then ah else (kX_takenIn now ah (nI k) (nI r)).2) (nI k) (nI r)).2)) ++ [])) (by simp only [List.append_assoc, List.nil_append, List.cons_append]) (st' := [.int (q_se now 1), .int (q_ho now (30 + k))]) rfl ⟨rfl, rfl⟩ ⟨Nat.le_of_ble_eq_true rfl, Nat.le_of_ble_eq_true rfl⟩ ?_
                                    refine x_icmp_ge (x := (q_ho now (30 + k))) (y := (q_se now 1)) (tgt := 410) C dL_isBestSo_403 (by decide) (fun c110 => False.elim (by exact c110 hG0.2.1)) (fun c110 => ?_)
                                    refine x_iconst (v := (nI 1)) C dL_isBestSo_406 (by decide) ?_
                                    refine x_goto (tgt := 411) C dL_isBestSo_407 (by decide) ?_
                                    refine x_istore_n (lv' := [(3, .int (nI 1)), (9, .int (if (if ((bI ((c_abil (q_ri now) r) < (q_ho now (10 + k)))) - (bI (¬ (f = (-5)) ∧ ((c_abil (q_ri now) r) < (q_ho now (10 + (nC f))))))) = 0 then ((q_ho now (20 + k)) - (q_ho now (20 + (nC f)))) else ((bI ((c_abil (q_ri now) r) < (q_ho now (10 + k)))) - (bI (¬ (f = (-5)) ∧ ((c_abil (q_ri now) r) < (q_ho now (10 + (nC f)))))))) = 0 then ((q_ho now k) - (q_ho now (nC f))) else (if ((bI ((c_abil (q_ri now) r) < (q_ho now (10 + k)))) - (bI (¬ (f = (-5)) ∧ ((c_abil (q_ri now) r) < (q_ho now (10 + (nC f))))))) = 0 then ((q_ho now (20 + k)) - (q_ho now (20 + (nC f)))) else ((bI ((c_abil (q_ri now) r) < (q_ho now (10 + k)))) - (bI (¬ (f = (-5)) ∧ ((c_abil (q_ri now) r) < (q_ho now (10 + (nC f)))))))))), (8, .int (bI (¬ ((q_ho now k) < (q_ri now r))))), (7, .int (bI ((c_abil (q_ri now) r) < (q_ho now (10 + k))))), (6, .int re), (5, .int (nI k)), (4, .int (bI (¬ (f = (-5)) ∧ ((c_abil (q_ri now) r) < (q_ho now (10 + (nC f))))))), (2, .int f), (0, .ref x), (1, .int (nI r))]) C dL_isBestSo_411 rfl (by decide) rfl ?_
                                    refine x_iinc (v := (nI (k + 1))) (lv' := [(5, .int (nI (k + 1))), (3, .int (nI 1)), (9, .int (if (if ((bI ((c_abil (q_ri now) r) < (q_ho now (10 + k)))) - (bI (¬ (f = (-5)) ∧ ((c_abil (q_ri now) r) < (q_ho now (10 + (nC f))))))) = 0 then ((q_ho now (20 + k)) - (q_ho now (20 + (nC f)))) else ((bI ((c_abil (q_ri now) r) < (q_ho now (10 + k)))) - (bI (¬ (f = (-5)) ∧ ((c_abil (q_ri now) r) < (q_ho now (10 + (nC f)))))))) = 0 then ((q_ho now k) - (q_ho now (nC f))) else (if ((bI ((c_abil (q_ri now) r) < (q_ho now (10 + k)))) - (bI (¬ (f = (-5)) ∧ ((c_abil (q_ri now) r) < (q_ho now (10 + (nC f))))))) = 0 then ((q_ho now (20 + k)) - (q_ho now (20 + (nC f)))) else ((bI ((c_abil (q_ri now) r) < (q_ho now (10 + k)))) - (bI (¬ (f = (-5)) ∧ ((c_abil (q_ri now) r) < (q_ho now (10 + (nC f)))))))))), (8, .int (bI (¬ ((q_ho now k) < (q_ri now r))))), (7, .int (bI ((c_abil (q_ri now) r) < (q_ho now (10 + k))))), (6, .int re), (4, .int (bI (¬ (f = (-5)) ∧ ((c_abil (q_ri now) r) < (q_ho now (10 + (nC f))))))), (2, .int f), (0, .ref x), (1, .int (nI r))]) C 5 rfl dL_isBestSo_412 (by rw [show Int32.ofInt 1 = nI 1 from rfl]; exact nI_add _ _) (by decide) rfl ?_
                                    refine x_goto (tgt := 71) C dL_isBestSo_415 (by decide) ?_
                                    refine x_lv [0, 6, 1, 7, 8, 9] (lv' := [(5, .int (nI (k + 1))), (4, .int (bI (¬ (f = (-5)) ∧ ((c_abil (q_ri now) r) < (q_ho now (10 + (nC f))))))), (3, .int (nI 1)), (2, .int f), (0, .ref x), (1, .int (nI r))]) rfl ?_
                                    exact ih (k + 1) (if ¬ ((q_ho now k) < (q_ri now r)) then (if re = 0 then ah else (kX_takenIn now ah (nI k) (nI r)).2) else (kX_takenIn now (if re = 0 then ah else (kX_takenIn now ah (nI k) (nI r)).2) (nI k) (nI r)).2) (by omega) 
                                refine x_if_ne (x := (if ((bI ((c_abil (q_ri now) r) < (q_ho now (10 + k)))) - (bI (¬ (f = (-5)) ∧ ((c_abil (q_ri now) r) < (q_ho now (10 + (nC f))))))) = 0 then ((q_ho now (20 + k)) - (q_ho now (20 + (nC f)))) else ((bI ((c_abil (q_ri now) r) < (q_ho now (10 + k)))) - (bI (¬ (f = (-5)) ∧ ((c_abil (q_ri now) r) < (q_ho now (10 + (nC f))))))))) (tgt := 331) C dL_isBestSo_307 (by decide) (fun c94 => ?_) (fun c94 => ?_)
                                · refine x_iload C 0 rfl dL_isBestSo_331 ?_
                                  exact J96 (if ((bI ((c_abil (q_ri now) r) < (q_ho now (10 + k)))) - (bI (¬ (f = (-5)) ∧ ((c_abil (q_ri now) r) < (q_ho now (10 + (nC f))))))) = 0 then ((q_ho now (20 + k)) - (q_ho now (20 + (nC f)))) else ((bI ((c_abil (q_ri now) r) < (q_ho now (10 + k)))) - (bI (¬ (f = (-5)) ∧ ((c_abil (q_ri now) r) < (q_ho now (10 + (nC f)))))))) (by rw [if_neg c94] <;> rfl)
                                · refine x_iload_n C 7 rfl dL_isBestSo_310 rfl ?_
                                  refine x_if_lt (x := f) (tgt := 331) C dL_isBestSo_311 (by decide) (fun c95 => False.elim (by exact hfn c95)) (fun c95 => ?_)
                                  refine x_aload_n C 8 rfl dL_isBestSo_314 rfl ?_
                                  refine x_iload C 5 rfl dL_isBestSo_315 ?_
                                  refine x_iconst (v := (nI 0)) C dL_isBestSo_317 (by decide) ?_
                                  refine x_callVd (As := [.int (nI k), .int (nI 0)]) (rest := []) C dL_isBestSo_318 (c_N_horse (gX.l X) G x A now nx sz hs (if ¬ ((q_ho now k) < (q_ri now r)) then (if re = 0 then ah else (kX_takenIn now ah (nI k) (nI r)).2) else (kX_takenIn now (if re = 0 then ah else (kX_takenIn now ah (nI k) (nI r)).2) (nI k) (nI r)).2) k 0 k hS hnx hsz (by omega) (by omega) (by omega)) ml_L_39 im_X5_horse sl_X5_horse in_X5 cd_X5_horse hd_X5_horse 0 rfl rfl rfl rfl (Nat.le_of_ble_eq_true rfl) ⟨Nat.le_of_ble_eq_true rfl, Nat.le_of_ble_eq_true rfl⟩ [] [] (by simp only [List.append_assoc, List.nil_append, List.cons_append]) (ws' := ((wO G x A now nx sz hs (if ¬ ((q_ho now k) < (q_ri now r)) then (if re = 0 then ah else (kX_takenIn now ah (nI k) (nI r)).2) else (kX_takenIn now (if re = 0 then ah else (kX_takenIn now ah (nI k) (nI r)).2) (nI k) (nI r)).2)) ++ [])) (by simp only [List.append_assoc, List.nil_append, List.cons_append]) (st' := [.int (q_ho now k)]) rfl ⟨rfl, rfl⟩ ⟨Nat.le_of_ble_eq_true rfl, Nat.le_of_ble_eq_true rfl⟩ ?_
                                  refine x_aload_n C 8 rfl dL_isBestSo_321 rfl ?_
                                  refine x_iload_n C 7 rfl dL_isBestSo_322 rfl ?_
                                  refine x_top (y := (nI (nC f))) hfo.1.2 ?_
                                  refine x_iconst (v := (nI 0)) C dL_isBestSo_323 (by decide) ?_
                                  refine x_callVd (As := [.int (nI (nC f)), .int (nI 0)]) (rest := [.int (q_ho now k)]) C dL_isBestSo_324 (c_N_horse (gX.l X) G x A now nx sz hs (if ¬ ((q_ho now k) < (q_ri now r)) then (if re = 0 then ah else (kX_takenIn now ah (nI k) (nI r)).2) else (kX_takenIn now (if re = 0 then ah else (kX_takenIn now ah (nI k) (nI r)).2) (nI k) (nI r)).2) (nC f) 0 (nC f) hS hnx hsz (by omega) (by omega) (by omega)) ml_L_39 im_X5_horse sl_X5_horse in_X5 cd_X5_horse hd_X5_horse 0 rfl rfl rfl rfl (Nat.le_of_ble_eq_true rfl) ⟨Nat.le_of_ble_eq_true rfl, Nat.le_of_ble_eq_true rfl⟩ [] [] (by simp only [List.append_assoc, List.nil_append, List.cons_append]) (ws' := ((wO G x A now nx sz hs (if ¬ ((q_ho now k) < (q_ri now r)) then (if re = 0 then ah else (kX_takenIn now ah (nI k) (nI r)).2) else (kX_takenIn now (if re = 0 then ah else (kX_takenIn now ah (nI k) (nI r)).2) (nI k) (nI r)).2)) ++ [])) (by simp only [List.append_assoc, List.nil_append, List.cons_append]) (st' := [.int (q_ho now (nC f)), .int (q_ho now k)]) rfl ⟨rfl, rfl⟩ ⟨Nat.le_of_ble_eq_true rfl, Nat.le_of_ble_eq_true rfl⟩ ?_
                                  refine x_isub (x := (q_ho now k)) (y := (q_ho now (nC f))) C dL_isBestSo_327 ?_
                                  refine x_goto (tgt := 333) C dL_isBestSo_328 (by decide) ?_
                                  exact J96 ((q_ho now k) - (q_ho now (nC f))) (by rw [if_pos c94] <;> rfl)
                              refine x_if_ne (x := ((bI ((c_abil (q_ri now) r) < (q_ho now (10 + k)))) - (bI (¬ (f = (-5)) ∧ ((c_abil (q_ri now) r) < (q_ho now (10 + (nC f)))))))) (tgt := 301) C dL_isBestSo_277 (by decide) (fun c90 => ?_) (fun c90 => ?_)
                              · refine x_iload C 0 rfl dL_isBestSo_301 ?_
                                exact J92 ((bI ((c_abil (q_ri now) r) < (q_ho now (10 + k)))) - (bI (¬ (f = (-5)) ∧ ((c_abil (q_ri now) r) < (q_ho now (10 + (nC f))))))) (by rw [if_neg c90] <;> rfl)
                              · refine x_iload_n C 7 rfl dL_isBestSo_280 rfl ?_
                                refine x_if_lt (x := f) (tgt := 301) C dL_isBestSo_281 (by decide) (fun c91 => False.elim (by exact hfn c91)) (fun c91 => ?_)
                                refine x_aload_n C 8 rfl dL_isBestSo_284 rfl ?_
                                refine x_iload C 5 rfl dL_isBestSo_285 ?_
                                refine x_iconst (v := (nI 2)) C dL_isBestSo_287 (by decide) ?_
                                refine x_callVd (As := [.int (nI k), .int (nI 2)]) (rest := []) C dL_isBestSo_288 (c_N_horse (gX.l X) G x A now nx sz hs (if ¬ ((q_ho now k) < (q_ri now r)) then (if re = 0 then ah else (kX_takenIn now ah (nI k) (nI r)).2) else (kX_takenIn now (if re = 0 then ah else (kX_takenIn now ah (nI k) (nI r)).2) (nI k) (nI r)).2) k 2 (20 + k) hS hnx hsz (by omega) (by omega) (by omega)) ml_L_39 im_X5_horse sl_X5_horse in_X5 cd_X5_horse hd_X5_horse 0 rfl rfl rfl rfl (Nat.le_of_ble_eq_true rfl) ⟨Nat.le_of_ble_eq_true rfl, Nat.le_of_ble_eq_true rfl⟩ [] [] (by simp only [List.append_assoc, List.nil_append, List.cons_append]) (ws' := ((wO G x A now nx sz hs (if ¬ ((q_ho now k) < (q_ri now r)) then (if re = 0 then ah else (kX_takenIn now ah (nI k) (nI r)).2) else (kX_takenIn now (if re = 0 then ah else (kX_takenIn now ah (nI k) (nI r)).2) (nI k) (nI r)).2)) ++ [])) (by simp only [List.append_assoc, List.nil_append, List.cons_append]) (st' := [.int (q_ho now (20 + k))]) rfl ⟨rfl, rfl⟩ ⟨Nat.le_of_ble_eq_true rfl, Nat.le_of_ble_eq_true rfl⟩ ?_
                                refine x_aload_n C 8 rfl dL_isBestSo_291 rfl ?_
                                refine x_iload_n C 7 rfl dL_isBestSo_292 rfl ?_
                                refine x_top (y := (nI (nC f))) hfo.1.2 ?_
                                refine x_iconst (v := (nI 2)) C dL_isBestSo_293 (by decide) ?_
                                refine x_callVd (As := [.int (nI (nC f)), .int (nI 2)]) (rest := [.int (q_ho now (20 + k))]) C dL_isBestSo_294 (c_N_horse (gX.l X) G x A now nx sz hs (if ¬ ((q_ho now k) < (q_ri now r)) then (if re = 0 then ah else (kX_takenIn now ah (nI k) (nI r)).2) else (kX_takenIn now (if re = 0 then ah else (kX_takenIn now ah (nI k) (nI r)).2) (nI k) (nI r)).2) (nC f) 2 (20 + (nC f)) hS hnx hsz (by omega) (by omega) (by omega)) ml_L_39 im_X5_horse sl_X5_horse in_X5 cd_X5_horse hd_X5_horse 0 rfl rfl rfl rfl (Nat.le_of_ble_eq_true rfl) ⟨Nat.le_of_ble_eq_true rfl, Nat.le_of_ble_eq_true rfl⟩ [] [] (by simp only [List.append_assoc, List.nil_append, List.cons_append]) (ws' := ((wO G x A now nx sz hs (if ¬ ((q_ho now k) < (q_ri now r)) then (if re = 0 then ah else (kX_takenIn now ah (nI k) (nI r)).2) else (kX_takenIn now (if re = 0 then ah else (kX_takenIn now ah (nI k) (nI r)).2) (nI k) (nI r)).2)) ++ [])) (by simp only [List.append_assoc, List.nil_append, List.cons_append]) (st' := [.int (q_ho now (20 + (nC f))), .int (q_ho now (20 + k))]) rfl ⟨rfl, rfl⟩ ⟨Nat.le_of_ble_eq_true rfl, Nat.le_of_ble_eq_true rfl⟩ ?_
                                refine x_isub (x := (q_ho now (20 + k))) (y := (q_ho now (20 + (nC f)))) C dL_isBestSo_297 ?_
                                refine x_goto (tgt := 303) C dL_isBestSo_298 (by decide) ?_
                                exact J92 ((q_ho now (20 + k)) - (q_ho now (20 + (nC f)))) (by rw [if_pos c90] <;> rfl)
                          refine x_if_neB (P := ¬ ((q_ho now k) < (q_ri now r))) (tgt := 257) C dL_isBestSo_242 (by decide) (fun c64 => ?_) (fun c64 => ?_)
                          · exact J66 (if re = 0 then ah else (kX_takenIn now ah (nI k) (nI r)).2) (by rw [if_pos c64] <;> rfl)
                          · refine x_aload_n C 7 rfl dL_isBestSo_245 rfl ?_
                            refine x_iload C 3 rfl dL_isBestSo_246 ?_
                            refine x_iload_n C 8 rfl dL_isBestSo_248 rfl ?_
                            refine x_callVd (As := [.int (nI k), .int (nI r)]) (rest := []) C dL_isBestSo_249 (c_O_takenIn (gX.l X) G x A now nx sz hs (if re = 0 then ah else (kX_takenIn now ah (nI k) (nI r)).2) (nI k) (nI r) hS hnx hsz) ml_L_61 im_X5_takenIn sl_X5_takenIn in_X5 cd_X5_takenIn hd_X5_takenIn 0 rfl rfl rfl rfl (Nat.le_of_ble_eq_true rfl) ⟨Nat.le_of_ble_eq_true rfl, Nat.le_of_ble_eq_true rfl⟩ [] [] (by simp only [List.append_assoc, List.nil_append, List.cons_append]) (ws' := ((wO G x A now nx sz hs ((kX_takenIn now (if re = 0 then ah else (kX_takenIn now ah (nI k) (nI r)).2) (nI k) (nI r)).2)) ++ [])) (by simp only [List.append_assoc, List.nil_append, List.cons_append]) (st' := [.int ((kX_takenIn now (if re = 0 then ah else (kX_takenIn now ah (nI k) (nI r)).2) (nI k) (nI r)).1)]) rfl ⟨rfl, rfl⟩ ⟨Nat.le_of_ble_eq_true rfl, Nat.le_of_ble_eq_true rfl⟩ ?_
                            refine x_bipush (v := (-5)) C dL_isBestSo_252 (by decide) ?_
                            refine x_icmp_ne (x := ((kX_takenIn now (if re = 0 then ah else (kX_takenIn now ah (nI k) (nI r)).2) (nI k) (nI r)).1)) (y := (-5)) (tgt := 261) C dL_isBestSo_254 (by decide) (fun c65 => False.elim (by exact c65 (tk_5 hk10 hr0 (Decidable.byContradiction (by assumption))))) (fun c65 => ?_)
                            exact J66 ((kX_takenIn now (if re = 0 then ah else (kX_takenIn now ah (nI k) (nI r)).2) (nI k) (nI r)).2) (by rw [if_neg c64] <;> rfl)
                        refine x_if_eq (x := re) (tgt := 240) C dL_isBestSo_227 (by decide) (fun c60 => ?_) (fun c60 => ?_)
                        · exact J62 ah (by rw [if_pos c60] <;> rfl)
                        · refine x_aload_n C 7 rfl dL_isBestSo_230 rfl ?_
                          refine x_iload C 3 rfl dL_isBestSo_231 ?_
                          refine x_iload_n C 8 rfl dL_isBestSo_233 rfl ?_
                          refine x_callVd (As := [.int (nI k), .int (nI r)]) (rest := []) C dL_isBestSo_234 (c_O_takenIn (gX.l X) G x A now nx sz hs ah (nI k) (nI r) hS hnx hsz) ml_L_61 im_X5_takenIn sl_X5_takenIn in_X5 cd_X5_takenIn hd_X5_takenIn 0 rfl rfl rfl rfl (Nat.le_of_ble_eq_true rfl) ⟨Nat.le_of_ble_eq_true rfl, Nat.le_of_ble_eq_true rfl⟩ [] [] (by simp only [List.append_assoc, List.nil_append, List.cons_append]) (ws' := ((wO G x A now nx sz hs ((kX_takenIn now ah (nI k) (nI r)).2)) ++ [])) (by simp only [List.append_assoc, List.nil_append, List.cons_append]) (st' := [.int ((kX_takenIn now ah (nI k) (nI r)).1)]) rfl ⟨rfl, rfl⟩ ⟨Nat.le_of_ble_eq_true rfl, Nat.le_of_ble_eq_true rfl⟩ ?_
                          refine x_if_eq (x := ((kX_takenIn now ah (nI k) (nI r)).1)) (tgt := 261) C dL_isBestSo_237 (by decide) (fun c61 => False.elim (by exact tk_n hk10 hr0 (by rw [← re_e]; assumption) c61)) (fun c61 => ?_)
                          exact J62 ((kX_takenIn now ah (nI k) (nI r)).2) (by rw [if_neg c60] <;> rfl)
                      refine x_icmp_ne (x := re) (y := 5) (tgt := 225) C dL_isBestSo_217 (by decide) (fun c57 => ?_) (fun c57 => ?_)
                      · exact J59 
                      · refine x_iload C 0 rfl dL_isBestSo_220 ?_
                        refine x_if_neB (P := ¬ ((q_ho now k) < (q_ri now r))) (tgt := 261) C dL_isBestSo_222 (by decide) (fun c58 => False.elim (by exact c58 (hre.2.2.2.2.1 (by assumption)))) (fun c58 => ?_)
                        exact J59 
                    refine x_icmp_ne (x := re) (y := 4) (tgt := 214) C dL_isBestSo_195 (by decide) (fun c54 => ?_) (fun c54 => ?_)
                    · exact J56 
                    · refine x_aload_n C 7 rfl dL_isBestSo_198 rfl ?_
                      refine x_iload C 3 rfl dL_isBestSo_199 ?_
                      refine x_iconst (v := (nI 2)) C dL_isBestSo_201 (by decide) ?_
                      refine x_callVd (As := [.int (nI k), .int (nI 2)]) (rest := []) C dL_isBestSo_202 (c_N_horse (gX.l X) G x A now nx sz hs ah k 2 (20 + k) hS hnx hsz (by omega) (by omega) (by omega)) ml_L_39 im_X5_horse sl_X5_horse in_X5 cd_X5_horse hd_X5_horse 0 rfl rfl rfl rfl (Nat.le_of_ble_eq_true rfl) ⟨Nat.le_of_ble_eq_true rfl, Nat.le_of_ble_eq_true rfl⟩ [] [] (by simp only [List.append_assoc, List.nil_append, List.cons_append]) (ws' := ((wO G x A now nx sz hs ah) ++ [])) (by simp only [List.append_assoc, List.nil_append, List.cons_append]) (st' := [.int (q_ho now (20 + k))]) rfl ⟨rfl, rfl⟩ ⟨Nat.le_of_ble_eq_true rfl, Nat.le_of_ble_eq_true rfl⟩ ?_
                      refine x_aload_n C 7 rfl dL_isBestSo_205 rfl ?_
                      refine x_bipush (v := (nI 12)) C dL_isBestSo_206 (by decide) ?_
                      refine x_callVd (As := [.int (nI 12)]) (rest := [.int (q_ho now (20 + k))]) C dL_isBestSo_208 (c_N_count12 (gX.l X) G x A now nx sz hs ah hS hnx hsz) ml_L_36 im_X5_count sl_X5_count in_X5 cd_X5_count hd_X5_count 0 rfl rfl rfl rfl (Nat.le_of_ble_eq_true rfl) ⟨Nat.le_of_ble_eq_true rfl, Nat.le_of_ble_eq_true rfl⟩ [] [] (by simp only [List.append_assoc, List.nil_append, List.cons_append]) (ws' := ((wO G x A now nx sz hs ah) ++ [])) (by simp only [List.append_assoc, List.nil_append, List.cons_append]) (st' := [.int (q_se now 0), .int (q_ho now (20 + k))]) rfl ⟨rfl, rfl⟩ ⟨Nat.le_of_ble_eq_true rfl, Nat.le_of_ble_eq_true rfl⟩ ?_
                      refine x_icmp_lt (x := (q_ho now (20 + k))) (y := (q_se now 0)) (tgt := 261) C dL_isBestSo_211 (by decide) (fun c55 => False.elim (by exact hre.2.2.2.1 (by assumption) c55)) (fun c55 => ?_)
                      exact J56 
                  refine x_icmp_ne (x := re) (y := 3) (tgt := 192) C dL_isBestSo_173 (by decide) (fun c51 => ?_) (fun c51 => ?_)
                  · exact J53 
                  · refine x_aload_n C 7 rfl dL_isBestSo_176 rfl ?_
                    refine x_iload C 3 rfl dL_isBestSo_177 ?_
                    refine x_iconst (v := (nI 3)) C dL_isBestSo_179 (by decide) ?_
                    refine x_callVd (As := [.int (nI k), .int (nI 3)]) (rest := []) C dL_isBestSo_180 (c_N_horse (gX.l X) G x A now nx sz hs ah k 3 (30 + k) hS hnx hsz (by omega) (by omega) (by omega)) ml_L_39 im_X5_horse sl_X5_horse in_X5 cd_X5_horse hd_X5_horse 0 rfl rfl rfl rfl (Nat.le_of_ble_eq_true rfl) ⟨Nat.le_of_ble_eq_true rfl, Nat.le_of_ble_eq_true rfl⟩ [] [] (by simp only [List.append_assoc, List.nil_append, List.cons_append]) (ws' := ((wO G x A now nx sz hs ah) ++ [])) (by simp only [List.append_assoc, List.nil_append, List.cons_append]) (st' := [.int (q_ho now (30 + k))]) rfl ⟨rfl, rfl⟩ ⟨Nat.le_of_ble_eq_true rfl, Nat.le_of_ble_eq_true rfl⟩ ?_
                    refine x_aload_n C 7 rfl dL_isBestSo_183 rfl ?_
                    refine x_bipush (v := (nI 13)) C dL_isBestSo_184 (by decide) ?_
                    refine x_callVd (As := [.int (nI 13)]) (rest := [.int (q_ho now (30 + k))]) C dL_isBestSo_186 (c_N_count13 (gX.l X) G x A now nx sz hs ah hS hnx hsz) ml_L_36 im_X5_count sl_X5_count in_X5 cd_X5_count hd_X5_count 0 rfl rfl rfl rfl (Nat.le_of_ble_eq_true rfl) ⟨Nat.le_of_ble_eq_true rfl, Nat.le_of_ble_eq_true rfl⟩ [] [] (by simp only [List.append_assoc, List.nil_append, List.cons_append]) (ws' := ((wO G x A now nx sz hs ah) ++ [])) (by simp only [List.append_assoc, List.nil_append, List.cons_append]) (st' := [.int (q_se now 1), .int (q_ho now (30 + k))]) rfl ⟨rfl, rfl⟩ ⟨Nat.le_of_ble_eq_true rfl, Nat.le_of_ble_eq_true rfl⟩ ?_
                    refine x_icmp_lt (x := (q_ho now (30 + k))) (y := (q_se now 1)) (tgt := 261) C dL_isBestSo_189 (by decide) (fun c52 => False.elim (by exact hre.2.2.1 (by assumption) c52)) (fun c52 => ?_)
                    exact J53 
                refine x_icmp_ne (x := re) (y := 2) (tgt := 170) C dL_isBestSo_156 (by decide) (fun c48 => ?_) (fun c48 => ?_)
                · exact J50 
                · refine x_aload_n C 7 rfl dL_isBestSo_159 rfl ?_
                  refine x_bipush (v := (nI 11)) C dL_isBestSo_160 (by decide) ?_
                  refine x_callVd (As := [.int (nI 11)]) (rest := []) C dL_isBestSo_162 (c_N_count11 (gX.l X) G x A now nx sz hs ah hS hnx hsz) ml_L_36 im_X5_count sl_X5_count in_X5 cd_X5_count hd_X5_count 0 rfl rfl rfl rfl (Nat.le_of_ble_eq_true rfl) ⟨Nat.le_of_ble_eq_true rfl, Nat.le_of_ble_eq_true rfl⟩ [] [] (by simp only [List.append_assoc, List.nil_append, List.cons_append]) (ws' := ((wO G x A now nx sz hs ah) ++ [])) (by simp only [List.append_assoc, List.nil_append, List.cons_append]) (st' := [.int (c_far (q_se now) (q_ho now) (q_ti now))]) rfl ⟨rfl, rfl⟩ ⟨Nat.le_of_ble_eq_true rfl, Nat.le_of_ble_eq_true rfl⟩ ?_
                  refine x_iload C 3 rfl dL_isBestSo_165 ?_
                  refine x_icmp_ne (x := (c_far (q_se now) (q_ho now) (q_ti now))) (y := (nI k)) (tgt := 261) C dL_isBestSo_167 (by decide) (fun c49 => False.elim (by exact c49 (hre.2.1 (by assumption)))) (fun c49 => ?_)
                  exact J50 
              refine x_icmp_ne (x := re) (y := 1) (tgt := 153) C dL_isBestSo_140 (by decide) (fun c45 => ?_) (fun c45 => ?_)
              · exact J47 
              · refine x_aload_n C 7 rfl dL_isBestSo_143 rfl ?_
                refine x_iload C 3 rfl dL_isBestSo_144 ?_
                refine x_iconst (v := (nI 5)) C dL_isBestSo_146 (by decide) ?_
                refine x_callVd (As := [.int (nI k), .int (nI 5)]) (rest := []) C dL_isBestSo_147 (c_N_horse (gX.l X) G x A now nx sz hs ah k 5 (50 + k) hS hnx hsz (by omega) (by omega) (by omega)) ml_L_39 im_X5_horse sl_X5_horse in_X5 cd_X5_horse hd_X5_horse 0 rfl rfl rfl rfl (Nat.le_of_ble_eq_true rfl) ⟨Nat.le_of_ble_eq_true rfl, Nat.le_of_ble_eq_true rfl⟩ [] [] (by simp only [List.append_assoc, List.nil_append, List.cons_append]) (ws' := ((wO G x A now nx sz hs ah) ++ [])) (by simp only [List.append_assoc, List.nil_append, List.cons_append]) (st' := [.int (q_ho now (50 + k))]) rfl ⟨rfl, rfl⟩ ⟨Nat.le_of_ble_eq_true rfl, Nat.le_of_ble_eq_true rfl⟩ ?_
                refine x_if_le (x := (q_ho now (50 + k))) (tgt := 261) C dL_isBestSo_150 (by decide) (fun c46 => False.elim (by exact c46 (hre.1 (by assumption)))) (fun c46 => ?_)
                exact J47 
            refine x_icmp_lt (x := (q_ho now k)) (y := (q_ri now r)) (tgt := 130) C dL_isBestSo_123 (by decide) (fun c41 => ?_) (fun c41 => ?_)
            · refine x_iconst (v := (nI 0)) C dL_isBestSo_130 (by decide) ?_
              exact J42 (nI 0) (bI_f (by simp only [c41, if_true, if_false, ite_true, ite_false, and_true, true_and, and_false, false_and, or_true, true_or, or_false, false_or, not_true_eq_false, not_false_eq_true, and_self, or_self] <;> decide)).symm
            · refine x_iconst (v := (nI 1)) C dL_isBestSo_126 (by decide) ?_
              refine x_goto (tgt := 131) C dL_isBestSo_127 (by decide) ?_
              exact J42 (nI 1) (bI_t (by simp only [c41, if_true, if_false, ite_true, ite_false, and_true, true_and, and_false, false_and, or_true, true_or, or_false, false_or, not_true_eq_false, not_false_eq_true, and_self, or_self] <;> decide)).symm
          refine x_icmp_le (x := (q_ho now (10 + k))) (y := (c_abil (q_ri now) r)) (tgt := 107) C dL_isBestSo_100 (by decide) (fun c38 => ?_) (fun c38 => ?_)
          · refine x_iconst (v := (nI 0)) C dL_isBestSo_107 (by decide) ?_
            exact J39 (nI 0) (bI_f (by simp only [c38, if_true, if_false, ite_true, ite_false, and_true, true_and, and_false, false_and, or_true, true_or, or_false, false_or, not_true_eq_false, not_false_eq_true, and_self, or_self] <;> decide)).symm
          · refine x_iconst (v := (nI 1)) C dL_isBestSo_103 (by decide) ?_
            refine x_goto (tgt := 108) C dL_isBestSo_104 (by decide) ?_
            exact J39 (nI 1) (bI_t (by simp only [c38, if_true, if_false, ite_true, ite_false, and_true, true_and, and_false, false_and, or_true, true_or, or_false, false_or, not_true_eq_false, not_false_eq_true, and_self, or_self] <;> decide)).symm
      exact L10 10 0 (if f = (-5) then ahead else (kX_takenIn now ahead (nI (nC f)) (nI r)).2) (by omega) 
    refine x_icmp_ne (x := f) (y := (-5)) (tgt := 46) C dL_isBestSo_39 (by decide) (fun c6 => ?_) (fun c6 => ?_)
    · have hfo := bst_ok hI f_e (by assumption)
      refine x_aload_n C 2 rfl dL_isBestSo_46 rfl ?_
      refine x_iload_n C 1 rfl dL_isBestSo_47 rfl ?_
      refine x_top (y := (nI (nC f))) hfo.1.2 ?_
      refine x_iconst (v := (nI 1)) C dL_isBestSo_48 (by decide) ?_
      refine x_callVd (As := [.int (nI (nC f)), .int (nI 1)]) (rest := []) C dL_isBestSo_49 (c_N_horse (gX.l X) G x A now nx sz hs (if f = (-5) then ahead else (kX_takenIn now ahead (nI (nC f)) (nI r)).2) (nC f) 1 (10 + (nC f)) hS hnx hsz hfo.1.1 (by omega) (by omega)) ml_L_39 im_X5_horse sl_X5_horse in_X5 cd_X5_horse hd_X5_horse 0 rfl rfl rfl rfl (Nat.le_of_ble_eq_true rfl) ⟨Nat.le_of_ble_eq_true rfl, Nat.le_of_ble_eq_true rfl⟩ [] [] (by simp only [List.append_assoc, List.nil_append, List.cons_append]) (ws' := ((wO G x A now nx sz hs (if f = (-5) then ahead else (kX_takenIn now ahead (nI (nC f)) (nI r)).2)) ++ [])) (by simp only [List.append_assoc, List.nil_append, List.cons_append]) (st' := [.int (q_ho now (10 + (nC f)))]) rfl ⟨rfl, rfl⟩ ⟨Nat.le_of_ble_eq_true rfl, Nat.le_of_ble_eq_true rfl⟩ ?_
      refine x_aload_n C 2 rfl dL_isBestSo_52 rfl ?_
      refine x_iload_n C 3 rfl dL_isBestSo_53 rfl ?_
      refine x_iconst (v := (nI 3)) C dL_isBestSo_54 (by decide) ?_
      refine x_callVd (As := [.int (nI r), .int (nI 3)]) (rest := [.int (q_ho now (10 + (nC f)))]) C dL_isBestSo_55 (c_N_riderA (gX.l X) G x A now nx sz hs (if f = (-5) then ahead else (kX_takenIn now ahead (nI (nC f)) (nI r)).2) r hS hnx hsz (by omega)) ml_L_42 im_X5_rider sl_X5_rider in_X5 cd_X5_rider hd_X5_rider 0 rfl rfl rfl rfl (Nat.le_of_ble_eq_true rfl) ⟨Nat.le_of_ble_eq_true rfl, Nat.le_of_ble_eq_true rfl⟩ [] [] (by simp only [List.append_assoc, List.nil_append, List.cons_append]) (ws' := ((wO G x A now nx sz hs (if f = (-5) then ahead else (kX_takenIn now ahead (nI (nC f)) (nI r)).2)) ++ [])) (by simp only [List.append_assoc, List.nil_append, List.cons_append]) (st' := [.int (c_abil (q_ri now) r), .int (q_ho now (10 + (nC f)))]) rfl ⟨rfl, rfl⟩ ⟨Nat.le_of_ble_eq_true rfl, Nat.le_of_ble_eq_true rfl⟩ ?_
      refine x_icmp_le (x := (q_ho now (10 + (nC f)))) (y := (c_abil (q_ri now) r)) (tgt := 65) C dL_isBestSo_58 (by decide) (fun c7 => ?_) (fun c7 => ?_)
      · refine x_iconst (v := (nI 0)) C dL_isBestSo_65 (by decide) ?_
        exact J8 (nI 0) (bI_f (by simp only [c6, c7, if_true, if_false, ite_true, ite_false, and_true, true_and, and_false, false_and, or_true, true_or, or_false, false_or, not_true_eq_false, not_false_eq_true, and_self, or_self] <;> decide)).symm
      · refine x_iconst (v := (nI 1)) C dL_isBestSo_61 (by decide) ?_
        refine x_goto (tgt := 66) C dL_isBestSo_62 (by decide) ?_
        exact J8 (nI 1) (bI_t (by simp only [c6, c7, if_true, if_false, ite_true, ite_false, and_true, true_and, and_false, false_and, or_true, true_or, or_false, false_or, not_true_eq_false, not_false_eq_true, and_self, or_self] <;> decide)).symm
    · refine x_iconst (v := (nI 0)) C dL_isBestSo_42 (by decide) ?_
      refine x_goto (tgt := 66) C dL_isBestSo_43 (by decide) ?_
      exact J8 (nI 0) (bI_f (by simp only [c6, if_true, if_false, ite_true, ite_false, and_true, true_and, and_false, false_and, or_true, true_or, or_false, false_or, not_true_eq_false, not_false_eq_true, and_self, or_self] <;> decide)).symm
  refine x_icmp_eq (x := f) (y := (-5)) (tgt := 30) C dL_isBestSo_9 (by decide) (fun c1 => ?_) (fun c1 => ?_)
  · exact J4 ahead (by rw [if_pos c1] <;> rfl)
  · have hfo := bst_ok hI f_e (by assumption)
    refine x_aload_n C 1 rfl dL_isBestSo_12 rfl ?_
    refine x_iload_n C 0 rfl dL_isBestSo_13 rfl ?_
    refine x_top (y := (nI (nC f))) hfo.1.2 ?_
    refine x_iload_n C 2 rfl dL_isBestSo_14 rfl ?_
    refine x_callVd (As := [.int (nI (nC f)), .int (nI r)]) (rest := []) C dL_isBestSo_15 (c_N_reason (gX.l X) G x A now nx sz hs ahead (nC f) r hS hnx hsz hfo.1.1 (by omega)) ml_L_58 im_X5_reason sl_X5_reason in_X5 cd_X5_reason hd_X5_reason 0 rfl rfl rfl rfl (Nat.le_of_ble_eq_true rfl) ⟨Nat.le_of_ble_eq_true rfl, Nat.le_of_ble_eq_true rfl⟩ [] [] (by simp only [List.append_assoc, List.nil_append, List.cons_append]) (ws' := ((wO G x A now nx sz hs ahead) ++ [])) (by simp only [List.append_assoc, List.nil_append, List.cons_append]) (st' := [.int (k_hin now (nC f) r)]) rfl ⟨rfl, rfl⟩ ⟨Nat.le_of_ble_eq_true rfl, Nat.le_of_ble_eq_true rfl⟩ ?_
    refine x_if_ne (x := (k_hin now (nC f) r)) (tgt := 34) C dL_isBestSo_18 (by decide) (fun c2 => False.elim (by exact c2 hfo.2)) (fun c2 => ?_)
    refine x_aload_n C 1 rfl dL_isBestSo_21 rfl ?_
    refine x_iload_n C 0 rfl dL_isBestSo_22 rfl ?_
    refine x_top (y := (nI (nC f))) hfo.1.2 ?_
    refine x_iload_n C 2 rfl dL_isBestSo_23 rfl ?_
    refine x_callVd (As := [.int (nI (nC f)), .int (nI r)]) (rest := []) C dL_isBestSo_24 (c_O_takenIn (gX.l X) G x A now nx sz hs ahead (nI (nC f)) (nI r) hS hnx hsz) ml_L_61 im_X5_takenIn sl_X5_takenIn in_X5 cd_X5_takenIn hd_X5_takenIn 0 rfl rfl rfl rfl (Nat.le_of_ble_eq_true rfl) ⟨Nat.le_of_ble_eq_true rfl, Nat.le_of_ble_eq_true rfl⟩ [] [] (by simp only [List.append_assoc, List.nil_append, List.cons_append]) (ws' := ((wO G x A now nx sz hs ((kX_takenIn now ahead (nI (nC f)) (nI r)).2)) ++ [])) (by simp only [List.append_assoc, List.nil_append, List.cons_append]) (st' := [.int ((kX_takenIn now ahead (nI (nC f)) (nI r)).1)]) rfl ⟨rfl, rfl⟩ ⟨Nat.le_of_ble_eq_true rfl, Nat.le_of_ble_eq_true rfl⟩ ?_
    refine x_if_ne (x := ((kX_takenIn now ahead (nI (nC f)) (nI r)).1)) (tgt := 34) C dL_isBestSo_27 (by decide) (fun c3 => False.elim (by exact c3 (tk_0 hfo.1.1 hr0 hfo.2))) (fun c3 => ?_)
    exact J4 ((kX_takenIn now ahead (nI (nC f)) (nI r)).2) (by rw [if_neg c1] <;> rfl)
