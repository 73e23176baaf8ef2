theorem g_out2 {x : Int32} {lo n : Nat} (hlo : lo < 2 ^ 31) (hn : n + 1 < 2 ^ 31) (h : ¬ (x < nI lo ∨ nI n < x)) : lo ≤ nC x ∧ nC x < n + 1 ∧ x = nI (nC x) := g_in2 hlo hn ⟨fun h1 => h (Or.inl h1), fun h1 => h (Or.inr h1)⟩
theorem g_not3 {w : Int32} (h : w.toInt < 0 ∨ ((3 : Nat) : Int) ≤ w.toInt) : ¬ w = 0 ∧ ¬ w = 1 ∧ ¬ w = 2 := by
  refine ⟨fun e => ?_, fun e => ?_, fun e => ?_⟩ <;> (subst e; revert h; decide)
def rm_X5_pass : Room := { frames := 6, cells := 0, slots := 0, locals := 148 }
set_option maxRecDepth 100000 in
set_option maxHeartbeats 600000 in
theorem c_X5_pass (l : Launch) (G : gG) (x : Nat) (n m o e : Nat → Nat) (b : Nat → Nat → Nat) (t p : Nat → Nat) (now : c_S) (nx sz : Nat) (hs : Nat → c_S) (ahead snap : c_S) (has : Int32) (tc : Nat → Int32) (en pz pp : Nat) (pn ph pr : Int32) (pe : Nat → Int32) (h : Int32)  (hS : okS 10000 now) (hnx : nx < 4) (hsz : sz ≤ 4) : CT l yX5_pass cX5_pass 4 (some .int) rm_X5_pass G [.ref x, .int h] ([(x, .inr (5, [.ref (n 0), .ref (m 0), .ref (o 0), .int has, .ref (e 0), .ref (t 0), .ref (p 0)]))] ++ ((wQ G n now) ++ ((wH G e b nx sz hs) ++ ((wQ G m ahead) ++ ((wQ G o snap) ++ ((wX4 G t tc en) ++ ((wX1 G p pz pp pn ph pr pe) ++ []))))))) (some (.int ((kX_pass now hs nx sz h).1))) (fun _ => ([(x, .inr (5, [.ref (n 0), .ref (m 0), .ref (o 0), .int has, .ref (e 0), .ref (t 0), .ref (p 0)]))] ++ ((wQ G n ((kX_pass now hs nx sz h).2.1)) ++ ((wH G e b ((kX_pass now hs nx sz h).2.2.2.1) ((kX_pass now hs nx sz h).2.2.2.2) ((kX_pass now hs nx sz h).2.2.1)) ++ ((wQ G m ahead) ++ ((wQ G o snap) ++ ((wX4 G t tc en) ++ ((wX1 G p pz pp pn ph pr pe) ++ [])))))))) := by
  refine gMet (by decide) (Nat.le_of_ble_eq_true rfl) (fun X hX C hr hin E => ?_)
  clear hX
  refine (show gW G X ([(x, .inr (5, [.ref (n 0), .ref (m 0), .ref (o 0), .int has, .ref (e 0), .ref (t 0), .ref (p 0)]))] ++ ((wQ G n now) ++ ((wH G e b nx sz hs) ++ ((wQ G m ahead) ++ ((wQ G o snap) ++ ((wX4 G t tc en) ++ ((wX1 G p pz pp pn ph pr pe) ++ []))))))) 0 0 0 [(0, .ref x), (1, .int h)] [] from ?_)
  have hS1 := hS.1
  have hS2 := hS.2.1
  have hS3 := hS.2.2.1
  have hS4 := hS.2.2.2
  refine x_iload_n C 1 rfl dX5_pass_0 rfl ?_
  refine x_iconst (v := (nI 1)) C dX5_pass_1 (by decide) ?_
  refine x_bipush (v := (nI 99)) C dX5_pass_2 (by decide) ?_
  refine x_callSd (As := [.int h, .int (nI 1), .int (nI 99)]) (rest := []) C dX5_pass_4 (c_X5_isOutside (gX.l X) G h 1 99 ) ml_X5_47 st_X5_isOutside in_X5 cd_X5_isOutside hd_X5_isOutside rfl rfl (Nat.le_of_ble_eq_true rfl) ⟨Nat.le_of_ble_eq_true rfl, Nat.le_of_ble_eq_true rfl⟩ [] ([(x, .inr (5, [.ref (n 0), .ref (m 0), .ref (o 0), .int has, .ref (e 0), .ref (t 0), .ref (p 0)]))] ++ ((wQ G n now) ++ ((wH G e b nx sz hs) ++ ((wQ G m ahead) ++ ((wQ G o snap) ++ ((wX4 G t tc en) ++ ((wX1 G p pz pp pn ph pr pe) ++ []))))))) rfl (ws' := ([(x, .inr (5, [.ref (n 0), .ref (m 0), .ref (o 0), .int has, .ref (e 0), .ref (t 0), .ref (p 0)]))] ++ ((wQ G n now) ++ ((wH G e b nx sz hs) ++ ((wQ G m ahead) ++ ((wQ G o snap) ++ ((wX4 G t tc en) ++ ((wX1 G p pz pp pn ph pr pe) ++ [])))))))) rfl (st' := [.int (bI ((h < 1) ∨ (99 < h)))]) rfl ⟨rfl, rfl⟩ ⟨Nat.le_of_ble_eq_true rfl, Nat.le_of_ble_eq_true rfl⟩ ?_
  refine x_if_eqB (P := (h < 1) ∨ (99 < h)) (tgt := 13) C dX5_pass_7 (by decide) (fun c1 => ?_) (fun c1 => ?_)
  · have hN := g_out2 (x := h) (lo := 1) (n := 99) (by decide) (by decide) (by assumption)
    refine x_aload_n C 0 rfl dX5_pass_13 rfl ?_
    refine x_get (k := 0) (v := .ref (n 0)) C dX5_pass_14 layX5 fl_X5_10 0 rfl rfl (by decide) rfl ?_
    refine x_callVd (As := []) (rest := []) C dX5_pass_17 (c_Q_time (gX.l X) G n now ) ml_X5_114 im_X2_time sl_X2_time in_X2 cd_X2_time hd_X2_time 0 rfl rfl rfl rfl (Nat.le_of_ble_eq_true rfl) ⟨Nat.le_of_ble_eq_true rfl, Nat.le_of_ble_eq_true rfl⟩ [(x, .inr (5, [.ref (n 0), .ref (m 0), .ref (o 0), .int has, .ref (e 0), .ref (t 0), .ref (p 0)]))] ((wH G e b nx sz hs) ++ ((wQ G m ahead) ++ ((wQ G o snap) ++ ((wX4 G t tc en) ++ ((wX1 G p pz pp pn ph pr pe) ++ []))))) (by simp only [List.append_assoc, List.nil_append, List.cons_append]) (ws' := ([(x, .inr (5, [.ref (n 0), .ref (m 0), .ref (o 0), .int has, .ref (e 0), .ref (t 0), .ref (p 0)]))] ++ ((wQ G n now) ++ ((wH G e b nx sz hs) ++ ((wQ G m ahead) ++ ((wQ G o snap) ++ ((wX4 G t tc en) ++ ((wX1 G p pz pp pn ph pr pe) ++ [])))))))) (by simp only [List.append_assoc, List.nil_append, List.cons_append]) (st' := [.int (nI (q_ti now))]) rfl ⟨rfl, rfl⟩ ⟨Nat.le_of_ble_eq_true rfl, Nat.le_of_ble_eq_true rfl⟩ ?_
    refine x_sipush (v := (nI 9999)) C dX5_pass_20 (by decide) ?_
    refine x_iload_n C 1 rfl dX5_pass_23 rfl ?_
    refine x_top (y := (nI (nC h))) hN.2.2 ?_
    refine x_isubN C dX5_pass_24 (by omega) ?_
    refine x_icmp_leN (a := (q_ti now)) (b := (9999 - (nC h))) (tgt := 31) C dX5_pass_25 (by decide) (by omega) (by omega) (fun c2 => ?_) (fun c2 => ?_)
    · refine x_aload_n C 0 rfl dX5_pass_31 rfl ?_
      refine x_get (k := 4) (v := .ref (e 0)) C dX5_pass_32 layX5 fl_X5_25 0 rfl rfl (by decide) rfl ?_
      refine x_aload_n C 0 rfl dX5_pass_35 rfl ?_
      refine x_get (k := 0) (v := .ref (n 0)) C dX5_pass_36 layX5 fl_X5_10 0 rfl rfl (by decide) rfl ?_
      refine x_call2A (As := [.ref (n 0)]) (rest := []) C dX5_pass_39 (c_H_record (gX.l X) G n now e b nx sz hs (by omega) (by omega)) ml_X5_55 im_X0_record sl_X0_record in_X0 cd_X0_record hd_X0_record 11 rfl rfl rfl rfl (Nat.le_of_ble_eq_true rfl) ⟨Nat.le_of_ble_eq_true rfl, Nat.le_of_ble_eq_true rfl⟩ [(x, .inr (5, [.ref (n 0), .ref (m 0), .ref (o 0), .int has, .ref (e 0), .ref (t 0), .ref (p 0)]))] [] ((wQ G m ahead) ++ ((wQ G o snap) ++ ((wX4 G t tc en) ++ ((wX1 G p pz pp pn ph pr pe) ++ [])))) (by simp only [List.append_assoc, List.nil_append, List.cons_append]) (ws' := ([(x, .inr (5, [.ref (n 0), .ref (m 0), .ref (o 0), .int has, .ref (e 0), .ref (t 0), .ref (p 0)]))] ++ ((wQ G n now) ++ ((wH G e b ((nx + 1) % 4) (min (sz + 1) 4) (hup hs nx now)) ++ ((wQ G m ahead) ++ ((wQ G o snap) ++ ((wX4 G t tc en) ++ ((wX1 G p pz pp pn ph pr pe) ++ [])))))))) (by simp only [List.append_assoc, List.nil_append, List.cons_append]) (st' := []) rfl ⟨rfl, rfl⟩ ⟨Nat.le_of_ble_eq_true rfl, Nat.le_of_ble_eq_true rfl⟩ ?_
      refine x_aload_n C 0 rfl dX5_pass_42 rfl ?_
      refine x_get (k := 0) (v := .ref (n 0)) C dX5_pass_43 layX5 fl_X5_10 0 rfl rfl (by decide) rfl ?_
      refine x_bipush (v := (nI 6)) C dX5_pass_46 (by decide) ?_
      refine x_callVd (As := [.int (nI 6)]) (rest := []) C dX5_pass_48 (c_Q_sumOfHorses (gX.l X) G n now 6 (by omega)) ml_X5_118 im_X2_sumOfHorses sl_X2_sumOfHorses in_X2 cd_X2_sumOfHorses hd_X2_sumOfHorses 0 rfl rfl rfl rfl (Nat.le_of_ble_eq_true rfl) ⟨Nat.le_of_ble_eq_true rfl, Nat.le_of_ble_eq_true rfl⟩ [(x, .inr (5, [.ref (n 0), .ref (m 0), .ref (o 0), .int has, .ref (e 0), .ref (t 0), .ref (p 0)]))] ((wH G e b ((nx + 1) % 4) (min (sz + 1) 4) (hup hs nx now)) ++ ((wQ G m ahead) ++ ((wQ G o snap) ++ ((wX4 G t tc en) ++ ((wX1 G p pz pp pn ph pr pe) ++ []))))) (by simp only [List.append_assoc, List.nil_append, List.cons_append]) (ws' := ([(x, .inr (5, [.ref (n 0), .ref (m 0), .ref (o 0), .int has, .ref (e 0), .ref (t 0), .ref (p 0)]))] ++ ((wQ G n now) ++ ((wH G e b ((nx + 1) % 4) (min (sz + 1) 4) (hup hs nx now)) ++ ((wQ G m ahead) ++ ((wQ G o snap) ++ ((wX4 G t tc en) ++ ((wX1 G p pz pp pn ph pr pe) ++ [])))))))) (by simp only [List.append_assoc, List.nil_append, List.cons_append]) (st' := [.int (sumF (q_ho now) (6 * 10) 10)]) rfl ⟨rfl, rfl⟩ ⟨Nat.le_of_ble_eq_true rfl, Nat.le_of_ble_eq_true rfl⟩ ?_
      refine x_istore_n (lv' := [(2, .int (sumF (q_ho now) (6 * 10) 10)), (0, .ref x), (1, .int h)]) C dX5_pass_51 rfl (by decide) rfl ?_
      refine x_iconst (v := (nI 0)) C dX5_pass_52 (by decide) ?_
      refine x_istore_n (lv' := [(3, .int (nI 0)), (2, .int (sumF (q_ho now) (6 * 10) 10)), (0, .ref x), (1, .int h)]) C dX5_pass_53 rfl (by decide) rfl ?_
      have L3 : ∀ (fu : Nat) (k : Nat) (q1 : c_S), k + fu = nC h → (q1 = k_pL now k) → (okS (10000 + k) q1) → gW G X ([(x, .inr (5, [.ref (n 0), .ref (m 0), .ref (o 0), .int has, .ref (e 0), .ref (t 0), .ref (p 0)]))] ++ ((wQ G n q1) ++ ((wH G e b ((nx + 1) % 4) (min (sz + 1) 4) (hup hs nx now)) ++ ((wQ G m ahead) ++ ((wQ G o snap) ++ ((wX4 G t tc en) ++ ((wX1 G p pz pp pn ph pr pe) ++ []))))))) 0 0 54 [(3, .int (nI k)), (2, .int (sumF (q_ho now) (6 * 10) 10)), (0, .ref x), (1, .int h)] [] := by
        intro fu
        induction fu with
        | zero =>
          intro k q1 hn hq hSq
          have hk9 : k = nC h := by omega
          have hq9 : q1 = k_pL now (nC h) := by rw [hq, hk9]
          refine x_iload_n C 0 rfl dX5_pass_54 rfl ?_
          refine x_iload_n C 3 rfl dX5_pass_55 rfl ?_
          refine x_top (y := (nI (nC h))) hN.2.2 ?_
          refine x_icmp_geN (a := k) (b := (nC h)) (tgt := 73) C dX5_pass_56 (by decide) (by omega) (by omega) (fun c4 => ?_) (fun c4 => False.elim (by omega))
          refine x_aload_n C 2 rfl dX5_pass_73 rfl ?_
          refine x_get (k := 0) (v := .ref (n 0)) C dX5_pass_74 layX5 fl_X5_10 0 rfl rfl (by decide) rfl ?_
          refine x_bipush (v := (nI 6)) C dX5_pass_77 (by decide) ?_
          refine x_callVd (As := [.int (nI 6)]) (rest := []) C dX5_pass_79 (c_Q_sumOfHorses (gX.l X) G n q1 6 (by omega)) ml_X5_118 im_X2_sumOfHorses sl_X2_sumOfHorses in_X2 cd_X2_sumOfHorses hd_X2_sumOfHorses 0 rfl rfl rfl rfl (Nat.le_of_ble_eq_true rfl) ⟨Nat.le_of_ble_eq_true rfl, Nat.le_of_ble_eq_true rfl⟩ [(x, .inr (5, [.ref (n 0), .ref (m 0), .ref (o 0), .int has, .ref (e 0), .ref (t 0), .ref (p 0)]))] ((wH G e b ((nx + 1) % 4) (min (sz + 1) 4) (hup hs nx now)) ++ ((wQ G m ahead) ++ ((wQ G o snap) ++ ((wX4 G t tc en) ++ ((wX1 G p pz pp pn ph pr pe) ++ []))))) (by simp only [List.append_assoc, List.nil_append, List.cons_append]) (ws' := ([(x, .inr (5, [.ref (n 0), .ref (m 0), .ref (o 0), .int has, .ref (e 0), .ref (t 0), .ref (p 0)]))] ++ ((wQ G n q1) ++ ((wH G e b ((nx + 1) % 4) (min (sz + 1) 4) (hup hs nx now)) ++ ((wQ G m ahead) ++ ((wQ G o snap) ++ ((wX4 G t tc en) ++ ((wX1 G p pz pp pn ph pr pe) ++ [])))))))) (by simp only [List.append_assoc, List.nil_append, List.cons_append]) (st' := [.int (sumF (q_ho q1) (6 * 10) 10)]) rfl ⟨rfl, rfl⟩ ⟨Nat.le_of_ble_eq_true rfl, Nat.le_of_ble_eq_true rfl⟩ ?_
          refine x_iload_n C 1 rfl dX5_pass_82 rfl ?_
          refine x_isub (x := (sumF (q_ho q1) (6 * 10) 10)) (y := (sumF (q_ho now) (6 * 10) 10)) C dX5_pass_83 ?_
          exact x_iret C hr E dX5_pass_84 (fun _ => 0) (by rw [kX_pass, if_neg c1, if_neg c2, hq9]; rfl) (by rw [kX_pass, if_neg c1, if_neg c2, hq9]; rfl)
        | succ fu ih =>
          intro k q1 hn hq hSq
          have g1 := hSq.1
          have g3 := hSq.2.2.1
          have g4 := hSq.2.2.2
          refine x_iload_n C 0 rfl dX5_pass_54 rfl ?_
          refine x_iload_n C 3 rfl dX5_pass_55 rfl ?_
          refine x_top (y := (nI (nC h))) hN.2.2 ?_
          refine x_icmp_geN (a := k) (b := (nC h)) (tgt := 73) C dX5_pass_56 (by decide) (by omega) (by omega) (fun c5 => False.elim (by omega)) (fun c5 => ?_)
          refine x_aload_n C 2 rfl dX5_pass_59 rfl ?_
          refine x_get (k := 0) (v := .ref (n 0)) C dX5_pass_60 layX5 fl_X5_10 0 rfl rfl (by decide) rfl ?_
          refine x_iconst (v := (nI 1)) C dX5_pass_63 (by decide) ?_
          refine x_callVd (As := [.int (nI 1)]) (rest := []) C dX5_pass_64 (c_Q_passHour1 (gX.l X) G n q1 (by omega) (by omega) (by omega) hSq.2.1) ml_X5_121 im_X2_passHour sl_X2_passHour in_X2 cd_X2_passHour hd_X2_passHour 0 rfl rfl rfl rfl (Nat.le_of_ble_eq_true rfl) ⟨Nat.le_of_ble_eq_true rfl, Nat.le_of_ble_eq_true rfl⟩ [(x, .inr (5, [.ref (n 0), .ref (m 0), .ref (o 0), .int has, .ref (e 0), .ref (t 0), .ref (p 0)]))] ((wH G e b ((nx + 1) % 4) (min (sz + 1) 4) (hup hs nx now)) ++ ((wQ G m ahead) ++ ((wQ G o snap) ++ ((wX4 G t tc en) ++ ((wX1 G p pz pp pn ph pr pe) ++ []))))) (by simp only [List.append_assoc, List.nil_append, List.cons_append]) (ws' := ([(x, .inr (5, [.ref (n 0), .ref (m 0), .ref (o 0), .int has, .ref (e 0), .ref (t 0), .ref (p 0)]))] ++ ((wQ G n (k_passHour1 q1)) ++ ((wH G e b ((nx + 1) % 4) (min (sz + 1) 4) (hup hs nx now)) ++ ((wQ G m ahead) ++ ((wQ G o snap) ++ ((wX4 G t tc en) ++ ((wX1 G p pz pp pn ph pr pe) ++ [])))))))) (by simp only [List.append_assoc, List.nil_append, List.cons_append]) (st' := []) rfl ⟨rfl, rfl⟩ ⟨Nat.le_of_ble_eq_true rfl, Nat.le_of_ble_eq_true rfl⟩ ?_
          refine x_iinc (v := (nI (k + 1))) (lv' := [(3, .int (nI (k + 1))), (2, .int (sumF (q_ho now) (6 * 10) 10)), (0, .ref x), (1, .int h)]) C 0 rfl dX5_pass_67 (by rw [show Int32.ofInt 1 = nI 1 from rfl]; exact nI_add _ _) (by decide) rfl ?_
          refine x_goto (tgt := 54) C dX5_pass_70 (by decide) ?_
          exact ih (k + 1) (k_passHour1 q1) (by omega) (by rw [hq]; rfl) (by exact okS_hr hSq)
      exact L3 (nC h) 0 now (by omega) (by rfl) (by exact hS)
    · refine x_bipush (v := (-3)) C dX5_pass_28 (by decide) ?_
      exact x_iret C hr E dX5_pass_30 (fun _ => 0) (by simp (config := {decide := true}) only [kX_pass, k_out, k_act, k_no, c1, c2,  if_true, if_false, ite_true, ite_false, and_true, true_and, and_false, false_and, or_true, true_or, or_false, false_or, not_true_eq_false, not_false_eq_true, and_self, or_self]) (by simp (config := {decide := true}) only [kX_pass, k_out, k_act, k_no, c1, c2,  if_true, if_false, ite_true, ite_false, and_true, true_and, and_false, false_and, or_true, true_or, or_false, false_or, not_true_eq_false, not_false_eq_true, and_self, or_self])
  · refine x_bipush (v := (-2)) C dX5_pass_10 (by decide) ?_
    exact x_iret C hr E dX5_pass_12 (fun _ => 0) (by simp (config := {decide := true}) only [kX_pass, k_out, k_act, k_no, c1,  if_true, if_false, ite_true, ite_false, and_true, true_and, and_false, false_and, or_true, true_or, or_false, false_or, not_true_eq_false, not_false_eq_true, and_self, or_self]) (by simp (config := {decide := true}) only [kX_pass, k_out, k_act, k_no, c1,  if_true, if_false, ite_true, ite_false, and_true, true_and, and_false, false_and, or_true, true_or, or_false, false_or, not_true_eq_false, not_false_eq_true, and_self, or_self])
def rm_X5_undo : Room := { frames := 4, cells := 0, slots := 0, locals := 104 }
set_option maxRecDepth 100000 in
set_option maxHeartbeats 600000 in
theorem c_X5_undo (l : Launch) (G : gG) (x : Nat) (n m o e : Nat → Nat) (b : Nat → Nat → Nat) (t p : Nat → Nat) (now : c_S) (nx sz : Nat) (hs : Nat → c_S) (ahead snap : c_S) (has : Int32) (tc : Nat → Int32) (en pz pp : Nat) (pn ph pr : Int32) (pe : Nat → Int32)  (hS : okS 10000 now) (hnx : nx < 4) (hsz : sz ≤ 4) : CT l yX5_undo cX5_undo 1 (some .int) rm_X5_undo G [.ref x] ([(x, .inr (5, [.ref (n 0), .ref (m 0), .ref (o 0), .int has, .ref (e 0), .ref (t 0), .ref (p 0)]))] ++ ((wQ G n now) ++ ((wH G e b nx sz hs) ++ ((wQ G m ahead) ++ ((wQ G o snap) ++ ((wX4 G t tc en) ++ ((wX1 G p pz pp pn ph pr pe) ++ []))))))) (some (.int ((kX_undo now hs nx sz).1))) (fun _ => ([(x, .inr (5, [.ref (n 0), .ref (m 0), .ref (o 0), .int has, .ref (e 0), .ref (t 0), .ref (p 0)]))] ++ ((wQ G n ((kX_undo now hs nx sz).2.1)) ++ ((wH G e b ((kX_undo now hs nx sz).2.2.2.1) ((kX_undo now hs nx sz).2.2.2.2) ((kX_undo now hs nx sz).2.2.1)) ++ ((wQ G m ahead) ++ ((wQ G o snap) ++ ((wX4 G t tc en) ++ ((wX1 G p pz pp pn ph pr pe) ++ [])))))))) := by
  refine gMet (by decide) (Nat.le_of_ble_eq_true rfl) (fun X hX C hr hin E => ?_)
  clear hX
  refine (show gW G X ([(x, .inr (5, [.ref (n 0), .ref (m 0), .ref (o 0), .int has, .ref (e 0), .ref (t 0), .ref (p 0)]))] ++ ((wQ G n now) ++ ((wH G e b nx sz hs) ++ ((wQ G m ahead) ++ ((wQ G o snap) ++ ((wX4 G t tc en) ++ ((wX1 G p pz pp pn ph pr pe) ++ []))))))) 0 0 0 [(0, .ref x)] [] from ?_)
  have hS1 := hS.1
  have hS2 := hS.2.1
  have hS3 := hS.2.2.1
  have hS4 := hS.2.2.2
  refine x_aload_n C 0 rfl dX5_undo_0 rfl ?_
  refine x_get (k := 4) (v := .ref (e 0)) C dX5_undo_1 layX5 fl_X5_25 0 rfl rfl (by decide) rfl ?_
  refine x_callVd (As := []) (rest := []) C dX5_undo_4 (c_H_size (gX.l X) G e b nx sz hs ) ml_X5_154 im_X0_size sl_X0_size in_X0 cd_X0_size hd_X0_size 0 rfl rfl rfl rfl (Nat.le_of_ble_eq_true rfl) ⟨Nat.le_of_ble_eq_true rfl, Nat.le_of_ble_eq_true rfl⟩ ([(x, .inr (5, [.ref (n 0), .ref (m 0), .ref (o 0), .int has, .ref (e 0), .ref (t 0), .ref (p 0)]))] ++ (wQ G n now)) ((wQ G m ahead) ++ ((wQ G o snap) ++ ((wX4 G t tc en) ++ ((wX1 G p pz pp pn ph pr pe) ++ [])))) (by simp only [List.append_assoc, List.nil_append, List.cons_append]) (ws' := ([(x, .inr (5, [.ref (n 0), .ref (m 0), .ref (o 0), .int has, .ref (e 0), .ref (t 0), .ref (p 0)]))] ++ ((wQ G n now) ++ ((wH G e b nx sz hs) ++ ((wQ G m ahead) ++ ((wQ G o snap) ++ ((wX4 G t tc en) ++ ((wX1 G p pz pp pn ph pr pe) ++ [])))))))) (by simp only [List.append_assoc, List.nil_append, List.cons_append]) (st' := [.int (nI sz)]) rfl ⟨rfl, rfl⟩ ⟨Nat.le_of_ble_eq_true rfl, Nat.le_of_ble_eq_true rfl⟩ ?_
  refine x_if_neN (a := sz) (tgt := 13) C dX5_undo_7 (by decide) (by omega) (fun c1 => ?_) (fun c1 => ?_)
  · refine x_aload_n C 0 rfl dX5_undo_13 rfl ?_
    refine x_get (k := 4) (v := .ref (e 0)) C dX5_undo_14 layX5 fl_X5_25 0 rfl rfl (by decide) rfl ?_
    refine x_aload_n C 0 rfl dX5_undo_17 rfl ?_
    refine x_get (k := 0) (v := .ref (n 0)) C dX5_undo_18 layX5 fl_X5_10 0 rfl rfl (by decide) rfl ?_
    refine x_call2A (As := [.ref (n 0)]) (rest := []) C dX5_undo_21 (c_H_takeBack (gX.l X) G n now e b nx sz hs (by omega) (by omega) (by omega)) ml_X5_155 im_X0_takeBack sl_X0_takeBack in_X0 cd_X0_takeBack hd_X0_takeBack 11 rfl rfl rfl rfl (Nat.le_of_ble_eq_true rfl) ⟨Nat.le_of_ble_eq_true rfl, Nat.le_of_ble_eq_true rfl⟩ [(x, .inr (5, [.ref (n 0), .ref (m 0), .ref (o 0), .int has, .ref (e 0), .ref (t 0), .ref (p 0)]))] [] ((wQ G m ahead) ++ ((wQ G o snap) ++ ((wX4 G t tc en) ++ ((wX1 G p pz pp pn ph pr pe) ++ [])))) (by simp only [List.append_assoc, List.nil_append, List.cons_append]) (ws' := ([(x, .inr (5, [.ref (n 0), .ref (m 0), .ref (o 0), .int has, .ref (e 0), .ref (t 0), .ref (p 0)]))] ++ ((wQ G n (hs ((nx + 3) % 4))) ++ ((wH G e b ((nx + 3) % 4) (sz - 1) hs) ++ ((wQ G m ahead) ++ ((wQ G o snap) ++ ((wX4 G t tc en) ++ ((wX1 G p pz pp pn ph pr pe) ++ [])))))))) (by simp only [List.append_assoc, List.nil_append, List.cons_append]) (st' := []) rfl ⟨rfl, rfl⟩ ⟨Nat.le_of_ble_eq_true rfl, Nat.le_of_ble_eq_true rfl⟩ ?_
    refine x_aload_n C 0 rfl dX5_undo_24 rfl ?_
    refine x_get (k := 4) (v := .ref (e 0)) C dX5_undo_25 layX5 fl_X5_25 0 rfl rfl (by decide) rfl ?_
    refine x_callVd (As := []) (rest := []) C dX5_undo_28 (c_H_size (gX.l X) G e b ((nx + 3) % 4) (sz - 1) hs ) ml_X5_154 im_X0_size sl_X0_size in_X0 cd_X0_size hd_X0_size 0 rfl rfl rfl rfl (Nat.le_of_ble_eq_true rfl) ⟨Nat.le_of_ble_eq_true rfl, Nat.le_of_ble_eq_true rfl⟩ ([(x, .inr (5, [.ref (n 0), .ref (m 0), .ref (o 0), .int has, .ref (e 0), .ref (t 0), .ref (p 0)]))] ++ (wQ G n (hs ((nx + 3) % 4)))) ((wQ G m ahead) ++ ((wQ G o snap) ++ ((wX4 G t tc en) ++ ((wX1 G p pz pp pn ph pr pe) ++ [])))) (by simp only [List.append_assoc, List.nil_append, List.cons_append]) (ws' := ([(x, .inr (5, [.ref (n 0), .ref (m 0), .ref (o 0), .int has, .ref (e 0), .ref (t 0), .ref (p 0)]))] ++ ((wQ G n (hs ((nx + 3) % 4))) ++ ((wH G e b ((nx + 3) % 4) (sz - 1) hs) ++ ((wQ G m ahead) ++ ((wQ G o snap) ++ ((wX4 G t tc en) ++ ((wX1 G p pz pp pn ph pr pe) ++ [])))))))) (by simp only [List.append_assoc, List.nil_append, List.cons_append]) (st' := [.int (nI (sz - 1))]) rfl ⟨rfl, rfl⟩ ⟨Nat.le_of_ble_eq_true rfl, Nat.le_of_ble_eq_true rfl⟩ ?_
    exact x_iret C hr E dX5_undo_31 (fun _ => 0) (by rw [kX_undo, if_neg (by assumption)]) (by rw [kX_undo, if_neg (by assumption)])
  · refine x_bipush (v := (-5)) C dX5_undo_10 (by decide) ?_
    exact x_iret C hr E dX5_undo_12 (fun _ => 0) (by rw [kX_undo, if_pos (by assumption)]) (by rw [kX_undo, if_pos (by assumption)])
def rm_X5_horse : Room := { frames := 2, cells := 0, slots := 0, locals := 45 }
set_option maxRecDepth 100000 in
set_option maxHeartbeats 600000 in
theorem c_X5_horse (l : Launch) (G : gG) (x : Nat) (n m o e : Nat → Nat) (b : Nat → Nat → Nat) (t p : Nat → Nat) (now : c_S) (nx sz : Nat) (hs : Nat → c_S) (ahead snap : c_S) (has : Int32) (tc : Nat → Int32) (en pz pp : Nat) (pn ph pr : Int32) (pe : Nat → Int32) (h w : Int32)  (hS : okS 10000 now) (hnx : nx < 4) (hsz : sz ≤ 4) : CT l yX5_horse cX5_horse 3 (some .int) rm_X5_horse G [.ref x, .int h, .int w] ([(x, .inr (5, [.ref (n 0), .ref (m 0), .ref (o 0), .int has, .ref (e 0), .ref (t 0), .ref (p 0)]))] ++ ((wQ G n now) ++ ((wH G e b nx sz hs) ++ ((wQ G m ahead) ++ ((wQ G o snap) ++ ((wX4 G t tc en) ++ ((wX1 G p pz pp pn ph pr pe) ++ []))))))) (some (.int (kX_horse now h w))) (fun _ => ([(x, .inr (5, [.ref (n 0), .ref (m 0), .ref (o 0), .int has, .ref (e 0), .ref (t 0), .ref (p 0)]))] ++ ((wQ G n now) ++ ((wH G e b nx sz hs) ++ ((wQ G m ahead) ++ ((wQ G o snap) ++ ((wX4 G t tc en) ++ ((wX1 G p pz pp pn ph pr pe) ++ [])))))))) := by
  refine gMet (by decide) (Nat.le_of_ble_eq_true rfl) (fun X hX C hr hin E => ?_)
  clear hX
  refine (show gW G X ([(x, .inr (5, [.ref (n 0), .ref (m 0), .ref (o 0), .int has, .ref (e 0), .ref (t 0), .ref (p 0)]))] ++ ((wQ G n now) ++ ((wH G e b nx sz hs) ++ ((wQ G m ahead) ++ ((wQ G o snap) ++ ((wX4 G t tc en) ++ ((wX1 G p pz pp pn ph pr pe) ++ []))))))) 0 0 0 [(0, .ref x), (1, .int h), (2, .int w)] [] from ?_)
  have hS1 := hS.1
  have hS2 := hS.2.1
  have hS3 := hS.2.2.1
  have hS4 := hS.2.2.2
  refine x_iload_n C 1 rfl dX5_horse_0 rfl ?_
  refine x_callSd (As := [.int h]) (rest := []) C dX5_horse_1 (c_X5_isNoHorse (gX.l X) G h ) ml_X5_43 st_X5_isNoHorse in_X5 cd_X5_isNoHorse hd_X5_isNoHorse rfl rfl (Nat.le_of_ble_eq_true rfl) ⟨Nat.le_of_ble_eq_true rfl, Nat.le_of_ble_eq_true rfl⟩ [] ([(x, .inr (5, [.ref (n 0), .ref (m 0), .ref (o 0), .int has, .ref (e 0), .ref (t 0), .ref (p 0)]))] ++ ((wQ G n now) ++ ((wH G e b nx sz hs) ++ ((wQ G m ahead) ++ ((wQ G o snap) ++ ((wX4 G t tc en) ++ ((wX1 G p pz pp pn ph pr pe) ++ []))))))) rfl (ws' := ([(x, .inr (5, [.ref (n 0), .ref (m 0), .ref (o 0), .int has, .ref (e 0), .ref (t 0), .ref (p 0)]))] ++ ((wQ G n now) ++ ((wH G e b nx sz hs) ++ ((wQ G m ahead) ++ ((wQ G o snap) ++ ((wX4 G t tc en) ++ ((wX1 G p pz pp pn ph pr pe) ++ [])))))))) rfl (st' := [.int (bI ((h < 0) ∨ (9 < h)))]) rfl ⟨rfl, rfl⟩ ⟨Nat.le_of_ble_eq_true rfl, Nat.le_of_ble_eq_true rfl⟩ ?_
  refine x_if_eqB (P := (h < 0) ∨ (9 < h)) (tgt := 9) C dX5_horse_4 (by decide) (fun c1 => ?_) (fun c1 => ?_)
  · have hN := g_out (x := h) (n := 9) (by decide) (by assumption)
    refine x_iload_n C 2 rfl dX5_horse_9 rfl ?_
    refine x_iconst (v := (nI 0)) C dX5_horse_10 (by decide) ?_
    refine x_bipush (v := (nI 8)) C dX5_horse_11 (by decide) ?_
    refine x_callSd (As := [.int w, .int (nI 0), .int (nI 8)]) (rest := []) C dX5_horse_13 (c_X5_isOutside (gX.l X) G w 0 8 ) ml_X5_47 st_X5_isOutside in_X5 cd_X5_isOutside hd_X5_isOutside rfl rfl (Nat.le_of_ble_eq_true rfl) ⟨Nat.le_of_ble_eq_true rfl, Nat.le_of_ble_eq_true rfl⟩ [] ([(x, .inr (5, [.ref (n 0), .ref (m 0), .ref (o 0), .int has, .ref (e 0), .ref (t 0), .ref (p 0)]))] ++ ((wQ G n now) ++ ((wH G e b nx sz hs) ++ ((wQ G m ahead) ++ ((wQ G o snap) ++ ((wX4 G t tc en) ++ ((wX1 G p pz pp pn ph pr pe) ++ []))))))) rfl (ws' := ([(x, .inr (5, [.ref (n 0), .ref (m 0), .ref (o 0), .int has, .ref (e 0), .ref (t 0), .ref (p 0)]))] ++ ((wQ G n now) ++ ((wH G e b nx sz hs) ++ ((wQ G m ahead) ++ ((wQ G o snap) ++ ((wX4 G t tc en) ++ ((wX1 G p pz pp pn ph pr pe) ++ [])))))))) rfl (st' := [.int (bI ((w < 0) ∨ (8 < w)))]) rfl ⟨rfl, rfl⟩ ⟨Nat.le_of_ble_eq_true rfl, Nat.le_of_ble_eq_true rfl⟩ ?_
    refine x_if_eqB (P := (w < 0) ∨ (8 < w)) (tgt := 24) C dX5_horse_16 (by decide) (fun c2 => ?_) (fun c2 => ?_)
    · have hW := g_out (x := w) (n := 8) (by decide) (by assumption)
      refine x_aload_n C 0 rfl dX5_horse_24 rfl ?_
      refine x_get (k := 0) (v := .ref (n 0)) C dX5_horse_25 layX5 fl_X5_10 0 rfl rfl (by decide) rfl ?_
      refine x_iload_n C 1 rfl dX5_horse_28 rfl ?_
      refine x_top (y := (nI (nC h))) hN.2 ?_
      refine x_iload_n C 2 rfl dX5_horse_29 rfl ?_
      refine x_top (y := (nI (nC w))) hW.2 ?_
      refine x_callVd (As := [.int (nI (nC h)), .int (nI (nC w))]) (rest := []) C dX5_horse_30 (c_Q_ofHorse (gX.l X) G n now (nC h) (nC w) ((nC w) * 10 + (nC h)) (by omega) (by omega) (by omega)) ml_X5_51 im_X2_ofHorse sl_X2_ofHorse in_X2 cd_X2_ofHorse hd_X2_ofHorse 0 rfl rfl rfl rfl (Nat.le_of_ble_eq_true rfl) ⟨Nat.le_of_ble_eq_true rfl, Nat.le_of_ble_eq_true rfl⟩ [(x, .inr (5, [.ref (n 0), .ref (m 0), .ref (o 0), .int has, .ref (e 0), .ref (t 0), .ref (p 0)]))] ((wH G e b nx sz hs) ++ ((wQ G m ahead) ++ ((wQ G o snap) ++ ((wX4 G t tc en) ++ ((wX1 G p pz pp pn ph pr pe) ++ []))))) (by simp only [List.append_assoc, List.nil_append, List.cons_append]) (ws' := ([(x, .inr (5, [.ref (n 0), .ref (m 0), .ref (o 0), .int has, .ref (e 0), .ref (t 0), .ref (p 0)]))] ++ ((wQ G n now) ++ ((wH G e b nx sz hs) ++ ((wQ G m ahead) ++ ((wQ G o snap) ++ ((wX4 G t tc en) ++ ((wX1 G p pz pp pn ph pr pe) ++ [])))))))) (by simp only [List.append_assoc, List.nil_append, List.cons_append]) (st' := [.int ((q_ho now) ((nC w) * 10 + (nC h)))]) rfl ⟨rfl, rfl⟩ ⟨Nat.le_of_ble_eq_true rfl, Nat.le_of_ble_eq_true rfl⟩ ?_
      exact x_iret C hr E dX5_horse_33 (fun _ => 0) (by simp (config := {decide := true}) only [kX_horse, k_out, k_act, k_no, c1, c2,  if_true, if_false, ite_true, ite_false, and_true, true_and, and_false, false_and, or_true, true_or, or_false, false_or, not_true_eq_false, not_false_eq_true, and_self, or_self]) rfl
    · refine x_bipush (v := (-2)) C dX5_horse_19 (by decide) ?_
      refine x_goto (tgt := 33) C dX5_horse_21 (by decide) ?_
      exact x_iret C hr E dX5_horse_33 (fun _ => 0) (by simp (config := {decide := true}) only [kX_horse, k_out, k_act, k_no, c1, c2,  if_true, if_false, ite_true, ite_false, and_true, true_and, and_false, false_and, or_true, true_or, or_false, false_or, not_true_eq_false, not_false_eq_true, and_self, or_self]) rfl
  · refine x_iconst (v := (-1)) C dX5_horse_7 (by decide) ?_
    exact x_iret C hr E dX5_horse_8 (fun _ => 0) (by simp (config := {decide := true}) only [kX_horse, k_out, k_act, k_no, c1,  if_true, if_false, ite_true, ite_false, and_true, true_and, and_false, false_and, or_true, true_or, or_false, false_or, not_true_eq_false, not_false_eq_true, and_self, or_self]) rfl
def rm_X5_rider : Room := { frames := 3, cells := 0, slots := 0, locals := 68 }
set_option maxRecDepth 100000 in
set_option maxHeartbeats 600000 in
theorem c_X5_rider (l : Launch) (G : gG) (x : Nat) (n m o e : Nat → Nat) (b : Nat → Nat → Nat) (t p : Nat → Nat) (now : c_S) (nx sz : Nat) (hs : Nat → c_S) (ahead snap : c_S) (has : Int32) (tc : Nat → Int32) (en pz pp : Nat) (pn ph pr : Int32) (pe : Nat → Int32) (r w : Int32)  (hS : okS 10000 now) (hnx : nx < 4) (hsz : sz ≤ 4) : CT l yX5_rider cX5_rider 3 (some .int) rm_X5_rider G [.ref x, .int r, .int w] ([(x, .inr (5, [.ref (n 0), .ref (m 0), .ref (o 0), .int has, .ref (e 0), .ref (t 0), .ref (p 0)]))] ++ ((wQ G n now) ++ ((wH G e b nx sz hs) ++ ((wQ G m ahead) ++ ((wQ G o snap) ++ ((wX4 G t tc en) ++ ((wX1 G p pz pp pn ph pr pe) ++ []))))))) (some (.int (kX_rider now r w))) (fun _ => ([(x, .inr (5, [.ref (n 0), .ref (m 0), .ref (o 0), .int has, .ref (e 0), .ref (t 0), .ref (p 0)]))] ++ ((wQ G n now) ++ ((wH G e b nx sz hs) ++ ((wQ G m ahead) ++ ((wQ G o snap) ++ ((wX4 G t tc en) ++ ((wX1 G p pz pp pn ph pr pe) ++ [])))))))) := by
  refine gMet (by decide) (Nat.le_of_ble_eq_true rfl) (fun X hX C hr hin E => ?_)
  clear hX
  refine (show gW G X ([(x, .inr (5, [.ref (n 0), .ref (m 0), .ref (o 0), .int has, .ref (e 0), .ref (t 0), .ref (p 0)]))] ++ ((wQ G n now) ++ ((wH G e b nx sz hs) ++ ((wQ G m ahead) ++ ((wQ G o snap) ++ ((wX4 G t tc en) ++ ((wX1 G p pz pp pn ph pr pe) ++ []))))))) 0 0 0 [(0, .ref x), (1, .int r), (2, .int w)] [] from ?_)
  have hS1 := hS.1
  have hS2 := hS.2.1
  have hS3 := hS.2.2.1
  have hS4 := hS.2.2.2
  refine x_iload_n C 1 rfl dX5_rider_0 rfl ?_
  refine x_callSd (As := [.int r]) (rest := []) C dX5_rider_1 (c_X5_isNoRider (gX.l X) G r ) ml_X5_63 st_X5_isNoRider in_X5 cd_X5_isNoRider hd_X5_isNoRider rfl rfl (Nat.le_of_ble_eq_true rfl) ⟨Nat.le_of_ble_eq_true rfl, Nat.le_of_ble_eq_true rfl⟩ [] ([(x, .inr (5, [.ref (n 0), .ref (m 0), .ref (o 0), .int has, .ref (e 0), .ref (t 0), .ref (p 0)]))] ++ ((wQ G n now) ++ ((wH G e b nx sz hs) ++ ((wQ G m ahead) ++ ((wQ G o snap) ++ ((wX4 G t tc en) ++ ((wX1 G p pz pp pn ph pr pe) ++ []))))))) rfl (ws' := ([(x, .inr (5, [.ref (n 0), .ref (m 0), .ref (o 0), .int has, .ref (e 0), .ref (t 0), .ref (p 0)]))] ++ ((wQ G n now) ++ ((wH G e b nx sz hs) ++ ((wQ G m ahead) ++ ((wQ G o snap) ++ ((wX4 G t tc en) ++ ((wX1 G p pz pp pn ph pr pe) ++ [])))))))) rfl (st' := [.int (bI ((r < 0) ∨ (11 < r)))]) rfl ⟨rfl, rfl⟩ ⟨Nat.le_of_ble_eq_true rfl, Nat.le_of_ble_eq_true rfl⟩ ?_
  refine x_if_eqB (P := (r < 0) ∨ (11 < r)) (tgt := 9) C dX5_rider_4 (by decide) (fun c1 => ?_) (fun c1 => ?_)
  · have hN := g_out (x := r) (n := 11) (by decide) (by assumption)
    refine x_iload_n C 2 rfl dX5_rider_9 rfl ?_
    refine x_iconst (v := (nI 0)) C dX5_rider_10 (by decide) ?_
    refine x_bipush (v := (nI 9)) C dX5_rider_11 (by decide) ?_
    refine x_callSd (As := [.int w, .int (nI 0), .int (nI 9)]) (rest := []) C dX5_rider_13 (c_X5_isOutside (gX.l X) G w 0 9 ) ml_X5_47 st_X5_isOutside in_X5 cd_X5_isOutside hd_X5_isOutside rfl rfl (Nat.le_of_ble_eq_true rfl) ⟨Nat.le_of_ble_eq_true rfl, Nat.le_of_ble_eq_true rfl⟩ [] ([(x, .inr (5, [.ref (n 0), .ref (m 0), .ref (o 0), .int has, .ref (e 0), .ref (t 0), .ref (p 0)]))] ++ ((wQ G n now) ++ ((wH G e b nx sz hs) ++ ((wQ G m ahead) ++ ((wQ G o snap) ++ ((wX4 G t tc en) ++ ((wX1 G p pz pp pn ph pr pe) ++ []))))))) rfl (ws' := ([(x, .inr (5, [.ref (n 0), .ref (m 0), .ref (o 0), .int has, .ref (e 0), .ref (t 0), .ref (p 0)]))] ++ ((wQ G n now) ++ ((wH G e b nx sz hs) ++ ((wQ G m ahead) ++ ((wQ G o snap) ++ ((wX4 G t tc en) ++ ((wX1 G p pz pp pn ph pr pe) ++ [])))))))) rfl (st' := [.int (bI ((w < 0) ∨ (9 < w)))]) rfl ⟨rfl, rfl⟩ ⟨Nat.le_of_ble_eq_true rfl, Nat.le_of_ble_eq_true rfl⟩ ?_
    refine x_if_eqB (P := (w < 0) ∨ (9 < w)) (tgt := 24) C dX5_rider_16 (by decide) (fun c2 => ?_) (fun c2 => ?_)
    · have hW := g_out (x := w) (n := 9) (by decide) (by assumption)
      refine x_aload_n C 0 rfl dX5_rider_24 rfl ?_
      refine x_get (k := 0) (v := .ref (n 0)) C dX5_rider_25 layX5 fl_X5_10 0 rfl rfl (by decide) rfl ?_
      refine x_iload_n C 1 rfl dX5_rider_28 rfl ?_
      refine x_top (y := (nI (nC r))) hN.2 ?_
      refine x_iload_n C 2 rfl dX5_rider_29 rfl ?_
      refine x_top (y := (nI (nC w))) hW.2 ?_
      refine x_callVd (As := [.int (nI (nC r)), .int (nI (nC w))]) (rest := []) C dX5_rider_30 (c_Q_ofRider (gX.l X) G n now (nC r) (nC w) (by omega) (by omega) (by omega)) ml_X5_66 im_X2_ofRider sl_X2_ofRider in_X2 cd_X2_ofRider hd_X2_ofRider 0 rfl rfl rfl rfl (Nat.le_of_ble_eq_true rfl) ⟨Nat.le_of_ble_eq_true rfl, Nat.le_of_ble_eq_true rfl⟩ [(x, .inr (5, [.ref (n 0), .ref (m 0), .ref (o 0), .int has, .ref (e 0), .ref (t 0), .ref (p 0)]))] ((wH G e b nx sz hs) ++ ((wQ G m ahead) ++ ((wQ G o snap) ++ ((wX4 G t tc en) ++ ((wX1 G p pz pp pn ph pr pe) ++ []))))) (by simp only [List.append_assoc, List.nil_append, List.cons_append]) (ws' := ([(x, .inr (5, [.ref (n 0), .ref (m 0), .ref (o 0), .int has, .ref (e 0), .ref (t 0), .ref (p 0)]))] ++ ((wQ G n now) ++ ((wH G e b nx sz hs) ++ ((wQ G m ahead) ++ ((wQ G o snap) ++ ((wX4 G t tc en) ++ ((wX1 G p pz pp pn ph pr pe) ++ [])))))))) (by simp only [List.append_assoc, List.nil_append, List.cons_append]) (st' := [.int (c_ofRid (q_ri now) (q_bo now) (q_bc now) (nC r) (nC w))]) rfl ⟨rfl, rfl⟩ ⟨Nat.le_of_ble_eq_true rfl, Nat.le_of_ble_eq_true rfl⟩ ?_
      exact x_iret C hr E dX5_rider_33 (fun _ => 0) (by simp (config := {decide := true}) only [kX_rider, k_out, k_act, k_no, c1, c2,  if_true, if_false, ite_true, ite_false, and_true, true_and, and_false, false_and, or_true, true_or, or_false, false_or, not_true_eq_false, not_false_eq_true, and_self, or_self]) rfl
    · refine x_bipush (v := (-2)) C dX5_rider_19 (by decide) ?_
      refine x_goto (tgt := 33) C dX5_rider_21 (by decide) ?_
      exact x_iret C hr E dX5_rider_33 (fun _ => 0) (by simp (config := {decide := true}) only [kX_rider, k_out, k_act, k_no, c1, c2,  if_true, if_false, ite_true, ite_false, and_true, true_and, and_false, false_and, or_true, true_or, or_false, false_or, not_true_eq_false, not_false_eq_true, and_self, or_self]) rfl
  · refine x_iconst (v := (-1)) C dX5_rider_7 (by decide) ?_
    exact x_iret C hr E dX5_rider_8 (fun _ => 0) (by simp (config := {decide := true}) only [kX_rider, k_out, k_act, k_no, c1,  if_true, if_false, ite_true, ite_false, and_true, true_and, and_false, false_and, or_true, true_or, or_false, false_or, not_true_eq_false, not_false_eq_true, and_self, or_self]) rfl
def rm_X5_lesson : Room := { frames := 4, cells := 0, slots := 0, locals := 92 }
set_option maxRecDepth 100000 in
set_option maxHeartbeats 600000 in
theorem c_X5_lesson (l : Launch) (G : gG) (x : Nat) (n m o e : Nat → Nat) (b : Nat → Nat → Nat) (t p : Nat → Nat) (now : c_S) (nx sz : Nat) (hs : Nat → c_S) (ahead snap : c_S) (has : Int32) (tc : Nat → Int32) (en pz pp : Nat) (pn ph pr : Int32) (pe : Nat → Int32) (h g w : Int32)  (hS : okS 10000 now) (hnx : nx < 4) (hsz : sz ≤ 4) : CT l yX5_lesson cX5_lesson 5 (some .int) rm_X5_lesson G [.ref x, .int h, .int g, .int w] ([(x, .inr (5, [.ref (n 0), .ref (m 0), .ref (o 0), .int has, .ref (e 0), .ref (t 0), .ref (p 0)]))] ++ ((wQ G n now) ++ ((wH G e b nx sz hs) ++ ((wQ G m ahead) ++ ((wQ G o snap) ++ ((wX4 G t tc en) ++ ((wX1 G p pz pp pn ph pr pe) ++ []))))))) (some (.int (kX_lesson now h g w))) (fun _ => ([(x, .inr (5, [.ref (n 0), .ref (m 0), .ref (o 0), .int has, .ref (e 0), .ref (t 0), .ref (p 0)]))] ++ ((wQ G n now) ++ ((wH G e b nx sz hs) ++ ((wQ G m ahead) ++ ((wQ G o snap) ++ ((wX4 G t tc en) ++ ((wX1 G p pz pp pn ph pr pe) ++ [])))))))) := by
  refine gMet (by decide) (Nat.le_of_ble_eq_true rfl) (fun X hX C hr hin E => ?_)
  clear hX
  refine (show gW G X ([(x, .inr (5, [.ref (n 0), .ref (m 0), .ref (o 0), .int has, .ref (e 0), .ref (t 0), .ref (p 0)]))] ++ ((wQ G n now) ++ ((wH G e b nx sz hs) ++ ((wQ G m ahead) ++ ((wQ G o snap) ++ ((wX4 G t tc en) ++ ((wX1 G p pz pp pn ph pr pe) ++ []))))))) 0 0 0 [(0, .ref x), (1, .int h), (2, .int g), (3, .int w)] [] from ?_)
  have hS1 := hS.1
  have hS2 := hS.2.1
  have hS3 := hS.2.2.1
  have hS4 := hS.2.2.2
  refine x_iload_n C 2 rfl dX5_lesson_0 rfl ?_
  refine x_callSd (As := [.int g]) (rest := []) C dX5_lesson_1 (c_X5_isNoRing (gX.l X) G g ) ml_X5_91 st_X5_isNoRing in_X5 cd_X5_isNoRing hd_X5_isNoRing rfl rfl (Nat.le_of_ble_eq_true rfl) ⟨Nat.le_of_ble_eq_true rfl, Nat.le_of_ble_eq_true rfl⟩ [] ([(x, .inr (5, [.ref (n 0), .ref (m 0), .ref (o 0), .int has, .ref (e 0), .ref (t 0), .ref (p 0)]))] ++ ((wQ G n now) ++ ((wH G e b nx sz hs) ++ ((wQ G m ahead) ++ ((wQ G o snap) ++ ((wX4 G t tc en) ++ ((wX1 G p pz pp pn ph pr pe) ++ []))))))) rfl (ws' := ([(x, .inr (5, [.ref (n 0), .ref (m 0), .ref (o 0), .int has, .ref (e 0), .ref (t 0), .ref (p 0)]))] ++ ((wQ G n now) ++ ((wH G e b nx sz hs) ++ ((wQ G m ahead) ++ ((wQ G o snap) ++ ((wX4 G t tc en) ++ ((wX1 G p pz pp pn ph pr pe) ++ [])))))))) rfl (st' := [.int (bI ((g < 0) ∨ (2 < g)))]) rfl ⟨rfl, rfl⟩ ⟨Nat.le_of_ble_eq_true rfl, Nat.le_of_ble_eq_true rfl⟩ ?_
  refine x_if_eqB (P := (g < 0) ∨ (2 < g)) (tgt := 9) C dX5_lesson_4 (by decide) (fun c1 => ?_) (fun c1 => ?_)
  · refine x_iload_n C 1 rfl dX5_lesson_9 rfl ?_
    refine x_iconst (v := (nI 0)) C dX5_lesson_10 (by decide) ?_
    refine x_bipush (v := (nI 99)) C dX5_lesson_11 (by decide) ?_
    refine x_callSd (As := [.int h, .int (nI 0), .int (nI 99)]) (rest := []) C dX5_lesson_13 (c_X5_isOutside (gX.l X) G h 0 99 ) ml_X5_47 st_X5_isOutside in_X5 cd_X5_isOutside hd_X5_isOutside rfl rfl (Nat.le_of_ble_eq_true rfl) ⟨Nat.le_of_ble_eq_true rfl, Nat.le_of_ble_eq_true rfl⟩ [] ([(x, .inr (5, [.ref (n 0), .ref (m 0), .ref (o 0), .int has, .ref (e 0), .ref (t 0), .ref (p 0)]))] ++ ((wQ G n now) ++ ((wH G e b nx sz hs) ++ ((wQ G m ahead) ++ ((wQ G o snap) ++ ((wX4 G t tc en) ++ ((wX1 G p pz pp pn ph pr pe) ++ []))))))) rfl (ws' := ([(x, .inr (5, [.ref (n 0), .ref (m 0), .ref (o 0), .int has, .ref (e 0), .ref (t 0), .ref (p 0)]))] ++ ((wQ G n now) ++ ((wH G e b nx sz hs) ++ ((wQ G m ahead) ++ ((wQ G o snap) ++ ((wX4 G t tc en) ++ ((wX1 G p pz pp pn ph pr pe) ++ [])))))))) rfl (st' := [.int (bI ((h < 0) ∨ (99 < h)))]) rfl ⟨rfl, rfl⟩ ⟨Nat.le_of_ble_eq_true rfl, Nat.le_of_ble_eq_true rfl⟩ ?_
    refine x_if_neB (P := (h < 0) ∨ (99 < h)) (tgt := 28) C dX5_lesson_16 (by decide) (fun c2 => ?_) (fun c2 => ?_)
    · refine x_bipush (v := (-2)) C dX5_lesson_28 (by decide) ?_
      exact x_iret C hr E dX5_lesson_30 (fun _ => 0) (by simp (config := {decide := true}) only [kX_lesson, k_out, k_act, k_no, c1, c2,  if_true, if_false, ite_true, ite_false, and_true, true_and, and_false, false_and, or_true, true_or, or_false, false_or, not_true_eq_false, not_false_eq_true, and_self, or_self]) rfl
    · refine x_iload_n C 3 rfl dX5_lesson_19 rfl ?_
      refine x_iconst (v := (nI 0)) C dX5_lesson_20 (by decide) ?_
      refine x_iconst (v := (nI 2)) C dX5_lesson_21 (by decide) ?_
      refine x_callSd (As := [.int w, .int (nI 0), .int (nI 2)]) (rest := []) C dX5_lesson_22 (c_X5_isOutside (gX.l X) G w 0 2 ) ml_X5_47 st_X5_isOutside in_X5 cd_X5_isOutside hd_X5_isOutside rfl rfl (Nat.le_of_ble_eq_true rfl) ⟨Nat.le_of_ble_eq_true rfl, Nat.le_of_ble_eq_true rfl⟩ [] ([(x, .inr (5, [.ref (n 0), .ref (m 0), .ref (o 0), .int has, .ref (e 0), .ref (t 0), .ref (p 0)]))] ++ ((wQ G n now) ++ ((wH G e b nx sz hs) ++ ((wQ G m ahead) ++ ((wQ G o snap) ++ ((wX4 G t tc en) ++ ((wX1 G p pz pp pn ph pr pe) ++ []))))))) rfl (ws' := ([(x, .inr (5, [.ref (n 0), .ref (m 0), .ref (o 0), .int has, .ref (e 0), .ref (t 0), .ref (p 0)]))] ++ ((wQ G n now) ++ ((wH G e b nx sz hs) ++ ((wQ G m ahead) ++ ((wQ G o snap) ++ ((wX4 G t tc en) ++ ((wX1 G p pz pp pn ph pr pe) ++ [])))))))) rfl (st' := [.int (bI ((w < 0) ∨ (2 < w)))]) rfl ⟨rfl, rfl⟩ ⟨Nat.le_of_ble_eq_true rfl, Nat.le_of_ble_eq_true rfl⟩ ?_
      refine x_if_eqB (P := (w < 0) ∨ (2 < w)) (tgt := 31) C dX5_lesson_25 (by decide) (fun c3 => ?_) (fun c3 => ?_)
      · have hN := g_out (x := h) (n := 99) (by decide) (by assumption)
        have hG := g_out (x := g) (n := 2) (by decide) (by assumption)
        refine x_iload_n C 3 rfl dX5_lesson_31 rfl ?_
        refine x_iconst (v := (nI 2)) C dX5_lesson_32 (by decide) ?_
        refine x_icmp_ne (x := w) (y := 2) (tgt := 46) C dX5_lesson_33 (by decide) (fun c4 => ?_) (fun c4 => ?_)
        · refine x_aload_n C 0 rfl dX5_lesson_46 rfl ?_
          refine x_get (k := 0) (v := .ref (n 0)) C dX5_lesson_47 layX5 fl_X5_10 0 rfl rfl (by decide) rfl ?_
          refine x_iload_n C 1 rfl dX5_lesson_50 rfl ?_
          refine x_top (y := (nI (nC h))) hN.2 ?_
          refine x_iload_n C 2 rfl dX5_lesson_51 rfl ?_
          refine x_top (y := (nI (nC g))) hG.2 ?_
          refine x_callVd (As := [.int (nI (nC h)), .int (nI (nC g))]) (rest := []) C dX5_lesson_52 (c_Q_bookedFor (gX.l X) G n now (nC h) (nC g) (by omega)) ml_X5_101 im_X2_bookedFor sl_X2_bookedFor in_X2 cd_X2_bookedFor hd_X2_bookedFor 0 rfl rfl rfl rfl (Nat.le_of_ble_eq_true rfl) ⟨Nat.le_of_ble_eq_true rfl, Nat.le_of_ble_eq_true rfl⟩ [(x, .inr (5, [.ref (n 0), .ref (m 0), .ref (o 0), .int has, .ref (e 0), .ref (t 0), .ref (p 0)]))] ((wH G e b nx sz hs) ++ ((wQ G m ahead) ++ ((wQ G o snap) ++ ((wX4 G t tc en) ++ ((wX1 G p pz pp pn ph pr pe) ++ []))))) (by simp only [List.append_assoc, List.nil_append, List.cons_append]) (ws' := ([(x, .inr (5, [.ref (n 0), .ref (m 0), .ref (o 0), .int has, .ref (e 0), .ref (t 0), .ref (p 0)]))] ++ ((wQ G n now) ++ ((wH G e b nx sz hs) ++ ((wQ G m ahead) ++ ((wQ G o snap) ++ ((wX4 G t tc en) ++ ((wX1 G p pz pp pn ph pr pe) ++ [])))))))) (by simp only [List.append_assoc, List.nil_append, List.cons_append]) (st' := [.int (c_bf (q_bo now) (nI ((q_ti now) + (nC h))) (nI (nC g)) (q_bc now))]) rfl ⟨rfl, rfl⟩ ⟨Nat.le_of_ble_eq_true rfl, Nat.le_of_ble_eq_true rfl⟩ ?_
          refine x_istore (lv' := [(4, .int (c_bf (q_bo now) (nI ((q_ti now) + (nC h))) (nI (nC g)) (q_bc now))), (0, .ref x), (1, .int h), (2, .int g), (3, .int w)]) C dX5_lesson_55 (by decide) rfl ?_
          refine x_iload_n C 4 rfl dX5_lesson_57 rfl ?_
          refine x_if_ne (x := w) (tgt := 66) C dX5_lesson_58 (by decide) (fun c5 => ?_) (fun c5 => ?_)
          · refine x_gets0 C dX5_lesson_66 fl_X5_165 ?_
            refine x_iload_n C 3 rfl dX5_lesson_69 rfl ?_
            refine x_top (y := (nI (nC g))) hG.2 ?_
            refine x_callSd (As := [.ref (G.2.2 0), .int (nI (nC g))]) (rest := []) C dX5_lesson_70 (c_X5_entry0 (gX.l X) G (nC g) (by omega)) ml_X5_76 st_X5_entry in_X5 cd_X5_entry hd_X5_entry rfl rfl (Nat.le_of_ble_eq_true rfl) ⟨Nat.le_of_ble_eq_true rfl, Nat.le_of_ble_eq_true rfl⟩ [] ([(x, .inr (5, [.ref (n 0), .ref (m 0), .ref (o 0), .int has, .ref (e 0), .ref (t 0), .ref (p 0)]))] ++ ((wQ G n now) ++ ((wH G e b nx sz hs) ++ ((wQ G m ahead) ++ ((wQ G o snap) ++ ((wX4 G t tc en) ++ ((wX1 G p pz pp pn ph pr pe) ++ []))))))) rfl (ws' := ([(x, .inr (5, [.ref (n 0), .ref (m 0), .ref (o 0), .int has, .ref (e 0), .ref (t 0), .ref (p 0)]))] ++ ((wQ G n now) ++ ((wH G e b nx sz hs) ++ ((wQ G m ahead) ++ ((wQ G o snap) ++ ((wX4 G t tc en) ++ ((wX1 G p pz pp pn ph pr pe) ++ [])))))))) rfl (st' := [.int (sT 0 (nC g))]) rfl ⟨rfl, rfl⟩ ⟨Nat.le_of_ble_eq_true rfl, Nat.le_of_ble_eq_true rfl⟩ ?_
            refine x_iload C 0 rfl dX5_lesson_73 ?_
            refine x_isub (x := (sT 0 (nC g))) (y := (c_bf (q_bo now) (nI ((q_ti now) + (nC h))) (nI (nC g)) (q_bc now))) C dX5_lesson_75 ?_
            exact x_iret C hr E dX5_lesson_76 (fun _ => 0) (by simp (config := {decide := true}) only [kX_lesson, k_out, k_act, k_no, c1, c2, c3, c4, c5,  if_true, if_false, ite_true, ite_false, and_true, true_and, and_false, false_and, or_true, true_or, or_false, false_or, not_true_eq_false, not_false_eq_true, and_self, or_self]) rfl
          · refine x_iload C 0 rfl dX5_lesson_61 ?_
            refine x_goto (tgt := 76) C dX5_lesson_63 (by decide) ?_
            exact x_iret C hr E dX5_lesson_76 (fun _ => 0) (by simp (config := {decide := true}) only [kX_lesson, k_out, k_act, k_no, c1, c2, c3, c4, c5,  if_true, if_false, ite_true, ite_false, and_true, true_and, and_false, false_and, or_true, true_or, or_false, false_or, not_true_eq_false, not_false_eq_true, and_self, or_self]) rfl
        · refine x_aload_n C 0 rfl dX5_lesson_36 rfl ?_
          refine x_get (k := 0) (v := .ref (n 0)) C dX5_lesson_37 layX5 fl_X5_10 0 rfl rfl (by decide) rfl ?_
          refine x_iload_n C 1 rfl dX5_lesson_40 rfl ?_
          refine x_top (y := (nI (nC h))) hN.2 ?_
          refine x_iload_n C 2 rfl dX5_lesson_41 rfl ?_
          refine x_top (y := (nI (nC g))) hG.2 ?_
          refine x_callVd (As := [.int (nI (nC h)), .int (nI (nC g))]) (rest := []) C dX5_lesson_42 (c_Q_setOfRiders (gX.l X) G n now (nC h) (nC g) (by omega)) ml_X5_162 im_X2_setOfRiders sl_X2_setOfRiders in_X2 cd_X2_setOfRiders hd_X2_setOfRiders 0 rfl rfl rfl rfl (Nat.le_of_ble_eq_true rfl) ⟨Nat.le_of_ble_eq_true rfl, Nat.le_of_ble_eq_true rfl⟩ [(x, .inr (5, [.ref (n 0), .ref (m 0), .ref (o 0), .int has, .ref (e 0), .ref (t 0), .ref (p 0)]))] ((wH G e b nx sz hs) ++ ((wQ G m ahead) ++ ((wQ G o snap) ++ ((wX4 G t tc en) ++ ((wX1 G p pz pp pn ph pr pe) ++ []))))) (by simp only [List.append_assoc, List.nil_append, List.cons_append]) (ws' := ([(x, .inr (5, [.ref (n 0), .ref (m 0), .ref (o 0), .int has, .ref (e 0), .ref (t 0), .ref (p 0)]))] ++ ((wQ G n now) ++ ((wH G e b nx sz hs) ++ ((wQ G m ahead) ++ ((wQ G o snap) ++ ((wX4 G t tc en) ++ ((wX1 G p pz pp pn ph pr pe) ++ [])))))))) (by simp only [List.append_assoc, List.nil_append, List.cons_append]) (st' := [.int (c_set (q_bo now) (nI ((q_ti now) + (nC h))) (nI (nC g)) (q_bc now))]) rfl ⟨rfl, rfl⟩ ⟨Nat.le_of_ble_eq_true rfl, Nat.le_of_ble_eq_true rfl⟩ ?_
          exact x_iret C hr E dX5_lesson_45 (fun _ => 0) (by simp (config := {decide := true}) only [kX_lesson, k_out, k_act, k_no, c1, c2, c3, c4,  if_true, if_false, ite_true, ite_false, and_true, true_and, and_false, false_and, or_true, true_or, or_false, false_or, not_true_eq_false, not_false_eq_true, and_self, or_self]) rfl
      · refine x_bipush (v := (-2)) C dX5_lesson_28 (by decide) ?_
        exact x_iret C hr E dX5_lesson_30 (fun _ => 0) (by simp (config := {decide := true}) only [kX_lesson, k_out, k_act, k_no, c1, c2, c3,  if_true, if_false, ite_true, ite_false, and_true, true_and, and_false, false_and, or_true, true_or, or_false, false_or, not_true_eq_false, not_false_eq_true, and_self, or_self]) rfl
  · refine x_iconst (v := (-1)) C dX5_lesson_7 (by decide) ?_
    exact x_iret C hr E dX5_lesson_8 (fun _ => 0) (by simp (config := {decide := true}) only [kX_lesson, k_out, k_act, k_no, c1,  if_true, if_false, ite_true, ite_false, and_true, true_and, and_false, false_and, or_true, true_or, or_false, false_or, not_true_eq_false, not_false_eq_true, and_self, or_self]) rfl
def rm_X5_fall : Room := { frames := 2, cells := 0, slots := 0, locals := 45 }
set_option maxRecDepth 100000 in
set_option maxHeartbeats 600000 in
theorem c_X5_fall (l : Launch) (G : gG) (x : Nat) (n m o e : Nat → Nat) (b : Nat → Nat → Nat) (t p : Nat → Nat) (now : c_S) (nx sz : Nat) (hs : Nat → c_S) (ahead snap : c_S) (has : Int32) (tc : Nat → Int32) (en pz pp : Nat) (pn ph pr : Int32) (pe : Nat → Int32) (k w : Int32)  (hS : okS 10000 now) (hnx : nx < 4) (hsz : sz ≤ 4) : CT l yX5_fall cX5_fall 3 (some .int) rm_X5_fall G [.ref x, .int k, .int w] ([(x, .inr (5, [.ref (n 0), .ref (m 0), .ref (o 0), .int has, .ref (e 0), .ref (t 0), .ref (p 0)]))] ++ ((wQ G n now) ++ ((wH G e b nx sz hs) ++ ((wQ G m ahead) ++ ((wQ G o snap) ++ ((wX4 G t tc en) ++ ((wX1 G p pz pp pn ph pr pe) ++ []))))))) (some (.int (kX_fall now k w))) (fun _ => ([(x, .inr (5, [.ref (n 0), .ref (m 0), .ref (o 0), .int has, .ref (e 0), .ref (t 0), .ref (p 0)]))] ++ ((wQ G n now) ++ ((wH G e b nx sz hs) ++ ((wQ G m ahead) ++ ((wQ G o snap) ++ ((wX4 G t tc en) ++ ((wX1 G p pz pp pn ph pr pe) ++ [])))))))) := by
  refine gMet (by decide) (Nat.le_of_ble_eq_true rfl) (fun X hX C hr hin E => ?_)
  clear hX
  refine (show gW G X ([(x, .inr (5, [.ref (n 0), .ref (m 0), .ref (o 0), .int has, .ref (e 0), .ref (t 0), .ref (p 0)]))] ++ ((wQ G n now) ++ ((wH G e b nx sz hs) ++ ((wQ G m ahead) ++ ((wQ G o snap) ++ ((wX4 G t tc en) ++ ((wX1 G p pz pp pn ph pr pe) ++ []))))))) 0 0 0 [(0, .ref x), (1, .int k), (2, .int w)] [] from ?_)
  have hS1 := hS.1
  have hS2 := hS.2.1
  have hS3 := hS.2.2.1
  have hS4 := hS.2.2.2
  refine x_iload_n C 1 rfl dX5_fall_0 rfl ?_
  refine x_if_lt (x := k) (tgt := 13) C dX5_fall_1 (by decide) (fun c1 => ?_) (fun c1 => ?_)
  · refine x_bipush (v := (-2)) C dX5_fall_13 (by decide) ?_
    exact x_iret C hr E dX5_fall_15 (fun _ => 0) (by simp (config := {decide := true}) only [kX_fall, k_out, k_act, k_no, c1,  if_true, if_false, ite_true, ite_false, and_true, true_and, and_false, false_and, or_true, true_or, or_false, false_or, not_true_eq_false, not_false_eq_true, and_self, or_self]) rfl
  · refine x_iload_n C 2 rfl dX5_fall_4 rfl ?_
    refine x_iconst (v := (nI 0)) C dX5_fall_5 (by decide) ?_
    refine x_iconst (v := (nI 2)) C dX5_fall_6 (by decide) ?_
    refine x_callSd (As := [.int w, .int (nI 0), .int (nI 2)]) (rest := []) C dX5_fall_7 (c_X5_isOutside (gX.l X) G w 0 2 ) ml_X5_47 st_X5_isOutside in_X5 cd_X5_isOutside hd_X5_isOutside rfl rfl (Nat.le_of_ble_eq_true rfl) ⟨Nat.le_of_ble_eq_true rfl, Nat.le_of_ble_eq_true rfl⟩ [] ([(x, .inr (5, [.ref (n 0), .ref (m 0), .ref (o 0), .int has, .ref (e 0), .ref (t 0), .ref (p 0)]))] ++ ((wQ G n now) ++ ((wH G e b nx sz hs) ++ ((wQ G m ahead) ++ ((wQ G o snap) ++ ((wX4 G t tc en) ++ ((wX1 G p pz pp pn ph pr pe) ++ []))))))) rfl (ws' := ([(x, .inr (5, [.ref (n 0), .ref (m 0), .ref (o 0), .int has, .ref (e 0), .ref (t 0), .ref (p 0)]))] ++ ((wQ G n now) ++ ((wH G e b nx sz hs) ++ ((wQ G m ahead) ++ ((wQ G o snap) ++ ((wX4 G t tc en) ++ ((wX1 G p pz pp pn ph pr pe) ++ [])))))))) rfl (st' := [.int (bI ((w < 0) ∨ (2 < w)))]) rfl ⟨rfl, rfl⟩ ⟨Nat.le_of_ble_eq_true rfl, Nat.le_of_ble_eq_true rfl⟩ ?_
    refine x_if_eqB (P := (w < 0) ∨ (2 < w)) (tgt := 16) C dX5_fall_10 (by decide) (fun c2 => ?_) (fun c2 => ?_)
    · have hK := g_nn (x := k) (by assumption)
      have hW := g_out (x := w) (n := 2) (by decide) (by assumption)
      refine x_aload_n C 0 rfl dX5_fall_16 rfl ?_
      refine x_get (k := 0) (v := .ref (n 0)) C dX5_fall_17 layX5 fl_X5_10 0 rfl rfl (by decide) rfl ?_
      refine x_iload_n C 1 rfl dX5_fall_20 rfl ?_
      refine x_top (y := (nI (nC k))) hK.2 ?_
      refine x_iload_n C 2 rfl dX5_fall_21 rfl ?_
      refine x_top (y := (nI (nC w))) hW.2 ?_
      refine x_callVd (As := [.int (nI (nC k)), .int (nI (nC w))]) (rest := []) C dX5_fall_22 (c_Q_ofFall (gX.l X) G n now (nC k) (nC w) (by omega) (by omega) (by omega)) ml_X5_168 im_X2_ofFall sl_X2_ofFall in_X2 cd_X2_ofFall hd_X2_ofFall 0 rfl rfl rfl rfl (Nat.le_of_ble_eq_true rfl) ⟨Nat.le_of_ble_eq_true rfl, Nat.le_of_ble_eq_true rfl⟩ [(x, .inr (5, [.ref (n 0), .ref (m 0), .ref (o 0), .int has, .ref (e 0), .ref (t 0), .ref (p 0)]))] ((wH G e b nx sz hs) ++ ((wQ G m ahead) ++ ((wQ G o snap) ++ ((wX4 G t tc en) ++ ((wX1 G p pz pp pn ph pr pe) ++ []))))) (by simp only [List.append_assoc, List.nil_append, List.cons_append]) (ws' := ([(x, .inr (5, [.ref (n 0), .ref (m 0), .ref (o 0), .int has, .ref (e 0), .ref (t 0), .ref (p 0)]))] ++ ((wQ G n now) ++ ((wH G e b nx sz hs) ++ ((wQ G m ahead) ++ ((wQ G o snap) ++ ((wX4 G t tc en) ++ ((wX1 G p pz pp pn ph pr pe) ++ [])))))))) (by simp only [List.append_assoc, List.nil_append, List.cons_append]) (st' := [.int (c_ofFall (q_fs now) (q_fc now) (nC k) (nC w))]) rfl ⟨rfl, rfl⟩ ⟨Nat.le_of_ble_eq_true rfl, Nat.le_of_ble_eq_true rfl⟩ ?_
      exact x_iret C hr E dX5_fall_25 (fun _ => 0) (by simp (config := {decide := true}) only [kX_fall, k_out, k_act, k_no, c1, c2,  if_true, if_false, ite_true, ite_false, and_true, true_and, and_false, false_and, or_true, true_or, or_false, false_or, not_true_eq_false, not_false_eq_true, and_self, or_self]) rfl
    · refine x_bipush (v := (-2)) C dX5_fall_13 (by decide) ?_
      exact x_iret C hr E dX5_fall_15 (fun _ => 0) (by simp (config := {decide := true}) only [kX_fall, k_out, k_act, k_no, c1, c2,  if_true, if_false, ite_true, ite_false, and_true, true_and, and_false, false_and, or_true, true_or, or_false, false_or, not_true_eq_false, not_false_eq_true, and_self, or_self]) rfl
