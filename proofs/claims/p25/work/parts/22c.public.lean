def rm_X5_busiest : Room := { frames := 3, cells := 0, slots := 0, locals := 68 }
set_option maxRecDepth 100000 in
set_option maxHeartbeats 600000 in
theorem c_X5_busiest (l : Launch) (G : gG) (x : Nat) (n m o e : Nat → Nat) (b : Nat → Nat → Nat) (t p : Nat → Nat) (now : c_S) (nx sz : Nat) (hs : Nat → c_S) (ahead snap : c_S) (has : Int32) (tc : Nat → Int32) (en pz pp : Nat) (pn ph pr : Int32) (pe : Nat → Int32)  (hS : okS 10000 now) (hnx : nx < 4) (hsz : sz ≤ 4) : CT l yX5_busiest cX5_busiest 5 (some .int) rm_X5_busiest G [.ref x] ([(x, .inr (5, [.ref (n 0), .ref (m 0), .ref (o 0), .int has, .ref (e 0), .ref (t 0), .ref (p 0)]))] ++ ((wQ G n now) ++ ((wH G e b nx sz hs) ++ ((wQ G m ahead) ++ ((wQ G o snap) ++ ((wX4 G t tc en) ++ ((wX1 G p pz pp pn ph pr pe) ++ []))))))) (some (.int ((k_busL now 100).2))) (fun _ => ([(x, .inr (5, [.ref (n 0), .ref (m 0), .ref (o 0), .int has, .ref (e 0), .ref (t 0), .ref (p 0)]))] ++ ((wQ G n now) ++ ((wH G e b nx sz hs) ++ ((wQ G m ahead) ++ ((wQ G o snap) ++ ((wX4 G t tc en) ++ ((wX1 G p pz pp pn ph pr pe) ++ [])))))))) := by
  refine gMet (by decide) (Nat.le_of_ble_eq_true rfl) (fun X hX C hr hin E => ?_)
  clear hX
  refine (show gW G X ([(x, .inr (5, [.ref (n 0), .ref (m 0), .ref (o 0), .int has, .ref (e 0), .ref (t 0), .ref (p 0)]))] ++ ((wQ G n now) ++ ((wH G e b nx sz hs) ++ ((wQ G m ahead) ++ ((wQ G o snap) ++ ((wX4 G t tc en) ++ ((wX1 G p pz pp pn ph pr pe) ++ []))))))) 0 0 0 [(0, .ref x)] [] from ?_)
  have hS1 := hS.1
  have hS2 := hS.2.1
  have hS3 := hS.2.2.1
  have hS4 := hS.2.2.2
  refine x_iconst (v := (nI 0)) C dX5_busiest_0 (by decide) ?_
  refine x_istore_n (lv' := [(1, .int (nI 0)), (0, .ref x)]) C dX5_busiest_1 rfl (by decide) rfl ?_
  refine x_bipush (v := (-5)) C dX5_busiest_2 (by decide) ?_
  refine x_istore_n (lv' := [(2, .int (-5)), (1, .int (nI 0)), (0, .ref x)]) C dX5_busiest_4 rfl (by decide) rfl ?_
  refine x_iconst (v := (nI 0)) C dX5_busiest_5 (by decide) ?_
  refine x_istore_n (lv' := [(3, .int (nI 0)), (2, .int (-5)), (1, .int (nI 0)), (0, .ref x)]) C dX5_busiest_6 rfl (by decide) rfl ?_
  have L1 : ∀ (fu : Nat) (i : Nat) (g : Int32) (f : Int32), i + fu = 100 → ((g, f) = k_busL now i) → gW G X ([(x, .inr (5, [.ref (n 0), .ref (m 0), .ref (o 0), .int has, .ref (e 0), .ref (t 0), .ref (p 0)]))] ++ ((wQ G n now) ++ ((wH G e b nx sz hs) ++ ((wQ G m ahead) ++ ((wQ G o snap) ++ ((wX4 G t tc en) ++ ((wX1 G p pz pp pn ph pr pe) ++ []))))))) 0 0 7 [(3, .int (nI i)), (2, .int f), (1, .int g), (0, .ref x)] [] := by
    intro fu
    induction fu with
    | zero =>
      intro i g f hn ha
      have hi9 : i = 100 := by omega
      refine x_iload_n C 0 rfl dX5_busiest_7 rfl ?_
      refine x_bipush (v := (nI 99)) C dX5_busiest_8 (by decide) ?_
      refine x_icmp_gtN (a := i) (b := 99) (tgt := 40) C dX5_busiest_10 (by decide) (by omega) (by omega) (fun c2 => ?_) (fun c2 => False.elim (by omega))
      refine x_iload_n C 1 rfl dX5_busiest_40 rfl ?_
      exact x_iret C hr E dX5_busiest_41 (fun _ => 0) (by rw [hi9] at ha; rw [← ha]) rfl
    | succ fu ih =>
      intro i g f hn ha
      refine x_iload_n C 0 rfl dX5_busiest_7 rfl ?_
      refine x_bipush (v := (nI 99)) C dX5_busiest_8 (by decide) ?_
      refine x_icmp_gtN (a := i) (b := 99) (tgt := 40) C dX5_busiest_10 (by decide) (by omega) (by omega) (fun c3 => False.elim (by omega)) (fun c3 => ?_)
      refine x_aload_n C 3 rfl dX5_busiest_13 rfl ?_
      refine x_get (k := 0) (v := .ref (n 0)) C dX5_busiest_14 layX5 fl_X5_10 0 rfl rfl (by decide) rfl ?_
      refine x_iload_n C 0 rfl dX5_busiest_17 rfl ?_
      refine x_callVd (As := [.int (nI i)]) (rest := []) C dX5_busiest_18 (c_Q_bookedInAllRings (gX.l X) G n now i (by omega)) ml_X5_189 im_X2_bookedInAllRings sl_X2_bookedInAllRings in_X2 cd_X2_bookedInAllRings hd_X2_bookedInAllRings 0 rfl rfl rfl rfl (Nat.le_of_ble_eq_true rfl) ⟨Nat.le_of_ble_eq_true rfl, Nat.le_of_ble_eq_true rfl⟩ [(x, .inr (5, [.ref (n 0), .ref (m 0), .ref (o 0), .int has, .ref (e 0), .ref (t 0), .ref (p 0)]))] ((wH G e b nx sz hs) ++ ((wQ G m ahead) ++ ((wQ G o snap) ++ ((wX4 G t tc en) ++ ((wX1 G p pz pp pn ph pr pe) ++ []))))) (by simp only [List.append_assoc, List.nil_append, List.cons_append]) (ws' := ([(x, .inr (5, [.ref (n 0), .ref (m 0), .ref (o 0), .int has, .ref (e 0), .ref (t 0), .ref (p 0)]))] ++ ((wQ G n now) ++ ((wH G e b nx sz hs) ++ ((wQ G m ahead) ++ ((wQ G o snap) ++ ((wX4 G t tc en) ++ ((wX1 G p pz pp pn ph pr pe) ++ [])))))))) (by simp only [List.append_assoc, List.nil_append, List.cons_append]) (st' := [.int (c_ball (q_bo now) (nI ((q_ti now) + i)) (q_bc now))]) rfl ⟨rfl, rfl⟩ ⟨Nat.le_of_ble_eq_true rfl, Nat.le_of_ble_eq_true rfl⟩ ?_
      refine x_istore (lv' := [(4, .int (c_ball (q_bo now) (nI ((q_ti now) + i)) (q_bc now))), (3, .int (nI i)), (2, .int f), (1, .int g), (0, .ref x)]) C dX5_busiest_21 (by decide) rfl ?_
      refine x_iload C 0 rfl dX5_busiest_23 ?_
      refine x_iload_n C 3 rfl dX5_busiest_25 rfl ?_
      refine x_icmp_le (x := (c_ball (q_bo now) (nI ((q_ti now) + i)) (q_bc now))) (y := g) (tgt := 34) C dX5_busiest_26 (by decide) (fun c4 => ?_) (fun c4 => ?_)
      · refine x_iinc (v := (nI (i + 1))) (lv' := [(3, .int (nI (i + 1))), (4, .int (c_ball (q_bo now) (nI ((q_ti now) + i)) (q_bc now))), (2, .int f), (1, .int g), (0, .ref x)]) C 1 rfl dX5_busiest_34 (by rw [show Int32.ofInt 1 = nI 1 from rfl]; exact nI_add _ _) (by decide) rfl ?_
        refine x_goto (tgt := 7) C dX5_busiest_37 (by decide) ?_
        refine x_lv [0, 2, 3, 4] (lv' := [(3, .int (nI (i + 1))), (2, .int f), (1, .int g), (0, .ref x)]) rfl ?_
        exact ih (i + 1) g f (by omega) (by simp only [k_busL, ← ha, c3, c4,  if_true, if_false, ite_true, ite_false, and_true, true_and, and_false, false_and, or_true, true_or, or_false, false_or, not_true_eq_false, not_false_eq_true, and_self, or_self])
      · refine x_iload C 0 rfl dX5_busiest_29 ?_
        refine x_istore_n (lv' := [(1, .int (c_ball (q_bo now) (nI ((q_ti now) + i)) (q_bc now))), (4, .int (c_ball (q_bo now) (nI ((q_ti now) + i)) (q_bc now))), (3, .int (nI i)), (2, .int f), (0, .ref x)]) C dX5_busiest_31 rfl (by decide) rfl ?_
        refine x_iload_n C 2 rfl dX5_busiest_32 rfl ?_
        refine x_istore_n (lv' := [(2, .int (nI i)), (1, .int (c_ball (q_bo now) (nI ((q_ti now) + i)) (q_bc now))), (4, .int (c_ball (q_bo now) (nI ((q_ti now) + i)) (q_bc now))), (3, .int (nI i)), (0, .ref x)]) C dX5_busiest_33 rfl (by decide) rfl ?_
        refine x_iinc (v := (nI (i + 1))) (lv' := [(3, .int (nI (i + 1))), (2, .int (nI i)), (1, .int (c_ball (q_bo now) (nI ((q_ti now) + i)) (q_bc now))), (4, .int (c_ball (q_bo now) (nI ((q_ti now) + i)) (q_bc now))), (0, .ref x)]) C 3 rfl dX5_busiest_34 (by rw [show Int32.ofInt 1 = nI 1 from rfl]; exact nI_add _ _) (by decide) rfl ?_
        refine x_goto (tgt := 7) C dX5_busiest_37 (by decide) ?_
        refine x_lv [0, 1, 2, 4] (lv' := [(3, .int (nI (i + 1))), (2, .int (nI i)), (1, .int (c_ball (q_bo now) (nI ((q_ti now) + i)) (q_bc now))), (0, .ref x)]) rfl ?_
        exact ih (i + 1) (c_ball (q_bo now) (nI ((q_ti now) + i)) (q_bc now)) (nI i) (by omega) (by simp only [k_busL, ← ha, c3, c4,  if_true, if_false, ite_true, ite_false, and_true, true_and, and_false, false_and, or_true, true_or, or_false, false_or, not_true_eq_false, not_false_eq_true, and_self, or_self])
  exact L1 100 0 0 (-5) (by omega) (by rfl)
def rm_X5_count : Room := { frames := 3, cells := 0, slots := 0, locals := 68 }
set_option maxRecDepth 100000 in
set_option maxHeartbeats 600000 in
theorem c_X5_count (l : Launch) (G : gG) (x : Nat) (n m o e : Nat → Nat) (b : Nat → Nat → Nat) (t p : Nat → Nat) (now : c_S) (nx sz : Nat) (hs : Nat → c_S) (ahead snap : c_S) (has : Int32) (tc : Nat → Int32) (en pz pp : Nat) (pn ph pr : Int32) (pe : Nat → Int32) (w : Int32)  (hS : okS 10000 now) (hnx : nx < 4) (hsz : sz ≤ 4) : CT l yX5_count cX5_count 2 (some .int) rm_X5_count G [.ref x, .int w] ([(x, .inr (5, [.ref (n 0), .ref (m 0), .ref (o 0), .int has, .ref (e 0), .ref (t 0), .ref (p 0)]))] ++ ((wQ G n now) ++ ((wH G e b nx sz hs) ++ ((wQ G m ahead) ++ ((wQ G o snap) ++ ((wX4 G t tc en) ++ ((wX1 G p pz pp pn ph pr pe) ++ []))))))) (some (.int (kX_count now sz en w))) (fun _ => ([(x, .inr (5, [.ref (n 0), .ref (m 0), .ref (o 0), .int has, .ref (e 0), .ref (t 0), .ref (p 0)]))] ++ ((wQ G n now) ++ ((wH G e b nx sz hs) ++ ((wQ G m ahead) ++ ((wQ G o snap) ++ ((wX4 G t tc en) ++ ((wX1 G p pz pp pn ph pr pe) ++ [])))))))) := by
  refine gMet (by decide) (Nat.le_of_ble_eq_true rfl) (fun X hX C hr hin E => ?_)
  clear hX
  refine (show gW G X ([(x, .inr (5, [.ref (n 0), .ref (m 0), .ref (o 0), .int has, .ref (e 0), .ref (t 0), .ref (p 0)]))] ++ ((wQ G n now) ++ ((wH G e b nx sz hs) ++ ((wQ G m ahead) ++ ((wQ G o snap) ++ ((wX4 G t tc en) ++ ((wX1 G p pz pp pn ph pr pe) ++ []))))))) 0 0 0 [(0, .ref x), (1, .int w)] [] from ?_)
  have hS1 := hS.1
  have hS2 := hS.2.1
  have hS3 := hS.2.2.1
  have hS4 := hS.2.2.2
  refine x_iload_n C 1 rfl dX5_count_0 rfl ?_
  rcases g_cases w 19 (by decide) with c1 | ⟨c1j, c1b, c1⟩
  · refine x_tabO (tgt := 237) C dX5_count_1 c1 (by decide) ?_
    refine x_bipush (v := (-2)) C dX5_count_237 (by decide) ?_
    exact x_iret C hr E dX5_count_239 (fun _ => 0) (by rw [kX_count, if_pos (by assumption)]) rfl
  · have c1d : c1j = 0 ∨ c1j = 1 ∨ c1j = 2 ∨ c1j = 3 ∨ c1j = 4 ∨ c1j = 5 ∨ c1j = 6 ∨ c1j = 7 ∨ c1j = 8 ∨ c1j = 9 ∨ c1j = 10 ∨ c1j = 11 ∨ c1j = 12 ∨ c1j = 13 ∨ c1j = 14 ∨ c1j = 15 ∨ c1j = 16 ∨ c1j = 17 ∨ c1j = 18 := by omega
    rcases c1d with rfl | rfl | rfl | rfl | rfl | rfl | rfl | rfl | rfl | rfl | rfl | rfl | rfl | rfl | rfl | rfl | rfl | rfl | rfl
    · subst c1
      refine x_tabI (tgt := 92) C 0 dX5_count_1 rfl (by decide) (by decide) rfl (by decide) ?_
      refine x_aload_n C 0 rfl dX5_count_92 rfl ?_
      refine x_get (k := 0) (v := .ref (n 0)) C dX5_count_93 layX5 fl_X5_10 0 rfl rfl (by decide) rfl ?_
      refine x_callVd (As := []) (rest := []) C dX5_count_96 (c_Q_time (gX.l X) G n now ) ml_X5_114 im_X2_time sl_X2_time in_X2 cd_X2_time hd_X2_time 0 rfl rfl rfl rfl (Nat.le_of_ble_eq_true rfl) ⟨Nat.le_of_ble_eq_true rfl, Nat.le_of_ble_eq_true rfl⟩ [(x, .inr (5, [.ref (n 0), .ref (m 0), .ref (o 0), .int has, .ref (e 0), .ref (t 0), .ref (p 0)]))] ((wH G e b nx sz hs) ++ ((wQ G m ahead) ++ ((wQ G o snap) ++ ((wX4 G t tc en) ++ ((wX1 G p pz pp pn ph pr pe) ++ []))))) (by simp only [List.append_assoc, List.nil_append, List.cons_append]) (ws' := ([(x, .inr (5, [.ref (n 0), .ref (m 0), .ref (o 0), .int has, .ref (e 0), .ref (t 0), .ref (p 0)]))] ++ ((wQ G n now) ++ ((wH G e b nx sz hs) ++ ((wQ G m ahead) ++ ((wQ G o snap) ++ ((wX4 G t tc en) ++ ((wX1 G p pz pp pn ph pr pe) ++ [])))))))) (by simp only [List.append_assoc, List.nil_append, List.cons_append]) (st' := [.int (nI (q_ti now))]) rfl ⟨rfl, rfl⟩ ⟨Nat.le_of_ble_eq_true rfl, Nat.le_of_ble_eq_true rfl⟩ ?_
      exact x_iret C hr E dX5_count_99 (fun _ => 0) (by rw [kX_count, if_neg (by decide)]; rfl) rfl
    · subst c1
      refine x_tabI (tgt := 100) C 1 dX5_count_1 rfl (by decide) (by decide) rfl (by decide) ?_
      refine x_aload_n C 0 rfl dX5_count_100 rfl ?_
      refine x_get (k := 0) (v := .ref (n 0)) C dX5_count_101 layX5 fl_X5_10 0 rfl rfl (by decide) rfl ?_
      refine x_callVd (As := []) (rest := []) C dX5_count_104 (c_Q_time (gX.l X) G n now ) ml_X5_114 im_X2_time sl_X2_time in_X2 cd_X2_time hd_X2_time 0 rfl rfl rfl rfl (Nat.le_of_ble_eq_true rfl) ⟨Nat.le_of_ble_eq_true rfl, Nat.le_of_ble_eq_true rfl⟩ [(x, .inr (5, [.ref (n 0), .ref (m 0), .ref (o 0), .int has, .ref (e 0), .ref (t 0), .ref (p 0)]))] ((wH G e b nx sz hs) ++ ((wQ G m ahead) ++ ((wQ G o snap) ++ ((wX4 G t tc en) ++ ((wX1 G p pz pp pn ph pr pe) ++ []))))) (by simp only [List.append_assoc, List.nil_append, List.cons_append]) (ws' := ([(x, .inr (5, [.ref (n 0), .ref (m 0), .ref (o 0), .int has, .ref (e 0), .ref (t 0), .ref (p 0)]))] ++ ((wQ G n now) ++ ((wH G e b nx sz hs) ++ ((wQ G m ahead) ++ ((wQ G o snap) ++ ((wX4 G t tc en) ++ ((wX1 G p pz pp pn ph pr pe) ++ [])))))))) (by simp only [List.append_assoc, List.nil_append, List.cons_append]) (st' := [.int (nI (q_ti now))]) rfl ⟨rfl, rfl⟩ ⟨Nat.le_of_ble_eq_true rfl, Nat.le_of_ble_eq_true rfl⟩ ?_
      refine x_bipush (v := (nI 10)) C dX5_count_107 (by decide) ?_
      refine x_idivN C dX5_count_109 (by omega) (by omega) (by omega) ?_
      exact x_iret C hr E dX5_count_110 (fun _ => 0) (by rw [kX_count, if_neg (by decide)]; rfl) rfl
    · subst c1
      refine x_tabI (tgt := 111) C 2 dX5_count_1 rfl (by decide) (by decide) rfl (by decide) ?_
      refine x_aload_n C 0 rfl dX5_count_111 rfl ?_
      refine x_get (k := 0) (v := .ref (n 0)) C dX5_count_112 layX5 fl_X5_10 0 rfl rfl (by decide) rfl ?_
      refine x_callVd (As := []) (rest := []) C dX5_count_115 (c_Q_time (gX.l X) G n now ) ml_X5_114 im_X2_time sl_X2_time in_X2 cd_X2_time hd_X2_time 0 rfl rfl rfl rfl (Nat.le_of_ble_eq_true rfl) ⟨Nat.le_of_ble_eq_true rfl, Nat.le_of_ble_eq_true rfl⟩ [(x, .inr (5, [.ref (n 0), .ref (m 0), .ref (o 0), .int has, .ref (e 0), .ref (t 0), .ref (p 0)]))] ((wH G e b nx sz hs) ++ ((wQ G m ahead) ++ ((wQ G o snap) ++ ((wX4 G t tc en) ++ ((wX1 G p pz pp pn ph pr pe) ++ []))))) (by simp only [List.append_assoc, List.nil_append, List.cons_append]) (ws' := ([(x, .inr (5, [.ref (n 0), .ref (m 0), .ref (o 0), .int has, .ref (e 0), .ref (t 0), .ref (p 0)]))] ++ ((wQ G n now) ++ ((wH G e b nx sz hs) ++ ((wQ G m ahead) ++ ((wQ G o snap) ++ ((wX4 G t tc en) ++ ((wX1 G p pz pp pn ph pr pe) ++ [])))))))) (by simp only [List.append_assoc, List.nil_append, List.cons_append]) (st' := [.int (nI (q_ti now))]) rfl ⟨rfl, rfl⟩ ⟨Nat.le_of_ble_eq_true rfl, Nat.le_of_ble_eq_true rfl⟩ ?_
      refine x_bipush (v := (nI 10)) C dX5_count_118 (by decide) ?_
      refine x_iremN C dX5_count_120 (by omega) (by omega) (by omega) ?_
      exact x_iret C hr E dX5_count_121 (fun _ => 0) (by rw [kX_count, if_neg (by decide)]; rfl) rfl
    · subst c1
      refine x_tabI (tgt := 122) C 3 dX5_count_1 rfl (by decide) (by decide) rfl (by decide) ?_
      refine x_aload_n C 0 rfl dX5_count_122 rfl ?_
      refine x_get (k := 0) (v := .ref (n 0)) C dX5_count_123 layX5 fl_X5_10 0 rfl rfl (by decide) rfl ?_
      refine x_callVd (As := []) (rest := []) C dX5_count_126 (c_Q_bookingsWaiting (gX.l X) G n now ) ml_X5_192 im_X2_bookingsWaiting sl_X2_bookingsWaiting in_X2 cd_X2_bookingsWaiting hd_X2_bookingsWaiting 0 rfl rfl rfl rfl (Nat.le_of_ble_eq_true rfl) ⟨Nat.le_of_ble_eq_true rfl, Nat.le_of_ble_eq_true rfl⟩ [(x, .inr (5, [.ref (n 0), .ref (m 0), .ref (o 0), .int has, .ref (e 0), .ref (t 0), .ref (p 0)]))] ((wH G e b nx sz hs) ++ ((wQ G m ahead) ++ ((wQ G o snap) ++ ((wX4 G t tc en) ++ ((wX1 G p pz pp pn ph pr pe) ++ []))))) (by simp only [List.append_assoc, List.nil_append, List.cons_append]) (ws' := ([(x, .inr (5, [.ref (n 0), .ref (m 0), .ref (o 0), .int has, .ref (e 0), .ref (t 0), .ref (p 0)]))] ++ ((wQ G n now) ++ ((wH G e b nx sz hs) ++ ((wQ G m ahead) ++ ((wQ G o snap) ++ ((wX4 G t tc en) ++ ((wX1 G p pz pp pn ph pr pe) ++ [])))))))) (by simp only [List.append_assoc, List.nil_append, List.cons_append]) (st' := [.int (nI (q_bc now))]) rfl ⟨rfl, rfl⟩ ⟨Nat.le_of_ble_eq_true rfl, Nat.le_of_ble_eq_true rfl⟩ ?_
      exact x_iret C hr E dX5_count_129 (fun _ => 0) (by rw [kX_count, if_neg (by decide)]; rfl) rfl
    · subst c1
      refine x_tabI (tgt := 130) C 4 dX5_count_1 rfl (by decide) (by decide) rfl (by decide) ?_
      refine x_aload_n C 0 rfl dX5_count_130 rfl ?_
      refine x_get (k := 0) (v := .ref (n 0)) C dX5_count_131 layX5 fl_X5_10 0 rfl rfl (by decide) rfl ?_
      refine x_bipush (v := (nI 6)) C dX5_count_134 (by decide) ?_
      refine x_callVd (As := [.int (nI 6)]) (rest := []) C dX5_count_136 (c_Q_sumOfHorses (gX.l X) G n now 6 (by omega)) ml_X5_118 im_X2_sumOfHorses sl_X2_sumOfHorses in_X2 cd_X2_sumOfHorses hd_X2_sumOfHorses 0 rfl rfl rfl rfl (Nat.le_of_ble_eq_true rfl) ⟨Nat.le_of_ble_eq_true rfl, Nat.le_of_ble_eq_true rfl⟩ [(x, .inr (5, [.ref (n 0), .ref (m 0), .ref (o 0), .int has, .ref (e 0), .ref (t 0), .ref (p 0)]))] ((wH G e b nx sz hs) ++ ((wQ G m ahead) ++ ((wQ G o snap) ++ ((wX4 G t tc en) ++ ((wX1 G p pz pp pn ph pr pe) ++ []))))) (by simp only [List.append_assoc, List.nil_append, List.cons_append]) (ws' := ([(x, .inr (5, [.ref (n 0), .ref (m 0), .ref (o 0), .int has, .ref (e 0), .ref (t 0), .ref (p 0)]))] ++ ((wQ G n now) ++ ((wH G e b nx sz hs) ++ ((wQ G m ahead) ++ ((wQ G o snap) ++ ((wX4 G t tc en) ++ ((wX1 G p pz pp pn ph pr pe) ++ [])))))))) (by simp only [List.append_assoc, List.nil_append, List.cons_append]) (st' := [.int (sumF (q_ho now) (6 * 10) 10)]) rfl ⟨rfl, rfl⟩ ⟨Nat.le_of_ble_eq_true rfl, Nat.le_of_ble_eq_true rfl⟩ ?_
      exact x_iret C hr E dX5_count_139 (fun _ => 0) (by rw [kX_count, if_neg (by decide)]; rfl) rfl
    · subst c1
      refine x_tabI (tgt := 140) C 5 dX5_count_1 rfl (by decide) (by decide) rfl (by decide) ?_
      refine x_aload_n C 0 rfl dX5_count_140 rfl ?_
      refine x_get (k := 0) (v := .ref (n 0)) C dX5_count_141 layX5 fl_X5_10 0 rfl rfl (by decide) rfl ?_
      refine x_callVd (As := []) (rest := []) C dX5_count_144 (c_Q_fallsSoFar (gX.l X) G n now ) ml_X5_183 im_X2_fallsSoFar sl_X2_fallsSoFar in_X2 cd_X2_fallsSoFar hd_X2_fallsSoFar 0 rfl rfl rfl rfl (Nat.le_of_ble_eq_true rfl) ⟨Nat.le_of_ble_eq_true rfl, Nat.le_of_ble_eq_true rfl⟩ [(x, .inr (5, [.ref (n 0), .ref (m 0), .ref (o 0), .int has, .ref (e 0), .ref (t 0), .ref (p 0)]))] ((wH G e b nx sz hs) ++ ((wQ G m ahead) ++ ((wQ G o snap) ++ ((wX4 G t tc en) ++ ((wX1 G p pz pp pn ph pr pe) ++ []))))) (by simp only [List.append_assoc, List.nil_append, List.cons_append]) (ws' := ([(x, .inr (5, [.ref (n 0), .ref (m 0), .ref (o 0), .int has, .ref (e 0), .ref (t 0), .ref (p 0)]))] ++ ((wQ G n now) ++ ((wH G e b nx sz hs) ++ ((wQ G m ahead) ++ ((wQ G o snap) ++ ((wX4 G t tc en) ++ ((wX1 G p pz pp pn ph pr pe) ++ [])))))))) (by simp only [List.append_assoc, List.nil_append, List.cons_append]) (st' := [.int (nI (q_fc now))]) rfl ⟨rfl, rfl⟩ ⟨Nat.le_of_ble_eq_true rfl, Nat.le_of_ble_eq_true rfl⟩ ?_
      exact x_iret C hr E dX5_count_147 (fun _ => 0) (by rw [kX_count, if_neg (by decide)]; rfl) rfl
    · subst c1
      refine x_tabI (tgt := 148) C 6 dX5_count_1 rfl (by decide) (by decide) rfl (by decide) ?_
      refine x_aload_n C 0 rfl dX5_count_148 rfl ?_
      refine x_get (k := 0) (v := .ref (n 0)) C dX5_count_149 layX5 fl_X5_10 0 rfl rfl (by decide) rfl ?_
      refine x_bipush (v := (nI 7)) C dX5_count_152 (by decide) ?_
      refine x_callVd (As := [.int (nI 7)]) (rest := []) C dX5_count_154 (c_Q_sumOfRiders (gX.l X) G n now 7 (by omega)) ml_X5_180 im_X2_sumOfRiders sl_X2_sumOfRiders in_X2 cd_X2_sumOfRiders hd_X2_sumOfRiders 0 rfl rfl rfl rfl (Nat.le_of_ble_eq_true rfl) ⟨Nat.le_of_ble_eq_true rfl, Nat.le_of_ble_eq_true rfl⟩ [(x, .inr (5, [.ref (n 0), .ref (m 0), .ref (o 0), .int has, .ref (e 0), .ref (t 0), .ref (p 0)]))] ((wH G e b nx sz hs) ++ ((wQ G m ahead) ++ ((wQ G o snap) ++ ((wX4 G t tc en) ++ ((wX1 G p pz pp pn ph pr pe) ++ []))))) (by simp only [List.append_assoc, List.nil_append, List.cons_append]) (ws' := ([(x, .inr (5, [.ref (n 0), .ref (m 0), .ref (o 0), .int has, .ref (e 0), .ref (t 0), .ref (p 0)]))] ++ ((wQ G n now) ++ ((wH G e b nx sz hs) ++ ((wQ G m ahead) ++ ((wQ G o snap) ++ ((wX4 G t tc en) ++ ((wX1 G p pz pp pn ph pr pe) ++ [])))))))) (by simp only [List.append_assoc, List.nil_append, List.cons_append]) (st' := [.int (sumF (q_ri now) (7 * 12) 12)]) rfl ⟨rfl, rfl⟩ ⟨Nat.le_of_ble_eq_true rfl, Nat.le_of_ble_eq_true rfl⟩ ?_
      exact x_iret C hr E dX5_count_157 (fun _ => 0) (by rw [kX_count, if_neg (by decide)]; rfl) rfl
    · subst c1
      refine x_tabI (tgt := 158) C 7 dX5_count_1 rfl (by decide) (by decide) rfl (by decide) ?_
      refine x_aload_n C 0 rfl dX5_count_158 rfl ?_
      refine x_get (k := 0) (v := .ref (n 0)) C dX5_count_159 layX5 fl_X5_10 0 rfl rfl (by decide) rfl ?_
      refine x_callVd (As := []) (rest := []) C dX5_count_162 (c_Q_lameHorses (gX.l X) G n now ) ml_X5_186 im_X2_lameHorses sl_X2_lameHorses in_X2 cd_X2_lameHorses hd_X2_lameHorses 0 rfl rfl rfl rfl (Nat.le_of_ble_eq_true rfl) ⟨Nat.le_of_ble_eq_true rfl, Nat.le_of_ble_eq_true rfl⟩ [(x, .inr (5, [.ref (n 0), .ref (m 0), .ref (o 0), .int has, .ref (e 0), .ref (t 0), .ref (p 0)]))] ((wH G e b nx sz hs) ++ ((wQ G m ahead) ++ ((wQ G o snap) ++ ((wX4 G t tc en) ++ ((wX1 G p pz pp pn ph pr pe) ++ []))))) (by simp only [List.append_assoc, List.nil_append, List.cons_append]) (ws' := ([(x, .inr (5, [.ref (n 0), .ref (m 0), .ref (o 0), .int has, .ref (e 0), .ref (t 0), .ref (p 0)]))] ++ ((wQ G n now) ++ ((wH G e b nx sz hs) ++ ((wQ G m ahead) ++ ((wQ G o snap) ++ ((wX4 G t tc en) ++ ((wX1 G p pz pp pn ph pr pe) ++ [])))))))) (by simp only [List.append_assoc, List.nil_append, List.cons_append]) (st' := [.int (c_lame (q_ho now) 10)]) rfl ⟨rfl, rfl⟩ ⟨Nat.le_of_ble_eq_true rfl, Nat.le_of_ble_eq_true rfl⟩ ?_
      exact x_iret C hr E dX5_count_165 (fun _ => 0) (by rw [kX_count, if_neg (by decide)]; rfl) rfl
    · subst c1
      refine x_tabI (tgt := 166) C 8 dX5_count_1 rfl (by decide) (by decide) rfl (by decide) ?_
      refine x_aload_n C 0 rfl dX5_count_166 rfl ?_
      refine x_get (k := 0) (v := .ref (n 0)) C dX5_count_167 layX5 fl_X5_10 0 rfl rfl (by decide) rfl ?_
      refine x_bipush (v := (nI 8)) C dX5_count_170 (by decide) ?_
      refine x_callVd (As := [.int (nI 8)]) (rest := []) C dX5_count_172 (c_Q_sumOfHorses (gX.l X) G n now 8 (by omega)) ml_X5_118 im_X2_sumOfHorses sl_X2_sumOfHorses in_X2 cd_X2_sumOfHorses hd_X2_sumOfHorses 0 rfl rfl rfl rfl (Nat.le_of_ble_eq_true rfl) ⟨Nat.le_of_ble_eq_true rfl, Nat.le_of_ble_eq_true rfl⟩ [(x, .inr (5, [.ref (n 0), .ref (m 0), .ref (o 0), .int has, .ref (e 0), .ref (t 0), .ref (p 0)]))] ((wH G e b nx sz hs) ++ ((wQ G m ahead) ++ ((wQ G o snap) ++ ((wX4 G t tc en) ++ ((wX1 G p pz pp pn ph pr pe) ++ []))))) (by simp only [List.append_assoc, List.nil_append, List.cons_append]) (ws' := ([(x, .inr (5, [.ref (n 0), .ref (m 0), .ref (o 0), .int has, .ref (e 0), .ref (t 0), .ref (p 0)]))] ++ ((wQ G n now) ++ ((wH G e b nx sz hs) ++ ((wQ G m ahead) ++ ((wQ G o snap) ++ ((wX4 G t tc en) ++ ((wX1 G p pz pp pn ph pr pe) ++ [])))))))) (by simp only [List.append_assoc, List.nil_append, List.cons_append]) (st' := [.int (sumF (q_ho now) (8 * 10) 10)]) rfl ⟨rfl, rfl⟩ ⟨Nat.le_of_ble_eq_true rfl, Nat.le_of_ble_eq_true rfl⟩ ?_
      exact x_iret C hr E dX5_count_175 (fun _ => 0) (by rw [kX_count, if_neg (by decide)]; rfl) rfl
    · subst c1
      refine x_tabI (tgt := 176) C 9 dX5_count_1 rfl (by decide) (by decide) rfl (by decide) ?_
      refine x_aload_n C 0 rfl dX5_count_176 rfl ?_
      refine x_get (k := 0) (v := .ref (n 0)) C dX5_count_177 layX5 fl_X5_10 0 rfl rfl (by decide) rfl ?_
      refine x_iconst (v := (nI 2)) C dX5_count_180 (by decide) ?_
      refine x_callVd (As := [.int (nI 2)]) (rest := []) C dX5_count_181 (c_Q_sumOfHorses (gX.l X) G n now 2 (by omega)) ml_X5_118 im_X2_sumOfHorses sl_X2_sumOfHorses in_X2 cd_X2_sumOfHorses hd_X2_sumOfHorses 0 rfl rfl rfl rfl (Nat.le_of_ble_eq_true rfl) ⟨Nat.le_of_ble_eq_true rfl, Nat.le_of_ble_eq_true rfl⟩ [(x, .inr (5, [.ref (n 0), .ref (m 0), .ref (o 0), .int has, .ref (e 0), .ref (t 0), .ref (p 0)]))] ((wH G e b nx sz hs) ++ ((wQ G m ahead) ++ ((wQ G o snap) ++ ((wX4 G t tc en) ++ ((wX1 G p pz pp pn ph pr pe) ++ []))))) (by simp only [List.append_assoc, List.nil_append, List.cons_append]) (ws' := ([(x, .inr (5, [.ref (n 0), .ref (m 0), .ref (o 0), .int has, .ref (e 0), .ref (t 0), .ref (p 0)]))] ++ ((wQ G n now) ++ ((wH G e b nx sz hs) ++ ((wQ G m ahead) ++ ((wQ G o snap) ++ ((wX4 G t tc en) ++ ((wX1 G p pz pp pn ph pr pe) ++ [])))))))) (by simp only [List.append_assoc, List.nil_append, List.cons_append]) (st' := [.int (sumF (q_ho now) (2 * 10) 10)]) rfl ⟨rfl, rfl⟩ ⟨Nat.le_of_ble_eq_true rfl, Nat.le_of_ble_eq_true rfl⟩ ?_
      exact x_iret C hr E dX5_count_184 (fun _ => 0) (by rw [kX_count, if_neg (by decide)]; rfl) rfl
    · subst c1
      refine x_tabI (tgt := 185) C 10 dX5_count_1 rfl (by decide) (by decide) rfl (by decide) ?_
      refine x_aload_n C 0 rfl dX5_count_185 rfl ?_
      refine x_get (k := 0) (v := .ref (n 0)) C dX5_count_186 layX5 fl_X5_10 0 rfl rfl (by decide) rfl ?_
      refine x_callVd (As := []) (rest := []) C dX5_count_189 (c_Q_isFarrierThere (gX.l X) G n now (by omega)) ml_X5_195 im_X2_isFarrierThere sl_X2_isFarrierThere in_X2 cd_X2_isFarrierThere hd_X2_isFarrierThere 0 rfl rfl rfl rfl (Nat.le_of_ble_eq_true rfl) ⟨Nat.le_of_ble_eq_true rfl, Nat.le_of_ble_eq_true rfl⟩ [(x, .inr (5, [.ref (n 0), .ref (m 0), .ref (o 0), .int has, .ref (e 0), .ref (t 0), .ref (p 0)]))] ((wH G e b nx sz hs) ++ ((wQ G m ahead) ++ ((wQ G o snap) ++ ((wX4 G t tc en) ++ ((wX1 G p pz pp pn ph pr pe) ++ []))))) (by simp only [List.append_assoc, List.nil_append, List.cons_append]) (ws' := ([(x, .inr (5, [.ref (n 0), .ref (m 0), .ref (o 0), .int has, .ref (e 0), .ref (t 0), .ref (p 0)]))] ++ ((wQ G n now) ++ ((wH G e b nx sz hs) ++ ((wQ G m ahead) ++ ((wQ G o snap) ++ ((wX4 G t tc en) ++ ((wX1 G p pz pp pn ph pr pe) ++ [])))))))) (by simp only [List.append_assoc, List.nil_append, List.cons_append]) (st' := [.int (bI (c_there (q_se now) (q_ti now)))]) rfl ⟨rfl, rfl⟩ ⟨Nat.le_of_ble_eq_true rfl, Nat.le_of_ble_eq_true rfl⟩ ?_
      refine x_if_eqB (P := c_there (q_se now) (q_ti now)) (tgt := 199) C dX5_count_192 (by decide) (fun c2 => ?_) (fun c2 => ?_)
      · refine x_iconst (v := (nI 0)) C dX5_count_199 (by decide) ?_
        exact x_iret C hr E dX5_count_200 (fun _ => 0) (by rw [kX_count, if_neg (by decide)]; first | exact (bI_t (by assumption)).symm | exact (bI_f (by assumption)).symm) rfl
      · refine x_iconst (v := (nI 1)) C dX5_count_195 (by decide) ?_
        refine x_goto (tgt := 200) C dX5_count_196 (by decide) ?_
        exact x_iret C hr E dX5_count_200 (fun _ => 0) (by rw [kX_count, if_neg (by decide)]; first | exact (bI_t (by assumption)).symm | exact (bI_f (by assumption)).symm) rfl
    · subst c1
      refine x_tabI (tgt := 201) C 11 dX5_count_1 rfl (by decide) (by decide) rfl (by decide) ?_
      refine x_aload_n C 0 rfl dX5_count_201 rfl ?_
      refine x_get (k := 0) (v := .ref (n 0)) C dX5_count_202 layX5 fl_X5_10 0 rfl rfl (by decide) rfl ?_
      refine x_callVd (As := []) (rest := []) C dX5_count_205 (c_Q_farriersHorse (gX.l X) G n now (by omega)) ml_X5_171 im_X2_farriersHorse sl_X2_farriersHorse in_X2 cd_X2_farriersHorse hd_X2_farriersHorse 0 rfl rfl rfl rfl (Nat.le_of_ble_eq_true rfl) ⟨Nat.le_of_ble_eq_true rfl, Nat.le_of_ble_eq_true rfl⟩ [(x, .inr (5, [.ref (n 0), .ref (m 0), .ref (o 0), .int has, .ref (e 0), .ref (t 0), .ref (p 0)]))] ((wH G e b nx sz hs) ++ ((wQ G m ahead) ++ ((wQ G o snap) ++ ((wX4 G t tc en) ++ ((wX1 G p pz pp pn ph pr pe) ++ []))))) (by simp only [List.append_assoc, List.nil_append, List.cons_append]) (ws' := ([(x, .inr (5, [.ref (n 0), .ref (m 0), .ref (o 0), .int has, .ref (e 0), .ref (t 0), .ref (p 0)]))] ++ ((wQ G n now) ++ ((wH G e b nx sz hs) ++ ((wQ G m ahead) ++ ((wQ G o snap) ++ ((wX4 G t tc en) ++ ((wX1 G p pz pp pn ph pr pe) ++ [])))))))) (by simp only [List.append_assoc, List.nil_append, List.cons_append]) (st' := [.int (c_far (q_se now) (q_ho now) (q_ti now))]) rfl ⟨rfl, rfl⟩ ⟨Nat.le_of_ble_eq_true rfl, Nat.le_of_ble_eq_true rfl⟩ ?_
      exact x_iret C hr E dX5_count_208 (fun _ => 0) (by rw [kX_count, if_neg (by decide)]; rfl) rfl
    · subst c1
      refine x_tabI (tgt := 209) C 12 dX5_count_1 rfl (by decide) (by decide) rfl (by decide) ?_
      refine x_aload_n C 0 rfl dX5_count_209 rfl ?_
      refine x_get (k := 0) (v := .ref (n 0)) C dX5_count_210 layX5 fl_X5_10 0 rfl rfl (by decide) rfl ?_
      refine x_iload_n C 1 rfl dX5_count_213 rfl ?_
      refine x_bipush (v := (nI 12)) C dX5_count_214 (by decide) ?_
      refine x_isubN C dX5_count_216 (by omega) ?_
      refine x_callVd (As := [.int (nI 0)]) (rest := []) C dX5_count_217 (c_Q_setting (gX.l X) G n now 0 (by omega)) ml_X5_83 im_X2_setting sl_X2_setting in_X2 cd_X2_setting hd_X2_setting 0 rfl rfl rfl rfl (Nat.le_of_ble_eq_true rfl) ⟨Nat.le_of_ble_eq_true rfl, Nat.le_of_ble_eq_true rfl⟩ [(x, .inr (5, [.ref (n 0), .ref (m 0), .ref (o 0), .int has, .ref (e 0), .ref (t 0), .ref (p 0)]))] ((wH G e b nx sz hs) ++ ((wQ G m ahead) ++ ((wQ G o snap) ++ ((wX4 G t tc en) ++ ((wX1 G p pz pp pn ph pr pe) ++ []))))) (by simp only [List.append_assoc, List.nil_append, List.cons_append]) (ws' := ([(x, .inr (5, [.ref (n 0), .ref (m 0), .ref (o 0), .int has, .ref (e 0), .ref (t 0), .ref (p 0)]))] ++ ((wQ G n now) ++ ((wH G e b nx sz hs) ++ ((wQ G m ahead) ++ ((wQ G o snap) ++ ((wX4 G t tc en) ++ ((wX1 G p pz pp pn ph pr pe) ++ [])))))))) (by simp only [List.append_assoc, List.nil_append, List.cons_append]) (st' := [.int ((q_se now) 0)]) rfl ⟨rfl, rfl⟩ ⟨Nat.le_of_ble_eq_true rfl, Nat.le_of_ble_eq_true rfl⟩ ?_
      exact x_iret C hr E dX5_count_220 (fun _ => 0) (by rw [kX_count, if_neg (by decide)]; rfl) rfl
    · subst c1
      refine x_tabI (tgt := 209) C 13 dX5_count_1 rfl (by decide) (by decide) rfl (by decide) ?_
      refine x_aload_n C 0 rfl dX5_count_209 rfl ?_
      refine x_get (k := 0) (v := .ref (n 0)) C dX5_count_210 layX5 fl_X5_10 0 rfl rfl (by decide) rfl ?_
      refine x_iload_n C 1 rfl dX5_count_213 rfl ?_
      refine x_bipush (v := (nI 12)) C dX5_count_214 (by decide) ?_
      refine x_isubN C dX5_count_216 (by omega) ?_
      refine x_callVd (As := [.int (nI 1)]) (rest := []) C dX5_count_217 (c_Q_setting (gX.l X) G n now 1 (by omega)) ml_X5_83 im_X2_setting sl_X2_setting in_X2 cd_X2_setting hd_X2_setting 0 rfl rfl rfl rfl (Nat.le_of_ble_eq_true rfl) ⟨Nat.le_of_ble_eq_true rfl, Nat.le_of_ble_eq_true rfl⟩ [(x, .inr (5, [.ref (n 0), .ref (m 0), .ref (o 0), .int has, .ref (e 0), .ref (t 0), .ref (p 0)]))] ((wH G e b nx sz hs) ++ ((wQ G m ahead) ++ ((wQ G o snap) ++ ((wX4 G t tc en) ++ ((wX1 G p pz pp pn ph pr pe) ++ []))))) (by simp only [List.append_assoc, List.nil_append, List.cons_append]) (ws' := ([(x, .inr (5, [.ref (n 0), .ref (m 0), .ref (o 0), .int has, .ref (e 0), .ref (t 0), .ref (p 0)]))] ++ ((wQ G n now) ++ ((wH G e b nx sz hs) ++ ((wQ G m ahead) ++ ((wQ G o snap) ++ ((wX4 G t tc en) ++ ((wX1 G p pz pp pn ph pr pe) ++ [])))))))) (by simp only [List.append_assoc, List.nil_append, List.cons_append]) (st' := [.int ((q_se now) 1)]) rfl ⟨rfl, rfl⟩ ⟨Nat.le_of_ble_eq_true rfl, Nat.le_of_ble_eq_true rfl⟩ ?_
      exact x_iret C hr E dX5_count_220 (fun _ => 0) (by rw [kX_count, if_neg (by decide)]; rfl) rfl
    · subst c1
      refine x_tabI (tgt := 209) C 14 dX5_count_1 rfl (by decide) (by decide) rfl (by decide) ?_
      refine x_aload_n C 0 rfl dX5_count_209 rfl ?_
      refine x_get (k := 0) (v := .ref (n 0)) C dX5_count_210 layX5 fl_X5_10 0 rfl rfl (by decide) rfl ?_
      refine x_iload_n C 1 rfl dX5_count_213 rfl ?_
      refine x_bipush (v := (nI 12)) C dX5_count_214 (by decide) ?_
      refine x_isubN C dX5_count_216 (by omega) ?_
      refine x_callVd (As := [.int (nI 2)]) (rest := []) C dX5_count_217 (c_Q_setting (gX.l X) G n now 2 (by omega)) ml_X5_83 im_X2_setting sl_X2_setting in_X2 cd_X2_setting hd_X2_setting 0 rfl rfl rfl rfl (Nat.le_of_ble_eq_true rfl) ⟨Nat.le_of_ble_eq_true rfl, Nat.le_of_ble_eq_true rfl⟩ [(x, .inr (5, [.ref (n 0), .ref (m 0), .ref (o 0), .int has, .ref (e 0), .ref (t 0), .ref (p 0)]))] ((wH G e b nx sz hs) ++ ((wQ G m ahead) ++ ((wQ G o snap) ++ ((wX4 G t tc en) ++ ((wX1 G p pz pp pn ph pr pe) ++ []))))) (by simp only [List.append_assoc, List.nil_append, List.cons_append]) (ws' := ([(x, .inr (5, [.ref (n 0), .ref (m 0), .ref (o 0), .int has, .ref (e 0), .ref (t 0), .ref (p 0)]))] ++ ((wQ G n now) ++ ((wH G e b nx sz hs) ++ ((wQ G m ahead) ++ ((wQ G o snap) ++ ((wX4 G t tc en) ++ ((wX1 G p pz pp pn ph pr pe) ++ [])))))))) (by simp only [List.append_assoc, List.nil_append, List.cons_append]) (st' := [.int ((q_se now) 2)]) rfl ⟨rfl, rfl⟩ ⟨Nat.le_of_ble_eq_true rfl, Nat.le_of_ble_eq_true rfl⟩ ?_
      exact x_iret C hr E dX5_count_220 (fun _ => 0) (by rw [kX_count, if_neg (by decide)]; rfl) rfl
    · subst c1
      refine x_tabI (tgt := 209) C 15 dX5_count_1 rfl (by decide) (by decide) rfl (by decide) ?_
      refine x_aload_n C 0 rfl dX5_count_209 rfl ?_
      refine x_get (k := 0) (v := .ref (n 0)) C dX5_count_210 layX5 fl_X5_10 0 rfl rfl (by decide) rfl ?_
      refine x_iload_n C 1 rfl dX5_count_213 rfl ?_
      refine x_bipush (v := (nI 12)) C dX5_count_214 (by decide) ?_
      refine x_isubN C dX5_count_216 (by omega) ?_
      refine x_callVd (As := [.int (nI 3)]) (rest := []) C dX5_count_217 (c_Q_setting (gX.l X) G n now 3 (by omega)) ml_X5_83 im_X2_setting sl_X2_setting in_X2 cd_X2_setting hd_X2_setting 0 rfl rfl rfl rfl (Nat.le_of_ble_eq_true rfl) ⟨Nat.le_of_ble_eq_true rfl, Nat.le_of_ble_eq_true rfl⟩ [(x, .inr (5, [.ref (n 0), .ref (m 0), .ref (o 0), .int has, .ref (e 0), .ref (t 0), .ref (p 0)]))] ((wH G e b nx sz hs) ++ ((wQ G m ahead) ++ ((wQ G o snap) ++ ((wX4 G t tc en) ++ ((wX1 G p pz pp pn ph pr pe) ++ []))))) (by simp only [List.append_assoc, List.nil_append, List.cons_append]) (ws' := ([(x, .inr (5, [.ref (n 0), .ref (m 0), .ref (o 0), .int has, .ref (e 0), .ref (t 0), .ref (p 0)]))] ++ ((wQ G n now) ++ ((wH G e b nx sz hs) ++ ((wQ G m ahead) ++ ((wQ G o snap) ++ ((wX4 G t tc en) ++ ((wX1 G p pz pp pn ph pr pe) ++ [])))))))) (by simp only [List.append_assoc, List.nil_append, List.cons_append]) (st' := [.int ((q_se now) 3)]) rfl ⟨rfl, rfl⟩ ⟨Nat.le_of_ble_eq_true rfl, Nat.le_of_ble_eq_true rfl⟩ ?_
      exact x_iret C hr E dX5_count_220 (fun _ => 0) (by rw [kX_count, if_neg (by decide)]; rfl) rfl
    · subst c1
      refine x_tabI (tgt := 209) C 16 dX5_count_1 rfl (by decide) (by decide) rfl (by decide) ?_
      refine x_aload_n C 0 rfl dX5_count_209 rfl ?_
      refine x_get (k := 0) (v := .ref (n 0)) C dX5_count_210 layX5 fl_X5_10 0 rfl rfl (by decide) rfl ?_
      refine x_iload_n C 1 rfl dX5_count_213 rfl ?_
      refine x_bipush (v := (nI 12)) C dX5_count_214 (by decide) ?_
      refine x_isubN C dX5_count_216 (by omega) ?_
      refine x_callVd (As := [.int (nI 4)]) (rest := []) C dX5_count_217 (c_Q_setting (gX.l X) G n now 4 (by omega)) ml_X5_83 im_X2_setting sl_X2_setting in_X2 cd_X2_setting hd_X2_setting 0 rfl rfl rfl rfl (Nat.le_of_ble_eq_true rfl) ⟨Nat.le_of_ble_eq_true rfl, Nat.le_of_ble_eq_true rfl⟩ [(x, .inr (5, [.ref (n 0), .ref (m 0), .ref (o 0), .int has, .ref (e 0), .ref (t 0), .ref (p 0)]))] ((wH G e b nx sz hs) ++ ((wQ G m ahead) ++ ((wQ G o snap) ++ ((wX4 G t tc en) ++ ((wX1 G p pz pp pn ph pr pe) ++ []))))) (by simp only [List.append_assoc, List.nil_append, List.cons_append]) (ws' := ([(x, .inr (5, [.ref (n 0), .ref (m 0), .ref (o 0), .int has, .ref (e 0), .ref (t 0), .ref (p 0)]))] ++ ((wQ G n now) ++ ((wH G e b nx sz hs) ++ ((wQ G m ahead) ++ ((wQ G o snap) ++ ((wX4 G t tc en) ++ ((wX1 G p pz pp pn ph pr pe) ++ [])))))))) (by simp only [List.append_assoc, List.nil_append, List.cons_append]) (st' := [.int ((q_se now) 4)]) rfl ⟨rfl, rfl⟩ ⟨Nat.le_of_ble_eq_true rfl, Nat.le_of_ble_eq_true rfl⟩ ?_
      exact x_iret C hr E dX5_count_220 (fun _ => 0) (by rw [kX_count, if_neg (by decide)]; rfl) rfl
    · subst c1
      refine x_tabI (tgt := 221) C 17 dX5_count_1 rfl (by decide) (by decide) rfl (by decide) ?_
      refine x_aload_n C 0 rfl dX5_count_221 rfl ?_
      refine x_get (k := 4) (v := .ref (e 0)) C dX5_count_222 layX5 fl_X5_25 0 rfl rfl (by decide) rfl ?_
      refine x_callVd (As := []) (rest := []) C dX5_count_225 (c_H_size (gX.l X) G e b nx sz hs ) ml_X5_154 im_X0_size sl_X0_size in_X0 cd_X0_size hd_X0_size 0 rfl rfl rfl rfl (Nat.le_of_ble_eq_true rfl) ⟨Nat.le_of_ble_eq_true rfl, Nat.le_of_ble_eq_true rfl⟩ ([(x, .inr (5, [.ref (n 0), .ref (m 0), .ref (o 0), .int has, .ref (e 0), .ref (t 0), .ref (p 0)]))] ++ (wQ G n now)) ((wQ G m ahead) ++ ((wQ G o snap) ++ ((wX4 G t tc en) ++ ((wX1 G p pz pp pn ph pr pe) ++ [])))) (by simp only [List.append_assoc, List.nil_append, List.cons_append]) (ws' := ([(x, .inr (5, [.ref (n 0), .ref (m 0), .ref (o 0), .int has, .ref (e 0), .ref (t 0), .ref (p 0)]))] ++ ((wQ G n now) ++ ((wH G e b nx sz hs) ++ ((wQ G m ahead) ++ ((wQ G o snap) ++ ((wX4 G t tc en) ++ ((wX1 G p pz pp pn ph pr pe) ++ [])))))))) (by simp only [List.append_assoc, List.nil_append, List.cons_append]) (st' := [.int (nI sz)]) rfl ⟨rfl, rfl⟩ ⟨Nat.le_of_ble_eq_true rfl, Nat.le_of_ble_eq_true rfl⟩ ?_
      exact x_iret C hr E dX5_count_228 (fun _ => 0) (by rw [kX_count, if_neg (by decide)]; rfl) rfl
    · subst c1
      refine x_tabI (tgt := 229) C 18 dX5_count_1 rfl (by decide) (by decide) rfl (by decide) ?_
      refine x_aload_n C 0 rfl dX5_count_229 rfl ?_
      refine x_get (k := 5) (v := .ref (t 0)) C dX5_count_230 layX5 fl_X5_32 0 rfl rfl (by decide) rfl ?_
      refine x_callVd (As := []) (rest := []) C dX5_count_233 (c_X4_length (gX.l X) G t tc en ) ml_X5_129 im_X4_length sl_X4_length in_X4 cd_X4_length hd_X4_length 0 rfl rfl rfl rfl (Nat.le_of_ble_eq_true rfl) ⟨Nat.le_of_ble_eq_true rfl, Nat.le_of_ble_eq_true rfl⟩ ([(x, .inr (5, [.ref (n 0), .ref (m 0), .ref (o 0), .int has, .ref (e 0), .ref (t 0), .ref (p 0)]))] ++ ((wQ G n now) ++ ((wH G e b nx sz hs) ++ ((wQ G m ahead) ++ (wQ G o snap))))) ((wX1 G p pz pp pn ph pr pe) ++ []) (by simp only [List.append_assoc, List.nil_append, List.cons_append]) (ws' := ([(x, .inr (5, [.ref (n 0), .ref (m 0), .ref (o 0), .int has, .ref (e 0), .ref (t 0), .ref (p 0)]))] ++ ((wQ G n now) ++ ((wH G e b nx sz hs) ++ ((wQ G m ahead) ++ ((wQ G o snap) ++ ((wX4 G t tc en) ++ ((wX1 G p pz pp pn ph pr pe) ++ [])))))))) (by simp only [List.append_assoc, List.nil_append, List.cons_append]) (st' := [.int (nI en)]) rfl ⟨rfl, rfl⟩ ⟨Nat.le_of_ble_eq_true rfl, Nat.le_of_ble_eq_true rfl⟩ ?_
      exact x_iret C hr E dX5_count_236 (fun _ => 0) (by rw [kX_count, if_neg (by decide)]; rfl) rfl
