def rm_L_areLessonsSo : Room := { frames := 5, cells := 0, slots := 0, locals := 116 }
set_option maxRecDepth 100000 in
set_option maxHeartbeats 600000 in
theorem c_L_areLessonsSo (l : Launch) (G : gG) (x : Nat) (A : oA) (now : c_S) (nx sz : Nat) (hs : Nat → c_S) (ahead : c_S)  (hS : okS 10000 now) (hnx : nx < 4) (hsz : sz ≤ 4) (hI : INV now) : CT l yL_areLessonsSo cL_areLessonsSo 12 (some .boolean) rm_L_areLessonsSo G [.ref x] ((wO G x A now nx sz hs ahead) ++ []) (some (.int (nI 1))) (fun _ => ((wO G x A now nx sz hs ahead) ++ [])) := by
  refine gMet (by decide) (Nat.le_of_ble_eq_true rfl) (fun X hX C hr hin E => ?_)
  clear hX
  refine (show gW G X ((wO G x A now nx sz hs ahead) ++ []) 0 0 0 [(0, .ref x)] [] from ?_)
  have hS1 := hS.1
  have hS2 := hS.2.1
  have hS3 := hS.2.2.1
  have hS4 := hS.2.2.2
  refine x_iconst (v := (nI 0)) C dL_areLessonsSo_0 (by decide) ?_
  refine x_istore_n (lv' := [(1, .int (nI 0)), (0, .ref x)]) C dL_areLessonsSo_1 rfl (by decide) rfl ?_
  refine x_iconst (v := (nI 0)) C dL_areLessonsSo_2 (by decide) ?_
  refine x_istore_n (lv' := [(2, .int (nI 0)), (1, .int (nI 0)), (0, .ref x)]) C dL_areLessonsSo_3 rfl (by decide) rfl ?_
  refine x_bipush (v := (-5)) C dL_areLessonsSo_4 (by decide) ?_
  refine x_istore_n (lv' := [(3, .int (-5)), (2, .int (nI 0)), (1, .int (nI 0)), (0, .ref x)]) C dL_areLessonsSo_6 rfl (by decide) rfl ?_
  refine x_iconst (v := (nI 1)) C dL_areLessonsSo_7 (by decide) ?_
  refine x_istore (lv' := [(4, .int (nI 1)), (3, .int (-5)), (2, .int (nI 0)), (1, .int (nI 0)), (0, .ref x)]) C dL_areLessonsSo_8 (by decide) rfl ?_
  refine x_iconst (v := (nI 0)) C dL_areLessonsSo_10 (by decide) ?_
  refine x_istore (lv' := [(5, .int (nI 0)), (4, .int (nI 1)), (3, .int (-5)), (2, .int (nI 0)), (1, .int (nI 0)), (0, .ref x)]) C dL_areLessonsSo_11 (by decide) rfl ?_
  have L1 : ∀ (fu : Nat) (h : Nat) (w : Int32) (m : Int32) (b : Int32), h + fu = 100 → (w = ballS (q_bo now) (q_bc now) (q_ti now) h) → ((m, b) = k_busL now h) → gW G X ((wO G x A now nx sz hs ahead) ++ []) 0 0 13 [(5, .int (nI h)), (4, .int (nI 1)), (3, .int b), (2, .int m), (1, .int w), (0, .ref x)] [] := by
    intro fu
    induction fu with
    | zero =>
      intro h w m b hn hw hb
      refine x_iload C 0 rfl dL_areLessonsSo_13 ?_
      refine x_bipush (v := (nI 100)) C dL_areLessonsSo_15 (by decide) ?_
      refine x_icmp_geN (a := h) (b := 100) (tgt := 195) C dL_areLessonsSo_17 (by decide) (by omega) (by omega) (fun c2 => ?_) (fun c2 => False.elim (by omega))
      have hh100 : h = 100 := by omega
      rw [hh100] at hw hb
      refine x_iload C 1 rfl dL_areLessonsSo_195 ?_
      refine x_if_eqN (a := 1) (tgt := 221) C dL_areLessonsSo_197 (by decide) (by omega) (fun c3 => False.elim (by omega)) (fun c3 => ?_)
      refine x_iload_n C 4 rfl dL_areLessonsSo_200 rfl ?_
      refine x_aload_n C 5 rfl dL_areLessonsSo_201 rfl ?_
      refine x_iconst (v := (nI 3)) C dL_areLessonsSo_202 (by decide) ?_
      refine x_callVd (As := [.int (nI 3)]) (rest := [.int w]) C dL_areLessonsSo_203 (c_N_count3 (gX.l X) G x A now nx sz hs ahead hS hnx hsz) ml_L_36 im_X5_count sl_X5_count in_X5 cd_X5_count hd_X5_count 0 rfl rfl rfl rfl (Nat.le_of_ble_eq_true rfl) ⟨Nat.le_of_ble_eq_true rfl, Nat.le_of_ble_eq_true rfl⟩ [] [] (by simp only [List.append_assoc, List.nil_append, List.cons_append]) (ws' := ((wO G x A now nx sz hs ahead) ++ [])) (by simp only [List.append_assoc, List.nil_append, List.cons_append]) (st' := [.int (nI (q_bc now)), .int w]) rfl ⟨rfl, rfl⟩ ⟨Nat.le_of_ble_eq_true rfl, Nat.le_of_ble_eq_true rfl⟩ ?_
      refine x_icmp_ne (x := w) (y := (nI (q_bc now))) (tgt := 221) C dL_areLessonsSo_206 (by decide) (fun c4 => False.elim (by exact c4 (hw.trans (ls_all hI)))) (fun c4 => ?_)
      refine x_aload_n C 5 rfl dL_areLessonsSo_209 rfl ?_
      refine x_callVd (As := []) (rest := []) C dL_areLessonsSo_210 (c_O_busiest (gX.l X) G x A now nx sz hs ahead hS hnx hsz) ml_L_51 im_X5_busiest sl_X5_busiest in_X5 cd_X5_busiest hd_X5_busiest 0 rfl rfl rfl rfl (Nat.le_of_ble_eq_true rfl) ⟨Nat.le_of_ble_eq_true rfl, Nat.le_of_ble_eq_true rfl⟩ [] [] (by simp only [List.append_assoc, List.nil_append, List.cons_append]) (ws' := ((wO G x A now nx sz hs ahead) ++ [])) (by simp only [List.append_assoc, List.nil_append, List.cons_append]) (st' := [.int ((k_busL now 100).2)]) rfl ⟨rfl, rfl⟩ ⟨Nat.le_of_ble_eq_true rfl, Nat.le_of_ble_eq_true rfl⟩ ?_
      refine x_iload_n C 2 rfl dL_areLessonsSo_213 rfl ?_
      refine x_icmp_ne (x := ((k_busL now 100).2)) (y := b) (tgt := 221) C dL_areLessonsSo_214 (by decide) (fun c5 => False.elim (by exact c5 (by rw [← hb]))) (fun c5 => ?_)
      refine x_iconst (v := (nI 1)) C dL_areLessonsSo_217 (by decide) ?_
      refine x_goto (tgt := 222) C dL_areLessonsSo_218 (by decide) ?_
      exact x_zret C hr (by rfl) E dL_areLessonsSo_222 (fun _ => 0) rfl rfl
    | succ fu ih =>
      intro h w m b hn hw hb
      refine x_iload C 0 rfl dL_areLessonsSo_13 ?_
      refine x_bipush (v := (nI 100)) C dL_areLessonsSo_15 (by decide) ?_
      refine x_icmp_geN (a := h) (b := 100) (tgt := 195) C dL_areLessonsSo_17 (by decide) (by omega) (by omega) (fun c6 => False.elim (by omega)) (fun c6 => ?_)
      refine x_iconst (v := (nI 0)) C dL_areLessonsSo_20 (by decide) ?_
      refine x_istore (lv' := [(6, .int (nI 0)), (5, .int (nI h)), (4, .int (nI 1)), (3, .int b), (2, .int m), (1, .int w), (0, .ref x)]) C dL_areLessonsSo_21 (by decide) rfl ?_
      refine x_iconst (v := (nI 0)) C dL_areLessonsSo_23 (by decide) ?_
      refine x_istore (lv' := [(7, .int (nI 0)), (6, .int (nI 0)), (5, .int (nI h)), (4, .int (nI 1)), (3, .int b), (2, .int m), (1, .int w), (0, .ref x)]) C dL_areLessonsSo_24 (by decide) rfl ?_
      refine x_iconst (v := (nI 0)) C dL_areLessonsSo_26 (by decide) ?_
      refine x_istore (lv' := [(8, .int (nI 0)), (7, .int (nI 0)), (6, .int (nI 0)), (5, .int (nI h)), (4, .int (nI 1)), (3, .int b), (2, .int m), (1, .int w), (0, .ref x)]) C dL_areLessonsSo_27 (by decide) rfl ?_
      have L7 : ∀ (fu : Nat) (g : Nat) (al : Int32) (i : Int32), g + fu = 3 → (al = allS (q_bo now) (nI (q_ti now + h)) (q_bc now) g) → (i = itsS (q_bo now) (nI (q_ti now + h)) (q_bc now) g) → gW G X ((wO G x A now nx sz hs ahead) ++ []) 0 0 29 [(8, .int (nI g)), (7, .int i), (6, .int al), (5, .int (nI h)), (4, .int (nI 1)), (3, .int b), (2, .int m), (1, .int w), (0, .ref x)] [] := by
        intro fu
        induction fu with
        | zero =>
          intro g al i hn ha hi
          refine x_iload C 0 rfl dL_areLessonsSo_29 ?_
          refine x_iconst (v := (nI 3)) C dL_areLessonsSo_31 (by decide) ?_
          refine x_icmp_geN (a := g) (b := 3) (tgt := 158) C dL_areLessonsSo_32 (by decide) (by omega) (by omega) (fun c8 => ?_) (fun c8 => False.elim (by omega))
          have hg3 : g = 3 := by omega
          rw [hg3, ls_its hI] at hi
          refine x_iload_n C 7 rfl dL_areLessonsSo_158 rfl ?_
          refine x_iload C 1 rfl dL_areLessonsSo_159 ?_
          refine x_iadd (x := w) (y := i) C dL_areLessonsSo_161 ?_
          refine x_istore_n (lv' := [(1, .int (w + i)), (8, .int (nI g)), (7, .int i), (6, .int al), (5, .int (nI h)), (4, .int (nI 1)), (3, .int b), (2, .int m), (0, .ref x)]) C dL_areLessonsSo_162 rfl (by decide) rfl ?_
          refine x_iload C 2 rfl dL_areLessonsSo_163 ?_
          refine x_iload_n C 7 rfl dL_areLessonsSo_165 rfl ?_
          have J10 : ∀ (y11 : Int32) , y11 = (if m < i then (nI h) else b) → gW G X ((wO G x A now nx sz hs ahead) ++ []) 0 0 175 [(1, .int (w + i)), (8, .int (nI g)), (7, .int i), (6, .int al), (5, .int (nI h)), (4, .int (nI 1)), (3, .int b), (2, .int m), (0, .ref x)] [.int y11] := by
            intro y11 ey11
            subst ey11
            refine x_istore_n (lv' := [(3, .int (if m < i then (nI h) else b)), (1, .int (w + i)), (8, .int (nI g)), (7, .int i), (6, .int al), (5, .int (nI h)), (4, .int (nI 1)), (2, .int m), (0, .ref x)]) C dL_areLessonsSo_175 rfl (by decide) rfl ?_
            refine x_iload C 3 rfl dL_areLessonsSo_176 ?_
            refine x_iload_n C 7 rfl dL_areLessonsSo_178 rfl ?_
            have J13 : ∀ (y14 : Int32) , y14 = (if m < i then i else m) → gW G X ((wO G x A now nx sz hs ahead) ++ []) 0 0 188 [(3, .int (if m < i then (nI h) else b)), (1, .int (w + i)), (8, .int (nI g)), (7, .int i), (6, .int al), (5, .int (nI h)), (4, .int (nI 1)), (2, .int m), (0, .ref x)] [.int y14] := by
              intro y14 ey14
              subst ey14
              refine x_istore_n (lv' := [(2, .int (if m < i then i else m)), (3, .int (if m < i then (nI h) else b)), (1, .int (w + i)), (8, .int (nI g)), (7, .int i), (6, .int al), (5, .int (nI h)), (4, .int (nI 1)), (0, .ref x)]) C dL_areLessonsSo_188 rfl (by decide) rfl ?_
              refine x_iinc (v := (nI (h + 1))) (lv' := [(5, .int (nI (h + 1))), (2, .int (if m < i then i else m)), (3, .int (if m < i then (nI h) else b)), (1, .int (w + i)), (8, .int (nI g)), (7, .int i), (6, .int al), (4, .int (nI 1)), (0, .ref x)]) C 6 rfl dL_areLessonsSo_189 (by rw [show Int32.ofInt 1 = nI 1 from rfl]; exact nI_add _ _) (by decide) rfl ?_
              refine x_goto (tgt := 13) C dL_areLessonsSo_192 (by decide) ?_
              refine x_lv [0, 7, 2, 1, 3, 8] (lv' := [(5, .int (nI (h + 1))), (4, .int (nI 1)), (3, .int (if m < i then (nI h) else b)), (2, .int (if m < i then i else m)), (1, .int (w + i)), (0, .ref x)]) rfl ?_
              exact ih (h + 1) (w + i) (if m < i then i else m) (if m < i then (nI h) else b) (by omega) (by rw [hw, hi]; rfl) (by exact ls_bus hb hi)
            refine x_icmp_le (x := i) (y := m) (tgt := 187) C dL_areLessonsSo_179 (by decide) (fun c12 => ?_) (fun c12 => ?_)
            · refine x_iload_n C 7 rfl dL_areLessonsSo_187 rfl ?_
              exact J13 m (by rw [if_neg c12] <;> rfl)
            · refine x_iload C 3 rfl dL_areLessonsSo_182 ?_
              refine x_goto (tgt := 188) C dL_areLessonsSo_184 (by decide) ?_
              exact J13 i (by rw [if_pos c12] <;> rfl)
          refine x_icmp_le (x := i) (y := m) (tgt := 174) C dL_areLessonsSo_166 (by decide) (fun c9 => ?_) (fun c9 => ?_)
          · refine x_iload_n C 6 rfl dL_areLessonsSo_174 rfl ?_
            exact J10 b (by rw [if_neg c9] <;> rfl)
          · refine x_iload C 4 rfl dL_areLessonsSo_169 ?_
            refine x_goto (tgt := 175) C dL_areLessonsSo_171 (by decide) ?_
            exact J10 (nI h) (by rw [if_pos c9] <;> rfl)
        | succ fu ih =>
          intro g al i hn ha hi
          refine x_iload C 0 rfl dL_areLessonsSo_29 ?_
          refine x_iconst (v := (nI 3)) C dL_areLessonsSo_31 (by decide) ?_
          refine x_icmp_geN (a := g) (b := 3) (tgt := 158) C dL_areLessonsSo_32 (by decide) (by omega) (by omega) (fun c15 => False.elim (by omega)) (fun c15 => ?_)
          have fB := ls_facts hI (h := h) (g := g) (by omega)
          refine x_aload_n C 8 rfl dL_areLessonsSo_35 rfl ?_
          refine x_iload C 3 rfl dL_areLessonsSo_36 ?_
          refine x_iload C 0 rfl dL_areLessonsSo_38 ?_
          refine x_iconst (v := (nI 2)) C dL_areLessonsSo_40 (by decide) ?_
          refine x_callVd (As := [.int (nI h), .int (nI g), .int (nI 2)]) (rest := []) C dL_areLessonsSo_41 (c_N_lesson2 (gX.l X) G x A now nx sz hs ahead h g hS hnx hsz (by omega) (by omega)) ml_L_48 im_X5_lesson sl_X5_lesson in_X5 cd_X5_lesson hd_X5_lesson 0 rfl rfl rfl rfl (Nat.le_of_ble_eq_true rfl) ⟨Nat.le_of_ble_eq_true rfl, Nat.le_of_ble_eq_true rfl⟩ [] [] (by simp only [List.append_assoc, List.nil_append, List.cons_append]) (ws' := ((wO G x A now nx sz hs ahead) ++ [])) (by simp only [List.append_assoc, List.nil_append, List.cons_append]) (st' := [.int (c_set (q_bo now) (nI (q_ti now + h)) (nI g) (q_bc now))]) rfl ⟨rfl, rfl⟩ ⟨Nat.le_of_ble_eq_true rfl, Nat.le_of_ble_eq_true rfl⟩ ?_
          refine x_istore (lv' := [(9, .int (c_set (q_bo now) (nI (q_ti now + h)) (nI g) (q_bc now))), (8, .int (nI g)), (7, .int i), (6, .int al), (5, .int (nI h)), (4, .int (nI 1)), (3, .int b), (2, .int m), (1, .int w), (0, .ref x)]) C dL_areLessonsSo_44 (by decide) rfl ?_
          refine x_iconst (v := (nI 0)) C dL_areLessonsSo_46 (by decide) ?_
          refine x_istore (lv' := [(10, .int (nI 0)), (9, .int (c_set (q_bo now) (nI (q_ti now + h)) (nI g) (q_bc now))), (8, .int (nI g)), (7, .int i), (6, .int al), (5, .int (nI h)), (4, .int (nI 1)), (3, .int b), (2, .int m), (1, .int w), (0, .ref x)]) C dL_areLessonsSo_47 (by decide) rfl ?_
          refine x_iconst (v := (nI 0)) C dL_areLessonsSo_49 (by decide) ?_
          refine x_istore (lv' := [(11, .int (nI 0)), (10, .int (nI 0)), (9, .int (c_set (q_bo now) (nI (q_ti now + h)) (nI g) (q_bc now))), (8, .int (nI g)), (7, .int i), (6, .int al), (5, .int (nI h)), (4, .int (nI 1)), (3, .int b), (2, .int m), (1, .int w), (0, .ref x)]) C dL_areLessonsSo_50 (by decide) rfl ?_
          have L16 : ∀ (fu : Nat) (k : Nat) (n : Int32), k + fu = 12 → (n = popS (c_set (q_bo now) (nI (q_ti now + h)) (nI g) (q_bc now)) k) → gW G X ((wO G x A now nx sz hs ahead) ++ []) 0 0 52 [(11, .int (nI k)), (10, .int n), (9, .int (c_set (q_bo now) (nI (q_ti now + h)) (nI g) (q_bc now))), (8, .int (nI g)), (7, .int i), (6, .int al), (5, .int (nI h)), (4, .int (nI 1)), (3, .int b), (2, .int m), (1, .int w), (0, .ref x)] [] := by
            intro fu
            induction fu with
            | zero =>
              intro k n hn hp
              refine x_iload C 0 rfl dL_areLessonsSo_52 ?_
              refine x_bipush (v := (nI 12)) C dL_areLessonsSo_54 (by decide) ?_
              refine x_icmp_geN (a := k) (b := 12) (tgt := 77) C dL_areLessonsSo_56 (by decide) (by omega) (by omega) (fun c17 => ?_) (fun c17 => False.elim (by omega))
              have hk12 : k = 12 := by omega
              rw [hk12] at hp
              refine x_iload C 7 rfl dL_areLessonsSo_77 ?_
              refine x_if_eqN (a := 1) (tgt := 135) C dL_areLessonsSo_79 (by decide) (by omega) (fun c18 => False.elim (by omega)) (fun c18 => ?_)
              refine x_iload C 5 rfl dL_areLessonsSo_82 ?_
              refine x_iload C 2 rfl dL_areLessonsSo_84 ?_
              refine x_iand (x := al) (y := (c_set (q_bo now) (nI (q_ti now + h)) (nI g) (q_bc now))) C dL_areLessonsSo_86 ?_
              refine x_if_ne (x := (al &&& (c_set (q_bo now) (nI (q_ti now + h)) (nI g) (q_bc now)))) (tgt := 135) C dL_areLessonsSo_87 (by decide) (fun c19 => False.elim (by exact c19 (by rw [ha]; exact fB.2.1))) (fun c19 => ?_)
              refine x_iload C 1 rfl dL_areLessonsSo_90 ?_
              refine x_aload_n C 11 rfl dL_areLessonsSo_92 rfl ?_
              refine x_iload C 6 rfl dL_areLessonsSo_93 ?_
              refine x_iload C 3 rfl dL_areLessonsSo_95 ?_
              refine x_iconst (v := (nI 0)) C dL_areLessonsSo_97 (by decide) ?_
              refine x_callVd (As := [.int (nI h), .int (nI g), .int (nI 0)]) (rest := [.int n]) C dL_areLessonsSo_98 (c_N_lesson0 (gX.l X) G x A now nx sz hs ahead h g hS hnx hsz (by omega) (by omega)) ml_L_48 im_X5_lesson sl_X5_lesson in_X5 cd_X5_lesson hd_X5_lesson 0 rfl rfl rfl rfl (Nat.le_of_ble_eq_true rfl) ⟨Nat.le_of_ble_eq_true rfl, Nat.le_of_ble_eq_true rfl⟩ [] [] (by simp only [List.append_assoc, List.nil_append, List.cons_append]) (ws' := ((wO G x A now nx sz hs ahead) ++ [])) (by simp only [List.append_assoc, List.nil_append, List.cons_append]) (st' := [.int (c_bf (q_bo now) (nI (q_ti now + h)) (nI g) (q_bc now)), .int n]) rfl ⟨rfl, rfl⟩ ⟨Nat.le_of_ble_eq_true rfl, Nat.le_of_ble_eq_true rfl⟩ ?_
              refine x_icmp_ne (x := n) (y := (c_bf (q_bo now) (nI (q_ti now + h)) (nI g) (q_bc now))) (tgt := 135) C dL_areLessonsSo_101 (by decide) (fun c20 => False.elim (by exact c20 (hp.trans fB.1))) (fun c20 => ?_)
              refine x_iload C 1 rfl dL_areLessonsSo_104 ?_
              refine x_aload_n C 11 rfl dL_areLessonsSo_106 rfl ?_
              refine x_iload C 6 rfl dL_areLessonsSo_107 ?_
              refine x_iload C 3 rfl dL_areLessonsSo_109 ?_
              refine x_iconst (v := (nI 1)) C dL_areLessonsSo_111 (by decide) ?_
              refine x_callVd (As := [.int (nI h), .int (nI g), .int (nI 1)]) (rest := [.int n]) C dL_areLessonsSo_112 (c_N_lesson1 (gX.l X) G x A now nx sz hs ahead h g hS hnx hsz (by omega) (by omega)) ml_L_48 im_X5_lesson sl_X5_lesson in_X5 cd_X5_lesson hd_X5_lesson 0 rfl rfl rfl rfl (Nat.le_of_ble_eq_true rfl) ⟨Nat.le_of_ble_eq_true rfl, Nat.le_of_ble_eq_true rfl⟩ [] [] (by simp only [List.append_assoc, List.nil_append, List.cons_append]) (ws' := ((wO G x A now nx sz hs ahead) ++ [])) (by simp only [List.append_assoc, List.nil_append, List.cons_append]) (st' := [.int (sT 0 g - c_bf (q_bo now) (nI (q_ti now + h)) (nI g) (q_bc now)), .int n]) rfl ⟨rfl, rfl⟩ ⟨Nat.le_of_ble_eq_true rfl, Nat.le_of_ble_eq_true rfl⟩ ?_
              refine x_iadd (x := n) (y := (sT 0 g - c_bf (q_bo now) (nI (q_ti now + h)) (nI g) (q_bc now))) C dL_areLessonsSo_115 ?_
              refine x_iconst (v := (nI 4)) C dL_areLessonsSo_116 (by decide) ?_
              refine x_iload C 3 rfl dL_areLessonsSo_117 ?_
              refine x_isubN C dL_areLessonsSo_119 (by omega) ?_
              refine x_icmp_ne (x := (n + (sT 0 g - c_bf (q_bo now) (nI (q_ti now + h)) (nI g) (q_bc now)))) (y := (nI (4 - g))) (tgt := 135) C dL_areLessonsSo_120 (by decide) (fun c21 => False.elim (by exact c21 (by rw [hp, fB.1]; exact fB.2.2.2))) (fun c21 => ?_)
              refine x_iload C 2 rfl dL_areLessonsSo_123 ?_
              refine x_sipush (v := (nI 4096)) C dL_areLessonsSo_125 (by decide) ?_
              refine x_icmp_ge (x := (c_set (q_bo now) (nI (q_ti now + h)) (nI g) (q_bc now))) (y := 4096) (tgt := 135) C dL_areLessonsSo_128 (by decide) (fun c22 => False.elim (by exact c22 fB.2.2.1)) (fun c22 => ?_)
              refine x_iconst (v := (nI 1)) C dL_areLessonsSo_131 (by decide) ?_
              refine x_goto (tgt := 136) C dL_areLessonsSo_132 (by decide) ?_
              refine x_istore (lv' := [(4, .int (nI 1)), (11, .int (nI k)), (10, .int n), (9, .int (c_set (q_bo now) (nI (q_ti now + h)) (nI g) (q_bc now))), (8, .int (nI g)), (7, .int i), (6, .int al), (5, .int (nI h)), (3, .int b), (2, .int m), (1, .int w), (0, .ref x)]) C dL_areLessonsSo_136 (by decide) rfl ?_
              refine x_iload C 6 rfl dL_areLessonsSo_138 ?_
              refine x_iload C 3 rfl dL_areLessonsSo_140 ?_
              refine x_ior (x := al) (y := (c_set (q_bo now) (nI (q_ti now + h)) (nI g) (q_bc now))) C dL_areLessonsSo_142 ?_
              refine x_istore (lv' := [(6, .int (al ||| (c_set (q_bo now) (nI (q_ti now + h)) (nI g) (q_bc now)))), (4, .int (nI 1)), (11, .int (nI k)), (10, .int n), (9, .int (c_set (q_bo now) (nI (q_ti now + h)) (nI g) (q_bc now))), (8, .int (nI g)), (7, .int i), (5, .int (nI h)), (3, .int b), (2, .int m), (1, .int w), (0, .ref x)]) C dL_areLessonsSo_143 (by decide) rfl ?_
              refine x_iload C 6 rfl dL_areLessonsSo_145 ?_
              refine x_iload C 3 rfl dL_areLessonsSo_147 ?_
              refine x_iadd (x := i) (y := n) C dL_areLessonsSo_149 ?_
              refine x_istore (lv' := [(7, .int (i + n)), (6, .int (al ||| (c_set (q_bo now) (nI (q_ti now + h)) (nI g) (q_bc now)))), (4, .int (nI 1)), (11, .int (nI k)), (10, .int n), (9, .int (c_set (q_bo now) (nI (q_ti now + h)) (nI g) (q_bc now))), (8, .int (nI g)), (5, .int (nI h)), (3, .int b), (2, .int m), (1, .int w), (0, .ref x)]) C dL_areLessonsSo_150 (by decide) rfl ?_
              refine x_iinc (v := (nI (g + 1))) (lv' := [(8, .int (nI (g + 1))), (7, .int (i + n)), (6, .int (al ||| (c_set (q_bo now) (nI (q_ti now + h)) (nI g) (q_bc now)))), (4, .int (nI 1)), (11, .int (nI k)), (10, .int n), (9, .int (c_set (q_bo now) (nI (q_ti now + h)) (nI g) (q_bc now))), (5, .int (nI h)), (3, .int b), (2, .int m), (1, .int w), (0, .ref x)]) C 6 rfl dL_areLessonsSo_152 (by rw [show Int32.ofInt 1 = nI 1 from rfl]; exact nI_add _ _) (by decide) rfl ?_
              refine x_goto (tgt := 29) C dL_areLessonsSo_155 (by decide) ?_
              refine x_lv [0, 1, 2, 7, 3, 8, 9, 10, 11] (lv' := [(8, .int (nI (g + 1))), (7, .int (i + n)), (6, .int (al ||| (c_set (q_bo now) (nI (q_ti now + h)) (nI g) (q_bc now)))), (5, .int (nI h)), (4, .int (nI 1)), (3, .int b), (2, .int m), (1, .int w), (0, .ref x)]) rfl ?_
              exact ih (g + 1) (al ||| (c_set (q_bo now) (nI (q_ti now + h)) (nI g) (q_bc now))) (i + n) (by omega) (by rw [ha]; rfl) (by rw [hi, hp]; rfl)
            | succ fu ih =>
              intro k n hn hp
              refine x_iload C 0 rfl dL_areLessonsSo_52 ?_
              refine x_bipush (v := (nI 12)) C dL_areLessonsSo_54 (by decide) ?_
              refine x_icmp_geN (a := k) (b := 12) (tgt := 77) C dL_areLessonsSo_56 (by decide) (by omega) (by omega) (fun c23 => False.elim (by omega)) (fun c23 => ?_)
              refine x_iload C 1 rfl dL_areLessonsSo_59 ?_
              refine x_iload C 2 rfl dL_areLessonsSo_61 ?_
              refine x_iload C 0 rfl dL_areLessonsSo_63 ?_
              refine x_ishr (x := (c_set (q_bo now) (nI (q_ti now + h)) (nI g) (q_bc now))) (y := (nI k)) C dL_areLessonsSo_65 ?_
              refine x_iconst (v := (nI 1)) C dL_areLessonsSo_66 (by decide) ?_
              refine x_iand (x := ((c_set (q_bo now) (nI (q_ti now + h)) (nI g) (q_bc now)) >>> ((nI k) &&& 31))) (y := 1) C dL_areLessonsSo_67 ?_
              refine x_iadd (x := n) (y := (((c_set (q_bo now) (nI (q_ti now + h)) (nI g) (q_bc now)) >>> ((nI k) &&& 31)) &&& 1)) C dL_areLessonsSo_68 ?_
              refine x_istore (lv' := [(10, .int (n + (((c_set (q_bo now) (nI (q_ti now + h)) (nI g) (q_bc now)) >>> ((nI k) &&& 31)) &&& 1))), (11, .int (nI k)), (9, .int (c_set (q_bo now) (nI (q_ti now + h)) (nI g) (q_bc now))), (8, .int (nI g)), (7, .int i), (6, .int al), (5, .int (nI h)), (4, .int (nI 1)), (3, .int b), (2, .int m), (1, .int w), (0, .ref x)]) C dL_areLessonsSo_69 (by decide) rfl ?_
              refine x_iinc (v := (nI (k + 1))) (lv' := [(11, .int (nI (k + 1))), (10, .int (n + (((c_set (q_bo now) (nI (q_ti now + h)) (nI g) (q_bc now)) >>> ((nI k) &&& 31)) &&& 1))), (9, .int (c_set (q_bo now) (nI (q_ti now + h)) (nI g) (q_bc now))), (8, .int (nI g)), (7, .int i), (6, .int al), (5, .int (nI h)), (4, .int (nI 1)), (3, .int b), (2, .int m), (1, .int w), (0, .ref x)]) C 1 rfl dL_areLessonsSo_71 (by rw [show Int32.ofInt 1 = nI 1 from rfl]; exact nI_add _ _) (by decide) rfl ?_
              refine x_goto (tgt := 52) C dL_areLessonsSo_74 (by decide) ?_
              exact ih (k + 1) (n + (((c_set (q_bo now) (nI (q_ti now + h)) (nI g) (q_bc now)) >>> ((nI k) &&& 31)) &&& 1)) (by omega) (by rw [hp]; rfl)
          exact L16 12 0 0 (by omega) (by rfl)
      exact L7 3 0 0 0 (by omega) (by rfl) (by rfl)
  exact L1 100 0 0 0 (-5) (by omega) (by rfl) (by rfl)
