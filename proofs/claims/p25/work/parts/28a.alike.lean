theorem kcnt_eq {now : c_S} {sz sz2 k : Nat} (hk : k < 17) : kX_count now sz 0 (nI k) = kX_count now sz2 0 (nI k) := by
  unfold kX_count
  split
  · rfl
  · rw [nC_nI (by omega)]
    unfold k_cntN
    simp only [hk, if_true]
def rm_L_areAlike : Room := { frames := 5, cells := 0, slots := 0, locals := 116 }
set_option maxRecDepth 100000 in
set_option maxHeartbeats 600000 in
theorem c_L_areAlike (l : Launch) (G : gG) (x : Nat) (A : oA) (now : c_S) (nx sz : Nat) (hs : Nat → c_S) (ahead : c_S) (y : Nat) (B : oA) (nx2 sz2 : Nat) (hs2 : Nat → c_S) (ah2 : c_S)  (hS : okS 10000 now) (hnx : nx < 4) (hsz : sz ≤ 4) (hnx2 : nx2 < 4) (hsz2 : sz2 ≤ 4) : CT l yL_areAlike cL_areAlike 4 (some .boolean) rm_L_areAlike G [.ref x, .ref y] ((wO G x A now nx sz hs ahead) ++ ((wO G y B now nx2 sz2 hs2 ah2) ++ [])) (some (.int (nI 1))) (fun _ => ((wO G x A now nx sz hs ahead) ++ ((wO G y B now nx2 sz2 hs2 ah2) ++ []))) := by
  refine gMet (by decide) (Nat.le_of_ble_eq_true rfl) (fun X hX C hr hin E => ?_)
  clear hX
  refine (show gW G X ((wO G x A now nx sz hs ahead) ++ ((wO G y B now nx2 sz2 hs2 ah2) ++ [])) 0 0 0 [(0, .ref x), (1, .ref y)] [] from ?_)
  have hS1 := hS.1
  have hS2 := hS.2.1
  have hS3 := hS.2.2.1
  have hS4 := hS.2.2.2
  refine x_iconst (v := (nI 1)) C dL_areAlike_0 (by decide) ?_
  refine x_istore_n (lv' := [(2, .int (nI 1)), (0, .ref x), (1, .ref y)]) C dL_areAlike_1 rfl (by decide) rfl ?_
  refine x_iconst (v := (nI 0)) C dL_areAlike_2 (by decide) ?_
  refine x_istore_n (lv' := [(3, .int (nI 0)), (2, .int (nI 1)), (0, .ref x), (1, .ref y)]) C dL_areAlike_3 rfl (by decide) rfl ?_
  have L1 : ∀ (fu : Nat) (k : Nat), k + fu = 17 → gW G X ((wO G x A now nx sz hs ahead) ++ ((wO G y B now nx2 sz2 hs2 ah2) ++ [])) 0 0 4 [(3, .int (nI k)), (2, .int (nI 1)), (0, .ref x), (1, .ref y)] [] := by
    intro fu
    induction fu with
    | zero =>
      intro k hn
      refine x_iload_n C 0 rfl dL_areAlike_4 rfl ?_
      refine x_bipush (v := (nI 17)) C dL_areAlike_5 (by decide) ?_
      refine x_icmp_geN (a := k) (b := 17) (tgt := 39) C dL_areAlike_7 (by decide) (by omega) (by omega) (fun c2 => ?_) (fun c2 => False.elim (by omega))
      refine x_iconst (v := (nI 0)) C dL_areAlike_39 (by decide) ?_
      refine x_istore_n (lv' := [(3, .int (nI 0)), (2, .int (nI 1)), (0, .ref x), (1, .ref y)]) C dL_areAlike_40 rfl (by decide) rfl ?_
      have L3 : ∀ (fu : Nat) (k2 : Nat), k2 + fu = 90 → gW G X ((wO G x A now nx sz hs ahead) ++ ((wO G y B now nx2 sz2 hs2 ah2) ++ [])) 0 0 41 [(3, .int (nI k2)), (2, .int (nI 1)), (0, .ref x), (1, .ref y)] [] := by
        intro fu
        induction fu with
        | zero =>
          intro k2 hn
          refine x_iload_n C 0 rfl dL_areAlike_41 rfl ?_
          refine x_bipush (v := (nI 90)) C dL_areAlike_42 (by decide) ?_
          refine x_icmp_geN (a := k2) (b := 90) (tgt := 90) C dL_areAlike_44 (by decide) (by omega) (by omega) (fun c4 => ?_) (fun c4 => False.elim (by omega))
          refine x_iconst (v := (nI 0)) C dL_areAlike_90 (by decide) ?_
          refine x_istore_n (lv' := [(3, .int (nI 0)), (2, .int (nI 1)), (0, .ref x), (1, .ref y)]) C dL_areAlike_91 rfl (by decide) rfl ?_
          have L5 : ∀ (fu : Nat) (k3 : Nat), k3 + fu = 120 → gW G X ((wO G x A now nx sz hs ahead) ++ ((wO G y B now nx2 sz2 hs2 ah2) ++ [])) 0 0 92 [(3, .int (nI k3)), (2, .int (nI 1)), (0, .ref x), (1, .ref y)] [] := by
            intro fu
            induction fu with
            | zero =>
              intro k3 hn
              refine x_iload_n C 0 rfl dL_areAlike_92 rfl ?_
              refine x_bipush (v := (nI 120)) C dL_areAlike_93 (by decide) ?_
              refine x_icmp_geN (a := k3) (b := 120) (tgt := 141) C dL_areAlike_95 (by decide) (by omega) (by omega) (fun c6 => ?_) (fun c6 => False.elim (by omega))
              refine x_iconst (v := (nI 0)) C dL_areAlike_141 (by decide) ?_
              refine x_istore_n (lv' := [(3, .int (nI 0)), (2, .int (nI 1)), (0, .ref x), (1, .ref y)]) C dL_areAlike_142 rfl (by decide) rfl ?_
              have L7 : ∀ (fu : Nat) (k4 : Nat), k4 + fu = 63 → gW G X ((wO G x A now nx sz hs ahead) ++ ((wO G y B now nx2 sz2 hs2 ah2) ++ [])) 0 0 143 [(3, .int (nI k4)), (2, .int (nI 1)), (0, .ref x), (1, .ref y)] [] := by
                intro fu
                induction fu with
                | zero =>
                  intro k4 hn
                  refine x_iload_n C 0 rfl dL_areAlike_143 rfl ?_
                  refine x_bipush (v := (nI 63)) C dL_areAlike_144 (by decide) ?_
                  refine x_icmp_geN (a := k4) (b := 63) (tgt := 213) C dL_areAlike_146 (by decide) (by omega) (by omega) (fun c8 => ?_) (fun c8 => False.elim (by omega))
                  refine x_iload_n C 1 rfl dL_areAlike_213 rfl ?_
                  exact x_zret C hr (by rfl) E dL_areAlike_214 (fun _ => 0) rfl rfl
                | succ fu ih =>
                  intro k4 hn
                  refine x_iload_n C 0 rfl dL_areAlike_143 rfl ?_
                  refine x_bipush (v := (nI 63)) C dL_areAlike_144 (by decide) ?_
                  refine x_icmp_geN (a := k4) (b := 63) (tgt := 213) C dL_areAlike_146 (by decide) (by omega) (by omega) (fun c9 => False.elim (by omega)) (fun c9 => ?_)
                  refine x_iload_n C 1 rfl dL_areAlike_149 rfl ?_
                  refine x_if_eqN (a := 1) (tgt := 205) C dL_areAlike_150 (by decide) (by omega) (fun c10 => False.elim (by omega)) (fun c10 => ?_)
                  refine x_aload_n C 2 rfl dL_areAlike_153 rfl ?_
                  refine x_iload_n C 0 rfl dL_areAlike_154 rfl ?_
                  refine x_iconst (v := (nI 3)) C dL_areAlike_155 (by decide) ?_
                  refine x_idivN C dL_areAlike_156 (by omega) (by omega) (by omega) ?_
                  refine x_iload_n C 0 rfl dL_areAlike_157 rfl ?_
                  refine x_iconst (v := (nI 3)) C dL_areAlike_158 (by decide) ?_
                  refine x_iremN C dL_areAlike_159 (by omega) (by omega) (by omega) ?_
                  refine x_callVd (As := [.int (nI (k4 / 3)), .int (nI (k4 % 3))]) (rest := []) C dL_areAlike_160 (c_O_fall (gX.l X) G x A now nx sz hs ahead (nI (k4 / 3)) (nI (k4 % 3)) hS hnx hsz) ml_L_45 im_X5_fall sl_X5_fall in_X5 cd_X5_fall hd_X5_fall 0 rfl rfl rfl rfl (Nat.le_of_ble_eq_true rfl) ⟨Nat.le_of_ble_eq_true rfl, Nat.le_of_ble_eq_true rfl⟩ [] ((wO G y B now nx2 sz2 hs2 ah2) ++ []) (by simp only [List.append_assoc, List.nil_append, List.cons_append]) (ws' := ((wO G x A now nx sz hs ahead) ++ ((wO G y B now nx2 sz2 hs2 ah2) ++ []))) (by simp only [List.append_assoc, List.nil_append, List.cons_append]) (st' := [.int (kX_fall now (nI (k4 / 3)) (nI (k4 % 3)))]) rfl ⟨rfl, rfl⟩ ⟨Nat.le_of_ble_eq_true rfl, Nat.le_of_ble_eq_true rfl⟩ ?_
                  refine x_aload_n C 3 rfl dL_areAlike_163 rfl ?_
                  refine x_iload_n C 0 rfl dL_areAlike_164 rfl ?_
                  refine x_iconst (v := (nI 3)) C dL_areAlike_165 (by decide) ?_
                  refine x_idivN C dL_areAlike_166 (by omega) (by omega) (by omega) ?_
                  refine x_iload_n C 0 rfl dL_areAlike_167 rfl ?_
                  refine x_iconst (v := (nI 3)) C dL_areAlike_168 (by decide) ?_
                  refine x_iremN C dL_areAlike_169 (by omega) (by omega) (by omega) ?_
                  refine x_callVd (As := [.int (nI (k4 / 3)), .int (nI (k4 % 3))]) (rest := [.int (kX_fall now (nI (k4 / 3)) (nI (k4 % 3)))]) C dL_areAlike_170 (c_O_fall (gX.l X) G y B now nx2 sz2 hs2 ah2 (nI (k4 / 3)) (nI (k4 % 3)) hS hnx2 hsz2) ml_L_45 im_X5_fall sl_X5_fall in_X5 cd_X5_fall hd_X5_fall 0 rfl rfl rfl rfl (Nat.le_of_ble_eq_true rfl) ⟨Nat.le_of_ble_eq_true rfl, Nat.le_of_ble_eq_true rfl⟩ (wO G x A now nx sz hs ahead) [] (by simp only [List.append_assoc, List.nil_append, List.cons_append]) (ws' := ((wO G x A now nx sz hs ahead) ++ ((wO G y B now nx2 sz2 hs2 ah2) ++ []))) (by simp only [List.append_assoc, List.nil_append, List.cons_append]) (st' := [.int (kX_fall now (nI (k4 / 3)) (nI (k4 % 3))), .int (kX_fall now (nI (k4 / 3)) (nI (k4 % 3)))]) rfl ⟨rfl, rfl⟩ ⟨Nat.le_of_ble_eq_true rfl, Nat.le_of_ble_eq_true rfl⟩ ?_
                  refine x_icmp_ne (x := (kX_fall now (nI (k4 / 3)) (nI (k4 % 3)))) (y := (kX_fall now (nI (k4 / 3)) (nI (k4 % 3)))) (tgt := 205) C dL_areAlike_173 (by decide) (fun c11 => False.elim (by exact c11 rfl)) (fun c11 => ?_)
                  refine x_aload_n C 2 rfl dL_areAlike_176 rfl ?_
                  refine x_iload_n C 0 rfl dL_areAlike_177 rfl ?_
                  refine x_iconst (v := (nI 3)) C dL_areAlike_178 (by decide) ?_
                  refine x_idivN C dL_areAlike_179 (by omega) (by omega) (by omega) ?_
                  refine x_iload_n C 0 rfl dL_areAlike_180 rfl ?_
                  refine x_iconst (v := (nI 3)) C dL_areAlike_181 (by decide) ?_
                  refine x_iremN C dL_areAlike_182 (by omega) (by omega) (by omega) ?_
                  refine x_iconst (v := (nI 2)) C dL_areAlike_183 (by decide) ?_
                  refine x_callVd (As := [.int (nI (k4 / 3)), .int (nI (k4 % 3)), .int (nI 2)]) (rest := []) C dL_areAlike_184 (c_N_lesson2 (gX.l X) G x A now nx sz hs ahead (k4 / 3) (k4 % 3) hS hnx hsz (by omega) (by omega)) ml_L_48 im_X5_lesson sl_X5_lesson in_X5 cd_X5_lesson hd_X5_lesson 0 rfl rfl rfl rfl (Nat.le_of_ble_eq_true rfl) ⟨Nat.le_of_ble_eq_true rfl, Nat.le_of_ble_eq_true rfl⟩ [] ((wO G y B now nx2 sz2 hs2 ah2) ++ []) (by simp only [List.append_assoc, List.nil_append, List.cons_append]) (ws' := ((wO G x A now nx sz hs ahead) ++ ((wO G y B now nx2 sz2 hs2 ah2) ++ []))) (by simp only [List.append_assoc, List.nil_append, List.cons_append]) (st' := [.int (c_set (q_bo now) (nI (q_ti now + (k4 / 3))) (nI (k4 % 3)) (q_bc now))]) rfl ⟨rfl, rfl⟩ ⟨Nat.le_of_ble_eq_true rfl, Nat.le_of_ble_eq_true rfl⟩ ?_
                  refine x_aload_n C 3 rfl dL_areAlike_187 rfl ?_
                  refine x_iload_n C 0 rfl dL_areAlike_188 rfl ?_
                  refine x_iconst (v := (nI 3)) C dL_areAlike_189 (by decide) ?_
                  refine x_idivN C dL_areAlike_190 (by omega) (by omega) (by omega) ?_
                  refine x_iload_n C 0 rfl dL_areAlike_191 rfl ?_
                  refine x_iconst (v := (nI 3)) C dL_areAlike_192 (by decide) ?_
                  refine x_iremN C dL_areAlike_193 (by omega) (by omega) (by omega) ?_
                  refine x_iconst (v := (nI 2)) C dL_areAlike_194 (by decide) ?_
                  refine x_callVd (As := [.int (nI (k4 / 3)), .int (nI (k4 % 3)), .int (nI 2)]) (rest := [.int (c_set (q_bo now) (nI (q_ti now + (k4 / 3))) (nI (k4 % 3)) (q_bc now))]) C dL_areAlike_195 (c_N_lesson2 (gX.l X) G y B now nx2 sz2 hs2 ah2 (k4 / 3) (k4 % 3) hS hnx2 hsz2 (by omega) (by omega)) ml_L_48 im_X5_lesson sl_X5_lesson in_X5 cd_X5_lesson hd_X5_lesson 0 rfl rfl rfl rfl (Nat.le_of_ble_eq_true rfl) ⟨Nat.le_of_ble_eq_true rfl, Nat.le_of_ble_eq_true rfl⟩ (wO G x A now nx sz hs ahead) [] (by simp only [List.append_assoc, List.nil_append, List.cons_append]) (ws' := ((wO G x A now nx sz hs ahead) ++ ((wO G y B now nx2 sz2 hs2 ah2) ++ []))) (by simp only [List.append_assoc, List.nil_append, List.cons_append]) (st' := [.int (c_set (q_bo now) (nI (q_ti now + (k4 / 3))) (nI (k4 % 3)) (q_bc now)), .int (c_set (q_bo now) (nI (q_ti now + (k4 / 3))) (nI (k4 % 3)) (q_bc now))]) rfl ⟨rfl, rfl⟩ ⟨Nat.le_of_ble_eq_true rfl, Nat.le_of_ble_eq_true rfl⟩ ?_
                  refine x_icmp_ne (x := (c_set (q_bo now) (nI (q_ti now + (k4 / 3))) (nI (k4 % 3)) (q_bc now))) (y := (c_set (q_bo now) (nI (q_ti now + (k4 / 3))) (nI (k4 % 3)) (q_bc now))) (tgt := 205) C dL_areAlike_198 (by decide) (fun c12 => False.elim (by exact c12 rfl)) (fun c12 => ?_)
                  refine x_iconst (v := (nI 1)) C dL_areAlike_201 (by decide) ?_
                  refine x_goto (tgt := 206) C dL_areAlike_202 (by decide) ?_
                  refine x_istore_n (lv' := [(2, .int (nI 1)), (3, .int (nI k4)), (0, .ref x), (1, .ref y)]) C dL_areAlike_206 rfl (by decide) rfl ?_
                  refine x_iinc (v := (nI (k4 + 1))) (lv' := [(3, .int (nI (k4 + 1))), (2, .int (nI 1)), (0, .ref x), (1, .ref y)]) C 1 rfl dL_areAlike_207 (by rw [show Int32.ofInt 1 = nI 1 from rfl]; exact nI_add _ _) (by decide) rfl ?_
                  refine x_goto (tgt := 143) C dL_areAlike_210 (by decide) ?_
                  exact ih (k4 + 1) (by omega) 
              exact L7 63 0 (by omega) 
            | succ fu ih =>
              intro k3 hn
              refine x_iload_n C 0 rfl dL_areAlike_92 rfl ?_
              refine x_bipush (v := (nI 120)) C dL_areAlike_93 (by decide) ?_
              refine x_icmp_geN (a := k3) (b := 120) (tgt := 141) C dL_areAlike_95 (by decide) (by omega) (by omega) (fun c13 => False.elim (by omega)) (fun c13 => ?_)
              refine x_iload_n C 1 rfl dL_areAlike_98 rfl ?_
              refine x_if_eqN (a := 1) (tgt := 133) C dL_areAlike_99 (by decide) (by omega) (fun c14 => False.elim (by omega)) (fun c14 => ?_)
              refine x_aload_n C 2 rfl dL_areAlike_102 rfl ?_
              refine x_iload_n C 0 rfl dL_areAlike_103 rfl ?_
              refine x_bipush (v := (nI 10)) C dL_areAlike_104 (by decide) ?_
              refine x_idivN C dL_areAlike_106 (by omega) (by omega) (by omega) ?_
              refine x_iload_n C 0 rfl dL_areAlike_107 rfl ?_
              refine x_bipush (v := (nI 10)) C dL_areAlike_108 (by decide) ?_
              refine x_iremN C dL_areAlike_110 (by omega) (by omega) (by omega) ?_
              refine x_callVd (As := [.int (nI (k3 / 10)), .int (nI (k3 % 10))]) (rest := []) C dL_areAlike_111 (c_O_rider (gX.l X) G x A now nx sz hs ahead (nI (k3 / 10)) (nI (k3 % 10)) hS hnx hsz) ml_L_42 im_X5_rider sl_X5_rider in_X5 cd_X5_rider hd_X5_rider 0 rfl rfl rfl rfl (Nat.le_of_ble_eq_true rfl) ⟨Nat.le_of_ble_eq_true rfl, Nat.le_of_ble_eq_true rfl⟩ [] ((wO G y B now nx2 sz2 hs2 ah2) ++ []) (by simp only [List.append_assoc, List.nil_append, List.cons_append]) (ws' := ((wO G x A now nx sz hs ahead) ++ ((wO G y B now nx2 sz2 hs2 ah2) ++ []))) (by simp only [List.append_assoc, List.nil_append, List.cons_append]) (st' := [.int (kX_rider now (nI (k3 / 10)) (nI (k3 % 10)))]) rfl ⟨rfl, rfl⟩ ⟨Nat.le_of_ble_eq_true rfl, Nat.le_of_ble_eq_true rfl⟩ ?_
              refine x_aload_n C 3 rfl dL_areAlike_114 rfl ?_
              refine x_iload_n C 0 rfl dL_areAlike_115 rfl ?_
              refine x_bipush (v := (nI 10)) C dL_areAlike_116 (by decide) ?_
              refine x_idivN C dL_areAlike_118 (by omega) (by omega) (by omega) ?_
              refine x_iload_n C 0 rfl dL_areAlike_119 rfl ?_
              refine x_bipush (v := (nI 10)) C dL_areAlike_120 (by decide) ?_
              refine x_iremN C dL_areAlike_122 (by omega) (by omega) (by omega) ?_
              refine x_callVd (As := [.int (nI (k3 / 10)), .int (nI (k3 % 10))]) (rest := [.int (kX_rider now (nI (k3 / 10)) (nI (k3 % 10)))]) C dL_areAlike_123 (c_O_rider (gX.l X) G y B now nx2 sz2 hs2 ah2 (nI (k3 / 10)) (nI (k3 % 10)) hS hnx2 hsz2) ml_L_42 im_X5_rider sl_X5_rider in_X5 cd_X5_rider hd_X5_rider 0 rfl rfl rfl rfl (Nat.le_of_ble_eq_true rfl) ⟨Nat.le_of_ble_eq_true rfl, Nat.le_of_ble_eq_true rfl⟩ (wO G x A now nx sz hs ahead) [] (by simp only [List.append_assoc, List.nil_append, List.cons_append]) (ws' := ((wO G x A now nx sz hs ahead) ++ ((wO G y B now nx2 sz2 hs2 ah2) ++ []))) (by simp only [List.append_assoc, List.nil_append, List.cons_append]) (st' := [.int (kX_rider now (nI (k3 / 10)) (nI (k3 % 10))), .int (kX_rider now (nI (k3 / 10)) (nI (k3 % 10)))]) rfl ⟨rfl, rfl⟩ ⟨Nat.le_of_ble_eq_true rfl, Nat.le_of_ble_eq_true rfl⟩ ?_
              refine x_icmp_ne (x := (kX_rider now (nI (k3 / 10)) (nI (k3 % 10)))) (y := (kX_rider now (nI (k3 / 10)) (nI (k3 % 10)))) (tgt := 133) C dL_areAlike_126 (by decide) (fun c15 => False.elim (by exact c15 rfl)) (fun c15 => ?_)
              refine x_iconst (v := (nI 1)) C dL_areAlike_129 (by decide) ?_
              refine x_goto (tgt := 134) C dL_areAlike_130 (by decide) ?_
              refine x_istore_n (lv' := [(2, .int (nI 1)), (3, .int (nI k3)), (0, .ref x), (1, .ref y)]) C dL_areAlike_134 rfl (by decide) rfl ?_
              refine x_iinc (v := (nI (k3 + 1))) (lv' := [(3, .int (nI (k3 + 1))), (2, .int (nI 1)), (0, .ref x), (1, .ref y)]) C 1 rfl dL_areAlike_135 (by rw [show Int32.ofInt 1 = nI 1 from rfl]; exact nI_add _ _) (by decide) rfl ?_
              refine x_goto (tgt := 92) C dL_areAlike_138 (by decide) ?_
              exact ih (k3 + 1) (by omega) 
          exact L5 120 0 (by omega) 
        | succ fu ih =>
          intro k2 hn
          refine x_iload_n C 0 rfl dL_areAlike_41 rfl ?_
          refine x_bipush (v := (nI 90)) C dL_areAlike_42 (by decide) ?_
          refine x_icmp_geN (a := k2) (b := 90) (tgt := 90) C dL_areAlike_44 (by decide) (by omega) (by omega) (fun c16 => False.elim (by omega)) (fun c16 => ?_)
          refine x_iload_n C 1 rfl dL_areAlike_47 rfl ?_
          refine x_if_eqN (a := 1) (tgt := 82) C dL_areAlike_48 (by decide) (by omega) (fun c17 => False.elim (by omega)) (fun c17 => ?_)
          refine x_aload_n C 2 rfl dL_areAlike_51 rfl ?_
          refine x_iload_n C 0 rfl dL_areAlike_52 rfl ?_
          refine x_bipush (v := (nI 9)) C dL_areAlike_53 (by decide) ?_
          refine x_idivN C dL_areAlike_55 (by omega) (by omega) (by omega) ?_
          refine x_iload_n C 0 rfl dL_areAlike_56 rfl ?_
          refine x_bipush (v := (nI 9)) C dL_areAlike_57 (by decide) ?_
          refine x_iremN C dL_areAlike_59 (by omega) (by omega) (by omega) ?_
          refine x_callVd (As := [.int (nI (k2 / 9)), .int (nI (k2 % 9))]) (rest := []) C dL_areAlike_60 (c_O_horse (gX.l X) G x A now nx sz hs ahead (nI (k2 / 9)) (nI (k2 % 9)) hS hnx hsz) ml_L_39 im_X5_horse sl_X5_horse in_X5 cd_X5_horse hd_X5_horse 0 rfl rfl rfl rfl (Nat.le_of_ble_eq_true rfl) ⟨Nat.le_of_ble_eq_true rfl, Nat.le_of_ble_eq_true rfl⟩ [] ((wO G y B now nx2 sz2 hs2 ah2) ++ []) (by simp only [List.append_assoc, List.nil_append, List.cons_append]) (ws' := ((wO G x A now nx sz hs ahead) ++ ((wO G y B now nx2 sz2 hs2 ah2) ++ []))) (by simp only [List.append_assoc, List.nil_append, List.cons_append]) (st' := [.int (kX_horse now (nI (k2 / 9)) (nI (k2 % 9)))]) rfl ⟨rfl, rfl⟩ ⟨Nat.le_of_ble_eq_true rfl, Nat.le_of_ble_eq_true rfl⟩ ?_
          refine x_aload_n C 3 rfl dL_areAlike_63 rfl ?_
          refine x_iload_n C 0 rfl dL_areAlike_64 rfl ?_
          refine x_bipush (v := (nI 9)) C dL_areAlike_65 (by decide) ?_
          refine x_idivN C dL_areAlike_67 (by omega) (by omega) (by omega) ?_
          refine x_iload_n C 0 rfl dL_areAlike_68 rfl ?_
          refine x_bipush (v := (nI 9)) C dL_areAlike_69 (by decide) ?_
          refine x_iremN C dL_areAlike_71 (by omega) (by omega) (by omega) ?_
          refine x_callVd (As := [.int (nI (k2 / 9)), .int (nI (k2 % 9))]) (rest := [.int (kX_horse now (nI (k2 / 9)) (nI (k2 % 9)))]) C dL_areAlike_72 (c_O_horse (gX.l X) G y B now nx2 sz2 hs2 ah2 (nI (k2 / 9)) (nI (k2 % 9)) hS hnx2 hsz2) ml_L_39 im_X5_horse sl_X5_horse in_X5 cd_X5_horse hd_X5_horse 0 rfl rfl rfl rfl (Nat.le_of_ble_eq_true rfl) ⟨Nat.le_of_ble_eq_true rfl, Nat.le_of_ble_eq_true rfl⟩ (wO G x A now nx sz hs ahead) [] (by simp only [List.append_assoc, List.nil_append, List.cons_append]) (ws' := ((wO G x A now nx sz hs ahead) ++ ((wO G y B now nx2 sz2 hs2 ah2) ++ []))) (by simp only [List.append_assoc, List.nil_append, List.cons_append]) (st' := [.int (kX_horse now (nI (k2 / 9)) (nI (k2 % 9))), .int (kX_horse now (nI (k2 / 9)) (nI (k2 % 9)))]) rfl ⟨rfl, rfl⟩ ⟨Nat.le_of_ble_eq_true rfl, Nat.le_of_ble_eq_true rfl⟩ ?_
          refine x_icmp_ne (x := (kX_horse now (nI (k2 / 9)) (nI (k2 % 9)))) (y := (kX_horse now (nI (k2 / 9)) (nI (k2 % 9)))) (tgt := 82) C dL_areAlike_75 (by decide) (fun c18 => False.elim (by exact c18 rfl)) (fun c18 => ?_)
          refine x_iconst (v := (nI 1)) C dL_areAlike_78 (by decide) ?_
          refine x_goto (tgt := 83) C dL_areAlike_79 (by decide) ?_
          refine x_istore_n (lv' := [(2, .int (nI 1)), (3, .int (nI k2)), (0, .ref x), (1, .ref y)]) C dL_areAlike_83 rfl (by decide) rfl ?_
          refine x_iinc (v := (nI (k2 + 1))) (lv' := [(3, .int (nI (k2 + 1))), (2, .int (nI 1)), (0, .ref x), (1, .ref y)]) C 1 rfl dL_areAlike_84 (by rw [show Int32.ofInt 1 = nI 1 from rfl]; exact nI_add _ _) (by decide) rfl ?_
          refine x_goto (tgt := 41) C dL_areAlike_87 (by decide) ?_
          exact ih (k2 + 1) (by omega) 
      exact L3 90 0 (by omega) 
    | succ fu ih =>
      intro k hn
      refine x_iload_n C 0 rfl dL_areAlike_4 rfl ?_
      refine x_bipush (v := (nI 17)) C dL_areAlike_5 (by decide) ?_
      refine x_icmp_geN (a := k) (b := 17) (tgt := 39) C dL_areAlike_7 (by decide) (by omega) (by omega) (fun c19 => False.elim (by omega)) (fun c19 => ?_)
      refine x_iload_n C 1 rfl dL_areAlike_10 rfl ?_
      refine x_if_eqN (a := 1) (tgt := 31) C dL_areAlike_11 (by decide) (by omega) (fun c20 => False.elim (by omega)) (fun c20 => ?_)
      refine x_aload_n C 2 rfl dL_areAlike_14 rfl ?_
      refine x_iload_n C 0 rfl dL_areAlike_15 rfl ?_
      refine x_callVd (As := [.int (nI k)]) (rest := []) C dL_areAlike_16 (c_O_count (gX.l X) G x A now nx sz hs ahead (nI k) hS hnx hsz) ml_L_36 im_X5_count sl_X5_count in_X5 cd_X5_count hd_X5_count 0 rfl rfl rfl rfl (Nat.le_of_ble_eq_true rfl) ⟨Nat.le_of_ble_eq_true rfl, Nat.le_of_ble_eq_true rfl⟩ [] ((wO G y B now nx2 sz2 hs2 ah2) ++ []) (by simp only [List.append_assoc, List.nil_append, List.cons_append]) (ws' := ((wO G x A now nx sz hs ahead) ++ ((wO G y B now nx2 sz2 hs2 ah2) ++ []))) (by simp only [List.append_assoc, List.nil_append, List.cons_append]) (st' := [.int (kX_count now sz 0 (nI k))]) rfl ⟨rfl, rfl⟩ ⟨Nat.le_of_ble_eq_true rfl, Nat.le_of_ble_eq_true rfl⟩ ?_
      refine x_aload_n C 3 rfl dL_areAlike_19 rfl ?_
      refine x_iload_n C 0 rfl dL_areAlike_20 rfl ?_
      refine x_callVd (As := [.int (nI k)]) (rest := [.int (kX_count now sz 0 (nI k))]) C dL_areAlike_21 (c_O_count (gX.l X) G y B now nx2 sz2 hs2 ah2 (nI k) hS hnx2 hsz2) ml_L_36 im_X5_count sl_X5_count in_X5 cd_X5_count hd_X5_count 0 rfl rfl rfl rfl (Nat.le_of_ble_eq_true rfl) ⟨Nat.le_of_ble_eq_true rfl, Nat.le_of_ble_eq_true rfl⟩ (wO G x A now nx sz hs ahead) [] (by simp only [List.append_assoc, List.nil_append, List.cons_append]) (ws' := ((wO G x A now nx sz hs ahead) ++ ((wO G y B now nx2 sz2 hs2 ah2) ++ []))) (by simp only [List.append_assoc, List.nil_append, List.cons_append]) (st' := [.int (kX_count now sz2 0 (nI k)), .int (kX_count now sz 0 (nI k))]) rfl ⟨rfl, rfl⟩ ⟨Nat.le_of_ble_eq_true rfl, Nat.le_of_ble_eq_true rfl⟩ ?_
      refine x_icmp_ne (x := (kX_count now sz 0 (nI k))) (y := (kX_count now sz2 0 (nI k))) (tgt := 31) C dL_areAlike_24 (by decide) (fun c21 => False.elim (by exact c21 (kcnt_eq (by omega)))) (fun c21 => ?_)
      refine x_iconst (v := (nI 1)) C dL_areAlike_27 (by decide) ?_
      refine x_goto (tgt := 32) C dL_areAlike_28 (by decide) ?_
      refine x_istore_n (lv' := [(2, .int (nI 1)), (3, .int (nI k)), (0, .ref x), (1, .ref y)]) C dL_areAlike_32 rfl (by decide) rfl ?_
      refine x_iinc (v := (nI (k + 1))) (lv' := [(3, .int (nI (k + 1))), (2, .int (nI 1)), (0, .ref x), (1, .ref y)]) C 1 rfl dL_areAlike_33 (by rw [show Int32.ofInt 1 = nI 1 from rfl]; exact nI_add _ _) (by decide) rfl ?_
      refine x_goto (tgt := 4) C dL_areAlike_36 (by decide) ?_
      exact ih (k + 1) (by omega) 
  exact L1 17 0 (by omega) 
