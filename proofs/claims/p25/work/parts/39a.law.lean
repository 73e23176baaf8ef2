/-! ===== the law ===== -/
theorem x_ws {G : gG} {X : gX} {ws ws' : va_W} {kc ks pc : Nat} {lv : List (Nat × Value)} {st : List Value} (h : ws = ws') (k : gW G X ws' kc ks pc lv st) : gW G X ws kc ks pc lv st := h ▸ k
theorem c_A_no (l : Launch) (G : gG) (x : Nat) (A : oA) (now : c_S) (nx sz : Nat) (hs : Nat → c_S) (ahead : c_S) (v r : Int32) (hS : okS 10000 now) (hnx : nx < 4) (hsz : sz ≤ 4) (ha : ∀ hs nx sz, a_act now hs nx sz v = k_no now hs nx sz r) : CT l yL_act cL_act 4 (some .int) rm_L_act G [.ref x, .int v] ((wO G x A now nx sz hs ahead) ++ []) (some (.int r)) (fun _ => ((wO G x A now nx sz hs ahead) ++ [])) := by
  have := c_L_act l G x A now nx sz hs ahead v hS hnx hsz
  rw [ha] at this
  exact this
theorem c_A_ok (l : Launch) (G : gG) (x : Nat) (A : oA) (now : c_S) (nx sz : Nat) (hs : Nat → c_S) (ahead : c_S) (v r : Int32) (q : c_S) (hS : okS 10000 now) (hnx : nx < 4) (hsz : sz ≤ 4) (ha : ∀ hs nx sz, a_act now hs nx sz v = k_act now q hs nx sz r) : CT l yL_act cL_act 4 (some .int) rm_L_act G [.ref x, .int v] ((wO G x A now nx sz hs ahead) ++ []) (some (.int r)) (fun _ => ((wO G x A q ((nx + 1) % 4) (min (sz + 1) 4) (hup hs nx now) ahead) ++ [])) := by
  have := c_L_act l G x A now nx sz hs ahead v hS hnx hsz
  rw [ha] at this
  exact this
theorem c_U_ok (l : Launch) (G : gG) (x : Nat) (A : oA) (now q : c_S) (nx sz : Nat) (hs : Nat → c_S) (ahead : c_S) (hS : okS 10000 q) (hnx : nx < 4) (hsz : sz ≤ 4) : CT l yX5_undo cX5_undo 1 (some .int) rm_X5_undo G [.ref x] (wO G x A q ((nx + 1) % 4) (min (sz + 1) 4) (hup hs nx now) ahead) (some (.int (nI (min (sz + 1) 4 - 1)))) (fun _ => (wO G x A now nx (min (sz + 1) 4 - 1) (hup hs nx now) ahead)) := by
  have := c_O_undo l G x A q ((nx + 1) % 4) (min (sz + 1) 4) (hup hs nx now) ahead hS (by omega) (by omega)
  rw [show kX_undo q (hup hs nx now) ((nx + 1) % 4) (min (sz + 1) 4) = (nI (min (sz + 1) 4 - 1), now, hup hs nx now, nx, min (sz + 1) 4 - 1) by
    unfold kX_undo
    rw [if_neg (by omega), show ((nx + 1) % 4 + 3) % 4 = nx by omega, show hup hs nx now nx = now from if_pos rfl]] at this
  exact this
set_option maxRecDepth 100000 in
set_option maxHeartbeats 1000000 in
theorem law_tail {G : gG} {X : gX} (C : gC G X code 8 room_1 "LessonHorsesLaw") {x y : Nat} {A B : oA} {e : Nat} (he : e < 46) (IH : ∀ (now : c_S) (nx sz : Nat) (hs : Nat → c_S) (ahead : c_S) (nx2 sz2 : Nat) (hs2 : Nat → c_S) (ah2 : c_S), INV now → nx < 4 → sz ≤ 4 → nx2 < 4 → sz2 ≤ 4 → gW G X ((wO G x A now nx sz hs ahead) ++ ((wO G y B now nx2 sz2 hs2 ah2) ++ [])) 170 6310 18 [(3, .int (nI (e + 1))), (0, .ref (G.2.2 4)), (1, .ref x), (2, .ref y)] []) {now : c_S} {nx sz : Nat} {hs : Nat → c_S} {ahead : c_S} {nx2 sz2 : Nat} {hs2 : Nat → c_S} {ah2 : c_S} {v : Int32} (hI : INV now) (h1 : nx < 4) (h2 : sz ≤ 4) (h3 : nx2 < 4) (h4 : sz2 ≤ 4) : gW G X ((wO G x A now nx sz hs ahead) ++ ((wO G y B now nx2 sz2 hs2 ah2) ++ [])) 170 6310 159 [(0, .ref (G.2.2 4)), (1, .ref x), (2, .ref y), (3, .int (nI e)), (4, .int v)] [] := by
  refine x_aload_n C 1 rfl dL_law_159 rfl ?_
  refine x_aload_n C 2 rfl dL_law_160 rfl ?_
  refine x_callSd (As := [.ref x, .ref y]) (rest := []) C dL_law_161 (c_L_areAlike (gX.l X) G x A now nx sz hs ahead y B nx2 sz2 hs2 ah2 hI.1 h1 h2 h3 h4) ml_L_73 st_L_areAlike in_L cd_L_areAlike hd_L_areAlike rfl rfl (Nat.le_of_ble_eq_true rfl) ⟨Nat.le_of_ble_eq_true rfl, Nat.le_of_ble_eq_true rfl⟩ [] [] (by simp only [List.append_assoc, List.nil_append, List.append_nil]) (ws' := ((wO G x A now nx sz hs ahead) ++ ((wO G y B now nx2 sz2 hs2 ah2) ++ []))) (by simp only [List.append_assoc, List.nil_append, List.append_nil]) (st' := [.int (nI 1)]) rfl ⟨rfl, rfl⟩ ⟨Nat.le_of_ble_eq_true rfl, Nat.le_of_ble_eq_true rfl⟩ ?_
  refine x_if_neN (a := 1) (tgt := 169) C dL_law_164 (by decide) (by omega) (fun c1 => ?_) (fun c1 => False.elim (by omega))
  refine x_iload_n C 3 rfl dL_law_169 rfl ?_
  refine x_iconst (v := (nI 4)) C dL_law_170 (by decide) ?_
  refine x_iremN C dL_law_171 (by omega) (by omega) (by omega) ?_
  refine x_iconst (v := (nI 3)) C dL_law_172 (by decide) ?_
  refine x_icmp_neN (a := (e % 4)) (b := 3) (tgt := 208) C dL_law_173 (by decide) (by omega) (by omega) (fun c2 => ?_) (fun c2 => ?_)
  · refine x_iinc (v := (nI (e + 1))) (lv' := [(3, .int (nI (e + 1))), (0, .ref (G.2.2 4)), (1, .ref x), (2, .ref y), (4, .int v)]) C 3 rfl dL_law_208 (by rw [show Int32.ofInt 1 = nI 1 from rfl]; exact nI_add _ _) (by decide) rfl ?_
    refine x_goto (tgt := 18) C dL_law_211 (by decide) ?_
    refine x_lv [0, 1, 2, 3] (lv' := [(3, .int (nI (e + 1))), (0, .ref (G.2.2 4)), (1, .ref x), (2, .ref y)]) rfl ?_
    exact IH now nx sz hs ahead nx2 sz2 hs2 ah2 hI h1 h2 h3 h4
  · refine x_aload_n C 1 rfl dL_law_176 rfl ?_
    refine x_callSd (As := [.ref x]) (rest := []) C dL_law_177 (c_L_areSums (gX.l X) G x A now nx sz hs ahead hI.1 h1 h2 hI) ml_L_80 st_L_areSums in_L cd_L_areSums hd_L_areSums rfl rfl (Nat.le_of_ble_eq_true rfl) ⟨Nat.le_of_ble_eq_true rfl, Nat.le_of_ble_eq_true rfl⟩ [] ((wO G y B now nx2 sz2 hs2 ah2) ++ []) (by simp only [List.append_assoc, List.nil_append, List.append_nil]) (ws' := ((wO G x A now nx sz hs ahead) ++ ((wO G y B now nx2 sz2 hs2 ah2) ++ []))) (by simp only [List.append_assoc, List.nil_append, List.append_nil]) (st' := [.int (nI 1)]) rfl ⟨rfl, rfl⟩ ⟨Nat.le_of_ble_eq_true rfl, Nat.le_of_ble_eq_true rfl⟩ ?_
    refine x_if_eqN (a := 1) (tgt := 206) C dL_law_180 (by decide) (by omega) (fun c3 => False.elim (by omega)) (fun c3 => ?_)
    refine x_aload_n C 1 rfl dL_law_183 rfl ?_
    refine x_callSd (As := [.ref x]) (rest := []) C dL_law_184 (c_L_areLessonsSo (gX.l X) G x A now nx sz hs ahead hI.1 h1 h2 hI) ml_L_84 st_L_areLessonsSo in_L cd_L_areLessonsSo hd_L_areLessonsSo rfl rfl (Nat.le_of_ble_eq_true rfl) ⟨Nat.le_of_ble_eq_true rfl, Nat.le_of_ble_eq_true rfl⟩ [] ((wO G y B now nx2 sz2 hs2 ah2) ++ []) (by simp only [List.append_assoc, List.nil_append, List.append_nil]) (ws' := ((wO G x A now nx sz hs ahead) ++ ((wO G y B now nx2 sz2 hs2 ah2) ++ []))) (by simp only [List.append_assoc, List.nil_append, List.append_nil]) (st' := [.int (nI 1)]) rfl ⟨rfl, rfl⟩ ⟨Nat.le_of_ble_eq_true rfl, Nat.le_of_ble_eq_true rfl⟩ ?_
    refine x_if_eqN (a := 1) (tgt := 206) C dL_law_187 (by decide) (by omega) (fun c4 => False.elim (by omega)) (fun c4 => ?_)
    refine x_aload_n C 1 rfl dL_law_190 rfl ?_
    refine x_iload C 4 rfl dL_law_191 ?_
    refine x_iconst (v := (nI 5)) C dL_law_193 (by decide) ?_
    refine x_ishr (x := v) (y := 5) C dL_law_194 ?_
    refine x_bipush (v := (nI 12)) C dL_law_195 (by decide) ?_
    refine x_callSd (As := [.int (v >>> (5 &&& 31)), .int (nI 12)]) (rest := [.ref x]) C dL_law_197 (c_L_low (gX.l X) G (v >>> (5 &&& 31)) 12 (by omega) (by omega)) ml_L_8 st_L_low in_L cd_L_low hd_L_low rfl rfl (Nat.le_of_ble_eq_true rfl) ⟨Nat.le_of_ble_eq_true rfl, Nat.le_of_ble_eq_true rfl⟩ [] ((wO G x A now nx sz hs ahead) ++ ((wO G y B now nx2 sz2 hs2 ah2) ++ [])) rfl (ws' := ((wO G x A now nx sz hs ahead) ++ ((wO G y B now nx2 sz2 hs2 ah2) ++ []))) rfl (st' := [.int (nI (lo (v >>> (5 &&& 31)) 12)), .ref x]) rfl ⟨rfl, rfl⟩ ⟨Nat.le_of_ble_eq_true rfl, Nat.le_of_ble_eq_true rfl⟩ ?_
    refine x_callS (As := [.ref x, .int (nI (lo (v >>> (5 &&& 31)) 12))]) (rest := []) C dL_law_200 (c_L_isBestSo (gX.l X) G x A now nx sz hs ahead (lo (v >>> (5 &&& 31)) 12) hI.1 h1 h2 hI (lo_lt _ (by decide))) ml_L_87 st_L_isBestSo in_L cd_L_isBestSo hd_L_isBestSo rfl rfl (Nat.le_of_ble_eq_true rfl) ⟨Nat.le_of_ble_eq_true rfl, Nat.le_of_ble_eq_true rfl⟩ [] ((wO G y B now nx2 sz2 hs2 ah2) ++ []) (by simp only [List.append_assoc, List.nil_append, List.append_nil]) ⟨Nat.le_of_ble_eq_true rfl, Nat.le_of_ble_eq_true rfl⟩ (fun u5 => ?_)
    refine x_ws (ws' := ((wO G x A now nx sz hs (decS u5)) ++ ((wO G y B now nx2 sz2 hs2 ah2) ++ []))) (by simp only [List.append_assoc, List.nil_append, List.append_nil]) ?_
    refine (show gW G X ((wO G x A now nx sz hs (decS u5)) ++ ((wO G y B now nx2 sz2 hs2 ah2) ++ [])) 170 6310 203 [(0, .ref (G.2.2 4)), (1, .ref x), (2, .ref y), (3, .int (nI e)), (4, .int v)] [.int (nI 1)] from ?_)
    refine x_if_neN (a := 1) (tgt := 208) C dL_law_203 (by decide) (by omega) (fun c6 => ?_) (fun c6 => False.elim (by omega))
    refine x_iinc (v := (nI (e + 1))) (lv' := [(3, .int (nI (e + 1))), (0, .ref (G.2.2 4)), (1, .ref x), (2, .ref y), (4, .int v)]) C 3 rfl dL_law_208 (by rw [show Int32.ofInt 1 = nI 1 from rfl]; exact nI_add _ _) (by decide) rfl ?_
    refine x_goto (tgt := 18) C dL_law_211 (by decide) ?_
    refine x_lv [0, 1, 2, 3] (lv' := [(3, .int (nI (e + 1))), (0, .ref (G.2.2 4)), (1, .ref x), (2, .ref y)]) rfl ?_
    exact IH now nx sz hs (decS u5) nx2 sz2 hs2 ah2 hI h1 h2 h3 h4
set_option maxRecDepth 100000 in
set_option maxHeartbeats 1000000 in
theorem law_act {G : gG} {X : gX} (C : gC G X code 8 room_1 "LessonHorsesLaw") {x y : Nat} {A B : oA} {e : Nat} (he : e < 46) (IH : ∀ (now : c_S) (nx sz : Nat) (hs : Nat → c_S) (ahead : c_S) (nx2 sz2 : Nat) (hs2 : Nat → c_S) (ah2 : c_S), INV now → nx < 4 → sz ≤ 4 → nx2 < 4 → sz2 ≤ 4 → gW G X ((wO G x A now nx sz hs ahead) ++ ((wO G y B now nx2 sz2 hs2 ah2) ++ [])) 170 6310 18 [(3, .int (nI (e + 1))), (0, .ref (G.2.2 4)), (1, .ref x), (2, .ref y)] []) {now : c_S} {nx sz : Nat} {hs : Nat → c_S} {ahead : c_S} {nx2 sz2 : Nat} {hs2 : Nat → c_S} {ah2 : c_S} {v : Int32} (hI : INV now) (h1 : nx < 4) (h2 : sz ≤ 4) (h3 : nx2 < 4) (h4 : sz2 ≤ 4) : gW G X ((wO G x A now nx sz hs ahead) ++ ((wO G y B now nx2 sz2 hs2 ah2) ++ [])) 170 6310 47 [(4, .int v), (3, .int (nI e)), (0, .ref (G.2.2 4)), (1, .ref x), (2, .ref y)] [] := by
  rcases act_is hI v with ⟨t, ht, ha⟩ | ⟨t, q, ht, hq, ha⟩
  ·
    refine x_aload_n C 3 rfl dL_law_47 rfl ?_
    refine x_bipush (v := (nI 17)) C dL_law_48 (by decide) ?_
    refine x_callVd (As := [.int (nI 17)]) (rest := []) C dL_law_50 (c_N_count17 (gX.l X) G x A now nx sz hs ahead hI.1 h1 h2) ml_L_36 im_X5_count sl_X5_count in_X5 cd_X5_count hd_X5_count 0 rfl rfl rfl rfl (Nat.le_of_ble_eq_true rfl) ⟨Nat.le_of_ble_eq_true rfl, Nat.le_of_ble_eq_true rfl⟩ [] ((wO G y B now nx2 sz2 hs2 ah2) ++ []) (by simp only [List.append_assoc, List.nil_append, List.cons_append]) (ws' := ((wO G x A now nx sz hs ahead) ++ ((wO G y B now nx2 sz2 hs2 ah2) ++ []))) (by simp only [List.append_assoc, List.nil_append, List.cons_append]) (st' := [.int (nI sz)]) rfl ⟨rfl, rfl⟩ ⟨Nat.le_of_ble_eq_true rfl, Nat.le_of_ble_eq_true rfl⟩ ?_
    refine x_istore (lv' := [(5, .int (nI sz)), (4, .int v), (3, .int (nI e)), (0, .ref (G.2.2 4)), (1, .ref x), (2, .ref y)]) C dL_law_53 (by decide) rfl ?_
    refine x_aload_n C 4 rfl dL_law_55 rfl ?_
    refine x_iload C 1 rfl dL_law_56 ?_
    refine x_callSd (As := [.ref x, .int v]) (rest := []) C dL_law_58 (c_A_no (gX.l X) G x A now nx sz hs ahead v t hI.1 h1 h2 ha) ml_L_69 st_L_act in_L cd_L_act hd_L_act rfl rfl (Nat.le_of_ble_eq_true rfl) ⟨Nat.le_of_ble_eq_true rfl, Nat.le_of_ble_eq_true rfl⟩ [] ((wO G y B now nx2 sz2 hs2 ah2) ++ []) (by simp only [List.append_assoc, List.nil_append, List.append_nil]) (ws' := ((wO G x A now nx sz hs ahead) ++ ((wO G y B now nx2 sz2 hs2 ah2) ++ []))) (by simp only [List.append_assoc, List.nil_append, List.append_nil]) (st' := [.int t]) rfl ⟨rfl, rfl⟩ ⟨Nat.le_of_ble_eq_true rfl, Nat.le_of_ble_eq_true rfl⟩ ?_
    refine x_istore (lv' := [(6, .int t), (5, .int (nI sz)), (4, .int v), (3, .int (nI e)), (0, .ref (G.2.2 4)), (1, .ref x), (2, .ref y)]) C dL_law_61 (by decide) rfl ?_
    refine x_iload C 0 rfl dL_law_63 ?_
    refine x_if_ge (x := t) (tgt := 89) C dL_law_65 (by decide) (fun c1 => False.elim (by exact c1 ht)) (fun c1 => ?_)
    refine x_aload_n C 5 rfl dL_law_68 rfl ?_
    refine x_aload_n C 6 rfl dL_law_69 rfl ?_
    refine x_callSd (As := [.ref x, .ref y]) (rest := []) C dL_law_70 (c_L_areAlike (gX.l X) G x A now nx sz hs ahead y B nx2 sz2 hs2 ah2 hI.1 h1 h2 h3 h4) ml_L_73 st_L_areAlike in_L cd_L_areAlike hd_L_areAlike rfl rfl (Nat.le_of_ble_eq_true rfl) ⟨Nat.le_of_ble_eq_true rfl, Nat.le_of_ble_eq_true rfl⟩ [] [] (by simp only [List.append_assoc, List.nil_append, List.append_nil]) (ws' := ((wO G x A now nx sz hs ahead) ++ ((wO G y B now nx2 sz2 hs2 ah2) ++ []))) (by simp only [List.append_assoc, List.nil_append, List.append_nil]) (st' := [.int (nI 1)]) rfl ⟨rfl, rfl⟩ ⟨Nat.le_of_ble_eq_true rfl, Nat.le_of_ble_eq_true rfl⟩ ?_
    refine x_if_eqN (a := 1) (tgt := 87) C dL_law_73 (by decide) (by omega) (fun c2 => False.elim (by omega)) (fun c2 => ?_)
    refine x_aload_n C 5 rfl dL_law_76 rfl ?_
    refine x_bipush (v := (nI 17)) C dL_law_77 (by decide) ?_
    refine x_callVd (As := [.int (nI 17)]) (rest := []) C dL_law_79 (c_N_count17 (gX.l X) G x A now nx sz hs ahead hI.1 h1 h2) ml_L_36 im_X5_count sl_X5_count in_X5 cd_X5_count hd_X5_count 0 rfl rfl rfl rfl (Nat.le_of_ble_eq_true rfl) ⟨Nat.le_of_ble_eq_true rfl, Nat.le_of_ble_eq_true rfl⟩ [] ((wO G y B now nx2 sz2 hs2 ah2) ++ []) (by simp only [List.append_assoc, List.nil_append, List.cons_append]) (ws' := ((wO G x A now nx sz hs ahead) ++ ((wO G y B now nx2 sz2 hs2 ah2) ++ []))) (by simp only [List.append_assoc, List.nil_append, List.cons_append]) (st' := [.int (nI sz)]) rfl ⟨rfl, rfl⟩ ⟨Nat.le_of_ble_eq_true rfl, Nat.le_of_ble_eq_true rfl⟩ ?_
    refine x_iload C 1 rfl dL_law_82 ?_
    refine x_icmp_eqN (a := sz) (b := sz) (tgt := 89) C dL_law_84 (by decide) (by omega) (by omega) (fun c3 => ?_) (fun c3 => False.elim (by omega))
    refine x_iload C 0 rfl dL_law_89 ?_
    refine x_if_lt (x := t) (tgt := 148) C dL_law_91 (by decide) (fun c4 => ?_) (fun c4 => False.elim (by exact c4 ht))
    refine x_aload_n C 6 rfl dL_law_148 rfl ?_
    refine x_iload C 2 rfl dL_law_149 ?_
    refine x_callSd (As := [.ref y, .int v]) (rest := []) C dL_law_151 (c_A_no (gX.l X) G y B now nx2 sz2 hs2 ah2 v t hI.1 h3 h4 ha) ml_L_69 st_L_act in_L cd_L_act hd_L_act rfl rfl (Nat.le_of_ble_eq_true rfl) ⟨Nat.le_of_ble_eq_true rfl, Nat.le_of_ble_eq_true rfl⟩ (wO G x A now nx sz hs ahead) [] (by simp only [List.append_assoc, List.nil_append, List.append_nil]) (ws' := ((wO G x A now nx sz hs ahead) ++ ((wO G y B now nx2 sz2 hs2 ah2) ++ []))) (by simp only [List.append_assoc, List.nil_append, List.append_nil]) (st' := [.int t]) rfl ⟨rfl, rfl⟩ ⟨Nat.le_of_ble_eq_true rfl, Nat.le_of_ble_eq_true rfl⟩ ?_
    refine x_iload C 0 rfl dL_law_154 ?_
    refine x_icmp_ne (x := t) (y := t) (tgt := 167) C dL_law_156 (by decide) (fun c5 => False.elim (by exact c5 rfl)) (fun c5 => ?_)
    refine x_lv [4, 5, 6, 3, 2] (lv' := [(0, .ref (G.2.2 4)), (1, .ref x), (2, .ref y), (3, .int (nI e)), (4, .int v)]) rfl ?_
    exact law_tail C he IH hI (by omega) (by omega) (by omega) (by omega)
  ·
    refine x_aload_n C 3 rfl dL_law_47 rfl ?_
    refine x_bipush (v := (nI 17)) C dL_law_48 (by decide) ?_
    refine x_callVd (As := [.int (nI 17)]) (rest := []) C dL_law_50 (c_N_count17 (gX.l X) G x A now nx sz hs ahead hI.1 h1 h2) ml_L_36 im_X5_count sl_X5_count in_X5 cd_X5_count hd_X5_count 0 rfl rfl rfl rfl (Nat.le_of_ble_eq_true rfl) ⟨Nat.le_of_ble_eq_true rfl, Nat.le_of_ble_eq_true rfl⟩ [] ((wO G y B now nx2 sz2 hs2 ah2) ++ []) (by simp only [List.append_assoc, List.nil_append, List.cons_append]) (ws' := ((wO G x A now nx sz hs ahead) ++ ((wO G y B now nx2 sz2 hs2 ah2) ++ []))) (by simp only [List.append_assoc, List.nil_append, List.cons_append]) (st' := [.int (nI sz)]) rfl ⟨rfl, rfl⟩ ⟨Nat.le_of_ble_eq_true rfl, Nat.le_of_ble_eq_true rfl⟩ ?_
    refine x_istore (lv' := [(5, .int (nI sz)), (4, .int v), (3, .int (nI e)), (0, .ref (G.2.2 4)), (1, .ref x), (2, .ref y)]) C dL_law_53 (by decide) rfl ?_
    refine x_aload_n C 4 rfl dL_law_55 rfl ?_
    refine x_iload C 1 rfl dL_law_56 ?_
    refine x_callSd (As := [.ref x, .int v]) (rest := []) C dL_law_58 (c_A_ok (gX.l X) G x A now nx sz hs ahead v t q hI.1 h1 h2 ha) ml_L_69 st_L_act in_L cd_L_act hd_L_act rfl rfl (Nat.le_of_ble_eq_true rfl) ⟨Nat.le_of_ble_eq_true rfl, Nat.le_of_ble_eq_true rfl⟩ [] ((wO G y B now nx2 sz2 hs2 ah2) ++ []) (by simp only [List.append_assoc, List.nil_append, List.append_nil]) (ws' := ((wO G x A q ((nx + 1) % 4) (min (sz + 1) 4) (hup hs nx now) ahead) ++ ((wO G y B now nx2 sz2 hs2 ah2) ++ []))) (by simp only [List.append_assoc, List.nil_append, List.append_nil]) (st' := [.int t]) rfl ⟨rfl, rfl⟩ ⟨Nat.le_of_ble_eq_true rfl, Nat.le_of_ble_eq_true rfl⟩ ?_
    refine x_istore (lv' := [(6, .int t), (5, .int (nI sz)), (4, .int v), (3, .int (nI e)), (0, .ref (G.2.2 4)), (1, .ref x), (2, .ref y)]) C dL_law_61 (by decide) rfl ?_
    refine x_iload C 0 rfl dL_law_63 ?_
    refine x_if_ge (x := t) (tgt := 89) C dL_law_65 (by decide) (fun c1 => ?_) (fun c1 => False.elim (by exact ht c1))
    refine x_iload C 0 rfl dL_law_89 ?_
    refine x_if_lt (x := t) (tgt := 148) C dL_law_91 (by decide) (fun c2 => False.elim (by exact ht c2)) (fun c2 => ?_)
    refine x_iload C 2 rfl dL_law_94 ?_
    refine x_bipush (v := (nI 9)) C dL_law_96 (by decide) ?_
    refine x_ishr (x := v) (y := 9) C dL_law_98 ?_
    refine x_iconst (v := (nI 1)) C dL_law_99 (by decide) ?_
    refine x_iand (x := (v >>> (9 &&& 31))) (y := 1) C dL_law_100 ?_
    refine x_if_ne (x := ((v >>> (9 &&& 31)) &&& 1)) (tgt := 148) C dL_law_101 (by decide) (fun c3 => ?_) (fun c3 => ?_)
    · refine x_aload_n C 6 rfl dL_law_148 rfl ?_
      refine x_iload C 2 rfl dL_law_149 ?_
      refine x_callSd (As := [.ref y, .int v]) (rest := []) C dL_law_151 (c_A_ok (gX.l X) G y B now nx2 sz2 hs2 ah2 v t q hI.1 h3 h4 ha) ml_L_69 st_L_act in_L cd_L_act hd_L_act rfl rfl (Nat.le_of_ble_eq_true rfl) ⟨Nat.le_of_ble_eq_true rfl, Nat.le_of_ble_eq_true rfl⟩ (wO G x A q ((nx + 1) % 4) (min (sz + 1) 4) (hup hs nx now) ahead) [] (by simp only [List.append_assoc, List.nil_append, List.append_nil]) (ws' := ((wO G x A q ((nx + 1) % 4) (min (sz + 1) 4) (hup hs nx now) ahead) ++ ((wO G y B q ((nx2 + 1) % 4) (min (sz2 + 1) 4) (hup hs2 nx2 now) ah2) ++ []))) (by simp only [List.append_assoc, List.nil_append, List.append_nil]) (st' := [.int t]) rfl ⟨rfl, rfl⟩ ⟨Nat.le_of_ble_eq_true rfl, Nat.le_of_ble_eq_true rfl⟩ ?_
      refine x_iload C 0 rfl dL_law_154 ?_
      refine x_icmp_ne (x := t) (y := t) (tgt := 167) C dL_law_156 (by decide) (fun c4 => False.elim (by exact c4 rfl)) (fun c4 => ?_)
      refine x_lv [4, 5, 6, 3, 2] (lv' := [(0, .ref (G.2.2 4)), (1, .ref x), (2, .ref y), (3, .int (nI e)), (4, .int v)]) rfl ?_
      exact law_tail C he IH hq (by omega) (by omega) (by omega) (by omega)
    · refine x_aload_n C 5 rfl dL_law_104 rfl ?_
      refine x_callVd (As := []) (rest := []) C dL_law_105 (c_U_ok (gX.l X) G x A now q nx sz hs ahead hq.1 h1 h2) ml_L_77 im_X5_undo sl_X5_undo in_X5 cd_X5_undo hd_X5_undo 0 rfl rfl rfl rfl (Nat.le_of_ble_eq_true rfl) ⟨Nat.le_of_ble_eq_true rfl, Nat.le_of_ble_eq_true rfl⟩ [] ((wO G y B now nx2 sz2 hs2 ah2) ++ []) (by simp only [List.append_assoc, List.nil_append, List.append_nil]) (ws' := ((wO G x A now nx (min (sz + 1) 4 - 1) (hup hs nx now) ahead) ++ ((wO G y B now nx2 sz2 hs2 ah2) ++ []))) (by simp only [List.append_assoc, List.nil_append, List.append_nil]) (st' := [.int (nI (min (sz + 1) 4 - 1))]) rfl ⟨rfl, rfl⟩ ⟨Nat.le_of_ble_eq_true rfl, Nat.le_of_ble_eq_true rfl⟩ ?_
      refine x_istore (lv' := [(7, .int (nI (min (sz + 1) 4 - 1))), (6, .int t), (5, .int (nI sz)), (4, .int v), (3, .int (nI e)), (0, .ref (G.2.2 4)), (1, .ref x), (2, .ref y)]) C dL_law_108 (by decide) rfl ?_
      refine x_iload C 0 rfl dL_law_110 ?_
      refine x_iload C 2 rfl dL_law_112 ?_
      refine x_iconst (v := (nI 4)) C dL_law_114 (by decide) ?_
      have J6 : ∀ (y7 : Nat) , y7 = (min (sz + 1) 4 - 1) → gW G X ((wO G x A now nx (min (sz + 1) 4 - 1) (hup hs nx now) ahead) ++ ((wO G y B now nx2 sz2 hs2 ah2) ++ [])) 170 6310 124 [(7, .int (nI (min (sz + 1) 4 - 1))), (6, .int t), (5, .int (nI sz)), (4, .int v), (3, .int (nI e)), (0, .ref (G.2.2 4)), (1, .ref x), (2, .ref y)] [.int (nI y7), .int (nI (min (sz + 1) 4 - 1))] := by
        intro y7 ey7
        subst ey7
        refine x_icmp_neN (a := (min (sz + 1) 4 - 1)) (b := (min (sz + 1) 4 - 1)) (tgt := 146) C dL_law_124 (by decide) (by omega) (by omega) (fun c8 => False.elim (by omega)) (fun c8 => ?_)
        refine x_aload_n C 6 rfl dL_law_127 rfl ?_
        refine x_aload_n C 7 rfl dL_law_128 rfl ?_
        refine x_callSd (As := [.ref x, .ref y]) (rest := []) C dL_law_129 (c_L_areAlike (gX.l X) G x A now nx (min (sz + 1) 4 - 1) (hup hs nx now) ahead y B nx2 sz2 hs2 ah2 hI.1 h1 (by omega) h3 h4) ml_L_73 st_L_areAlike in_L cd_L_areAlike hd_L_areAlike rfl rfl (Nat.le_of_ble_eq_true rfl) ⟨Nat.le_of_ble_eq_true rfl, Nat.le_of_ble_eq_true rfl⟩ [] [] (by simp only [List.append_assoc, List.nil_append, List.append_nil]) (ws' := ((wO G x A now nx (min (sz + 1) 4 - 1) (hup hs nx now) ahead) ++ ((wO G y B now nx2 sz2 hs2 ah2) ++ []))) (by simp only [List.append_assoc, List.nil_append, List.append_nil]) (st' := [.int (nI 1)]) rfl ⟨rfl, rfl⟩ ⟨Nat.le_of_ble_eq_true rfl, Nat.le_of_ble_eq_true rfl⟩ ?_
        refine x_if_eqN (a := 1) (tgt := 146) C dL_law_132 (by decide) (by omega) (fun c9 => False.elim (by omega)) (fun c9 => ?_)
        refine x_aload_n C 6 rfl dL_law_135 rfl ?_
        refine x_iload C 3 rfl dL_law_136 ?_
        refine x_callSd (As := [.ref x, .int v]) (rest := []) C dL_law_138 (c_A_ok (gX.l X) G x A now nx (min (sz + 1) 4 - 1) (hup hs nx now) ahead v t q hI.1 h1 (by omega) ha) ml_L_69 st_L_act in_L cd_L_act hd_L_act rfl rfl (Nat.le_of_ble_eq_true rfl) ⟨Nat.le_of_ble_eq_true rfl, Nat.le_of_ble_eq_true rfl⟩ [] ((wO G y B now nx2 sz2 hs2 ah2) ++ []) (by simp only [List.append_assoc, List.nil_append, List.append_nil]) (ws' := ((wO G x A q ((nx + 1) % 4) (min ((min (sz + 1) 4 - 1) + 1) 4) (hup (hup hs nx now) nx now) ahead) ++ ((wO G y B now nx2 sz2 hs2 ah2) ++ []))) (by simp only [List.append_assoc, List.nil_append, List.append_nil]) (st' := [.int t]) rfl ⟨rfl, rfl⟩ ⟨Nat.le_of_ble_eq_true rfl, Nat.le_of_ble_eq_true rfl⟩ ?_
        refine x_iload C 1 rfl dL_law_141 ?_
        refine x_icmp_eq (x := t) (y := t) (tgt := 148) C dL_law_143 (by decide) (fun c10 => ?_) (fun c10 => False.elim (by exact c10 rfl))
        refine x_aload_n C 7 rfl dL_law_148 rfl ?_
        refine x_iload C 3 rfl dL_law_149 ?_
        refine x_callSd (As := [.ref y, .int v]) (rest := []) C dL_law_151 (c_A_ok (gX.l X) G y B now nx2 sz2 hs2 ah2 v t q hI.1 h3 h4 ha) ml_L_69 st_L_act in_L cd_L_act hd_L_act rfl rfl (Nat.le_of_ble_eq_true rfl) ⟨Nat.le_of_ble_eq_true rfl, Nat.le_of_ble_eq_true rfl⟩ (wO G x A q ((nx + 1) % 4) (min ((min (sz + 1) 4 - 1) + 1) 4) (hup (hup hs nx now) nx now) ahead) [] (by simp only [List.append_assoc, List.nil_append, List.append_nil]) (ws' := ((wO G x A q ((nx + 1) % 4) (min ((min (sz + 1) 4 - 1) + 1) 4) (hup (hup hs nx now) nx now) ahead) ++ ((wO G y B q ((nx2 + 1) % 4) (min (sz2 + 1) 4) (hup hs2 nx2 now) ah2) ++ []))) (by simp only [List.append_assoc, List.nil_append, List.append_nil]) (st' := [.int t]) rfl ⟨rfl, rfl⟩ ⟨Nat.le_of_ble_eq_true rfl, Nat.le_of_ble_eq_true rfl⟩ ?_
        refine x_iload C 1 rfl dL_law_154 ?_
        refine x_icmp_ne (x := t) (y := t) (tgt := 167) C dL_law_156 (by decide) (fun c11 => False.elim (by exact c11 rfl)) (fun c11 => ?_)
        refine x_lv [5, 6, 7, 4, 3] (lv' := [(0, .ref (G.2.2 4)), (1, .ref x), (2, .ref y), (3, .int (nI e)), (4, .int v)]) rfl ?_
        exact law_tail C he IH hq (by omega) (by omega) (by omega) (by omega)
      refine x_icmp_neN (a := sz) (b := 4) (tgt := 122) C dL_law_115 (by decide) (by omega) (by omega) (fun c5 => ?_) (fun c5 => ?_)
      · refine x_iload C 2 rfl dL_law_122 ?_
        exact J6 sz (by omega)
      · refine x_iconst (v := (nI 3)) C dL_law_118 (by decide) ?_
        refine x_goto (tgt := 124) C dL_law_119 (by decide) ?_
        exact J6 3 (by omega)
