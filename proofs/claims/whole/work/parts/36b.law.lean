set_option maxRecDepth 100000 in
set_option maxHeartbeats 1000000 in
theorem law_k_setHorse {G : gG} {X : gX} (C : gC G X code 4 room_1 "LessonHorsesLaw") {b L : Nat} {xs : Nat → Int32} (hX : va_X b L xs (gX.s X) (gX.s X).heap) (hbl : b < (gX.s X).heap.size) (hbA : ¬ gX.A X b) (hL : L ≤ 2048) {x : Nat} {n m o e : Nat → Nat} {bb : Nat → Nat → Nat} {t p a : Nat → Nat} {kc ks i : Nat} (hf : kc ≤ room_1.cells ∧ ks ≤ room_1.slots) (hi4 : i + 4 ≤ L) (K : wLP G X b x n m o e bb t p a kc ks (i + 4)) {now : c_S} {nx sz : Nat} {hs : Nat → c_S} {ahead snap : c_S} {has : Int32} {tc : Nat → Int32} {en pz pp : Nat} {pn ph pr : Int32} {pe : Nat → Int32} {s as_ hi : Nat → Int32} {kn : Nat} {sn : Nat → Int32} {ik : Int32} {tx : Nat → Int32} {ln : Nat} {it wl : Nat → Int32} {sp : Nat} {iw : Int32} {rs : Nat} {er : Int32} (W : LW now nx sz hs snap has tc en s hi kn sn ik tx ln) : gW G X (wC G x n m o e bb t p now nx sz hs ahead snap has tc en pz pp pn ph pr pe ++ (wM G a s as_ hi kn sn ik tx ln it wl sp iw rs er ++ [])) kc ks 136 [(3, .int (nI i)), (2, .ref (a 0)), (1, .ref x), (0, .ref b)] [] := by
  obtain ⟨hR, hT, hH, e1, hS, e2, e3, hen, hch⟩ := W
  have e4 := hH.1
  subst e1
  subst e2
  subst e3
  subst e4
  have W : LW now nx sz hs snap has tc en s hi sz sn has tc en := ⟨hR, hT, hH, rfl, hS, rfl, rfl, hen, hch⟩
  have hM := RR_okM hR
  have hSS : okS 10000 now := RR_okS hR (by omega)
  have hnx := hH.2.2.1
  have hk := hH.2.1
  have OK := v_setHorse (xs (i + 1)) (xs (i + 2)) (xs (i + 3)) hH hR hT
  refine x_aload_n C 2 rfl dL_law_136 rfl ?_
  refine x_aload_n C 3 rfl dL_law_137 rfl ?_
  refine x_iload_n C 0 rfl dL_law_138 rfl ?_
  refine x_iconst (v := nI 1) C dL_law_139 (by decide) ?_
  refine x_iaddN C dL_law_140 ?_
  refine x_sld C hX hbl hbA hL (j := i + 1) (by omega) dL_law_141 ?_
  refine x_aload_n C 3 rfl dL_law_142 rfl ?_
  refine x_iload_n C 0 rfl dL_law_143 rfl ?_
  refine x_iconst (v := nI 2) C dL_law_144 (by decide) ?_
  refine x_iaddN C dL_law_145 ?_
  refine x_sld C hX hbl hbA hL (j := i + 2) (by omega) dL_law_146 ?_
  refine x_aload_n C 3 rfl dL_law_147 rfl ?_
  refine x_iload_n C 0 rfl dL_law_148 rfl ?_
  refine x_iconst (v := nI 3) C dL_law_149 (by decide) ?_
  refine x_iaddN C dL_law_150 ?_
  refine x_sld C hX hbl hbA hL (j := i + 3) (by omega) dL_law_151 ?_
  refine x_callVd (As := [.int (xs (i + 1)), .int (xs (i + 2)), .int (xs (i + 3))]) (rest := []) C dL_law_152 (c_X5_setHorse (gX.l X) G x n m o e bb t p now nx sz hs ahead snap has tc en pz pp pn ph pr pe (xs (i + 1)) (xs (i + 2)) (xs (i + 3)) hSS hnx hk) ml_L_13 im_X5_setHorse sl_X5_setHorse in_X5 cd_X5_setHorse hd_X5_setHorse 0 rfl rfl rfl rfl (Nat.le_of_ble_eq_true rfl) ⟨Nat.le_of_ble_eq_true rfl, Nat.le_of_ble_eq_true rfl⟩ [] (wM G a s as_ hi sz sn has tc en it wl sp iw rs er ++ []) rfl (ws' := (wC G x n m o e bb t p ((kX_setHorse now hs nx sz (xs (i + 1)) (xs (i + 2)) (xs (i + 3))).2.1) ((kX_setHorse now hs nx sz (xs (i + 1)) (xs (i + 2)) (xs (i + 3))).2.2.2.1) ((kX_setHorse now hs nx sz (xs (i + 1)) (xs (i + 2)) (xs (i + 3))).2.2.2.2) ((kX_setHorse now hs nx sz (xs (i + 1)) (xs (i + 2)) (xs (i + 3))).2.2.1) ahead snap has tc en pz pp pn ph pr pe ++ (wM G a s as_ hi sz sn has tc en it wl sp iw rs er ++ []))) rfl (st' := [.int ((kX_setHorse now hs nx sz (xs (i + 1)) (xs (i + 2)) (xs (i + 3))).1)]) rfl ⟨rfl, rfl⟩ hf ?_
  refine x_aload_n C 1 rfl dL_law_155 rfl ?_
  refine x_aload_n C 3 rfl dL_law_156 rfl ?_
  refine x_iload_n C 0 rfl dL_law_157 rfl ?_
  refine x_iconst (v := nI 1) C dL_law_158 (by decide) ?_
  refine x_iaddN C dL_law_159 ?_
  refine x_sld C hX hbl hbA hL (j := i + 1) (by omega) dL_law_160 ?_
  refine x_aload_n C 3 rfl dL_law_161 rfl ?_
  refine x_iload_n C 0 rfl dL_law_162 rfl ?_
  refine x_iconst (v := nI 2) C dL_law_163 (by decide) ?_
  refine x_iaddN C dL_law_164 ?_
  refine x_sld C hX hbl hbA hL (j := i + 2) (by omega) dL_law_165 ?_
  refine x_aload_n C 3 rfl dL_law_166 rfl ?_
  refine x_iload_n C 0 rfl dL_law_167 rfl ?_
  refine x_iconst (v := nI 3) C dL_law_168 (by decide) ?_
  refine x_iaddN C dL_law_169 ?_
  refine x_sld C hX hbl hbA hL (j := i + 3) (by omega) dL_law_170 ?_
  refine x_callVd (As := [.int (xs (i + 1)), .int (xs (i + 2)), .int (xs (i + 3))]) (rest := [.int ((kX_setHorse now hs nx sz (xs (i + 1)) (xs (i + 2)) (xs (i + 3))).1)]) C dL_law_171 (c_X6_setHorse (gX.l X) G a s as_ hi sz sn has tc en it wl sp iw rs er (xs (i + 1)) (xs (i + 2)) (xs (i + 3)) hk) ml_L_17 im_X6_setHorse sl_X6_setHorse in_X6 cd_X6_setHorse hd_X6_setHorse 0 rfl rfl rfl rfl (Nat.le_of_ble_eq_true rfl) ⟨Nat.le_of_ble_eq_true rfl, Nat.le_of_ble_eq_true rfl⟩ (wC G x n m o e bb t p ((kX_setHorse now hs nx sz (xs (i + 1)) (xs (i + 2)) (xs (i + 3))).2.1) ((kX_setHorse now hs nx sz (xs (i + 1)) (xs (i + 2)) (xs (i + 3))).2.2.2.1) ((kX_setHorse now hs nx sz (xs (i + 1)) (xs (i + 2)) (xs (i + 3))).2.2.2.2) ((kX_setHorse now hs nx sz (xs (i + 1)) (xs (i + 2)) (xs (i + 3))).2.2.1) ahead snap has tc en pz pp pn ph pr pe) [] rfl (ws' := (wC G x n m o e bb t p ((kX_setHorse now hs nx sz (xs (i + 1)) (xs (i + 2)) (xs (i + 3))).2.1) ((kX_setHorse now hs nx sz (xs (i + 1)) (xs (i + 2)) (xs (i + 3))).2.2.2.1) ((kX_setHorse now hs nx sz (xs (i + 1)) (xs (i + 2)) (xs (i + 3))).2.2.2.2) ((kX_setHorse now hs nx sz (xs (i + 1)) (xs (i + 2)) (xs (i + 3))).2.2.1) ahead snap has tc en pz pp pn ph pr pe ++ (wM G a ((mX_setHorse s hi sz (xs (i + 1)) (xs (i + 2)) (xs (i + 3))).2.1) as_ ((mX_setHorse s hi sz (xs (i + 1)) (xs (i + 2)) (xs (i + 3))).2.2.1) ((mX_setHorse s hi sz (xs (i + 1)) (xs (i + 2)) (xs (i + 3))).2.2.2) sn has tc en it wl sp iw rs er ++ []))) rfl (st' := [.int ((mX_setHorse s hi sz (xs (i + 1)) (xs (i + 2)) (xs (i + 3))).1), .int ((kX_setHorse now hs nx sz (xs (i + 1)) (xs (i + 2)) (xs (i + 3))).1)]) rfl ⟨rfl, rfl⟩ hf ?_
  refine x_icmp_eq (tgt := 744) C dL_law_174 (by decide) (fun _ => ?_) (fun h => absurd OK.1 h)
  refine x_iinc (v := nI (i + 4)) (lv' := [(3, .int (nI (i + 4))), (2, .ref (a 0)), (1, .ref x), (0, .ref b)]) C 0 rfl dL_law_744 (by rw [show Int32.ofInt 4 = nI 4 from rfl]; exact nI_add _ _) (by decide) rfl ?_
  refine x_goto (tgt := 18) C dL_law_747 (by decide) ?_
  exact K _ _ _ _ _ _ _ _ _ _ _ _ _ _ _ _ _ _ _ _ _ _ _ _ _ _ _ _ _ (LW_act W OK)
set_option maxRecDepth 100000 in
set_option maxHeartbeats 1000000 in
theorem law_k_setRider {G : gG} {X : gX} (C : gC G X code 4 room_1 "LessonHorsesLaw") {b L : Nat} {xs : Nat → Int32} (hX : va_X b L xs (gX.s X) (gX.s X).heap) (hbl : b < (gX.s X).heap.size) (hbA : ¬ gX.A X b) (hL : L ≤ 2048) {x : Nat} {n m o e : Nat → Nat} {bb : Nat → Nat → Nat} {t p a : Nat → Nat} {kc ks i : Nat} (hf : kc ≤ room_1.cells ∧ ks ≤ room_1.slots) (hi4 : i + 4 ≤ L) (K : wLP G X b x n m o e bb t p a kc ks (i + 4)) {now : c_S} {nx sz : Nat} {hs : Nat → c_S} {ahead snap : c_S} {has : Int32} {tc : Nat → Int32} {en pz pp : Nat} {pn ph pr : Int32} {pe : Nat → Int32} {s as_ hi : Nat → Int32} {kn : Nat} {sn : Nat → Int32} {ik : Int32} {tx : Nat → Int32} {ln : Nat} {it wl : Nat → Int32} {sp : Nat} {iw : Int32} {rs : Nat} {er : Int32} (W : LW now nx sz hs snap has tc en s hi kn sn ik tx ln) : gW G X (wC G x n m o e bb t p now nx sz hs ahead snap has tc en pz pp pn ph pr pe ++ (wM G a s as_ hi kn sn ik tx ln it wl sp iw rs er ++ [])) kc ks 179 [(3, .int (nI i)), (2, .ref (a 0)), (1, .ref x), (0, .ref b)] [] := by
  obtain ⟨hR, hT, hH, e1, hS, e2, e3, hen, hch⟩ := W
  have e4 := hH.1
  subst e1
  subst e2
  subst e3
  subst e4
  have W : LW now nx sz hs snap has tc en s hi sz sn has tc en := ⟨hR, hT, hH, rfl, hS, rfl, rfl, hen, hch⟩
  have hM := RR_okM hR
  have hSS : okS 10000 now := RR_okS hR (by omega)
  have hnx := hH.2.2.1
  have hk := hH.2.1
  have OK := v_setRider (xs (i + 1)) (xs (i + 2)) (xs (i + 3)) hH hR hT
  refine x_aload_n C 2 rfl dL_law_179 rfl ?_
  refine x_aload_n C 3 rfl dL_law_180 rfl ?_
  refine x_iload_n C 0 rfl dL_law_181 rfl ?_
  refine x_iconst (v := nI 1) C dL_law_182 (by decide) ?_
  refine x_iaddN C dL_law_183 ?_
  refine x_sld C hX hbl hbA hL (j := i + 1) (by omega) dL_law_184 ?_
  refine x_aload_n C 3 rfl dL_law_185 rfl ?_
  refine x_iload_n C 0 rfl dL_law_186 rfl ?_
  refine x_iconst (v := nI 2) C dL_law_187 (by decide) ?_
  refine x_iaddN C dL_law_188 ?_
  refine x_sld C hX hbl hbA hL (j := i + 2) (by omega) dL_law_189 ?_
  refine x_aload_n C 3 rfl dL_law_190 rfl ?_
  refine x_iload_n C 0 rfl dL_law_191 rfl ?_
  refine x_iconst (v := nI 3) C dL_law_192 (by decide) ?_
  refine x_iaddN C dL_law_193 ?_
  refine x_sld C hX hbl hbA hL (j := i + 3) (by omega) dL_law_194 ?_
  refine x_callVd (As := [.int (xs (i + 1)), .int (xs (i + 2)), .int (xs (i + 3))]) (rest := []) C dL_law_195 (c_X5_setRider (gX.l X) G x n m o e bb t p now nx sz hs ahead snap has tc en pz pp pn ph pr pe (xs (i + 1)) (xs (i + 2)) (xs (i + 3)) hSS hnx hk) ml_L_18 im_X5_setRider sl_X5_setRider in_X5 cd_X5_setRider hd_X5_setRider 0 rfl rfl rfl rfl (Nat.le_of_ble_eq_true rfl) ⟨Nat.le_of_ble_eq_true rfl, Nat.le_of_ble_eq_true rfl⟩ [] (wM G a s as_ hi sz sn has tc en it wl sp iw rs er ++ []) rfl (ws' := (wC G x n m o e bb t p ((kX_setRider now hs nx sz (xs (i + 1)) (xs (i + 2)) (xs (i + 3))).2.1) ((kX_setRider now hs nx sz (xs (i + 1)) (xs (i + 2)) (xs (i + 3))).2.2.2.1) ((kX_setRider now hs nx sz (xs (i + 1)) (xs (i + 2)) (xs (i + 3))).2.2.2.2) ((kX_setRider now hs nx sz (xs (i + 1)) (xs (i + 2)) (xs (i + 3))).2.2.1) ahead snap has tc en pz pp pn ph pr pe ++ (wM G a s as_ hi sz sn has tc en it wl sp iw rs er ++ []))) rfl (st' := [.int ((kX_setRider now hs nx sz (xs (i + 1)) (xs (i + 2)) (xs (i + 3))).1)]) rfl ⟨rfl, rfl⟩ hf ?_
  refine x_aload_n C 1 rfl dL_law_198 rfl ?_
  refine x_aload_n C 3 rfl dL_law_199 rfl ?_
  refine x_iload_n C 0 rfl dL_law_200 rfl ?_
  refine x_iconst (v := nI 1) C dL_law_201 (by decide) ?_
  refine x_iaddN C dL_law_202 ?_
  refine x_sld C hX hbl hbA hL (j := i + 1) (by omega) dL_law_203 ?_
  refine x_aload_n C 3 rfl dL_law_204 rfl ?_
  refine x_iload_n C 0 rfl dL_law_205 rfl ?_
  refine x_iconst (v := nI 2) C dL_law_206 (by decide) ?_
  refine x_iaddN C dL_law_207 ?_
  refine x_sld C hX hbl hbA hL (j := i + 2) (by omega) dL_law_208 ?_
  refine x_aload_n C 3 rfl dL_law_209 rfl ?_
  refine x_iload_n C 0 rfl dL_law_210 rfl ?_
  refine x_iconst (v := nI 3) C dL_law_211 (by decide) ?_
  refine x_iaddN C dL_law_212 ?_
  refine x_sld C hX hbl hbA hL (j := i + 3) (by omega) dL_law_213 ?_
  refine x_callVd (As := [.int (xs (i + 1)), .int (xs (i + 2)), .int (xs (i + 3))]) (rest := [.int ((kX_setRider now hs nx sz (xs (i + 1)) (xs (i + 2)) (xs (i + 3))).1)]) C dL_law_214 (c_X6_setRider (gX.l X) G a s as_ hi sz sn has tc en it wl sp iw rs er (xs (i + 1)) (xs (i + 2)) (xs (i + 3)) hk) ml_L_21 im_X6_setRider sl_X6_setRider in_X6 cd_X6_setRider hd_X6_setRider 0 rfl rfl rfl rfl (Nat.le_of_ble_eq_true rfl) ⟨Nat.le_of_ble_eq_true rfl, Nat.le_of_ble_eq_true rfl⟩ (wC G x n m o e bb t p ((kX_setRider now hs nx sz (xs (i + 1)) (xs (i + 2)) (xs (i + 3))).2.1) ((kX_setRider now hs nx sz (xs (i + 1)) (xs (i + 2)) (xs (i + 3))).2.2.2.1) ((kX_setRider now hs nx sz (xs (i + 1)) (xs (i + 2)) (xs (i + 3))).2.2.2.2) ((kX_setRider now hs nx sz (xs (i + 1)) (xs (i + 2)) (xs (i + 3))).2.2.1) ahead snap has tc en pz pp pn ph pr pe) [] rfl (ws' := (wC G x n m o e bb t p ((kX_setRider now hs nx sz (xs (i + 1)) (xs (i + 2)) (xs (i + 3))).2.1) ((kX_setRider now hs nx sz (xs (i + 1)) (xs (i + 2)) (xs (i + 3))).2.2.2.1) ((kX_setRider now hs nx sz (xs (i + 1)) (xs (i + 2)) (xs (i + 3))).2.2.2.2) ((kX_setRider now hs nx sz (xs (i + 1)) (xs (i + 2)) (xs (i + 3))).2.2.1) ahead snap has tc en pz pp pn ph pr pe ++ (wM G a ((mX_setRider s hi sz (xs (i + 1)) (xs (i + 2)) (xs (i + 3))).2.1) as_ ((mX_setRider s hi sz (xs (i + 1)) (xs (i + 2)) (xs (i + 3))).2.2.1) ((mX_setRider s hi sz (xs (i + 1)) (xs (i + 2)) (xs (i + 3))).2.2.2) sn has tc en it wl sp iw rs er ++ []))) rfl (st' := [.int ((mX_setRider s hi sz (xs (i + 1)) (xs (i + 2)) (xs (i + 3))).1), .int ((kX_setRider now hs nx sz (xs (i + 1)) (xs (i + 2)) (xs (i + 3))).1)]) rfl ⟨rfl, rfl⟩ hf ?_
  refine x_icmp_eq (tgt := 744) C dL_law_217 (by decide) (fun _ => ?_) (fun h => absurd OK.1 h)
  refine x_iinc (v := nI (i + 4)) (lv' := [(3, .int (nI (i + 4))), (2, .ref (a 0)), (1, .ref x), (0, .ref b)]) C 0 rfl dL_law_744 (by rw [show Int32.ofInt 4 = nI 4 from rfl]; exact nI_add _ _) (by decide) rfl ?_
  refine x_goto (tgt := 18) C dL_law_747 (by decide) ?_
  exact K _ _ _ _ _ _ _ _ _ _ _ _ _ _ _ _ _ _ _ _ _ _ _ _ _ _ _ _ _ (LW_act W OK)
set_option maxRecDepth 100000 in
set_option maxHeartbeats 1000000 in
theorem law_k_set {G : gG} {X : gX} (C : gC G X code 4 room_1 "LessonHorsesLaw") {b L : Nat} {xs : Nat → Int32} (hX : va_X b L xs (gX.s X) (gX.s X).heap) (hbl : b < (gX.s X).heap.size) (hbA : ¬ gX.A X b) (hL : L ≤ 2048) {x : Nat} {n m o e : Nat → Nat} {bb : Nat → Nat → Nat} {t p a : Nat → Nat} {kc ks i : Nat} (hf : kc ≤ room_1.cells ∧ ks ≤ room_1.slots) (hi4 : i + 4 ≤ L) (K : wLP G X b x n m o e bb t p a kc ks (i + 4)) {now : c_S} {nx sz : Nat} {hs : Nat → c_S} {ahead snap : c_S} {has : Int32} {tc : Nat → Int32} {en pz pp : Nat} {pn ph pr : Int32} {pe : Nat → Int32} {s as_ hi : Nat → Int32} {kn : Nat} {sn : Nat → Int32} {ik : Int32} {tx : Nat → Int32} {ln : Nat} {it wl : Nat → Int32} {sp : Nat} {iw : Int32} {rs : Nat} {er : Int32} (W : LW now nx sz hs snap has tc en s hi kn sn ik tx ln) : gW G X (wC G x n m o e bb t p now nx sz hs ahead snap has tc en pz pp pn ph pr pe ++ (wM G a s as_ hi kn sn ik tx ln it wl sp iw rs er ++ [])) kc ks 222 [(3, .int (nI i)), (2, .ref (a 0)), (1, .ref x), (0, .ref b)] [] := by
  obtain ⟨hR, hT, hH, e1, hS, e2, e3, hen, hch⟩ := W
  have e4 := hH.1
  subst e1
  subst e2
  subst e3
  subst e4
  have W : LW now nx sz hs snap has tc en s hi sz sn has tc en := ⟨hR, hT, hH, rfl, hS, rfl, rfl, hen, hch⟩
  have hM := RR_okM hR
  have hSS : okS 10000 now := RR_okS hR (by omega)
  have hnx := hH.2.2.1
  have hk := hH.2.1
  have OK := v_set (xs (i + 1)) (xs (i + 2)) hH hR hT
  refine x_aload_n C 2 rfl dL_law_222 rfl ?_
  refine x_aload_n C 3 rfl dL_law_223 rfl ?_
  refine x_iload_n C 0 rfl dL_law_224 rfl ?_
  refine x_iconst (v := nI 1) C dL_law_225 (by decide) ?_
  refine x_iaddN C dL_law_226 ?_
  refine x_sld C hX hbl hbA hL (j := i + 1) (by omega) dL_law_227 ?_
  refine x_aload_n C 3 rfl dL_law_228 rfl ?_
  refine x_iload_n C 0 rfl dL_law_229 rfl ?_
  refine x_iconst (v := nI 2) C dL_law_230 (by decide) ?_
  refine x_iaddN C dL_law_231 ?_
  refine x_sld C hX hbl hbA hL (j := i + 2) (by omega) dL_law_232 ?_
  refine x_callVd (As := [.int (xs (i + 1)), .int (xs (i + 2))]) (rest := []) C dL_law_233 (c_X5_set (gX.l X) G x n m o e bb t p now nx sz hs ahead snap has tc en pz pp pn ph pr pe (xs (i + 1)) (xs (i + 2)) hSS hnx hk) ml_L_22 im_X5_set sl_X5_set in_X5 cd_X5_set hd_X5_set 0 rfl rfl rfl rfl (Nat.le_of_ble_eq_true rfl) ⟨Nat.le_of_ble_eq_true rfl, Nat.le_of_ble_eq_true rfl⟩ [] (wM G a s as_ hi sz sn has tc en it wl sp iw rs er ++ []) rfl (ws' := (wC G x n m o e bb t p ((kX_set now hs nx sz (xs (i + 1)) (xs (i + 2))).2.1) ((kX_set now hs nx sz (xs (i + 1)) (xs (i + 2))).2.2.2.1) ((kX_set now hs nx sz (xs (i + 1)) (xs (i + 2))).2.2.2.2) ((kX_set now hs nx sz (xs (i + 1)) (xs (i + 2))).2.2.1) ahead snap has tc en pz pp pn ph pr pe ++ (wM G a s as_ hi sz sn has tc en it wl sp iw rs er ++ []))) rfl (st' := [.int ((kX_set now hs nx sz (xs (i + 1)) (xs (i + 2))).1)]) rfl ⟨rfl, rfl⟩ hf ?_
  refine x_aload_n C 1 rfl dL_law_236 rfl ?_
  refine x_aload_n C 3 rfl dL_law_237 rfl ?_
  refine x_iload_n C 0 rfl dL_law_238 rfl ?_
  refine x_iconst (v := nI 1) C dL_law_239 (by decide) ?_
  refine x_iaddN C dL_law_240 ?_
  refine x_sld C hX hbl hbA hL (j := i + 1) (by omega) dL_law_241 ?_
  refine x_aload_n C 3 rfl dL_law_242 rfl ?_
  refine x_iload_n C 0 rfl dL_law_243 rfl ?_
  refine x_iconst (v := nI 2) C dL_law_244 (by decide) ?_
  refine x_iaddN C dL_law_245 ?_
  refine x_sld C hX hbl hbA hL (j := i + 2) (by omega) dL_law_246 ?_
  refine x_callVd (As := [.int (xs (i + 1)), .int (xs (i + 2))]) (rest := [.int ((kX_set now hs nx sz (xs (i + 1)) (xs (i + 2))).1)]) C dL_law_247 (c_X6_set (gX.l X) G a s as_ hi sz sn has tc en it wl sp iw rs er (xs (i + 1)) (xs (i + 2)) hk) ml_L_26 im_X6_set sl_X6_set in_X6 cd_X6_set hd_X6_set 0 rfl rfl rfl rfl (Nat.le_of_ble_eq_true rfl) ⟨Nat.le_of_ble_eq_true rfl, Nat.le_of_ble_eq_true rfl⟩ (wC G x n m o e bb t p ((kX_set now hs nx sz (xs (i + 1)) (xs (i + 2))).2.1) ((kX_set now hs nx sz (xs (i + 1)) (xs (i + 2))).2.2.2.1) ((kX_set now hs nx sz (xs (i + 1)) (xs (i + 2))).2.2.2.2) ((kX_set now hs nx sz (xs (i + 1)) (xs (i + 2))).2.2.1) ahead snap has tc en pz pp pn ph pr pe) [] rfl (ws' := (wC G x n m o e bb t p ((kX_set now hs nx sz (xs (i + 1)) (xs (i + 2))).2.1) ((kX_set now hs nx sz (xs (i + 1)) (xs (i + 2))).2.2.2.1) ((kX_set now hs nx sz (xs (i + 1)) (xs (i + 2))).2.2.2.2) ((kX_set now hs nx sz (xs (i + 1)) (xs (i + 2))).2.2.1) ahead snap has tc en pz pp pn ph pr pe ++ (wM G a ((mX_set s hi sz (xs (i + 1)) (xs (i + 2))).2.1) as_ ((mX_set s hi sz (xs (i + 1)) (xs (i + 2))).2.2.1) ((mX_set s hi sz (xs (i + 1)) (xs (i + 2))).2.2.2) sn has tc en it wl sp iw rs er ++ []))) rfl (st' := [.int ((mX_set s hi sz (xs (i + 1)) (xs (i + 2))).1), .int ((kX_set now hs nx sz (xs (i + 1)) (xs (i + 2))).1)]) rfl ⟨rfl, rfl⟩ hf ?_
  refine x_icmp_eq (tgt := 744) C dL_law_250 (by decide) (fun _ => ?_) (fun h => absurd OK.1 h)
  refine x_iinc (v := nI (i + 4)) (lv' := [(3, .int (nI (i + 4))), (2, .ref (a 0)), (1, .ref x), (0, .ref b)]) C 0 rfl dL_law_744 (by rw [show Int32.ofInt 4 = nI 4 from rfl]; exact nI_add _ _) (by decide) rfl ?_
  refine x_goto (tgt := 18) C dL_law_747 (by decide) ?_
  exact K _ _ _ _ _ _ _ _ _ _ _ _ _ _ _ _ _ _ _ _ _ _ _ _ _ _ _ _ _ (LW_act W OK)
set_option maxRecDepth 100000 in
set_option maxHeartbeats 1000000 in
theorem law_k_book {G : gG} {X : gX} (C : gC G X code 4 room_1 "LessonHorsesLaw") {b L : Nat} {xs : Nat → Int32} (hX : va_X b L xs (gX.s X) (gX.s X).heap) (hbl : b < (gX.s X).heap.size) (hbA : ¬ gX.A X b) (hL : L ≤ 2048) {x : Nat} {n m o e : Nat → Nat} {bb : Nat → Nat → Nat} {t p a : Nat → Nat} {kc ks i : Nat} (hf : kc ≤ room_1.cells ∧ ks ≤ room_1.slots) (hi4 : i + 4 ≤ L) (K : wLP G X b x n m o e bb t p a kc ks (i + 4)) {now : c_S} {nx sz : Nat} {hs : Nat → c_S} {ahead snap : c_S} {has : Int32} {tc : Nat → Int32} {en pz pp : Nat} {pn ph pr : Int32} {pe : Nat → Int32} {s as_ hi : Nat → Int32} {kn : Nat} {sn : Nat → Int32} {ik : Int32} {tx : Nat → Int32} {ln : Nat} {it wl : Nat → Int32} {sp : Nat} {iw : Int32} {rs : Nat} {er : Int32} (W : LW now nx sz hs snap has tc en s hi kn sn ik tx ln) : gW G X (wC G x n m o e bb t p now nx sz hs ahead snap has tc en pz pp pn ph pr pe ++ (wM G a s as_ hi kn sn ik tx ln it wl sp iw rs er ++ [])) kc ks 255 [(3, .int (nI i)), (2, .ref (a 0)), (1, .ref x), (0, .ref b)] [] := by
  obtain ⟨hR, hT, hH, e1, hS, e2, e3, hen, hch⟩ := W
  have e4 := hH.1
  subst e1
  subst e2
  subst e3
  subst e4
  have W : LW now nx sz hs snap has tc en s hi sz sn has tc en := ⟨hR, hT, hH, rfl, hS, rfl, rfl, hen, hch⟩
  have hM := RR_okM hR
  have hSS : okS 10000 now := RR_okS hR (by omega)
  have hnx := hH.2.2.1
  have hk := hH.2.1
  have OK := v_book (as_ := as_) (xs (i + 1)) (xs (i + 2)) (xs (i + 3)) hH hR hT
  refine x_aload_n C 2 rfl dL_law_255 rfl ?_
  refine x_aload_n C 3 rfl dL_law_256 rfl ?_
  refine x_iload_n C 0 rfl dL_law_257 rfl ?_
  refine x_iconst (v := nI 1) C dL_law_258 (by decide) ?_
  refine x_iaddN C dL_law_259 ?_
  refine x_sld C hX hbl hbA hL (j := i + 1) (by omega) dL_law_260 ?_
  refine x_aload_n C 3 rfl dL_law_261 rfl ?_
  refine x_iload_n C 0 rfl dL_law_262 rfl ?_
  refine x_iconst (v := nI 2) C dL_law_263 (by decide) ?_
  refine x_iaddN C dL_law_264 ?_
  refine x_sld C hX hbl hbA hL (j := i + 2) (by omega) dL_law_265 ?_
  refine x_aload_n C 3 rfl dL_law_266 rfl ?_
  refine x_iload_n C 0 rfl dL_law_267 rfl ?_
  refine x_iconst (v := nI 3) C dL_law_268 (by decide) ?_
  refine x_iaddN C dL_law_269 ?_
  refine x_sld C hX hbl hbA hL (j := i + 3) (by omega) dL_law_270 ?_
  refine x_callVd (As := [.int (xs (i + 1)), .int (xs (i + 2)), .int (xs (i + 3))]) (rest := []) C dL_law_271 (c_X5_book (gX.l X) G x n m o e bb t p now nx sz hs ahead snap has tc en pz pp pn ph pr pe (xs (i + 1)) (xs (i + 2)) (xs (i + 3)) hSS hnx hk) ml_L_27 im_X5_book sl_X5_book in_X5 cd_X5_book hd_X5_book 0 rfl rfl rfl rfl (Nat.le_of_ble_eq_true rfl) ⟨Nat.le_of_ble_eq_true rfl, Nat.le_of_ble_eq_true rfl⟩ [] (wM G a s as_ hi sz sn has tc en it wl sp iw rs er ++ []) rfl (ws' := (wC G x n m o e bb t p ((kX_book now hs nx sz (xs (i + 1)) (xs (i + 2)) (xs (i + 3))).2.1) ((kX_book now hs nx sz (xs (i + 1)) (xs (i + 2)) (xs (i + 3))).2.2.2.1) ((kX_book now hs nx sz (xs (i + 1)) (xs (i + 2)) (xs (i + 3))).2.2.2.2) ((kX_book now hs nx sz (xs (i + 1)) (xs (i + 2)) (xs (i + 3))).2.2.1) ahead snap has tc en pz pp pn ph pr pe ++ (wM G a s as_ hi sz sn has tc en it wl sp iw rs er ++ []))) rfl (st' := [.int ((kX_book now hs nx sz (xs (i + 1)) (xs (i + 2)) (xs (i + 3))).1)]) rfl ⟨rfl, rfl⟩ hf ?_
  refine x_aload_n C 1 rfl dL_law_274 rfl ?_
  refine x_aload_n C 3 rfl dL_law_275 rfl ?_
  refine x_iload_n C 0 rfl dL_law_276 rfl ?_
  refine x_iconst (v := nI 1) C dL_law_277 (by decide) ?_
  refine x_iaddN C dL_law_278 ?_
  refine x_sld C hX hbl hbA hL (j := i + 1) (by omega) dL_law_279 ?_
  refine x_aload_n C 3 rfl dL_law_280 rfl ?_
  refine x_iload_n C 0 rfl dL_law_281 rfl ?_
  refine x_iconst (v := nI 2) C dL_law_282 (by decide) ?_
  refine x_iaddN C dL_law_283 ?_
  refine x_sld C hX hbl hbA hL (j := i + 2) (by omega) dL_law_284 ?_
  refine x_aload_n C 3 rfl dL_law_285 rfl ?_
  refine x_iload_n C 0 rfl dL_law_286 rfl ?_
  refine x_iconst (v := nI 3) C dL_law_287 (by decide) ?_
  refine x_iaddN C dL_law_288 ?_
  refine x_sld C hX hbl hbA hL (j := i + 3) (by omega) dL_law_289 ?_
  refine x_callVd (As := [.int (xs (i + 1)), .int (xs (i + 2)), .int (xs (i + 3))]) (rest := [.int ((kX_book now hs nx sz (xs (i + 1)) (xs (i + 2)) (xs (i + 3))).1)]) C dL_law_290 (c_X6_book (gX.l X) G a s as_ hi sz sn has tc en it wl sp iw rs er (xs (i + 1)) (xs (i + 2)) (xs (i + 3)) hM.2.1 hk) ml_L_30 im_X6_book sl_X6_book in_X6 cd_X6_book hd_X6_book 0 rfl rfl rfl rfl (Nat.le_of_ble_eq_true rfl) ⟨Nat.le_of_ble_eq_true rfl, Nat.le_of_ble_eq_true rfl⟩ (wC G x n m o e bb t p ((kX_book now hs nx sz (xs (i + 1)) (xs (i + 2)) (xs (i + 3))).2.1) ((kX_book now hs nx sz (xs (i + 1)) (xs (i + 2)) (xs (i + 3))).2.2.2.1) ((kX_book now hs nx sz (xs (i + 1)) (xs (i + 2)) (xs (i + 3))).2.2.2.2) ((kX_book now hs nx sz (xs (i + 1)) (xs (i + 2)) (xs (i + 3))).2.2.1) ahead snap has tc en pz pp pn ph pr pe) [] rfl (ws' := (wC G x n m o e bb t p ((kX_book now hs nx sz (xs (i + 1)) (xs (i + 2)) (xs (i + 3))).2.1) ((kX_book now hs nx sz (xs (i + 1)) (xs (i + 2)) (xs (i + 3))).2.2.2.1) ((kX_book now hs nx sz (xs (i + 1)) (xs (i + 2)) (xs (i + 3))).2.2.2.2) ((kX_book now hs nx sz (xs (i + 1)) (xs (i + 2)) (xs (i + 3))).2.2.1) ahead snap has tc en pz pp pn ph pr pe ++ (wM G a ((mX_book s as_ hi sz (xs (i + 1)) (xs (i + 2)) (xs (i + 3))).2.1) (cpL s as_ 0 0 378) ((mX_book s as_ hi sz (xs (i + 1)) (xs (i + 2)) (xs (i + 3))).2.2.1) ((mX_book s as_ hi sz (xs (i + 1)) (xs (i + 2)) (xs (i + 3))).2.2.2) sn has tc en it wl sp iw rs er ++ []))) rfl (st' := [.int ((mX_book s as_ hi sz (xs (i + 1)) (xs (i + 2)) (xs (i + 3))).1), .int ((kX_book now hs nx sz (xs (i + 1)) (xs (i + 2)) (xs (i + 3))).1)]) rfl ⟨rfl, rfl⟩ hf ?_
  refine x_icmp_eq (tgt := 744) C dL_law_293 (by decide) (fun _ => ?_) (fun h => absurd OK.1 h)
  refine x_iinc (v := nI (i + 4)) (lv' := [(3, .int (nI (i + 4))), (2, .ref (a 0)), (1, .ref x), (0, .ref b)]) C 0 rfl dL_law_744 (by rw [show Int32.ofInt 4 = nI 4 from rfl]; exact nI_add _ _) (by decide) rfl ?_
  refine x_goto (tgt := 18) C dL_law_747 (by decide) ?_
  exact K _ _ _ _ _ _ _ _ _ _ _ _ _ _ _ _ _ _ _ _ _ _ _ _ _ _ _ _ _ (LW_act W OK)
