set_option maxRecDepth 100000 in
set_option maxHeartbeats 1000000 in
theorem law_k_cancel {G : gG} {X : gX} (C : gC G X code 4 room_1 "LessonHorsesLaw") {b L : Nat} {xs : Nat → Int32} (hX : va_X b L xs (gX.s X) (gX.s X).heap) (hbl : b < (gX.s X).heap.size) (hbA : ¬ gX.A X b) (hL : L ≤ 2048) {x : Nat} {n m o e : Nat → Nat} {bb : Nat → Nat → Nat} {t p a : Nat → Nat} {kc ks i : Nat} (hf : kc ≤ room_1.cells ∧ ks ≤ room_1.slots) (hi4 : i + 4 ≤ L) (K : wLP G X b x n m o e bb t p a kc ks (i + 4)) {now : c_S} {nx sz : Nat} {hs : Nat → c_S} {ahead snap : c_S} {has : Int32} {tc : Nat → Int32} {en pz pp : Nat} {pn ph pr : Int32} {pe : Nat → Int32} {s as_ hi : Nat → Int32} {kn : Nat} {sn : Nat → Int32} {ik : Int32} {tx : Nat → Int32} {ln : Nat} {it wl : Nat → Int32} {sp : Nat} {iw : Int32} {rs : Nat} {er : Int32} (W : LW now nx sz hs snap has tc en s hi kn sn ik tx ln) : gW G X (wC G x n m o e bb t p now nx sz hs ahead snap has tc en pz pp pn ph pr pe ++ (wM G a s as_ hi kn sn ik tx ln it wl sp iw rs er ++ [])) kc ks 298 [(3, .int (nI i)), (2, .ref (a 0)), (1, .ref x), (0, .ref b)] [] := by
  obtain ⟨hR, hT, hH, e1, hS, e2, e3, hen, hch⟩ := W
  have e4 := hH.1
  subst e1
  subst e2
  subst e3
  subst e4
  have W : LW now nx sz hs snap has tc en s hi sz sn has tc en := ⟨hR, hT, hH, rfl, hS, rfl, rfl, hen, hch⟩
  have hM := RR_okM hR
  have hSS : okS 10000 now := RR_okS hR (by omega)
  have hnx := hH.2.2.1
  have hk := hH.2.1
  have OK := v_cancel (xs (i + 1)) (xs (i + 2)) hH hR hT
  refine x_aload_n C 2 rfl dL_law_298 rfl ?_
  refine x_aload_n C 3 rfl dL_law_299 rfl ?_
  refine x_iload_n C 0 rfl dL_law_300 rfl ?_
  refine x_iconst (v := nI 1) C dL_law_301 (by decide) ?_
  refine x_iaddN C dL_law_302 ?_
  refine x_sld C hX hbl hbA hL (j := i + 1) (by omega) dL_law_303 ?_
  refine x_aload_n C 3 rfl dL_law_304 rfl ?_
  refine x_iload_n C 0 rfl dL_law_305 rfl ?_
  refine x_iconst (v := nI 2) C dL_law_306 (by decide) ?_
  refine x_iaddN C dL_law_307 ?_
  refine x_sld C hX hbl hbA hL (j := i + 2) (by omega) dL_law_308 ?_
  refine x_callVd (As := [.int (xs (i + 1)), .int (xs (i + 2))]) (rest := []) C dL_law_309 (c_X5_cancel (gX.l X) G x n m o e bb t p now nx sz hs ahead snap has tc en pz pp pn ph pr pe (xs (i + 1)) (xs (i + 2)) hSS hnx hk) ml_L_31 im_X5_cancel sl_X5_cancel in_X5 cd_X5_cancel hd_X5_cancel 0 rfl rfl rfl rfl (Nat.le_of_ble_eq_true rfl) ⟨Nat.le_of_ble_eq_true rfl, Nat.le_of_ble_eq_true rfl⟩ [] (wM G a s as_ hi sz sn has tc en it wl sp iw rs er ++ []) rfl (ws' := (wC G x n m o e bb t p ((kX_cancel now hs nx sz (xs (i + 1)) (xs (i + 2))).2.1) ((kX_cancel now hs nx sz (xs (i + 1)) (xs (i + 2))).2.2.2.1) ((kX_cancel now hs nx sz (xs (i + 1)) (xs (i + 2))).2.2.2.2) ((kX_cancel now hs nx sz (xs (i + 1)) (xs (i + 2))).2.2.1) ahead snap has tc en pz pp pn ph pr pe ++ (wM G a s as_ hi sz sn has tc en it wl sp iw rs er ++ []))) rfl (st' := [.int ((kX_cancel now hs nx sz (xs (i + 1)) (xs (i + 2))).1)]) rfl ⟨rfl, rfl⟩ hf ?_
  refine x_aload_n C 1 rfl dL_law_312 rfl ?_
  refine x_aload_n C 3 rfl dL_law_313 rfl ?_
  refine x_iload_n C 0 rfl dL_law_314 rfl ?_
  refine x_iconst (v := nI 1) C dL_law_315 (by decide) ?_
  refine x_iaddN C dL_law_316 ?_
  refine x_sld C hX hbl hbA hL (j := i + 1) (by omega) dL_law_317 ?_
  refine x_aload_n C 3 rfl dL_law_318 rfl ?_
  refine x_iload_n C 0 rfl dL_law_319 rfl ?_
  refine x_iconst (v := nI 2) C dL_law_320 (by decide) ?_
  refine x_iaddN C dL_law_321 ?_
  refine x_sld C hX hbl hbA hL (j := i + 2) (by omega) dL_law_322 ?_
  refine x_callVd (As := [.int (xs (i + 1)), .int (xs (i + 2))]) (rest := [.int ((kX_cancel now hs nx sz (xs (i + 1)) (xs (i + 2))).1)]) C dL_law_323 (c_X6_cancel (gX.l X) G a s as_ hi sz sn has tc en it wl sp iw rs er (xs (i + 1)) (xs (i + 2)) hM.2.1 hk) ml_L_34 im_X6_cancel sl_X6_cancel in_X6 cd_X6_cancel hd_X6_cancel 0 rfl rfl rfl rfl (Nat.le_of_ble_eq_true rfl) ⟨Nat.le_of_ble_eq_true rfl, Nat.le_of_ble_eq_true rfl⟩ (wC G x n m o e bb t p ((kX_cancel now hs nx sz (xs (i + 1)) (xs (i + 2))).2.1) ((kX_cancel now hs nx sz (xs (i + 1)) (xs (i + 2))).2.2.2.1) ((kX_cancel now hs nx sz (xs (i + 1)) (xs (i + 2))).2.2.2.2) ((kX_cancel now hs nx sz (xs (i + 1)) (xs (i + 2))).2.2.1) ahead snap has tc en pz pp pn ph pr pe) [] rfl (ws' := (wC G x n m o e bb t p ((kX_cancel now hs nx sz (xs (i + 1)) (xs (i + 2))).2.1) ((kX_cancel now hs nx sz (xs (i + 1)) (xs (i + 2))).2.2.2.1) ((kX_cancel now hs nx sz (xs (i + 1)) (xs (i + 2))).2.2.2.2) ((kX_cancel now hs nx sz (xs (i + 1)) (xs (i + 2))).2.2.1) ahead snap has tc en pz pp pn ph pr pe ++ (wM G a ((mX_cancel s hi sz (xs (i + 1)) (xs (i + 2))).2.1) as_ ((mX_cancel s hi sz (xs (i + 1)) (xs (i + 2))).2.2.1) ((mX_cancel s hi sz (xs (i + 1)) (xs (i + 2))).2.2.2) sn has tc en it wl sp iw rs er ++ []))) rfl (st' := [.int ((mX_cancel s hi sz (xs (i + 1)) (xs (i + 2))).1), .int ((kX_cancel now hs nx sz (xs (i + 1)) (xs (i + 2))).1)]) rfl ⟨rfl, rfl⟩ hf ?_
  refine x_icmp_eq (tgt := 744) C dL_law_326 (by decide) (fun _ => ?_) (fun h => absurd OK.1 h)
  refine x_iinc (v := nI (i + 4)) (lv' := [(3, .int (nI (i + 4))), (2, .ref (a 0)), (1, .ref x), (0, .ref b)]) C 0 rfl dL_law_744 (by rw [show Int32.ofInt 4 = nI 4 from rfl]; exact nI_add _ _) (by decide) rfl ?_
  refine x_goto (tgt := 18) C dL_law_747 (by decide) ?_
  exact K _ _ _ _ _ _ _ _ _ _ _ _ _ _ _ _ _ _ _ _ _ _ _ _ _ _ _ _ _ (LW_act W OK)
set_option maxRecDepth 100000 in
set_option maxHeartbeats 1000000 in
theorem law_k_pass {G : gG} {X : gX} (C : gC G X code 4 room_1 "LessonHorsesLaw") {b L : Nat} {xs : Nat → Int32} (hX : va_X b L xs (gX.s X) (gX.s X).heap) (hbl : b < (gX.s X).heap.size) (hbA : ¬ gX.A X b) (hL : L ≤ 2048) {x : Nat} {n m o e : Nat → Nat} {bb : Nat → Nat → Nat} {t p a : Nat → Nat} {kc ks i : Nat} (hf : kc ≤ room_1.cells ∧ ks ≤ room_1.slots) (hi4 : i + 4 ≤ L) (K : wLP G X b x n m o e bb t p a kc ks (i + 4)) {now : c_S} {nx sz : Nat} {hs : Nat → c_S} {ahead snap : c_S} {has : Int32} {tc : Nat → Int32} {en pz pp : Nat} {pn ph pr : Int32} {pe : Nat → Int32} {s as_ hi : Nat → Int32} {kn : Nat} {sn : Nat → Int32} {ik : Int32} {tx : Nat → Int32} {ln : Nat} {it wl : Nat → Int32} {sp : Nat} {iw : Int32} {rs : Nat} {er : Int32} (W : LW now nx sz hs snap has tc en s hi kn sn ik tx ln) : gW G X (wC G x n m o e bb t p now nx sz hs ahead snap has tc en pz pp pn ph pr pe ++ (wM G a s as_ hi kn sn ik tx ln it wl sp iw rs er ++ [])) kc ks 331 [(3, .int (nI i)), (2, .ref (a 0)), (1, .ref x), (0, .ref b)] [] := by
  obtain ⟨hR, hT, hH, e1, hS, e2, e3, hen, hch⟩ := W
  have e4 := hH.1
  subst e1
  subst e2
  subst e3
  subst e4
  have W : LW now nx sz hs snap has tc en s hi sz sn has tc en := ⟨hR, hT, hH, rfl, hS, rfl, rfl, hen, hch⟩
  have hM := RR_okM hR
  have hSS : okS 10000 now := RR_okS hR (by omega)
  have hnx := hH.2.2.1
  have hk := hH.2.1
  have OK := v_pass (it := it) (wl := wl) (xs (i + 1)) hH hR hT
  refine x_aload_n C 2 rfl dL_law_331 rfl ?_
  refine x_aload_n C 3 rfl dL_law_332 rfl ?_
  refine x_iload_n C 0 rfl dL_law_333 rfl ?_
  refine x_iconst (v := nI 1) C dL_law_334 (by decide) ?_
  refine x_iaddN C dL_law_335 ?_
  refine x_sld C hX hbl hbA hL (j := i + 1) (by omega) dL_law_336 ?_
  refine x_callVd (As := [.int (xs (i + 1))]) (rest := []) C dL_law_337 (c_X5_pass (gX.l X) G x n m o e bb t p now nx sz hs ahead snap has tc en pz pp pn ph pr pe (xs (i + 1)) hSS hnx hk) ml_L_35 im_X5_pass sl_X5_pass in_X5 cd_X5_pass hd_X5_pass 0 rfl rfl rfl rfl (Nat.le_of_ble_eq_true rfl) ⟨Nat.le_of_ble_eq_true rfl, Nat.le_of_ble_eq_true rfl⟩ [] (wM G a s as_ hi sz sn has tc en it wl sp iw rs er ++ []) rfl (ws' := (wC G x n m o e bb t p ((kX_pass now hs nx sz (xs (i + 1))).2.1) ((kX_pass now hs nx sz (xs (i + 1))).2.2.2.1) ((kX_pass now hs nx sz (xs (i + 1))).2.2.2.2) ((kX_pass now hs nx sz (xs (i + 1))).2.2.1) ahead snap has tc en pz pp pn ph pr pe ++ (wM G a s as_ hi sz sn has tc en it wl sp iw rs er ++ []))) rfl (st' := [.int ((kX_pass now hs nx sz (xs (i + 1))).1)]) rfl ⟨rfl, rfl⟩ hf ?_
  refine x_aload_n C 1 rfl dL_law_340 rfl ?_
  refine x_aload_n C 3 rfl dL_law_341 rfl ?_
  refine x_iload_n C 0 rfl dL_law_342 rfl ?_
  refine x_iconst (v := nI 1) C dL_law_343 (by decide) ?_
  refine x_iaddN C dL_law_344 ?_
  refine x_sld C hX hbl hbA hL (j := i + 1) (by omega) dL_law_345 ?_
  refine x_callVd (As := [.int (xs (i + 1))]) (rest := [.int ((kX_pass now hs nx sz (xs (i + 1))).1)]) C dL_law_346 (c_X6_pass (gX.l X) G a s as_ hi sz sn has tc en it wl sp iw rs er (xs (i + 1)) hM hk) ml_L_39 im_X6_pass sl_X6_pass in_X6 cd_X6_pass hd_X6_pass 0 rfl rfl rfl rfl (Nat.le_of_ble_eq_true rfl) ⟨Nat.le_of_ble_eq_true rfl, Nat.le_of_ble_eq_true rfl⟩ (wC G x n m o e bb t p ((kX_pass now hs nx sz (xs (i + 1))).2.1) ((kX_pass now hs nx sz (xs (i + 1))).2.2.2.1) ((kX_pass now hs nx sz (xs (i + 1))).2.2.2.2) ((kX_pass now hs nx sz (xs (i + 1))).2.2.1) ahead snap has tc en pz pp pn ph pr pe) [] rfl (ws' := (wC G x n m o e bb t p ((kX_pass now hs nx sz (xs (i + 1))).2.1) ((kX_pass now hs nx sz (xs (i + 1))).2.2.2.1) ((kX_pass now hs nx sz (xs (i + 1))).2.2.2.2) ((kX_pass now hs nx sz (xs (i + 1))).2.2.1) ahead snap has tc en pz pp pn ph pr pe ++ (wM G a ((mX_pass s hi sz it wl (xs (i + 1))).2.1) as_ ((mX_pass s hi sz it wl (xs (i + 1))).2.2.1) ((mX_pass s hi sz it wl (xs (i + 1))).2.2.2.1) sn has tc en ((mX_pass s hi sz it wl (xs (i + 1))).2.2.2.2.1) ((mX_pass s hi sz it wl (xs (i + 1))).2.2.2.2.2) sp iw rs er ++ []))) rfl (st' := [.int ((mX_pass s hi sz it wl (xs (i + 1))).1), .int ((kX_pass now hs nx sz (xs (i + 1))).1)]) rfl ⟨rfl, rfl⟩ hf ?_
  refine x_icmp_eq (tgt := 744) C dL_law_349 (by decide) (fun _ => ?_) (fun h => absurd OK.1 h)
  refine x_iinc (v := nI (i + 4)) (lv' := [(3, .int (nI (i + 4))), (2, .ref (a 0)), (1, .ref x), (0, .ref b)]) C 0 rfl dL_law_744 (by rw [show Int32.ofInt 4 = nI 4 from rfl]; exact nI_add _ _) (by decide) rfl ?_
  refine x_goto (tgt := 18) C dL_law_747 (by decide) ?_
  exact K _ _ _ _ _ _ _ _ _ _ _ _ _ _ _ _ _ _ _ _ _ _ _ _ _ _ _ _ _ (LW_act W OK)
set_option maxRecDepth 100000 in
set_option maxHeartbeats 1000000 in
theorem law_k_type {G : gG} {X : gX} (C : gC G X code 4 room_1 "LessonHorsesLaw") {b L : Nat} {xs : Nat → Int32} (hX : va_X b L xs (gX.s X) (gX.s X).heap) (hbl : b < (gX.s X).heap.size) (hbA : ¬ gX.A X b) (hL : L ≤ 2048) {x : Nat} {n m o e : Nat → Nat} {bb : Nat → Nat → Nat} {t p a : Nat → Nat} {kc ks i : Nat} (hf : kc ≤ room_1.cells ∧ ks ≤ room_1.slots) (hi4 : i + 4 ≤ L) (K : wLP G X b x n m o e bb t p a kc ks (i + 4)) {now : c_S} {nx sz : Nat} {hs : Nat → c_S} {ahead snap : c_S} {has : Int32} {tc : Nat → Int32} {en pz pp : Nat} {pn ph pr : Int32} {pe : Nat → Int32} {s as_ hi : Nat → Int32} {kn : Nat} {sn : Nat → Int32} {ik : Int32} {tx : Nat → Int32} {ln : Nat} {it wl : Nat → Int32} {sp : Nat} {iw : Int32} {rs : Nat} {er : Int32} (W : LW now nx sz hs snap has tc en s hi kn sn ik tx ln) : gW G X (wC G x n m o e bb t p now nx sz hs ahead snap has tc en pz pp pn ph pr pe ++ (wM G a s as_ hi kn sn ik tx ln it wl sp iw rs er ++ [])) kc ks 354 [(3, .int (nI i)), (2, .ref (a 0)), (1, .ref x), (0, .ref b)] [] := by
  obtain ⟨hR, hT, hH, e1, hS, e2, e3, hen, hch⟩ := W
  have e4 := hH.1
  subst e1
  subst e2
  subst e3
  subst e4
  have W : LW now nx sz hs snap has tc en s hi sz sn has tc en := ⟨hR, hT, hH, rfl, hS, rfl, rfl, hen, hch⟩
  have hM := RR_okM hR
  have hSS : okS 10000 now := RR_okS hR (by omega)
  have hnx := hH.2.2.1
  have hk := hH.2.1
  refine x_aload_n C 2 rfl dL_law_354 rfl ?_
  refine x_aload_n C 3 rfl dL_law_355 rfl ?_
  refine x_iload_n C 0 rfl dL_law_356 rfl ?_
  refine x_iconst (v := nI 1) C dL_law_357 (by decide) ?_
  refine x_iaddN C dL_law_358 ?_
  refine x_sld C hX hbl hbA hL (j := i + 1) (by omega) dL_law_359 ?_
  refine x_i2c (x := xs (i + 1)) C dL_law_360 ?_
  refine x_callVd (As := [.int (((xs (i + 1)).toUInt32 % 65536).toInt32)]) (rest := []) C dL_law_361 (c_X5_type (gX.l X) G x n m o e bb t p now nx sz hs ahead snap has tc en pz pp pn ph pr pe (((xs (i + 1)).toUInt32 % 65536).toInt32) hSS hnx hk hen (pk_nc _)) ml_L_40 im_X5_type sl_X5_type in_X5 cd_X5_type hd_X5_type 0 rfl rfl rfl rfl (Nat.le_of_ble_eq_true rfl) ⟨Nat.le_of_ble_eq_true rfl, Nat.le_of_ble_eq_true rfl⟩ [] (wM G a s as_ hi sz sn has tc en it wl sp iw rs er ++ []) rfl (ws' := (wC G x n m o e bb t p now nx sz hs ahead snap has (if en < 60 then upd tc en (((xs (i + 1)).toUInt32 % 65536).toInt32) else tc) (if en < 60 then en + 1 else en) pz pp pn ph pr pe ++ (wM G a s as_ hi sz sn has tc en it wl sp iw rs er ++ []))) rfl (st' := [.int (kX_type tc en (((xs (i + 1)).toUInt32 % 65536).toInt32))]) rfl ⟨rfl, rfl⟩ hf ?_
  refine x_aload_n C 1 rfl dL_law_364 rfl ?_
  refine x_aload_n C 3 rfl dL_law_365 rfl ?_
  refine x_iload_n C 0 rfl dL_law_366 rfl ?_
  refine x_iconst (v := nI 1) C dL_law_367 (by decide) ?_
  refine x_iaddN C dL_law_368 ?_
  refine x_sld C hX hbl hbA hL (j := i + 1) (by omega) dL_law_369 ?_
  refine x_i2c (x := xs (i + 1)) C dL_law_370 ?_
  refine x_callVd (As := [.int (((xs (i + 1)).toUInt32 % 65536).toInt32)]) (rest := [.int (kX_type tc en (((xs (i + 1)).toUInt32 % 65536).toInt32))]) C dL_law_371 (c_X6_type (gX.l X) G a s as_ hi sz sn has tc en it wl sp iw rs er (((xs (i + 1)).toUInt32 % 65536).toInt32) hen) ml_L_44 im_X6_type sl_X6_type in_X6 cd_X6_type hd_X6_type 0 rfl rfl rfl rfl (Nat.le_of_ble_eq_true rfl) ⟨Nat.le_of_ble_eq_true rfl, Nat.le_of_ble_eq_true rfl⟩ (wC G x n m o e bb t p now nx sz hs ahead snap has (if en < 60 then upd tc en (((xs (i + 1)).toUInt32 % 65536).toInt32) else tc) (if en < 60 then en + 1 else en) pz pp pn ph pr pe) [] rfl (ws' := (wC G x n m o e bb t p now nx sz hs ahead snap has (if en < 60 then upd tc en (((xs (i + 1)).toUInt32 % 65536).toInt32) else tc) (if en < 60 then en + 1 else en) pz pp pn ph pr pe ++ (wM G a s as_ hi sz sn has ((mX_type tc en (((xs (i + 1)).toUInt32 % 65536).toInt32)).2.1) ((mX_type tc en (((xs (i + 1)).toUInt32 % 65536).toInt32)).2.2) it wl sp iw rs er ++ []))) rfl (st' := [.int ((mX_type tc en (((xs (i + 1)).toUInt32 % 65536).toInt32)).1), .int (kX_type tc en (((xs (i + 1)).toUInt32 % 65536).toInt32))]) rfl ⟨rfl, rfl⟩ hf ?_
  refine x_icmp_eq (tgt := 744) C dL_law_374 (by decide) (fun _ => ?_) (fun h => absurd (v_type hen).1 h)
  refine x_iinc (v := nI (i + 4)) (lv' := [(3, .int (nI (i + 4))), (2, .ref (a 0)), (1, .ref x), (0, .ref b)]) C 0 rfl dL_law_744 (by rw [show Int32.ofInt 4 = nI 4 from rfl]; exact nI_add _ _) (by decide) rfl ?_
  refine x_goto (tgt := 18) C dL_law_747 (by decide) ?_
  exact K _ _ _ _ _ _ _ _ _ _ _ _ _ _ _ _ _ _ _ _ _ _ _ _ _ _ _ _ _ (LW_type W (pk_nc _))
set_option maxRecDepth 100000 in
set_option maxHeartbeats 1000000 in
theorem law_k_clearText {G : gG} {X : gX} (C : gC G X code 4 room_1 "LessonHorsesLaw") {b L : Nat} {xs : Nat → Int32} (hX : va_X b L xs (gX.s X) (gX.s X).heap) (hbl : b < (gX.s X).heap.size) (hbA : ¬ gX.A X b) (hL : L ≤ 2048) {x : Nat} {n m o e : Nat → Nat} {bb : Nat → Nat → Nat} {t p a : Nat → Nat} {kc ks i : Nat} (hf : kc ≤ room_1.cells ∧ ks ≤ room_1.slots) (hi4 : i + 4 ≤ L) (K : wLP G X b x n m o e bb t p a kc ks (i + 4)) {now : c_S} {nx sz : Nat} {hs : Nat → c_S} {ahead snap : c_S} {has : Int32} {tc : Nat → Int32} {en pz pp : Nat} {pn ph pr : Int32} {pe : Nat → Int32} {s as_ hi : Nat → Int32} {kn : Nat} {sn : Nat → Int32} {ik : Int32} {tx : Nat → Int32} {ln : Nat} {it wl : Nat → Int32} {sp : Nat} {iw : Int32} {rs : Nat} {er : Int32} (W : LW now nx sz hs snap has tc en s hi kn sn ik tx ln) : gW G X (wC G x n m o e bb t p now nx sz hs ahead snap has tc en pz pp pn ph pr pe ++ (wM G a s as_ hi kn sn ik tx ln it wl sp iw rs er ++ [])) kc ks 379 [(3, .int (nI i)), (2, .ref (a 0)), (1, .ref x), (0, .ref b)] [] := by
  obtain ⟨hR, hT, hH, e1, hS, e2, e3, hen, hch⟩ := W
  have e4 := hH.1
  subst e1
  subst e2
  subst e3
  subst e4
  have W : LW now nx sz hs snap has tc en s hi sz sn has tc en := ⟨hR, hT, hH, rfl, hS, rfl, rfl, hen, hch⟩
  have hM := RR_okM hR
  have hSS : okS 10000 now := RR_okS hR (by omega)
  have hnx := hH.2.2.1
  have hk := hH.2.1
  refine x_aload_n C 2 rfl dL_law_379 rfl ?_
  refine x_callVd (As := []) (rest := []) C dL_law_380 (c_X5_clearText (gX.l X) G x n m o e bb t p now nx sz hs ahead snap has tc en pz pp pn ph pr pe  hSS hnx hk) ml_L_45 im_X5_clearText sl_X5_clearText in_X5 cd_X5_clearText hd_X5_clearText 0 rfl rfl rfl rfl (Nat.le_of_ble_eq_true rfl) ⟨Nat.le_of_ble_eq_true rfl, Nat.le_of_ble_eq_true rfl⟩ [] (wM G a s as_ hi sz sn has tc en it wl sp iw rs er ++ []) rfl (ws' := (wC G x n m o e bb t p now nx sz hs ahead snap has tc 0 pz pp pn ph pr pe ++ (wM G a s as_ hi sz sn has tc en it wl sp iw rs er ++ []))) rfl (st' := [.int (nI en)]) rfl ⟨rfl, rfl⟩ hf ?_
  refine x_aload_n C 1 rfl dL_law_383 rfl ?_
  refine x_callVd (As := []) (rest := [.int (nI en)]) C dL_law_384 (c_X6_clearText (gX.l X) G a s as_ hi sz sn has tc en it wl sp iw rs er  ) ml_L_49 im_X6_clearText sl_X6_clearText in_X6 cd_X6_clearText hd_X6_clearText 0 rfl rfl rfl rfl (Nat.le_of_ble_eq_true rfl) ⟨Nat.le_of_ble_eq_true rfl, Nat.le_of_ble_eq_true rfl⟩ (wC G x n m o e bb t p now nx sz hs ahead snap has tc 0 pz pp pn ph pr pe) [] rfl (ws' := (wC G x n m o e bb t p now nx sz hs ahead snap has tc 0 pz pp pn ph pr pe ++ (wM G a s as_ hi sz sn has tc 0 it wl sp iw rs er ++ []))) rfl (st' := [.int (nI en), .int (nI en)]) rfl ⟨rfl, rfl⟩ hf ?_
  refine x_icmp_eq (tgt := 744) C dL_law_387 (by decide) (fun _ => ?_) (fun h => absurd rfl h)
  refine x_iinc (v := nI (i + 4)) (lv' := [(3, .int (nI (i + 4))), (2, .ref (a 0)), (1, .ref x), (0, .ref b)]) C 0 rfl dL_law_744 (by rw [show Int32.ofInt 4 = nI 4 from rfl]; exact nI_add _ _) (by decide) rfl ?_
  refine x_goto (tgt := 18) C dL_law_747 (by decide) ?_
  exact K _ _ _ _ _ _ _ _ _ _ _ _ _ _ _ _ _ _ _ _ _ _ _ _ _ _ _ _ _ (LW_clear W)
