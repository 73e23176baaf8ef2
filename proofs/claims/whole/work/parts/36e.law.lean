set_option maxRecDepth 100000 in
set_option maxHeartbeats 1000000 in
theorem law_k_horse {G : gG} {X : gX} (C : gC G X code 4 room_1 "LessonHorsesLaw") {b L : Nat} {xs : Nat → Int32} (hX : va_X b L xs (gX.s X) (gX.s X).heap) (hbl : b < (gX.s X).heap.size) (hbA : ¬ gX.A X b) (hL : L ≤ 2048) {x : Nat} {n m o e : Nat → Nat} {bb : Nat → Nat → Nat} {t p a : Nat → Nat} {kc ks i : Nat} (hf : kc ≤ room_1.cells ∧ ks ≤ room_1.slots) (hi4 : i + 4 ≤ L) (K : wLP G X b x n m o e bb t p a kc ks (i + 4)) {now : c_S} {nx sz : Nat} {hs : Nat → c_S} {ahead snap : c_S} {has : Int32} {tc : Nat → Int32} {en pz pp : Nat} {pn ph pr : Int32} {pe : Nat → Int32} {s as_ hi : Nat → Int32} {kn : Nat} {sn : Nat → Int32} {ik : Int32} {tx : Nat → Int32} {ln : Nat} {it wl : Nat → Int32} {sp : Nat} {iw : Int32} {rs : Nat} {er : Int32} (W : LW now nx sz hs snap has tc en s hi kn sn ik tx ln) : gW G X (wC G x n m o e bb t p now nx sz hs ahead snap has tc en pz pp pn ph pr pe ++ (wM G a s as_ hi kn sn ik tx ln it wl sp iw rs er ++ [])) kc ks 444 [(3, .int (nI i)), (2, .ref (a 0)), (1, .ref x), (0, .ref b)] [] := by
  obtain ⟨hR, hT, hH, e1, hS, e2, e3, hen, hch⟩ := W
  have e4 := hH.1
  subst e1
  subst e2
  subst e3
  subst e4
  have W : LW now nx sz hs snap has tc en s hi sz sn has tc en := ⟨hR, hT, hH, rfl, hS, rfl, rfl, hen, hch⟩
  have hM := RR_okM hR
  have hSS : okS 10000 now := RR_okS hR (by omega)
  have hnx := hH.2.2.1
  have hk := hH.2.1
  refine x_aload_n C 2 rfl dL_law_444 rfl ?_
  refine x_aload_n C 3 rfl dL_law_445 rfl ?_
  refine x_iload_n C 0 rfl dL_law_446 rfl ?_
  refine x_iconst (v := nI 1) C dL_law_447 (by decide) ?_
  refine x_iaddN C dL_law_448 ?_
  refine x_sld C hX hbl hbA hL (j := i + 1) (by omega) dL_law_449 ?_
  refine x_aload_n C 3 rfl dL_law_450 rfl ?_
  refine x_iload_n C 0 rfl dL_law_451 rfl ?_
  refine x_iconst (v := nI 2) C dL_law_452 (by decide) ?_
  refine x_iaddN C dL_law_453 ?_
  refine x_sld C hX hbl hbA hL (j := i + 2) (by omega) dL_law_454 ?_
  refine x_callVd (As := [.int (xs (i + 1)), .int (xs (i + 2))]) (rest := []) C dL_law_455 (c_X5_horse (gX.l X) G x n m o e bb t p now nx sz hs ahead snap has tc en pz pp pn ph pr pe (xs (i + 1)) (xs (i + 2)) hSS hnx hk) ml_L_66 im_X5_horse sl_X5_horse in_X5 cd_X5_horse hd_X5_horse 0 rfl rfl rfl rfl (Nat.le_of_ble_eq_true rfl) ⟨Nat.le_of_ble_eq_true rfl, Nat.le_of_ble_eq_true rfl⟩ [] (wM G a s as_ hi sz sn has tc en it wl sp iw rs er ++ []) rfl (ws' := (wC G x n m o e bb t p now nx sz hs ahead snap has tc en pz pp pn ph pr pe ++ (wM G a s as_ hi sz sn has tc en it wl sp iw rs er ++ []))) rfl (st' := [.int (kX_horse now (xs (i + 1)) (xs (i + 2)))]) rfl ⟨rfl, rfl⟩ hf ?_
  refine x_aload_n C 1 rfl dL_law_458 rfl ?_
  refine x_aload_n C 3 rfl dL_law_459 rfl ?_
  refine x_iload_n C 0 rfl dL_law_460 rfl ?_
  refine x_iconst (v := nI 1) C dL_law_461 (by decide) ?_
  refine x_iaddN C dL_law_462 ?_
  refine x_sld C hX hbl hbA hL (j := i + 1) (by omega) dL_law_463 ?_
  refine x_aload_n C 3 rfl dL_law_464 rfl ?_
  refine x_iload_n C 0 rfl dL_law_465 rfl ?_
  refine x_iconst (v := nI 2) C dL_law_466 (by decide) ?_
  refine x_iaddN C dL_law_467 ?_
  refine x_sld C hX hbl hbA hL (j := i + 2) (by omega) dL_law_468 ?_
  refine x_callVd (As := [.int (xs (i + 1)), .int (xs (i + 2))]) (rest := [.int (kX_horse now (xs (i + 1)) (xs (i + 2)))]) C dL_law_469 (c_X6_horse (gX.l X) G a s as_ hi sz sn has tc en it wl sp iw rs er (xs (i + 1)) (xs (i + 2)) ) ml_L_69 im_X6_horse sl_X6_horse in_X6 cd_X6_horse hd_X6_horse 0 rfl rfl rfl rfl (Nat.le_of_ble_eq_true rfl) ⟨Nat.le_of_ble_eq_true rfl, Nat.le_of_ble_eq_true rfl⟩ (wC G x n m o e bb t p now nx sz hs ahead snap has tc en pz pp pn ph pr pe) [] rfl (ws' := (wC G x n m o e bb t p now nx sz hs ahead snap has tc en pz pp pn ph pr pe ++ (wM G a s as_ hi sz sn has tc en it wl sp iw rs er ++ []))) rfl (st' := [.int (mX_horse s (xs (i + 1)) (xs (i + 2))), .int (kX_horse now (xs (i + 1)) (xs (i + 2)))]) rfl ⟨rfl, rfl⟩ hf ?_
  refine x_icmp_eq (tgt := 744) C dL_law_472 (by decide) (fun _ => ?_) (fun h => absurd (v_horse (xs (i + 1)) (xs (i + 2)) hR) h)
  refine x_iinc (v := nI (i + 4)) (lv' := [(3, .int (nI (i + 4))), (2, .ref (a 0)), (1, .ref x), (0, .ref b)]) C 0 rfl dL_law_744 (by rw [show Int32.ofInt 4 = nI 4 from rfl]; exact nI_add _ _) (by decide) rfl ?_
  refine x_goto (tgt := 18) C dL_law_747 (by decide) ?_
  exact K _ _ _ _ _ _ _ _ _ _ _ _ _ _ _ _ _ _ _ _ _ _ _ _ _ _ _ _ _ W
set_option maxRecDepth 100000 in
set_option maxHeartbeats 1000000 in
theorem law_k_rider {G : gG} {X : gX} (C : gC G X code 4 room_1 "LessonHorsesLaw") {b L : Nat} {xs : Nat → Int32} (hX : va_X b L xs (gX.s X) (gX.s X).heap) (hbl : b < (gX.s X).heap.size) (hbA : ¬ gX.A X b) (hL : L ≤ 2048) {x : Nat} {n m o e : Nat → Nat} {bb : Nat → Nat → Nat} {t p a : Nat → Nat} {kc ks i : Nat} (hf : kc ≤ room_1.cells ∧ ks ≤ room_1.slots) (hi4 : i + 4 ≤ L) (K : wLP G X b x n m o e bb t p a kc ks (i + 4)) {now : c_S} {nx sz : Nat} {hs : Nat → c_S} {ahead snap : c_S} {has : Int32} {tc : Nat → Int32} {en pz pp : Nat} {pn ph pr : Int32} {pe : Nat → Int32} {s as_ hi : Nat → Int32} {kn : Nat} {sn : Nat → Int32} {ik : Int32} {tx : Nat → Int32} {ln : Nat} {it wl : Nat → Int32} {sp : Nat} {iw : Int32} {rs : Nat} {er : Int32} (W : LW now nx sz hs snap has tc en s hi kn sn ik tx ln) : gW G X (wC G x n m o e bb t p now nx sz hs ahead snap has tc en pz pp pn ph pr pe ++ (wM G a s as_ hi kn sn ik tx ln it wl sp iw rs er ++ [])) kc ks 477 [(3, .int (nI i)), (2, .ref (a 0)), (1, .ref x), (0, .ref b)] [] := by
  obtain ⟨hR, hT, hH, e1, hS, e2, e3, hen, hch⟩ := W
  have e4 := hH.1
  subst e1
  subst e2
  subst e3
  subst e4
  have W : LW now nx sz hs snap has tc en s hi sz sn has tc en := ⟨hR, hT, hH, rfl, hS, rfl, rfl, hen, hch⟩
  have hM := RR_okM hR
  have hSS : okS 10000 now := RR_okS hR (by omega)
  have hnx := hH.2.2.1
  have hk := hH.2.1
  refine x_aload_n C 2 rfl dL_law_477 rfl ?_
  refine x_aload_n C 3 rfl dL_law_478 rfl ?_
  refine x_iload_n C 0 rfl dL_law_479 rfl ?_
  refine x_iconst (v := nI 1) C dL_law_480 (by decide) ?_
  refine x_iaddN C dL_law_481 ?_
  refine x_sld C hX hbl hbA hL (j := i + 1) (by omega) dL_law_482 ?_
  refine x_aload_n C 3 rfl dL_law_483 rfl ?_
  refine x_iload_n C 0 rfl dL_law_484 rfl ?_
  refine x_iconst (v := nI 2) C dL_law_485 (by decide) ?_
  refine x_iaddN C dL_law_486 ?_
  refine x_sld C hX hbl hbA hL (j := i + 2) (by omega) dL_law_487 ?_
  refine x_callVd (As := [.int (xs (i + 1)), .int (xs (i + 2))]) (rest := []) C dL_law_488 (c_X5_rider (gX.l X) G x n m o e bb t p now nx sz hs ahead snap has tc en pz pp pn ph pr pe (xs (i + 1)) (xs (i + 2)) hSS hnx hk) ml_L_70 im_X5_rider sl_X5_rider in_X5 cd_X5_rider hd_X5_rider 0 rfl rfl rfl rfl (Nat.le_of_ble_eq_true rfl) ⟨Nat.le_of_ble_eq_true rfl, Nat.le_of_ble_eq_true rfl⟩ [] (wM G a s as_ hi sz sn has tc en it wl sp iw rs er ++ []) rfl (ws' := (wC G x n m o e bb t p now nx sz hs ahead snap has tc en pz pp pn ph pr pe ++ (wM G a s as_ hi sz sn has tc en it wl sp iw rs er ++ []))) rfl (st' := [.int (kX_rider now (xs (i + 1)) (xs (i + 2)))]) rfl ⟨rfl, rfl⟩ hf ?_
  refine x_aload_n C 1 rfl dL_law_491 rfl ?_
  refine x_aload_n C 3 rfl dL_law_492 rfl ?_
  refine x_iload_n C 0 rfl dL_law_493 rfl ?_
  refine x_iconst (v := nI 1) C dL_law_494 (by decide) ?_
  refine x_iaddN C dL_law_495 ?_
  refine x_sld C hX hbl hbA hL (j := i + 1) (by omega) dL_law_496 ?_
  refine x_aload_n C 3 rfl dL_law_497 rfl ?_
  refine x_iload_n C 0 rfl dL_law_498 rfl ?_
  refine x_iconst (v := nI 2) C dL_law_499 (by decide) ?_
  refine x_iaddN C dL_law_500 ?_
  refine x_sld C hX hbl hbA hL (j := i + 2) (by omega) dL_law_501 ?_
  refine x_callVd (As := [.int (xs (i + 1)), .int (xs (i + 2))]) (rest := [.int (kX_rider now (xs (i + 1)) (xs (i + 2)))]) C dL_law_502 (c_X6_rider (gX.l X) G a s as_ hi sz sn has tc en it wl sp iw rs er (xs (i + 1)) (xs (i + 2)) hM.2.1) ml_L_73 im_X6_rider sl_X6_rider in_X6 cd_X6_rider hd_X6_rider 0 rfl rfl rfl rfl (Nat.le_of_ble_eq_true rfl) ⟨Nat.le_of_ble_eq_true rfl, Nat.le_of_ble_eq_true rfl⟩ (wC G x n m o e bb t p now nx sz hs ahead snap has tc en pz pp pn ph pr pe) [] rfl (ws' := (wC G x n m o e bb t p now nx sz hs ahead snap has tc en pz pp pn ph pr pe ++ (wM G a s as_ hi sz sn has tc en it wl sp iw rs er ++ []))) rfl (st' := [.int (mX_rider s (xs (i + 1)) (xs (i + 2))), .int (kX_rider now (xs (i + 1)) (xs (i + 2)))]) rfl ⟨rfl, rfl⟩ hf ?_
  refine x_icmp_eq (tgt := 744) C dL_law_505 (by decide) (fun _ => ?_) (fun h => absurd (v_rider (xs (i + 1)) (xs (i + 2)) hR) h)
  refine x_iinc (v := nI (i + 4)) (lv' := [(3, .int (nI (i + 4))), (2, .ref (a 0)), (1, .ref x), (0, .ref b)]) C 0 rfl dL_law_744 (by rw [show Int32.ofInt 4 = nI 4 from rfl]; exact nI_add _ _) (by decide) rfl ?_
  refine x_goto (tgt := 18) C dL_law_747 (by decide) ?_
  exact K _ _ _ _ _ _ _ _ _ _ _ _ _ _ _ _ _ _ _ _ _ _ _ _ _ _ _ _ _ W
set_option maxRecDepth 100000 in
set_option maxHeartbeats 1000000 in
theorem law_k_lesson {G : gG} {X : gX} (C : gC G X code 4 room_1 "LessonHorsesLaw") {b L : Nat} {xs : Nat → Int32} (hX : va_X b L xs (gX.s X) (gX.s X).heap) (hbl : b < (gX.s X).heap.size) (hbA : ¬ gX.A X b) (hL : L ≤ 2048) {x : Nat} {n m o e : Nat → Nat} {bb : Nat → Nat → Nat} {t p a : Nat → Nat} {kc ks i : Nat} (hf : kc ≤ room_1.cells ∧ ks ≤ room_1.slots) (hi4 : i + 4 ≤ L) (K : wLP G X b x n m o e bb t p a kc ks (i + 4)) {now : c_S} {nx sz : Nat} {hs : Nat → c_S} {ahead snap : c_S} {has : Int32} {tc : Nat → Int32} {en pz pp : Nat} {pn ph pr : Int32} {pe : Nat → Int32} {s as_ hi : Nat → Int32} {kn : Nat} {sn : Nat → Int32} {ik : Int32} {tx : Nat → Int32} {ln : Nat} {it wl : Nat → Int32} {sp : Nat} {iw : Int32} {rs : Nat} {er : Int32} (W : LW now nx sz hs snap has tc en s hi kn sn ik tx ln) : gW G X (wC G x n m o e bb t p now nx sz hs ahead snap has tc en pz pp pn ph pr pe ++ (wM G a s as_ hi kn sn ik tx ln it wl sp iw rs er ++ [])) kc ks 510 [(3, .int (nI i)), (2, .ref (a 0)), (1, .ref x), (0, .ref b)] [] := by
  obtain ⟨hR, hT, hH, e1, hS, e2, e3, hen, hch⟩ := W
  have e4 := hH.1
  subst e1
  subst e2
  subst e3
  subst e4
  have W : LW now nx sz hs snap has tc en s hi sz sn has tc en := ⟨hR, hT, hH, rfl, hS, rfl, rfl, hen, hch⟩
  have hM := RR_okM hR
  have hSS : okS 10000 now := RR_okS hR (by omega)
  have hnx := hH.2.2.1
  have hk := hH.2.1
  refine x_aload_n C 2 rfl dL_law_510 rfl ?_
  refine x_aload_n C 3 rfl dL_law_511 rfl ?_
  refine x_iload_n C 0 rfl dL_law_512 rfl ?_
  refine x_iconst (v := nI 1) C dL_law_513 (by decide) ?_
  refine x_iaddN C dL_law_514 ?_
  refine x_sld C hX hbl hbA hL (j := i + 1) (by omega) dL_law_515 ?_
  refine x_aload_n C 3 rfl dL_law_516 rfl ?_
  refine x_iload_n C 0 rfl dL_law_517 rfl ?_
  refine x_iconst (v := nI 2) C dL_law_518 (by decide) ?_
  refine x_iaddN C dL_law_519 ?_
  refine x_sld C hX hbl hbA hL (j := i + 2) (by omega) dL_law_520 ?_
  refine x_aload_n C 3 rfl dL_law_521 rfl ?_
  refine x_iload_n C 0 rfl dL_law_522 rfl ?_
  refine x_iconst (v := nI 3) C dL_law_523 (by decide) ?_
  refine x_iaddN C dL_law_524 ?_
  refine x_sld C hX hbl hbA hL (j := i + 3) (by omega) dL_law_525 ?_
  refine x_callVd (As := [.int (xs (i + 1)), .int (xs (i + 2)), .int (xs (i + 3))]) (rest := []) C dL_law_526 (c_X5_lesson (gX.l X) G x n m o e bb t p now nx sz hs ahead snap has tc en pz pp pn ph pr pe (xs (i + 1)) (xs (i + 2)) (xs (i + 3)) hSS hnx hk) ml_L_74 im_X5_lesson sl_X5_lesson in_X5 cd_X5_lesson hd_X5_lesson 0 rfl rfl rfl rfl (Nat.le_of_ble_eq_true rfl) ⟨Nat.le_of_ble_eq_true rfl, Nat.le_of_ble_eq_true rfl⟩ [] (wM G a s as_ hi sz sn has tc en it wl sp iw rs er ++ []) rfl (ws' := (wC G x n m o e bb t p now nx sz hs ahead snap has tc en pz pp pn ph pr pe ++ (wM G a s as_ hi sz sn has tc en it wl sp iw rs er ++ []))) rfl (st' := [.int (kX_lesson now (xs (i + 1)) (xs (i + 2)) (xs (i + 3)))]) rfl ⟨rfl, rfl⟩ hf ?_
  refine x_aload_n C 1 rfl dL_law_529 rfl ?_
  refine x_aload_n C 3 rfl dL_law_530 rfl ?_
  refine x_iload_n C 0 rfl dL_law_531 rfl ?_
  refine x_iconst (v := nI 1) C dL_law_532 (by decide) ?_
  refine x_iaddN C dL_law_533 ?_
  refine x_sld C hX hbl hbA hL (j := i + 1) (by omega) dL_law_534 ?_
  refine x_aload_n C 3 rfl dL_law_535 rfl ?_
  refine x_iload_n C 0 rfl dL_law_536 rfl ?_
  refine x_iconst (v := nI 2) C dL_law_537 (by decide) ?_
  refine x_iaddN C dL_law_538 ?_
  refine x_sld C hX hbl hbA hL (j := i + 2) (by omega) dL_law_539 ?_
  refine x_aload_n C 3 rfl dL_law_540 rfl ?_
  refine x_iload_n C 0 rfl dL_law_541 rfl ?_
  refine x_iconst (v := nI 3) C dL_law_542 (by decide) ?_
  refine x_iaddN C dL_law_543 ?_
  refine x_sld C hX hbl hbA hL (j := i + 3) (by omega) dL_law_544 ?_
  refine x_callVd (As := [.int (xs (i + 1)), .int (xs (i + 2)), .int (xs (i + 3))]) (rest := [.int (kX_lesson now (xs (i + 1)) (xs (i + 2)) (xs (i + 3)))]) C dL_law_545 (c_X6_lesson (gX.l X) G a s as_ hi sz sn has tc en it wl sp iw rs er (xs (i + 1)) (xs (i + 2)) (xs (i + 3)) hM.2.1) ml_L_77 im_X6_lesson sl_X6_lesson in_X6 cd_X6_lesson hd_X6_lesson 0 rfl rfl rfl rfl (Nat.le_of_ble_eq_true rfl) ⟨Nat.le_of_ble_eq_true rfl, Nat.le_of_ble_eq_true rfl⟩ (wC G x n m o e bb t p now nx sz hs ahead snap has tc en pz pp pn ph pr pe) [] rfl (ws' := (wC G x n m o e bb t p now nx sz hs ahead snap has tc en pz pp pn ph pr pe ++ (wM G a s as_ hi sz sn has tc en it wl sp iw rs er ++ []))) rfl (st' := [.int (mX_lesson s (xs (i + 1)) (xs (i + 2)) (xs (i + 3))), .int (kX_lesson now (xs (i + 1)) (xs (i + 2)) (xs (i + 3)))]) rfl ⟨rfl, rfl⟩ hf ?_
  refine x_icmp_eq (tgt := 744) C dL_law_548 (by decide) (fun _ => ?_) (fun h => absurd (v_lesson (xs (i + 1)) (xs (i + 2)) (xs (i + 3)) hR) h)
  refine x_iinc (v := nI (i + 4)) (lv' := [(3, .int (nI (i + 4))), (2, .ref (a 0)), (1, .ref x), (0, .ref b)]) C 0 rfl dL_law_744 (by rw [show Int32.ofInt 4 = nI 4 from rfl]; exact nI_add _ _) (by decide) rfl ?_
  refine x_goto (tgt := 18) C dL_law_747 (by decide) ?_
  exact K _ _ _ _ _ _ _ _ _ _ _ _ _ _ _ _ _ _ _ _ _ _ _ _ _ _ _ _ _ W
set_option maxRecDepth 100000 in
set_option maxHeartbeats 1000000 in
theorem law_k_fall {G : gG} {X : gX} (C : gC G X code 4 room_1 "LessonHorsesLaw") {b L : Nat} {xs : Nat → Int32} (hX : va_X b L xs (gX.s X) (gX.s X).heap) (hbl : b < (gX.s X).heap.size) (hbA : ¬ gX.A X b) (hL : L ≤ 2048) {x : Nat} {n m o e : Nat → Nat} {bb : Nat → Nat → Nat} {t p a : Nat → Nat} {kc ks i : Nat} (hf : kc ≤ room_1.cells ∧ ks ≤ room_1.slots) (hi4 : i + 4 ≤ L) (K : wLP G X b x n m o e bb t p a kc ks (i + 4)) {now : c_S} {nx sz : Nat} {hs : Nat → c_S} {ahead snap : c_S} {has : Int32} {tc : Nat → Int32} {en pz pp : Nat} {pn ph pr : Int32} {pe : Nat → Int32} {s as_ hi : Nat → Int32} {kn : Nat} {sn : Nat → Int32} {ik : Int32} {tx : Nat → Int32} {ln : Nat} {it wl : Nat → Int32} {sp : Nat} {iw : Int32} {rs : Nat} {er : Int32} (W : LW now nx sz hs snap has tc en s hi kn sn ik tx ln) : gW G X (wC G x n m o e bb t p now nx sz hs ahead snap has tc en pz pp pn ph pr pe ++ (wM G a s as_ hi kn sn ik tx ln it wl sp iw rs er ++ [])) kc ks 553 [(3, .int (nI i)), (2, .ref (a 0)), (1, .ref x), (0, .ref b)] [] := by
  obtain ⟨hR, hT, hH, e1, hS, e2, e3, hen, hch⟩ := W
  have e4 := hH.1
  subst e1
  subst e2
  subst e3
  subst e4
  have W : LW now nx sz hs snap has tc en s hi sz sn has tc en := ⟨hR, hT, hH, rfl, hS, rfl, rfl, hen, hch⟩
  have hM := RR_okM hR
  have hSS : okS 10000 now := RR_okS hR (by omega)
  have hnx := hH.2.2.1
  have hk := hH.2.1
  refine x_aload_n C 2 rfl dL_law_553 rfl ?_
  refine x_aload_n C 3 rfl dL_law_554 rfl ?_
  refine x_iload_n C 0 rfl dL_law_555 rfl ?_
  refine x_iconst (v := nI 1) C dL_law_556 (by decide) ?_
  refine x_iaddN C dL_law_557 ?_
  refine x_sld C hX hbl hbA hL (j := i + 1) (by omega) dL_law_558 ?_
  refine x_aload_n C 3 rfl dL_law_559 rfl ?_
  refine x_iload_n C 0 rfl dL_law_560 rfl ?_
  refine x_iconst (v := nI 2) C dL_law_561 (by decide) ?_
  refine x_iaddN C dL_law_562 ?_
  refine x_sld C hX hbl hbA hL (j := i + 2) (by omega) dL_law_563 ?_
  refine x_callVd (As := [.int (xs (i + 1)), .int (xs (i + 2))]) (rest := []) C dL_law_564 (c_X5_fall (gX.l X) G x n m o e bb t p now nx sz hs ahead snap has tc en pz pp pn ph pr pe (xs (i + 1)) (xs (i + 2)) hSS hnx hk) ml_L_78 im_X5_fall sl_X5_fall in_X5 cd_X5_fall hd_X5_fall 0 rfl rfl rfl rfl (Nat.le_of_ble_eq_true rfl) ⟨Nat.le_of_ble_eq_true rfl, Nat.le_of_ble_eq_true rfl⟩ [] (wM G a s as_ hi sz sn has tc en it wl sp iw rs er ++ []) rfl (ws' := (wC G x n m o e bb t p now nx sz hs ahead snap has tc en pz pp pn ph pr pe ++ (wM G a s as_ hi sz sn has tc en it wl sp iw rs er ++ []))) rfl (st' := [.int (kX_fall now (xs (i + 1)) (xs (i + 2)))]) rfl ⟨rfl, rfl⟩ hf ?_
  refine x_aload_n C 1 rfl dL_law_567 rfl ?_
  refine x_aload_n C 3 rfl dL_law_568 rfl ?_
  refine x_iload_n C 0 rfl dL_law_569 rfl ?_
  refine x_iconst (v := nI 1) C dL_law_570 (by decide) ?_
  refine x_iaddN C dL_law_571 ?_
  refine x_sld C hX hbl hbA hL (j := i + 1) (by omega) dL_law_572 ?_
  refine x_aload_n C 3 rfl dL_law_573 rfl ?_
  refine x_iload_n C 0 rfl dL_law_574 rfl ?_
  refine x_iconst (v := nI 2) C dL_law_575 (by decide) ?_
  refine x_iaddN C dL_law_576 ?_
  refine x_sld C hX hbl hbA hL (j := i + 2) (by omega) dL_law_577 ?_
  refine x_callVd (As := [.int (xs (i + 1)), .int (xs (i + 2))]) (rest := [.int (kX_fall now (xs (i + 1)) (xs (i + 2)))]) C dL_law_578 (c_X6_fall (gX.l X) G a s as_ hi sz sn has tc en it wl sp iw rs er (xs (i + 1)) (xs (i + 2)) hM.2.2.1) ml_L_81 im_X6_fall sl_X6_fall in_X6 cd_X6_fall hd_X6_fall 0 rfl rfl rfl rfl (Nat.le_of_ble_eq_true rfl) ⟨Nat.le_of_ble_eq_true rfl, Nat.le_of_ble_eq_true rfl⟩ (wC G x n m o e bb t p now nx sz hs ahead snap has tc en pz pp pn ph pr pe) [] rfl (ws' := (wC G x n m o e bb t p now nx sz hs ahead snap has tc en pz pp pn ph pr pe ++ (wM G a s as_ hi sz sn has tc en it wl sp iw rs er ++ []))) rfl (st' := [.int (mX_fall s (xs (i + 1)) (xs (i + 2))), .int (kX_fall now (xs (i + 1)) (xs (i + 2)))]) rfl ⟨rfl, rfl⟩ hf ?_
  refine x_icmp_eq (tgt := 744) C dL_law_581 (by decide) (fun _ => ?_) (fun h => absurd (v_fall (xs (i + 1)) (xs (i + 2)) hR) h)
  refine x_iinc (v := nI (i + 4)) (lv' := [(3, .int (nI (i + 4))), (2, .ref (a 0)), (1, .ref x), (0, .ref b)]) C 0 rfl dL_law_744 (by rw [show Int32.ofInt 4 = nI 4 from rfl]; exact nI_add _ _) (by decide) rfl ?_
  refine x_goto (tgt := 18) C dL_law_747 (by decide) ?_
  exact K _ _ _ _ _ _ _ _ _ _ _ _ _ _ _ _ _ _ _ _ _ _ _ _ _ _ _ _ _ W
