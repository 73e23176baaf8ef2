set_option maxRecDepth 100000 in
set_option maxHeartbeats 1000000 in
theorem law_k_bookPlan {G : gG} {X : gX} (C : gC G X code 4 room_1 "LessonHorsesLaw") {b L : Nat} {xs : Nat → Int32} (hX : va_X b L xs (gX.s X) (gX.s X).heap) (hbl : b < (gX.s X).heap.size) (hbA : ¬ gX.A X b) (hL : L ≤ 2048) {x : Nat} {n m o e : Nat → Nat} {bb : Nat → Nat → Nat} {t p a : Nat → Nat} {kc ks i : Nat} (hf : kc ≤ room_1.cells ∧ ks ≤ room_1.slots) (hi4 : i + 4 ≤ L) (K : wLP G X b x n m o e bb t p a kc ks (i + 4)) {now : c_S} {nx sz : Nat} {hs : Nat → c_S} {ahead snap : c_S} {has : Int32} {tc : Nat → Int32} {en pz pp : Nat} {pn ph pr : Int32} {pe : Nat → Int32} {s as_ hi : Nat → Int32} {kn : Nat} {sn : Nat → Int32} {ik : Int32} {tx : Nat → Int32} {ln : Nat} {it wl : Nat → Int32} {sp : Nat} {iw : Int32} {rs : Nat} {er : Int32} (W : LW now nx sz hs snap has tc en s hi kn sn ik tx ln) : gW G X (wC G x n m o e bb t p now nx sz hs ahead snap has tc en pz pp pn ph pr pe ++ (wM G a s as_ hi kn sn ik tx ln it wl sp iw rs er ++ [])) kc ks 392 [(3, .int (nI i)), (2, .ref (a 0)), (1, .ref x), (0, .ref b)] [] := by
  obtain ⟨hR, hT, hH, e1, hS, e2, e3, hen, hch⟩ := W
  have e4 := hH.1
  subst e1
  subst e2
  subst e3
  subst e4
  have W : LW now nx sz hs snap has tc en s hi sz sn has tc en := ⟨hR, hT, hH, rfl, hS, rfl, rfl, hen, hch⟩
  have hM := RR_okM hR
  have hSS : okS 10000 now := RR_okS hR (by omega)
  have hnx := hH.2.2.1
  have hk := hH.2.1
  have OK := v_bookPlan (as_ := as_) (tx := tc) (ln := en) (ph := ph) (pr := pr) (pe := pe) hH hR hT hen
  have t5 := c_X5_bookPlan (gX.l X) G x n m o e bb t p now nx sz hs ahead snap has tc en pz pp pn ph pr pe hSS hnx hk hen hch
  have t6 := c_X6_bookPlan (gX.l X) G a s as_ hi sz sn has tc en it wl sp iw rs er hen hM.2.1 hk
  generalize p_read tc en ph pr pe = R9 at OK t5
  generalize mX_bookPlan en tc s as_ hi sz = B9 at OK t6
  refine x_aload_n C 2 rfl dL_law_392 rfl ?_
  refine x_callVd (As := []) (rest := []) C dL_law_393 t5 ml_L_50 im_X5_bookPlan sl_X5_bookPlan in_X5 cd_X5_bookPlan hd_X5_bookPlan 0 rfl rfl rfl rfl (Nat.le_of_ble_eq_true rfl) ⟨Nat.le_of_ble_eq_true rfl, Nat.le_of_ble_eq_true rfl⟩ [] (wM G a s as_ hi sz sn has tc en it wl sp iw rs er ++ []) rfl (ws' := (wC G x n m o e bb t p ((kX_bookPlan now hs nx sz R9).2.1) ((kX_bookPlan now hs nx sz R9).2.2.2.1) ((kX_bookPlan now hs nx sz R9).2.2.2.2) ((kX_bookPlan now hs nx sz R9).2.2.1) (kX_bpA now ahead R9) snap has tc en (R9.2.1) (R9.2.2.1) (R9.2.2.2.1) (R9.2.2.2.2.1) (R9.2.2.2.2.2.1) (R9.2.2.2.2.2.2) ++ (wM G a s as_ hi sz sn has tc en it wl sp iw rs er ++ []))) rfl (st' := [.int ((kX_bookPlan now hs nx sz R9).1)]) rfl ⟨rfl, rfl⟩ hf ?_
  refine x_aload_n C 1 rfl dL_law_396 rfl ?_
  refine x_callVd (As := []) (rest := [.int ((kX_bookPlan now hs nx sz R9).1)]) C dL_law_397 t6 ml_L_53 im_X6_bookPlan sl_X6_bookPlan in_X6 cd_X6_bookPlan hd_X6_bookPlan 0 rfl rfl rfl rfl (Nat.le_of_ble_eq_true rfl) ⟨Nat.le_of_ble_eq_true rfl, Nat.le_of_ble_eq_true rfl⟩ (wC G x n m o e bb t p ((kX_bookPlan now hs nx sz R9).2.1) ((kX_bookPlan now hs nx sz R9).2.2.2.1) ((kX_bookPlan now hs nx sz R9).2.2.2.2) ((kX_bookPlan now hs nx sz R9).2.2.1) (kX_bpA now ahead R9) snap has tc en (R9.2.1) (R9.2.2.1) (R9.2.2.2.1) (R9.2.2.2.2.1) (R9.2.2.2.2.2.1) (R9.2.2.2.2.2.2)) [] rfl (ws' := (wC G x n m o e bb t p ((kX_bookPlan now hs nx sz R9).2.1) ((kX_bookPlan now hs nx sz R9).2.2.2.1) ((kX_bookPlan now hs nx sz R9).2.2.2.2) ((kX_bookPlan now hs nx sz R9).2.2.1) (kX_bpA now ahead R9) snap has tc en (R9.2.1) (R9.2.2.1) (R9.2.2.2.1) (R9.2.2.2.2.1) (R9.2.2.2.2.2.1) (R9.2.2.2.2.2.2) ++ (wM G a (B9.2.1) (B9.2.2.1) (B9.2.2.2.1) (B9.2.2.2.2.1) sn has tc en it wl (B9.2.2.2.2.2.1) (B9.2.2.2.2.2.2.1) (B9.2.2.2.2.2.2.2.1) (B9.2.2.2.2.2.2.2.2) ++ []))) rfl (st' := [.int (B9.1), .int ((kX_bookPlan now hs nx sz R9).1)]) rfl ⟨rfl, rfl⟩ hf ?_
  refine x_icmp_eq (tgt := 744) C dL_law_400 (by decide) (fun _ => ?_) (fun h => absurd OK.1 h)
  refine x_iinc (v := nI (i + 4)) (lv' := [(3, .int (nI (i + 4))), (2, .ref (a 0)), (1, .ref x), (0, .ref b)]) C 0 rfl dL_law_744 (by rw [show Int32.ofInt 4 = nI 4 from rfl]; exact nI_add _ _) (by decide) rfl ?_
  refine x_goto (tgt := 18) C dL_law_747 (by decide) ?_
  exact K _ _ _ _ _ _ _ _ _ _ _ _ _ _ _ _ _ _ _ _ _ _ _ _ _ _ _ _ _ (LW_act W OK)
set_option maxRecDepth 100000 in
set_option maxHeartbeats 1000000 in
theorem law_k_undo {G : gG} {X : gX} (C : gC G X code 4 room_1 "LessonHorsesLaw") {b L : Nat} {xs : Nat → Int32} (hX : va_X b L xs (gX.s X) (gX.s X).heap) (hbl : b < (gX.s X).heap.size) (hbA : ¬ gX.A X b) (hL : L ≤ 2048) {x : Nat} {n m o e : Nat → Nat} {bb : Nat → Nat → Nat} {t p a : Nat → Nat} {kc ks i : Nat} (hf : kc ≤ room_1.cells ∧ ks ≤ room_1.slots) (hi4 : i + 4 ≤ L) (K : wLP G X b x n m o e bb t p a kc ks (i + 4)) {now : c_S} {nx sz : Nat} {hs : Nat → c_S} {ahead snap : c_S} {has : Int32} {tc : Nat → Int32} {en pz pp : Nat} {pn ph pr : Int32} {pe : Nat → Int32} {s as_ hi : Nat → Int32} {kn : Nat} {sn : Nat → Int32} {ik : Int32} {tx : Nat → Int32} {ln : Nat} {it wl : Nat → Int32} {sp : Nat} {iw : Int32} {rs : Nat} {er : Int32} (W : LW now nx sz hs snap has tc en s hi kn sn ik tx ln) : gW G X (wC G x n m o e bb t p now nx sz hs ahead snap has tc en pz pp pn ph pr pe ++ (wM G a s as_ hi kn sn ik tx ln it wl sp iw rs er ++ [])) kc ks 405 [(3, .int (nI i)), (2, .ref (a 0)), (1, .ref x), (0, .ref b)] [] := by
  obtain ⟨hR, hT, hH, e1, hS, e2, e3, hen, hch⟩ := W
  have e4 := hH.1
  subst e1
  subst e2
  subst e3
  subst e4
  have W : LW now nx sz hs snap has tc en s hi sz sn has tc en := ⟨hR, hT, hH, rfl, hS, rfl, rfl, hen, hch⟩
  have hM := RR_okM hR
  have hSS : okS 10000 now := RR_okS hR (by omega)
  have hnx := hH.2.2.1
  have hk := hH.2.1
  have OK := v_undo hH hR hT
  refine x_aload_n C 2 rfl dL_law_405 rfl ?_
  refine x_callVd (As := []) (rest := []) C dL_law_406 (c_X5_undo (gX.l X) G x n m o e bb t p now nx sz hs ahead snap has tc en pz pp pn ph pr pe  hSS hnx hk) ml_L_54 im_X5_undo sl_X5_undo in_X5 cd_X5_undo hd_X5_undo 0 rfl rfl rfl rfl (Nat.le_of_ble_eq_true rfl) ⟨Nat.le_of_ble_eq_true rfl, Nat.le_of_ble_eq_true rfl⟩ [] (wM G a s as_ hi sz sn has tc en it wl sp iw rs er ++ []) rfl (ws' := (wC G x n m o e bb t p ((kX_undo now hs nx sz).2.1) ((kX_undo now hs nx sz).2.2.2.1) ((kX_undo now hs nx sz).2.2.2.2) ((kX_undo now hs nx sz).2.2.1) ahead snap has tc en pz pp pn ph pr pe ++ (wM G a s as_ hi sz sn has tc en it wl sp iw rs er ++ []))) rfl (st' := [.int ((kX_undo now hs nx sz).1)]) rfl ⟨rfl, rfl⟩ hf ?_
  refine x_aload_n C 1 rfl dL_law_409 rfl ?_
  refine x_callVd (As := []) (rest := [.int ((kX_undo now hs nx sz).1)]) C dL_law_410 (c_X6_undo (gX.l X) G a s as_ hi sz sn has tc en it wl sp iw rs er  hk) ml_L_57 im_X6_undo sl_X6_undo in_X6 cd_X6_undo hd_X6_undo 0 rfl rfl rfl rfl (Nat.le_of_ble_eq_true rfl) ⟨Nat.le_of_ble_eq_true rfl, Nat.le_of_ble_eq_true rfl⟩ (wC G x n m o e bb t p ((kX_undo now hs nx sz).2.1) ((kX_undo now hs nx sz).2.2.2.1) ((kX_undo now hs nx sz).2.2.2.2) ((kX_undo now hs nx sz).2.2.1) ahead snap has tc en pz pp pn ph pr pe) [] rfl (ws' := (wC G x n m o e bb t p ((kX_undo now hs nx sz).2.1) ((kX_undo now hs nx sz).2.2.2.1) ((kX_undo now hs nx sz).2.2.2.2) ((kX_undo now hs nx sz).2.2.1) ahead snap has tc en pz pp pn ph pr pe ++ (wM G a ((mX_undo s hi sz).2.1) as_ hi ((mX_undo s hi sz).2.2) sn has tc en it wl sp iw rs er ++ []))) rfl (st' := [.int ((mX_undo s hi sz).1), .int ((kX_undo now hs nx sz).1)]) rfl ⟨rfl, rfl⟩ hf ?_
  refine x_icmp_eq (tgt := 744) C dL_law_413 (by decide) (fun _ => ?_) (fun h => absurd OK.1 h)
  refine x_iinc (v := nI (i + 4)) (lv' := [(3, .int (nI (i + 4))), (2, .ref (a 0)), (1, .ref x), (0, .ref b)]) C 0 rfl dL_law_744 (by rw [show Int32.ofInt 4 = nI 4 from rfl]; exact nI_add _ _) (by decide) rfl ?_
  refine x_goto (tgt := 18) C dL_law_747 (by decide) ?_
  exact K _ _ _ _ _ _ _ _ _ _ _ _ _ _ _ _ _ _ _ _ _ _ _ _ _ _ _ _ _ (LW_act W OK)
set_option maxRecDepth 100000 in
set_option maxHeartbeats 1000000 in
theorem law_k_keep {G : gG} {X : gX} (C : gC G X code 4 room_1 "LessonHorsesLaw") {b L : Nat} {xs : Nat → Int32} (hX : va_X b L xs (gX.s X) (gX.s X).heap) (hbl : b < (gX.s X).heap.size) (hbA : ¬ gX.A X b) (hL : L ≤ 2048) {x : Nat} {n m o e : Nat → Nat} {bb : Nat → Nat → Nat} {t p a : Nat → Nat} {kc ks i : Nat} (hf : kc ≤ room_1.cells ∧ ks ≤ room_1.slots) (hi4 : i + 4 ≤ L) (K : wLP G X b x n m o e bb t p a kc ks (i + 4)) {now : c_S} {nx sz : Nat} {hs : Nat → c_S} {ahead snap : c_S} {has : Int32} {tc : Nat → Int32} {en pz pp : Nat} {pn ph pr : Int32} {pe : Nat → Int32} {s as_ hi : Nat → Int32} {kn : Nat} {sn : Nat → Int32} {ik : Int32} {tx : Nat → Int32} {ln : Nat} {it wl : Nat → Int32} {sp : Nat} {iw : Int32} {rs : Nat} {er : Int32} (W : LW now nx sz hs snap has tc en s hi kn sn ik tx ln) : gW G X (wC G x n m o e bb t p now nx sz hs ahead snap has tc en pz pp pn ph pr pe ++ (wM G a s as_ hi kn sn ik tx ln it wl sp iw rs er ++ [])) kc ks 418 [(3, .int (nI i)), (2, .ref (a 0)), (1, .ref x), (0, .ref b)] [] := by
  obtain ⟨hR, hT, hH, e1, hS, e2, e3, hen, hch⟩ := W
  have e4 := hH.1
  subst e1
  subst e2
  subst e3
  subst e4
  have W : LW now nx sz hs snap has tc en s hi sz sn has tc en := ⟨hR, hT, hH, rfl, hS, rfl, rfl, hen, hch⟩
  have hM := RR_okM hR
  have hSS : okS 10000 now := RR_okS hR (by omega)
  have hnx := hH.2.2.1
  have hk := hH.2.1
  refine x_aload_n C 2 rfl dL_law_418 rfl ?_
  refine x_callVd (As := []) (rest := []) C dL_law_419 (c_X5_keep (gX.l X) G x n m o e bb t p now nx sz hs ahead snap has tc en pz pp pn ph pr pe  hSS hnx hk) ml_L_58 im_X5_keep sl_X5_keep in_X5 cd_X5_keep hd_X5_keep 0 rfl rfl rfl rfl (Nat.le_of_ble_eq_true rfl) ⟨Nat.le_of_ble_eq_true rfl, Nat.le_of_ble_eq_true rfl⟩ [] (wM G a s as_ hi sz sn has tc en it wl sp iw rs er ++ []) rfl (ws' := (wC G x n m o e bb t p now nx sz hs ahead now 1 tc en pz pp pn ph pr pe ++ (wM G a s as_ hi sz sn has tc en it wl sp iw rs er ++ []))) rfl (st' := [.int (nI (q_ti now))]) rfl ⟨rfl, rfl⟩ hf ?_
  refine x_aload_n C 1 rfl dL_law_422 rfl ?_
  refine x_callVd (As := []) (rest := [.int (nI (q_ti now))]) C dL_law_423 (c_X6_keep (gX.l X) G a s as_ hi sz sn has tc en it wl sp iw rs er  ) ml_L_61 im_X6_keep sl_X6_keep in_X6 cd_X6_keep hd_X6_keep 0 rfl rfl rfl rfl (Nat.le_of_ble_eq_true rfl) ⟨Nat.le_of_ble_eq_true rfl, Nat.le_of_ble_eq_true rfl⟩ (wC G x n m o e bb t p now nx sz hs ahead now 1 tc en pz pp pn ph pr pe) [] rfl (ws' := (wC G x n m o e bb t p now nx sz hs ahead now 1 tc en pz pp pn ph pr pe ++ (wM G a s as_ hi sz (cpL s sn 0 0 378) 1 tc en it wl sp iw rs er ++ []))) rfl (st' := [.int (s 0), .int (nI (q_ti now))]) rfl ⟨rfl, rfl⟩ hf ?_
  refine x_icmp_eq (tgt := 744) C dL_law_426 (by decide) (fun _ => ?_) (fun h => absurd hR.1.symm h)
  refine x_iinc (v := nI (i + 4)) (lv' := [(3, .int (nI (i + 4))), (2, .ref (a 0)), (1, .ref x), (0, .ref b)]) C 0 rfl dL_law_744 (by rw [show Int32.ofInt 4 = nI 4 from rfl]; exact nI_add _ _) (by decide) rfl ?_
  refine x_goto (tgt := 18) C dL_law_747 (by decide) ?_
  exact K _ _ _ _ _ _ _ _ _ _ _ _ _ _ _ _ _ _ _ _ _ _ _ _ _ _ _ _ _ (LW_keep W)
set_option maxRecDepth 100000 in
set_option maxHeartbeats 1000000 in
theorem law_k_restore {G : gG} {X : gX} (C : gC G X code 4 room_1 "LessonHorsesLaw") {b L : Nat} {xs : Nat → Int32} (hX : va_X b L xs (gX.s X) (gX.s X).heap) (hbl : b < (gX.s X).heap.size) (hbA : ¬ gX.A X b) (hL : L ≤ 2048) {x : Nat} {n m o e : Nat → Nat} {bb : Nat → Nat → Nat} {t p a : Nat → Nat} {kc ks i : Nat} (hf : kc ≤ room_1.cells ∧ ks ≤ room_1.slots) (hi4 : i + 4 ≤ L) (K : wLP G X b x n m o e bb t p a kc ks (i + 4)) {now : c_S} {nx sz : Nat} {hs : Nat → c_S} {ahead snap : c_S} {has : Int32} {tc : Nat → Int32} {en pz pp : Nat} {pn ph pr : Int32} {pe : Nat → Int32} {s as_ hi : Nat → Int32} {kn : Nat} {sn : Nat → Int32} {ik : Int32} {tx : Nat → Int32} {ln : Nat} {it wl : Nat → Int32} {sp : Nat} {iw : Int32} {rs : Nat} {er : Int32} (W : LW now nx sz hs snap has tc en s hi kn sn ik tx ln) : gW G X (wC G x n m o e bb t p now nx sz hs ahead snap has tc en pz pp pn ph pr pe ++ (wM G a s as_ hi kn sn ik tx ln it wl sp iw rs er ++ [])) kc ks 431 [(3, .int (nI i)), (2, .ref (a 0)), (1, .ref x), (0, .ref b)] [] := by
  obtain ⟨hR, hT, hH, e1, hS, e2, e3, hen, hch⟩ := W
  have e4 := hH.1
  subst e1
  subst e2
  subst e3
  subst e4
  have W : LW now nx sz hs snap has tc en s hi sz sn has tc en := ⟨hR, hT, hH, rfl, hS, rfl, rfl, hen, hch⟩
  have hM := RR_okM hR
  have hSS : okS 10000 now := RR_okS hR (by omega)
  have hnx := hH.2.2.1
  have hk := hH.2.1
  have OK := v_restore hH hR hT hS
  refine x_aload_n C 2 rfl dL_law_431 rfl ?_
  refine x_callVd (As := []) (rest := []) C dL_law_432 (c_X5_restore (gX.l X) G x n m o e bb t p now nx sz hs ahead snap has tc en pz pp pn ph pr pe  hSS hnx hk) ml_L_62 im_X5_restore sl_X5_restore in_X5 cd_X5_restore hd_X5_restore 0 rfl rfl rfl rfl (Nat.le_of_ble_eq_true rfl) ⟨Nat.le_of_ble_eq_true rfl, Nat.le_of_ble_eq_true rfl⟩ [] (wM G a s as_ hi sz sn has tc en it wl sp iw rs er ++ []) rfl (ws' := (wC G x n m o e bb t p ((kX_restore now snap has hs nx sz).2.1) ((kX_restore now snap has hs nx sz).2.2.2.1) ((kX_restore now snap has hs nx sz).2.2.2.2) ((kX_restore now snap has hs nx sz).2.2.1) ahead snap has tc en pz pp pn ph pr pe ++ (wM G a s as_ hi sz sn has tc en it wl sp iw rs er ++ []))) rfl (st' := [.int ((kX_restore now snap has hs nx sz).1)]) rfl ⟨rfl, rfl⟩ hf ?_
  refine x_aload_n C 1 rfl dL_law_435 rfl ?_
  refine x_callVd (As := []) (rest := [.int ((kX_restore now snap has hs nx sz).1)]) C dL_law_436 (c_X6_restore (gX.l X) G a s as_ hi sz sn has tc en it wl sp iw rs er  hk) ml_L_65 im_X6_restore sl_X6_restore in_X6 cd_X6_restore hd_X6_restore 0 rfl rfl rfl rfl (Nat.le_of_ble_eq_true rfl) ⟨Nat.le_of_ble_eq_true rfl, Nat.le_of_ble_eq_true rfl⟩ (wC G x n m o e bb t p ((kX_restore now snap has hs nx sz).2.1) ((kX_restore now snap has hs nx sz).2.2.2.1) ((kX_restore now snap has hs nx sz).2.2.2.2) ((kX_restore now snap has hs nx sz).2.2.1) ahead snap has tc en pz pp pn ph pr pe) [] rfl (ws' := (wC G x n m o e bb t p ((kX_restore now snap has hs nx sz).2.1) ((kX_restore now snap has hs nx sz).2.2.2.1) ((kX_restore now snap has hs nx sz).2.2.2.2) ((kX_restore now snap has hs nx sz).2.2.1) ahead snap has tc en pz pp pn ph pr pe ++ (wM G a ((mX_restore s hi sn sz has).2.1) as_ ((mX_restore s hi sn sz has).2.2.1) ((mX_restore s hi sn sz has).2.2.2) sn has tc en it wl sp iw rs er ++ []))) rfl (st' := [.int ((mX_restore s hi sn sz has).1), .int ((kX_restore now snap has hs nx sz).1)]) rfl ⟨rfl, rfl⟩ hf ?_
  refine x_icmp_eq (tgt := 744) C dL_law_439 (by decide) (fun _ => ?_) (fun h => absurd OK.1 h)
  refine x_iinc (v := nI (i + 4)) (lv' := [(3, .int (nI (i + 4))), (2, .ref (a 0)), (1, .ref x), (0, .ref b)]) C 0 rfl dL_law_744 (by rw [show Int32.ofInt 4 = nI 4 from rfl]; exact nI_add _ _) (by decide) rfl ?_
  refine x_goto (tgt := 18) C dL_law_747 (by decide) ?_
  exact K _ _ _ _ _ _ _ _ _ _ _ _ _ _ _ _ _ _ _ _ _ _ _ _ _ _ _ _ _ (LW_act W OK)
