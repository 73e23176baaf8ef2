set_option maxRecDepth 100000 in
set_option maxHeartbeats 1000000 in
theorem law_k_reason {G : gG} {X : gX} (C : gC G X code 4 room_1 "LessonHorsesLaw") {b L : Nat} {xs : Nat → Int32} (hX : va_X b L xs (gX.s X) (gX.s X).heap) (hbl : b < (gX.s X).heap.size) (hbA : ¬ gX.A X b) (hL : L ≤ 2048) {x : Nat} {n m o e : Nat → Nat} {bb : Nat → Nat → Nat} {t p a : Nat → Nat} {kc ks i : Nat} (hf : kc ≤ room_1.cells ∧ ks ≤ room_1.slots) (hi4 : i + 4 ≤ L) (K : wLP G X b x n m o e bb t p a kc ks (i + 4)) {now : c_S} {nx sz : Nat} {hs : Nat → c_S} {ahead snap : c_S} {has : Int32} {tc : Nat → Int32} {en pz pp : Nat} {pn ph pr : Int32} {pe : Nat → Int32} {s as_ hi : Nat → Int32} {kn : Nat} {sn : Nat → Int32} {ik : Int32} {tx : Nat → Int32} {ln : Nat} {it wl : Nat → Int32} {sp : Nat} {iw : Int32} {rs : Nat} {er : Int32} (W : LW now nx sz hs snap has tc en s hi kn sn ik tx ln) : gW G X (wC G x n m o e bb t p now nx sz hs ahead snap has tc en pz pp pn ph pr pe ++ (wM G a s as_ hi kn sn ik tx ln it wl sp iw rs er ++ [])) kc ks 586 [(3, .int (nI i)), (2, .ref (a 0)), (1, .ref x), (0, .ref b)] [] := by
  obtain ⟨hR, hT, hH, e1, hS, e2, e3, hen, hch⟩ := W
  have e4 := hH.1
  subst e1
  subst e2
  subst e3
  subst e4
  have W : LW now nx sz hs snap has tc en s hi sz sn has tc en := ⟨hR, hT, hH, rfl, hS, rfl, rfl, hen, hch⟩
  have hM := RR_okM hR
  have hSS : okS 10000 now := RR_okS hR (by omega)
  have hnx := hH.2.2.1
  have hk := hH.2.1
  refine x_aload_n C 2 rfl dL_law_586 rfl ?_
  refine x_aload_n C 3 rfl dL_law_587 rfl ?_
  refine x_iload_n C 0 rfl dL_law_588 rfl ?_
  refine x_iconst (v := nI 1) C dL_law_589 (by decide) ?_
  refine x_iaddN C dL_law_590 ?_
  refine x_sld C hX hbl hbA hL (j := i + 1) (by omega) dL_law_591 ?_
  refine x_aload_n C 3 rfl dL_law_592 rfl ?_
  refine x_iload_n C 0 rfl dL_law_593 rfl ?_
  refine x_iconst (v := nI 2) C dL_law_594 (by decide) ?_
  refine x_iaddN C dL_law_595 ?_
  refine x_sld C hX hbl hbA hL (j := i + 2) (by omega) dL_law_596 ?_
  refine x_callVd (As := [.int (xs (i + 1)), .int (xs (i + 2))]) (rest := []) C dL_law_597 (c_X5_reason (gX.l X) G x n m o e bb t p now nx sz hs ahead snap has tc en pz pp pn ph pr pe (xs (i + 1)) (xs (i + 2)) hSS hnx hk) ml_L_82 im_X5_reason sl_X5_reason in_X5 cd_X5_reason hd_X5_reason 0 rfl rfl rfl rfl (Nat.le_of_ble_eq_true rfl) ⟨Nat.le_of_ble_eq_true rfl, Nat.le_of_ble_eq_true rfl⟩ [] (wM G a s as_ hi sz sn has tc en it wl sp iw rs er ++ []) rfl (ws' := (wC G x n m o e bb t p now nx sz hs ahead snap has tc en pz pp pn ph pr pe ++ (wM G a s as_ hi sz sn has tc en it wl sp iw rs er ++ []))) rfl (st' := [.int (kX_reason now (xs (i + 1)) (xs (i + 2)))]) rfl ⟨rfl, rfl⟩ hf ?_
  refine x_aload_n C 1 rfl dL_law_600 rfl ?_
  refine x_aload_n C 3 rfl dL_law_601 rfl ?_
  refine x_iload_n C 0 rfl dL_law_602 rfl ?_
  refine x_iconst (v := nI 1) C dL_law_603 (by decide) ?_
  refine x_iaddN C dL_law_604 ?_
  refine x_sld C hX hbl hbA hL (j := i + 1) (by omega) dL_law_605 ?_
  refine x_aload_n C 3 rfl dL_law_606 rfl ?_
  refine x_iload_n C 0 rfl dL_law_607 rfl ?_
  refine x_iconst (v := nI 2) C dL_law_608 (by decide) ?_
  refine x_iaddN C dL_law_609 ?_
  refine x_sld C hX hbl hbA hL (j := i + 2) (by omega) dL_law_610 ?_
  refine x_callVd (As := [.int (xs (i + 1)), .int (xs (i + 2))]) (rest := [.int (kX_reason now (xs (i + 1)) (xs (i + 2)))]) C dL_law_611 (c_X6_reason (gX.l X) G a s as_ hi sz sn has tc en it wl sp iw rs er (xs (i + 1)) (xs (i + 2)) hM.1) ml_L_85 im_X6_reason sl_X6_reason in_X6 cd_X6_reason hd_X6_reason 0 rfl rfl rfl rfl (Nat.le_of_ble_eq_true rfl) ⟨Nat.le_of_ble_eq_true rfl, Nat.le_of_ble_eq_true rfl⟩ (wC G x n m o e bb t p now nx sz hs ahead snap has tc en pz pp pn ph pr pe) [] rfl (ws' := (wC G x n m o e bb t p now nx sz hs ahead snap has tc en pz pp pn ph pr pe ++ (wM G a s as_ hi sz sn has tc en it wl sp iw rs er ++ []))) rfl (st' := [.int (mX_reason s (xs (i + 1)) (xs (i + 2))), .int (kX_reason now (xs (i + 1)) (xs (i + 2)))]) rfl ⟨rfl, rfl⟩ hf ?_
  refine x_icmp_eq (tgt := 744) C dL_law_614 (by decide) (fun _ => ?_) (fun h => absurd (v_reason (xs (i + 1)) (xs (i + 2)) hR hT) h)
  refine x_iinc (v := nI (i + 4)) (lv' := [(3, .int (nI (i + 4))), (2, .ref (a 0)), (1, .ref x), (0, .ref b)]) C 0 rfl dL_law_744 (by rw [show Int32.ofInt 4 = nI 4 from rfl]; exact nI_add _ _) (by decide) rfl ?_
  refine x_goto (tgt := 18) C dL_law_747 (by decide) ?_
  exact K _ _ _ _ _ _ _ _ _ _ _ _ _ _ _ _ _ _ _ _ _ _ _ _ _ _ _ _ _ W
set_option maxRecDepth 100000 in
set_option maxHeartbeats 1000000 in
theorem law_k_best {G : gG} {X : gX} (C : gC G X code 4 room_1 "LessonHorsesLaw") {b L : Nat} {xs : Nat → Int32} (hX : va_X b L xs (gX.s X) (gX.s X).heap) (hbl : b < (gX.s X).heap.size) (hbA : ¬ gX.A X b) (hL : L ≤ 2048) {x : Nat} {n m o e : Nat → Nat} {bb : Nat → Nat → Nat} {t p a : Nat → Nat} {kc ks i : Nat} (hf : kc ≤ room_1.cells ∧ ks ≤ room_1.slots) (hi4 : i + 4 ≤ L) (K : wLP G X b x n m o e bb t p a kc ks (i + 4)) {now : c_S} {nx sz : Nat} {hs : Nat → c_S} {ahead snap : c_S} {has : Int32} {tc : Nat → Int32} {en pz pp : Nat} {pn ph pr : Int32} {pe : Nat → Int32} {s as_ hi : Nat → Int32} {kn : Nat} {sn : Nat → Int32} {ik : Int32} {tx : Nat → Int32} {ln : Nat} {it wl : Nat → Int32} {sp : Nat} {iw : Int32} {rs : Nat} {er : Int32} (W : LW now nx sz hs snap has tc en s hi kn sn ik tx ln) : gW G X (wC G x n m o e bb t p now nx sz hs ahead snap has tc en pz pp pn ph pr pe ++ (wM G a s as_ hi kn sn ik tx ln it wl sp iw rs er ++ [])) kc ks 619 [(3, .int (nI i)), (2, .ref (a 0)), (1, .ref x), (0, .ref b)] [] := by
  obtain ⟨hR, hT, hH, e1, hS, e2, e3, hen, hch⟩ := W
  have e4 := hH.1
  subst e1
  subst e2
  subst e3
  subst e4
  have W : LW now nx sz hs snap has tc en s hi sz sn has tc en := ⟨hR, hT, hH, rfl, hS, rfl, rfl, hen, hch⟩
  have hM := RR_okM hR
  have hSS : okS 10000 now := RR_okS hR (by omega)
  have hnx := hH.2.2.1
  have hk := hH.2.1
  refine x_aload_n C 2 rfl dL_law_619 rfl ?_
  refine x_aload_n C 3 rfl dL_law_620 rfl ?_
  refine x_iload_n C 0 rfl dL_law_621 rfl ?_
  refine x_iconst (v := nI 1) C dL_law_622 (by decide) ?_
  refine x_iaddN C dL_law_623 ?_
  refine x_sld C hX hbl hbA hL (j := i + 1) (by omega) dL_law_624 ?_
  refine x_callVd (As := [.int (xs (i + 1))]) (rest := []) C dL_law_625 (c_X5_best (gX.l X) G x n m o e bb t p now nx sz hs ahead snap has tc en pz pp pn ph pr pe (xs (i + 1)) hSS hnx hk) ml_L_86 im_X5_best sl_X5_best in_X5 cd_X5_best hd_X5_best 0 rfl rfl rfl rfl (Nat.le_of_ble_eq_true rfl) ⟨Nat.le_of_ble_eq_true rfl, Nat.le_of_ble_eq_true rfl⟩ [] (wM G a s as_ hi sz sn has tc en it wl sp iw rs er ++ []) rfl (ws' := (wC G x n m o e bb t p now nx sz hs ahead snap has tc en pz pp pn ph pr pe ++ (wM G a s as_ hi sz sn has tc en it wl sp iw rs er ++ []))) rfl (st' := [.int (kX_best now (xs (i + 1)))]) rfl ⟨rfl, rfl⟩ hf ?_
  refine x_aload_n C 1 rfl dL_law_628 rfl ?_
  refine x_aload_n C 3 rfl dL_law_629 rfl ?_
  refine x_iload_n C 0 rfl dL_law_630 rfl ?_
  refine x_iconst (v := nI 1) C dL_law_631 (by decide) ?_
  refine x_iaddN C dL_law_632 ?_
  refine x_sld C hX hbl hbA hL (j := i + 1) (by omega) dL_law_633 ?_
  refine x_callVd (As := [.int (xs (i + 1))]) (rest := [.int (kX_best now (xs (i + 1)))]) C dL_law_634 (c_X6_best (gX.l X) G a s as_ hi sz sn has tc en it wl sp iw rs er (xs (i + 1)) hM.1) ml_L_89 im_X6_best sl_X6_best in_X6 cd_X6_best hd_X6_best 0 rfl rfl rfl rfl (Nat.le_of_ble_eq_true rfl) ⟨Nat.le_of_ble_eq_true rfl, Nat.le_of_ble_eq_true rfl⟩ (wC G x n m o e bb t p now nx sz hs ahead snap has tc en pz pp pn ph pr pe) [] rfl (ws' := (wC G x n m o e bb t p now nx sz hs ahead snap has tc en pz pp pn ph pr pe ++ (wM G a s as_ hi sz sn has tc en (if m_in (xs (i + 1)) 0 11 then zeL it 10 else it) wl sp iw rs er ++ []))) rfl (st' := [.int (mX_best s it (xs (i + 1))), .int (kX_best now (xs (i + 1)))]) rfl ⟨rfl, rfl⟩ hf ?_
  refine x_icmp_eq (tgt := 744) C dL_law_637 (by decide) (fun _ => ?_) (fun h => absurd (v_bestX (xs (i + 1)) hR hT) h)
  refine x_iinc (v := nI (i + 4)) (lv' := [(3, .int (nI (i + 4))), (2, .ref (a 0)), (1, .ref x), (0, .ref b)]) C 0 rfl dL_law_744 (by rw [show Int32.ofInt 4 = nI 4 from rfl]; exact nI_add _ _) (by decide) rfl ?_
  refine x_goto (tgt := 18) C dL_law_747 (by decide) ?_
  exact K _ _ _ _ _ _ _ _ _ _ _ _ _ _ _ _ _ _ _ _ _ _ _ _ _ _ _ _ _ W
set_option maxRecDepth 100000 in
set_option maxHeartbeats 1000000 in
theorem law_k_takenIn {G : gG} {X : gX} (C : gC G X code 4 room_1 "LessonHorsesLaw") {b L : Nat} {xs : Nat → Int32} (hX : va_X b L xs (gX.s X) (gX.s X).heap) (hbl : b < (gX.s X).heap.size) (hbA : ¬ gX.A X b) (hL : L ≤ 2048) {x : Nat} {n m o e : Nat → Nat} {bb : Nat → Nat → Nat} {t p a : Nat → Nat} {kc ks i : Nat} (hf : kc ≤ room_1.cells ∧ ks ≤ room_1.slots) (hi4 : i + 4 ≤ L) (K : wLP G X b x n m o e bb t p a kc ks (i + 4)) {now : c_S} {nx sz : Nat} {hs : Nat → c_S} {ahead snap : c_S} {has : Int32} {tc : Nat → Int32} {en pz pp : Nat} {pn ph pr : Int32} {pe : Nat → Int32} {s as_ hi : Nat → Int32} {kn : Nat} {sn : Nat → Int32} {ik : Int32} {tx : Nat → Int32} {ln : Nat} {it wl : Nat → Int32} {sp : Nat} {iw : Int32} {rs : Nat} {er : Int32} (W : LW now nx sz hs snap has tc en s hi kn sn ik tx ln) : gW G X (wC G x n m o e bb t p now nx sz hs ahead snap has tc en pz pp pn ph pr pe ++ (wM G a s as_ hi kn sn ik tx ln it wl sp iw rs er ++ [])) kc ks 642 [(3, .int (nI i)), (2, .ref (a 0)), (1, .ref x), (0, .ref b)] [] := by
  obtain ⟨hR, hT, hH, e1, hS, e2, e3, hen, hch⟩ := W
  have e4 := hH.1
  subst e1
  subst e2
  subst e3
  subst e4
  have W : LW now nx sz hs snap has tc en s hi sz sn has tc en := ⟨hR, hT, hH, rfl, hS, rfl, rfl, hen, hch⟩
  have hM := RR_okM hR
  have hSS : okS 10000 now := RR_okS hR (by omega)
  have hnx := hH.2.2.1
  have hk := hH.2.1
  have OK := v_takenIn (as_ := as_) (it := it) (wl := wl) (ahead := ahead) (xs (i + 1)) (xs (i + 2)) hR hT
  refine x_aload_n C 2 rfl dL_law_642 rfl ?_
  refine x_aload_n C 3 rfl dL_law_643 rfl ?_
  refine x_iload_n C 0 rfl dL_law_644 rfl ?_
  refine x_iconst (v := nI 1) C dL_law_645 (by decide) ?_
  refine x_iaddN C dL_law_646 ?_
  refine x_sld C hX hbl hbA hL (j := i + 1) (by omega) dL_law_647 ?_
  refine x_aload_n C 3 rfl dL_law_648 rfl ?_
  refine x_iload_n C 0 rfl dL_law_649 rfl ?_
  refine x_iconst (v := nI 2) C dL_law_650 (by decide) ?_
  refine x_iaddN C dL_law_651 ?_
  refine x_sld C hX hbl hbA hL (j := i + 2) (by omega) dL_law_652 ?_
  refine x_callVd (As := [.int (xs (i + 1)), .int (xs (i + 2))]) (rest := []) C dL_law_653 (c_X5_takenIn (gX.l X) G x n m o e bb t p now nx sz hs ahead snap has tc en pz pp pn ph pr pe (xs (i + 1)) (xs (i + 2)) hSS hnx hk) ml_L_90 im_X5_takenIn sl_X5_takenIn in_X5 cd_X5_takenIn hd_X5_takenIn 0 rfl rfl rfl rfl (Nat.le_of_ble_eq_true rfl) ⟨Nat.le_of_ble_eq_true rfl, Nat.le_of_ble_eq_true rfl⟩ [] (wM G a s as_ hi sz sn has tc en it wl sp iw rs er ++ []) rfl (ws' := (wC G x n m o e bb t p now nx sz hs ((kX_takenIn now ahead (xs (i + 1)) (xs (i + 2))).2) snap has tc en pz pp pn ph pr pe ++ (wM G a s as_ hi sz sn has tc en it wl sp iw rs er ++ []))) rfl (st' := [.int ((kX_takenIn now ahead (xs (i + 1)) (xs (i + 2))).1)]) rfl ⟨rfl, rfl⟩ hf ?_
  refine x_aload_n C 1 rfl dL_law_656 rfl ?_
  refine x_aload_n C 3 rfl dL_law_657 rfl ?_
  refine x_iload_n C 0 rfl dL_law_658 rfl ?_
  refine x_iconst (v := nI 1) C dL_law_659 (by decide) ?_
  refine x_iaddN C dL_law_660 ?_
  refine x_sld C hX hbl hbA hL (j := i + 1) (by omega) dL_law_661 ?_
  refine x_aload_n C 3 rfl dL_law_662 rfl ?_
  refine x_iload_n C 0 rfl dL_law_663 rfl ?_
  refine x_iconst (v := nI 2) C dL_law_664 (by decide) ?_
  refine x_iaddN C dL_law_665 ?_
  refine x_sld C hX hbl hbA hL (j := i + 2) (by omega) dL_law_666 ?_
  refine x_callVd (As := [.int (xs (i + 1)), .int (xs (i + 2))]) (rest := [.int ((kX_takenIn now ahead (xs (i + 1)) (xs (i + 2))).1)]) C dL_law_667 (c_X6_takenIn (gX.l X) G a s as_ hi sz sn has tc en it wl sp iw rs er (xs (i + 1)) (xs (i + 2)) hM) ml_L_93 im_X6_takenIn sl_X6_takenIn in_X6 cd_X6_takenIn hd_X6_takenIn 0 rfl rfl rfl rfl (Nat.le_of_ble_eq_true rfl) ⟨Nat.le_of_ble_eq_true rfl, Nat.le_of_ble_eq_true rfl⟩ (wC G x n m o e bb t p now nx sz hs ((kX_takenIn now ahead (xs (i + 1)) (xs (i + 2))).2) snap has tc en pz pp pn ph pr pe) [] rfl (ws' := (wC G x n m o e bb t p now nx sz hs ((kX_takenIn now ahead (xs (i + 1)) (xs (i + 2))).2) snap has tc en pz pp pn ph pr pe ++ (wM G a ((mX_takenIn s as_ it wl (xs (i + 1)) (xs (i + 2))).2.1) ((mX_takenIn s as_ it wl (xs (i + 1)) (xs (i + 2))).2.2.1) hi sz sn has tc en ((mX_takenIn s as_ it wl (xs (i + 1)) (xs (i + 2))).2.2.2.1) ((mX_takenIn s as_ it wl (xs (i + 1)) (xs (i + 2))).2.2.2.2) sp iw rs er ++ []))) rfl (st' := [.int ((mX_takenIn s as_ it wl (xs (i + 1)) (xs (i + 2))).1), .int ((kX_takenIn now ahead (xs (i + 1)) (xs (i + 2))).1)]) rfl ⟨rfl, rfl⟩ hf ?_
  refine x_icmp_eq (tgt := 744) C dL_law_670 (by decide) (fun _ => ?_) (fun h => absurd OK.1 h)
  refine x_iinc (v := nI (i + 4)) (lv' := [(3, .int (nI (i + 4))), (2, .ref (a 0)), (1, .ref x), (0, .ref b)]) C 0 rfl dL_law_744 (by rw [show Int32.ofInt 4 = nI 4 from rfl]; exact nI_add _ _) (by decide) rfl ?_
  refine x_goto (tgt := 18) C dL_law_747 (by decide) ?_
  exact K _ _ _ _ _ _ _ _ _ _ _ _ _ _ _ _ _ _ _ _ _ _ _ _ _ _ _ _ _ (LW_s W OK.2)
set_option maxRecDepth 100000 in
set_option maxHeartbeats 1000000 in
theorem law_k_ifPassed {G : gG} {X : gX} (C : gC G X code 4 room_1 "LessonHorsesLaw") {b L : Nat} {xs : Nat → Int32} (hX : va_X b L xs (gX.s X) (gX.s X).heap) (hbl : b < (gX.s X).heap.size) (hbA : ¬ gX.A X b) (hL : L ≤ 2048) {x : Nat} {n m o e : Nat → Nat} {bb : Nat → Nat → Nat} {t p a : Nat → Nat} {kc ks i : Nat} (hf : kc ≤ room_1.cells ∧ ks ≤ room_1.slots) (hi4 : i + 4 ≤ L) (K : wLP G X b x n m o e bb t p a kc ks (i + 4)) {now : c_S} {nx sz : Nat} {hs : Nat → c_S} {ahead snap : c_S} {has : Int32} {tc : Nat → Int32} {en pz pp : Nat} {pn ph pr : Int32} {pe : Nat → Int32} {s as_ hi : Nat → Int32} {kn : Nat} {sn : Nat → Int32} {ik : Int32} {tx : Nat → Int32} {ln : Nat} {it wl : Nat → Int32} {sp : Nat} {iw : Int32} {rs : Nat} {er : Int32} (W : LW now nx sz hs snap has tc en s hi kn sn ik tx ln) : gW G X (wC G x n m o e bb t p now nx sz hs ahead snap has tc en pz pp pn ph pr pe ++ (wM G a s as_ hi kn sn ik tx ln it wl sp iw rs er ++ [])) kc ks 675 [(3, .int (nI i)), (2, .ref (a 0)), (1, .ref x), (0, .ref b)] [] := by
  obtain ⟨hR, hT, hH, e1, hS, e2, e3, hen, hch⟩ := W
  have e4 := hH.1
  subst e1
  subst e2
  subst e3
  subst e4
  have W : LW now nx sz hs snap has tc en s hi sz sn has tc en := ⟨hR, hT, hH, rfl, hS, rfl, rfl, hen, hch⟩
  have hM := RR_okM hR
  have hSS : okS 10000 now := RR_okS hR (by omega)
  have hnx := hH.2.2.1
  have hk := hH.2.1
  have OK := v_ifPassed (as_ := as_) (it := it) (wl := wl) (ahead := ahead) (xs (i + 1)) (xs (i + 2)) hR hT
  refine x_aload_n C 2 rfl dL_law_675 rfl ?_
  refine x_aload_n C 3 rfl dL_law_676 rfl ?_
  refine x_iload_n C 0 rfl dL_law_677 rfl ?_
  refine x_iconst (v := nI 1) C dL_law_678 (by decide) ?_
  refine x_iaddN C dL_law_679 ?_
  refine x_sld C hX hbl hbA hL (j := i + 1) (by omega) dL_law_680 ?_
  refine x_aload_n C 3 rfl dL_law_681 rfl ?_
  refine x_iload_n C 0 rfl dL_law_682 rfl ?_
  refine x_iconst (v := nI 2) C dL_law_683 (by decide) ?_
  refine x_iaddN C dL_law_684 ?_
  refine x_sld C hX hbl hbA hL (j := i + 2) (by omega) dL_law_685 ?_
  refine x_callVd (As := [.int (xs (i + 1)), .int (xs (i + 2))]) (rest := []) C dL_law_686 (c_X5_ifPassed (gX.l X) G x n m o e bb t p now nx sz hs ahead snap has tc en pz pp pn ph pr pe (xs (i + 1)) (xs (i + 2)) hSS hnx hk) ml_L_94 im_X5_ifPassed sl_X5_ifPassed in_X5 cd_X5_ifPassed hd_X5_ifPassed 0 rfl rfl rfl rfl (Nat.le_of_ble_eq_true rfl) ⟨Nat.le_of_ble_eq_true rfl, Nat.le_of_ble_eq_true rfl⟩ [] (wM G a s as_ hi sz sn has tc en it wl sp iw rs er ++ []) rfl (ws' := (wC G x n m o e bb t p now nx sz hs ((kX_ifPassed now ahead (xs (i + 1)) (xs (i + 2))).2) snap has tc en pz pp pn ph pr pe ++ (wM G a s as_ hi sz sn has tc en it wl sp iw rs er ++ []))) rfl (st' := [.int ((kX_ifPassed now ahead (xs (i + 1)) (xs (i + 2))).1)]) rfl ⟨rfl, rfl⟩ hf ?_
  refine x_aload_n C 1 rfl dL_law_689 rfl ?_
  refine x_aload_n C 3 rfl dL_law_690 rfl ?_
  refine x_iload_n C 0 rfl dL_law_691 rfl ?_
  refine x_iconst (v := nI 1) C dL_law_692 (by decide) ?_
  refine x_iaddN C dL_law_693 ?_
  refine x_sld C hX hbl hbA hL (j := i + 1) (by omega) dL_law_694 ?_
  refine x_aload_n C 3 rfl dL_law_695 rfl ?_
  refine x_iload_n C 0 rfl dL_law_696 rfl ?_
  refine x_iconst (v := nI 2) C dL_law_697 (by decide) ?_
  refine x_iaddN C dL_law_698 ?_
  refine x_sld C hX hbl hbA hL (j := i + 2) (by omega) dL_law_699 ?_
  refine x_callVd (As := [.int (xs (i + 1)), .int (xs (i + 2))]) (rest := [.int ((kX_ifPassed now ahead (xs (i + 1)) (xs (i + 2))).1)]) C dL_law_700 (c_X6_ifPassed (gX.l X) G a s as_ hi sz sn has tc en it wl sp iw rs er (xs (i + 1)) (xs (i + 2)) hM) ml_L_97 im_X6_ifPassed sl_X6_ifPassed in_X6 cd_X6_ifPassed hd_X6_ifPassed 0 rfl rfl rfl rfl (Nat.le_of_ble_eq_true rfl) ⟨Nat.le_of_ble_eq_true rfl, Nat.le_of_ble_eq_true rfl⟩ (wC G x n m o e bb t p now nx sz hs ((kX_ifPassed now ahead (xs (i + 1)) (xs (i + 2))).2) snap has tc en pz pp pn ph pr pe) [] rfl (ws' := (wC G x n m o e bb t p now nx sz hs ((kX_ifPassed now ahead (xs (i + 1)) (xs (i + 2))).2) snap has tc en pz pp pn ph pr pe ++ (wM G a ((mX_ifPassed s as_ it wl (xs (i + 1)) (xs (i + 2))).2.1) ((mX_ifPassed s as_ it wl (xs (i + 1)) (xs (i + 2))).2.2.1) hi sz sn has tc en ((mX_ifPassed s as_ it wl (xs (i + 1)) (xs (i + 2))).2.2.2.1) ((mX_ifPassed s as_ it wl (xs (i + 1)) (xs (i + 2))).2.2.2.2) sp iw rs er ++ []))) rfl (st' := [.int ((mX_ifPassed s as_ it wl (xs (i + 1)) (xs (i + 2))).1), .int ((kX_ifPassed now ahead (xs (i + 1)) (xs (i + 2))).1)]) rfl ⟨rfl, rfl⟩ hf ?_
  refine x_icmp_eq (tgt := 744) C dL_law_703 (by decide) (fun _ => ?_) (fun h => absurd OK.1 h)
  refine x_iinc (v := nI (i + 4)) (lv' := [(3, .int (nI (i + 4))), (2, .ref (a 0)), (1, .ref x), (0, .ref b)]) C 0 rfl dL_law_744 (by rw [show Int32.ofInt 4 = nI 4 from rfl]; exact nI_add _ _) (by decide) rfl ?_
  refine x_goto (tgt := 18) C dL_law_747 (by decide) ?_
  exact K _ _ _ _ _ _ _ _ _ _ _ _ _ _ _ _ _ _ _ _ _ _ _ _ _ _ _ _ _ (LW_s W OK.2)
