set_option maxRecDepth 100000 in
set_option maxHeartbeats 1000000 in
theorem law_k_busiest {G : gG} {X : gX} (C : gC G X code 4 room_1 "LessonHorsesLaw") {b L : Nat} {xs : Nat → Int32} (hX : va_X b L xs (gX.s X) (gX.s X).heap) (hbl : b < (gX.s X).heap.size) (hbA : ¬ gX.A X b) (hL : L ≤ 2048) {x : Nat} {n m o e : Nat → Nat} {bb : Nat → Nat → Nat} {t p a : Nat → Nat} {kc ks i : Nat} (hf : kc ≤ room_1.cells ∧ ks ≤ room_1.slots) (hi4 : i + 4 ≤ L) (K : wLP G X b x n m o e bb t p a kc ks (i + 4)) {now : c_S} {nx sz : Nat} {hs : Nat → c_S} {ahead snap : c_S} {has : Int32} {tc : Nat → Int32} {en pz pp : Nat} {pn ph pr : Int32} {pe : Nat → Int32} {s as_ hi : Nat → Int32} {kn : Nat} {sn : Nat → Int32} {ik : Int32} {tx : Nat → Int32} {ln : Nat} {it wl : Nat → Int32} {sp : Nat} {iw : Int32} {rs : Nat} {er : Int32} (W : LW now nx sz hs snap has tc en s hi kn sn ik tx ln) : gW G X (wC G x n m o e bb t p now nx sz hs ahead snap has tc en pz pp pn ph pr pe ++ (wM G a s as_ hi kn sn ik tx ln it wl sp iw rs er ++ [])) kc ks 708 [(3, .int (nI i)), (2, .ref (a 0)), (1, .ref x), (0, .ref b)] [] := by
  obtain ⟨hR, hT, hH, e1, hS, e2, e3, hen, hch⟩ := W
  have e4 := hH.1
  subst e1
  subst e2
  subst e3
  subst e4
  have W : LW now nx sz hs snap has tc en s hi sz sn has tc en := ⟨hR, hT, hH, rfl, hS, rfl, rfl, hen, hch⟩
  have hM := RR_okM hR
  have hSS : okS 10000 now := RR_okS hR (by omega)
  have hnx := hH.2.2.1
  have hk := hH.2.1
  refine x_aload_n C 2 rfl dL_law_708 rfl ?_
  refine x_callVd (As := []) (rest := []) C dL_law_709 (c_X5_busiest (gX.l X) G x n m o e bb t p now nx sz hs ahead snap has tc en pz pp pn ph pr pe  hSS hnx hk) ml_L_98 im_X5_busiest sl_X5_busiest in_X5 cd_X5_busiest hd_X5_busiest 0 rfl rfl rfl rfl (Nat.le_of_ble_eq_true rfl) ⟨Nat.le_of_ble_eq_true rfl, Nat.le_of_ble_eq_true rfl⟩ [] (wM G a s as_ hi sz sn has tc en it wl sp iw rs er ++ []) rfl (ws' := (wC G x n m o e bb t p now nx sz hs ahead snap has tc en pz pp pn ph pr pe ++ (wM G a s as_ hi sz sn has tc en it wl sp iw rs er ++ []))) rfl (st' := [.int ((k_busL now 100).2)]) rfl ⟨rfl, rfl⟩ hf ?_
  refine x_aload_n C 1 rfl dL_law_712 rfl ?_
  refine x_callVd (As := []) (rest := [.int ((k_busL now 100).2)]) C dL_law_713 (c_X6_busiest (gX.l X) G a s as_ hi sz sn has tc en it wl sp iw rs er  hM.2.1) ml_L_101 im_X6_busiest sl_X6_busiest in_X6 cd_X6_busiest hd_X6_busiest 0 rfl rfl rfl rfl (Nat.le_of_ble_eq_true rfl) ⟨Nat.le_of_ble_eq_true rfl, Nat.le_of_ble_eq_true rfl⟩ (wC G x n m o e bb t p now nx sz hs ahead snap has tc en pz pp pn ph pr pe) [] rfl (ws' := (wC G x n m o e bb t p now nx sz hs ahead snap has tc en pz pp pn ph pr pe ++ (wM G a s as_ hi sz sn has tc en it wl sp iw rs er ++ []))) rfl (st' := [.int ((m_busL s 100).1), .int ((k_busL now 100).2)]) rfl ⟨rfl, rfl⟩ hf ?_
  refine x_icmp_eq (tgt := 744) C dL_law_716 (by decide) (fun _ => ?_) (fun h => absurd (by rw [v_busL hR 100]) h)
  refine x_iinc (v := nI (i + 4)) (lv' := [(3, .int (nI (i + 4))), (2, .ref (a 0)), (1, .ref x), (0, .ref b)]) C 0 rfl dL_law_744 (by rw [show Int32.ofInt 4 = nI 4 from rfl]; exact nI_add _ _) (by decide) rfl ?_
  refine x_goto (tgt := 18) C dL_law_747 (by decide) ?_
  exact K _ _ _ _ _ _ _ _ _ _ _ _ _ _ _ _ _ _ _ _ _ _ _ _ _ _ _ _ _ W
set_option maxRecDepth 100000 in
set_option maxHeartbeats 1000000 in
theorem law_k_count {G : gG} {X : gX} (C : gC G X code 4 room_1 "LessonHorsesLaw") {b L : Nat} {xs : Nat → Int32} (hX : va_X b L xs (gX.s X) (gX.s X).heap) (hbl : b < (gX.s X).heap.size) (hbA : ¬ gX.A X b) (hL : L ≤ 2048) {x : Nat} {n m o e : Nat → Nat} {bb : Nat → Nat → Nat} {t p a : Nat → Nat} {kc ks i : Nat} (hf : kc ≤ room_1.cells ∧ ks ≤ room_1.slots) (hi4 : i + 4 ≤ L) (K : wLP G X b x n m o e bb t p a kc ks (i + 4)) {now : c_S} {nx sz : Nat} {hs : Nat → c_S} {ahead snap : c_S} {has : Int32} {tc : Nat → Int32} {en pz pp : Nat} {pn ph pr : Int32} {pe : Nat → Int32} {s as_ hi : Nat → Int32} {kn : Nat} {sn : Nat → Int32} {ik : Int32} {tx : Nat → Int32} {ln : Nat} {it wl : Nat → Int32} {sp : Nat} {iw : Int32} {rs : Nat} {er : Int32} (W : LW now nx sz hs snap has tc en s hi kn sn ik tx ln) : gW G X (wC G x n m o e bb t p now nx sz hs ahead snap has tc en pz pp pn ph pr pe ++ (wM G a s as_ hi kn sn ik tx ln it wl sp iw rs er ++ [])) kc ks 721 [(3, .int (nI i)), (2, .ref (a 0)), (1, .ref x), (0, .ref b)] [] := by
  obtain ⟨hR, hT, hH, e1, hS, e2, e3, hen, hch⟩ := W
  have e4 := hH.1
  subst e1
  subst e2
  subst e3
  subst e4
  have W : LW now nx sz hs snap has tc en s hi sz sn has tc en := ⟨hR, hT, hH, rfl, hS, rfl, rfl, hen, hch⟩
  have hM := RR_okM hR
  have hSS : okS 10000 now := RR_okS hR (by omega)
  have hnx := hH.2.2.1
  have hk := hH.2.1
  refine x_aload_n C 2 rfl dL_law_721 rfl ?_
  refine x_aload_n C 3 rfl dL_law_722 rfl ?_
  refine x_iload_n C 0 rfl dL_law_723 rfl ?_
  refine x_iconst (v := nI 1) C dL_law_724 (by decide) ?_
  refine x_iaddN C dL_law_725 ?_
  refine x_sld C hX hbl hbA hL (j := i + 1) (by omega) dL_law_726 ?_
  refine x_callVd (As := [.int (xs (i + 1))]) (rest := []) C dL_law_727 (c_X5_count (gX.l X) G x n m o e bb t p now nx sz hs ahead snap has tc en pz pp pn ph pr pe (xs (i + 1)) hSS hnx hk) ml_L_102 im_X5_count sl_X5_count in_X5 cd_X5_count hd_X5_count 0 rfl rfl rfl rfl (Nat.le_of_ble_eq_true rfl) ⟨Nat.le_of_ble_eq_true rfl, Nat.le_of_ble_eq_true rfl⟩ [] (wM G a s as_ hi sz sn has tc en it wl sp iw rs er ++ []) rfl (ws' := (wC G x n m o e bb t p now nx sz hs ahead snap has tc en pz pp pn ph pr pe ++ (wM G a s as_ hi sz sn has tc en it wl sp iw rs er ++ []))) rfl (st' := [.int (kX_count now sz en (xs (i + 1)))]) rfl ⟨rfl, rfl⟩ hf ?_
  refine x_aload_n C 1 rfl dL_law_730 rfl ?_
  refine x_aload_n C 3 rfl dL_law_731 rfl ?_
  refine x_iload_n C 0 rfl dL_law_732 rfl ?_
  refine x_iconst (v := nI 1) C dL_law_733 (by decide) ?_
  refine x_iaddN C dL_law_734 ?_
  refine x_sld C hX hbl hbA hL (j := i + 1) (by omega) dL_law_735 ?_
  refine x_callVd (As := [.int (xs (i + 1))]) (rest := [.int (kX_count now sz en (xs (i + 1)))]) C dL_law_736 (c_X6_count (gX.l X) G a s as_ hi sz sn has tc en it wl sp iw rs er (xs (i + 1)) hM.1) ml_L_105 im_X6_count sl_X6_count in_X6 cd_X6_count hd_X6_count 0 rfl rfl rfl rfl (Nat.le_of_ble_eq_true rfl) ⟨Nat.le_of_ble_eq_true rfl, Nat.le_of_ble_eq_true rfl⟩ (wC G x n m o e bb t p now nx sz hs ahead snap has tc en pz pp pn ph pr pe) [] rfl (ws' := (wC G x n m o e bb t p now nx sz hs ahead snap has tc en pz pp pn ph pr pe ++ (wM G a s as_ hi sz sn has tc en it wl sp iw rs er ++ []))) rfl (st' := [.int (mX_count s sz en (xs (i + 1))), .int (kX_count now sz en (xs (i + 1)))]) rfl ⟨rfl, rfl⟩ hf ?_
  refine x_icmp_eq (tgt := 744) C dL_law_739 (by decide) (fun _ => ?_) (fun h => absurd (v_count (xs (i + 1)) hR hT) h)
  refine x_iinc (v := nI (i + 4)) (lv' := [(3, .int (nI (i + 4))), (2, .ref (a 0)), (1, .ref x), (0, .ref b)]) C 0 rfl dL_law_744 (by rw [show Int32.ofInt 4 = nI 4 from rfl]; exact nI_add _ _) (by decide) rfl ?_
  refine x_goto (tgt := 18) C dL_law_747 (by decide) ?_
  exact K _ _ _ _ _ _ _ _ _ _ _ _ _ _ _ _ _ _ _ _ _ _ _ _ _ _ _ _ _ W
