set_option maxRecDepth 100000 in
set_option maxHeartbeats 1000000 in
theorem law_loop {G : gG} {X : gX} (C : gC G X code 4 room_1 "LessonHorsesLaw") {b L : Nat} {xs : Nat → Int32} (hX : va_X b L xs (gX.s X) (gX.s X).heap) (hbl : b < (gX.s X).heap.size) (hbA : ¬ gX.A X b) (hL : L ≤ 2048) {x : Nat} {n m o e : Nat → Nat} {bb : Nat → Nat → Nat} {t p a : Nat → Nat} {kc ks : Nat} (hf : kc ≤ room_1.cells ∧ ks ≤ room_1.slots) (hend : ∀ ws lv, gW G X ws kc ks 751 lv [.int 1]) : ∀ fu i, L ≤ i + 4 * fu → i ≤ 5000 → wLP G X b x n m o e bb t p a kc ks i := by
  intro fu
  induction fu with
  | zero =>
    intro i h1 h2 now nx sz hs ahead snap has tc en pz pp pn ph pr pe s as_ hi kn sn ik tx ln it wl sp iw rs er W
    have go : ¬ nI L - nI 4 < nI i → i + 4 ≤ L := fun h => by
      by_cases c : L < 4
      · exfalso
        refine h ?_
        have q := pk_sneg (a := L) (b := 4) (by omega) c
        rw [Int32.lt_iff_toInt_lt] at q ⊢
        rw [nI_toInt (n := i) (by omega)]
        rw [show (0 : Int32).toInt = 0 by decide] at q
        omega
      · rw [pk_sub (by omega)] at h
        have q := mt (nI_ltI (a := L - 4) (b := i) (by omega) (by omega)).mpr h
        omega
    refine x_iload_n C 0 rfl dL_law_18 rfl ?_
    refine x_aload_n C 3 rfl dL_law_19 rfl ?_
    refine x_slen C hX hbl hbA dL_law_20 ?_
    refine x_iconst (v := nI 4) C dL_law_21 (by decide) ?_
    refine x_isub (x := nI L) (y := nI 4) C dL_law_22 ?_
    refine x_icmp_gt (x := nI i) (y := nI L - nI 4) (tgt := 750) C dL_law_23 (by decide) (fun _ => ?_) (fun h => ?_)
    · refine x_iconst (v := 1) C dL_law_750 (by decide) ?_
      exact hend _ _
    · exact absurd (go h) (by omega)
  | succ fu ih =>
    intro i h1 h2 now nx sz hs ahead snap has tc en pz pp pn ph pr pe s as_ hi kn sn ik tx ln it wl sp iw rs er W
    have go : ¬ nI L - nI 4 < nI i → i + 4 ≤ L := fun h => by
      by_cases c : L < 4
      · exfalso
        refine h ?_
        have q := pk_sneg (a := L) (b := 4) (by omega) c
        rw [Int32.lt_iff_toInt_lt] at q ⊢
        rw [nI_toInt (n := i) (by omega)]
        rw [show (0 : Int32).toInt = 0 by decide] at q
        omega
      · rw [pk_sub (by omega)] at h
        have q := mt (nI_ltI (a := L - 4) (b := i) (by omega) (by omega)).mpr h
        omega
    refine x_iload_n C 0 rfl dL_law_18 rfl ?_
    refine x_aload_n C 3 rfl dL_law_19 rfl ?_
    refine x_slen C hX hbl hbA dL_law_20 ?_
    refine x_iconst (v := nI 4) C dL_law_21 (by decide) ?_
    refine x_isub (x := nI L) (y := nI 4) C dL_law_22 ?_
    refine x_icmp_gt (x := nI i) (y := nI L - nI 4) (tgt := 750) C dL_law_23 (by decide) (fun _ => ?_) (fun h => ?_)
    · refine x_iconst (v := 1) C dL_law_750 (by decide) ?_
      exact hend _ _
    · have hi4 := go h
      refine x_aload_n C 3 rfl dL_law_26 rfl ?_
      refine x_iload_n C 0 rfl dL_law_27 rfl ?_
      refine x_sld C hX hbl hbA hL (j := i) (by omega) dL_law_28 ?_
      refine x_bipush (v := nI 31) C dL_law_29 (by decide) ?_
      refine x_iand (x := xs i) (y := nI 31) C dL_law_31 ?_
      obtain ⟨j, hj, e⟩ := pk_andE (xs i) (m := nI 31) 5 (by decide)
      rw [e]
      have IH := ih (i + 4) (by omega) (by omega)
      by_cases c : j < 22
      · rcases (by omega : j = 0 ∨ j = 1 ∨ j = 2 ∨ j = 3 ∨ j = 4 ∨ j = 5 ∨ j = 6 ∨ j = 7 ∨ j = 8 ∨ j = 9 ∨ j = 10 ∨ j = 11 ∨ j = 12 ∨ j = 13 ∨ j = 14 ∨ j = 15 ∨ j = 16 ∨ j = 17 ∨ j = 18 ∨ j = 19 ∨ j = 20 ∨ j = 21) with rfl | rfl | rfl | rfl | rfl | rfl | rfl | rfl | rfl | rfl | rfl | rfl | rfl | rfl | rfl | rfl | rfl | rfl | rfl | rfl | rfl | rfl
        · refine x_tabI (tgt := 136) C 0 dL_law_32 rfl (by decide) (by decide) rfl (by decide) ?_
          exact law_k_setHorse C hX hbl hbA hL hf hi4 IH W
        · refine x_tabI (tgt := 179) C 1 dL_law_32 rfl (by decide) (by decide) rfl (by decide) ?_
          exact law_k_setRider C hX hbl hbA hL hf hi4 IH W
        · refine x_tabI (tgt := 222) C 2 dL_law_32 rfl (by decide) (by decide) rfl (by decide) ?_
          exact law_k_set C hX hbl hbA hL hf hi4 IH W
        · refine x_tabI (tgt := 255) C 3 dL_law_32 rfl (by decide) (by decide) rfl (by decide) ?_
          exact law_k_book C hX hbl hbA hL hf hi4 IH W
        · refine x_tabI (tgt := 298) C 4 dL_law_32 rfl (by decide) (by decide) rfl (by decide) ?_
          exact law_k_cancel C hX hbl hbA hL hf hi4 IH W
        · refine x_tabI (tgt := 331) C 5 dL_law_32 rfl (by decide) (by decide) rfl (by decide) ?_
          exact law_k_pass C hX hbl hbA hL hf hi4 IH W
        · refine x_tabI (tgt := 354) C 6 dL_law_32 rfl (by decide) (by decide) rfl (by decide) ?_
          exact law_k_type C hX hbl hbA hL hf hi4 IH W
        · refine x_tabI (tgt := 379) C 7 dL_law_32 rfl (by decide) (by decide) rfl (by decide) ?_
          exact law_k_clearText C hX hbl hbA hL hf hi4 IH W
        · refine x_tabI (tgt := 392) C 8 dL_law_32 rfl (by decide) (by decide) rfl (by decide) ?_
          exact law_k_bookPlan C hX hbl hbA hL hf hi4 IH W
        · refine x_tabI (tgt := 405) C 9 dL_law_32 rfl (by decide) (by decide) rfl (by decide) ?_
          exact law_k_undo C hX hbl hbA hL hf hi4 IH W
        · refine x_tabI (tgt := 418) C 10 dL_law_32 rfl (by decide) (by decide) rfl (by decide) ?_
          exact law_k_keep C hX hbl hbA hL hf hi4 IH W
        · refine x_tabI (tgt := 431) C 11 dL_law_32 rfl (by decide) (by decide) rfl (by decide) ?_
          exact law_k_restore C hX hbl hbA hL hf hi4 IH W
        · refine x_tabI (tgt := 444) C 12 dL_law_32 rfl (by decide) (by decide) rfl (by decide) ?_
          exact law_k_horse C hX hbl hbA hL hf hi4 IH W
        · refine x_tabI (tgt := 477) C 13 dL_law_32 rfl (by decide) (by decide) rfl (by decide) ?_
          exact law_k_rider C hX hbl hbA hL hf hi4 IH W
        · refine x_tabI (tgt := 510) C 14 dL_law_32 rfl (by decide) (by decide) rfl (by decide) ?_
          exact law_k_lesson C hX hbl hbA hL hf hi4 IH W
        · refine x_tabI (tgt := 553) C 15 dL_law_32 rfl (by decide) (by decide) rfl (by decide) ?_
          exact law_k_fall C hX hbl hbA hL hf hi4 IH W
        · refine x_tabI (tgt := 586) C 16 dL_law_32 rfl (by decide) (by decide) rfl (by decide) ?_
          exact law_k_reason C hX hbl hbA hL hf hi4 IH W
        · refine x_tabI (tgt := 619) C 17 dL_law_32 rfl (by decide) (by decide) rfl (by decide) ?_
          exact law_k_best C hX hbl hbA hL hf hi4 IH W
        · refine x_tabI (tgt := 642) C 18 dL_law_32 rfl (by decide) (by decide) rfl (by decide) ?_
          exact law_k_takenIn C hX hbl hbA hL hf hi4 IH W
        · refine x_tabI (tgt := 675) C 19 dL_law_32 rfl (by decide) (by decide) rfl (by decide) ?_
          exact law_k_ifPassed C hX hbl hbA hL hf hi4 IH W
        · refine x_tabI (tgt := 708) C 20 dL_law_32 rfl (by decide) (by decide) rfl (by decide) ?_
          exact law_k_busiest C hX hbl hbA hL hf hi4 IH W
        · refine x_tabI (tgt := 721) C 21 dL_law_32 rfl (by decide) (by decide) rfl (by decide) ?_
          exact law_k_count C hX hbl hbA hL hf hi4 IH W
      · refine x_tabO (n := 22) (tgt := 744) C dL_law_32 (Or.inr (by rw [nI_toInt (by omega)]; omega)) (by decide) ?_
        refine x_iinc (v := nI (i + 4)) (lv' := [(3, .int (nI (i + 4))), (2, .ref (a 0)), (1, .ref x), (0, .ref b)]) C 0 rfl dL_law_744 (by rw [show Int32.ofInt 4 = nI 4 from rfl]; exact nI_add _ _) (by decide) rfl ?_
        refine x_goto (tgt := 18) C dL_law_747 (by decide) ?_
        exact IH _ _ _ _ _ _ _ _ _ _ _ _ _ _ _ _ _ _ _ _ _ _ _ _ _ _ _ _ _ W
