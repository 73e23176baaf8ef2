def rm_X6_cancel : Room := { frames := 2, cells := 0, slots := 0, locals := 46 }
set_option maxRecDepth 100000 in
set_option maxHeartbeats 600000 in
theorem c_X6_cancel (l : Launch) (G : gG) (a : Nat → Nat) (s as_ hi : Nat → Int32) (kn : Nat) (sn : Nat → Int32) (ik : Int32) (tx : Nat → Int32) (ln : Nat) (it wl : Nat → Int32) (sp : Nat) (iw : Int32) (rs : Nat) (er : Int32) (h r : Int32)  (hB : okB (s 192)) (hk : kn ≤ 4) : CT l yX6_cancel cX6_cancel 6 (some .int) rm_X6_cancel G [.ref (a 0), .int h, .int r] (wM G a s as_ hi kn sn ik tx ln it wl sp iw rs er) (some (.int ((mX_cancel s hi kn h r).1))) (fun _ => (wM G a ((mX_cancel s hi kn h r).2.1) as_ ((mX_cancel s hi kn h r).2.2.1) ((mX_cancel s hi kn h r).2.2.2) sn ik tx ln it wl sp iw rs er)) := by
  refine gMet (by decide) (Nat.le_of_ble_eq_true rfl) (fun X hX C hr hin E => ?_)
  clear hX
  refine (show gW G X (wM G a s as_ hi kn sn ik tx ln it wl sp iw rs er) 0 0 0 [(0, .ref (a 0)), (1, .int h), (2, .int r)] [] from ?_)
  have hB1 := hB.1
  refine x_iload_n C 2 rfl dX6_cancel_0 rfl ?_
  refine x_callSd (As := [.int r]) (rest := []) C dX6_cancel_1 (c_X6_isRider (gX.l X) G r ) ml_X6_102 st_X6_isRider in_X6 cd_X6_isRider hd_X6_isRider rfl rfl (Nat.le_of_ble_eq_true rfl) ⟨Nat.le_of_ble_eq_true rfl, Nat.le_of_ble_eq_true rfl⟩ [] (wM G a s as_ hi kn sn ik tx ln it wl sp iw rs er) rfl (ws' := (wM G a s as_ hi kn sn ik tx ln it wl sp iw rs er)) rfl (st' := [.int (bI (¬ (r < 0) ∧ ¬ (11 < r)))]) rfl ⟨rfl, rfl⟩ ⟨Nat.le_of_ble_eq_true rfl, Nat.le_of_ble_eq_true rfl⟩ ?_
  refine x_if_neB (P := ¬ (r < 0) ∧ ¬ (11 < r)) (tgt := 9) C dX6_cancel_4 (by decide) (fun c1 => ?_) (fun c1 => ?_)
  · refine x_iload_n C 1 rfl dX6_cancel_9 rfl ?_
    refine x_callSd (As := [.int h]) (rest := []) C dX6_cancel_10 (c_X6_isAhead (gX.l X) G h ) ml_X6_114 st_X6_isAhead in_X6 cd_X6_isAhead hd_X6_isAhead rfl rfl (Nat.le_of_ble_eq_true rfl) ⟨Nat.le_of_ble_eq_true rfl, Nat.le_of_ble_eq_true rfl⟩ [] (wM G a s as_ hi kn sn ik tx ln it wl sp iw rs er) rfl (ws' := (wM G a s as_ hi kn sn ik tx ln it wl sp iw rs er)) rfl (st' := [.int (bI (¬ (h < 0) ∧ ¬ (99 < h)))]) rfl ⟨rfl, rfl⟩ ⟨Nat.le_of_ble_eq_true rfl, Nat.le_of_ble_eq_true rfl⟩ ?_
    refine x_if_neB (P := ¬ (h < 0) ∧ ¬ (99 < h)) (tgt := 19) C dX6_cancel_13 (by decide) (fun c2 => ?_) (fun c2 => ?_)
    · refine x_aload_n C 0 rfl dX6_cancel_19 rfl ?_
      refine x_aload_n C 0 rfl dX6_cancel_20 rfl ?_
      refine x_get (k := 0) (v := .ref (a 1)) C dX6_cancel_21 layX6 fl_X6_7 0 rfl rfl (by decide) rfl ?_
      refine x_iconst (v := (nI 0)) C dX6_cancel_24 (by decide) ?_
      refine x_iald (j := 0) C dX6_cancel_25 1 rfl rfl (by omega) (by omega) ?_
      refine x_iload_n C 1 rfl dX6_cancel_26 rfl ?_
      refine x_iadd (x := (s 0)) (y := h) C dX6_cancel_27 ?_
      refine x_iload_n C 2 rfl dX6_cancel_28 rfl ?_
      refine x_callVd (As := [.int ((s 0) + h), .int r]) (rest := []) C dX6_cancel_29 (c_X6_bookingOf (gX.l X) G a s as_ hi kn sn ik tx ln it wl sp iw rs er ((s 0) + h) r hB) ml_X6_117 im_X6_bookingOf sl_X6_bookingOf in_X6 cd_X6_bookingOf hd_X6_bookingOf 0 rfl rfl rfl rfl (Nat.le_of_ble_eq_true rfl) ⟨Nat.le_of_ble_eq_true rfl, Nat.le_of_ble_eq_true rfl⟩ (List.take 0 (wM G a s as_ hi kn sn ik tx ln it wl sp iw rs er)) (List.drop 8 (wM G a s as_ hi kn sn ik tx ln it wl sp iw rs er)) rfl (ws' := (wM G a s as_ hi kn sn ik tx ln it wl sp iw rs er)) rfl (st' := [.int (m_bk s ((s 0) + h) r (nC (s 192)))]) rfl ⟨rfl, rfl⟩ ⟨Nat.le_of_ble_eq_true rfl, Nat.le_of_ble_eq_true rfl⟩ ?_
      refine x_gen (fun b b_e => ?_)
      refine x_istore_n (lv' := [(3, .int b), (0, .ref (a 0)), (1, .int h), (2, .int r)]) C dX6_cancel_32 rfl (by decide) rfl ?_
      refine x_iload_n C 0 rfl dX6_cancel_33 rfl ?_
      refine x_bipush (v := (-5)) C dX6_cancel_34 (by decide) ?_
      refine x_icmp_ne (x := b) (y := (-5)) (tgt := 42) C dX6_cancel_36 (by decide) (fun c3 => ?_) (fun c3 => ?_)
      · have hb : nC b < nC (s 192) ∧ b = nI (nC b) := by
          rcases m_bk_ok s (s 0 + h) r (nC (s 192)) hB1 with h9 | h9
          · exact absurd (b_e.trans h9) (by assumption)
          · rw [← b_e] at h9; exact h9
        refine x_aload_n C 1 rfl dX6_cancel_42 rfl ?_
        refine x_callVd (As := []) (rest := []) C dX6_cancel_43 (c_X6_record (gX.l X) G a s as_ hi kn sn ik tx ln it wl sp iw rs er (by omega)) ml_X6_99 im_X6_record sl_X6_record in_X6 cd_X6_record hd_X6_record 0 rfl rfl rfl rfl (Nat.le_of_ble_eq_true rfl) ⟨Nat.le_of_ble_eq_true rfl, Nat.le_of_ble_eq_true rfl⟩ (List.take 0 (wM G a s as_ hi kn sn ik tx ln it wl sp iw rs er)) (List.drop 8 (wM G a s as_ hi kn sn ik tx ln it wl sp iw rs er)) rfl (ws' := (wM G a s as_ (m_recH s hi kn) (m_recK kn) sn ik tx ln it wl sp iw rs er)) rfl (st' := []) rfl ⟨rfl, rfl⟩ ⟨Nat.le_of_ble_eq_true rfl, Nat.le_of_ble_eq_true rfl⟩ ?_
        refine x_aload_n C 1 rfl dX6_cancel_46 rfl ?_
        refine x_get (k := 0) (v := .ref (a 1)) C dX6_cancel_47 layX6 fl_X6_7 0 rfl rfl (by decide) rfl ?_
        refine x_iload_n C 0 rfl dX6_cancel_50 rfl ?_
        refine x_top (y := (nI (nC b))) hb.2 ?_
        refine x_iconst (v := (nI 1)) C dX6_cancel_51 (by decide) ?_
        refine x_callSd (As := [.int (nI (nC b)), .int (nI 1)]) (rest := [.ref (a 1)]) C dX6_cancel_52 (c_X6_ofBooking (gX.l X) G (nC b) 1 (3 * (nC b) + 194) (by omega)) ml_X6_75 st_X6_ofBooking in_X6 cd_X6_ofBooking hd_X6_ofBooking rfl rfl (Nat.le_of_ble_eq_true rfl) ⟨Nat.le_of_ble_eq_true rfl, Nat.le_of_ble_eq_true rfl⟩ [] (wM G a s as_ (m_recH s hi kn) (m_recK kn) sn ik tx ln it wl sp iw rs er) rfl (ws' := (wM G a s as_ (m_recH s hi kn) (m_recK kn) sn ik tx ln it wl sp iw rs er)) rfl (st' := [.int (nI (3 * (nC b) + 194)), .ref (a 1)]) rfl ⟨rfl, rfl⟩ ⟨Nat.le_of_ble_eq_true rfl, Nat.le_of_ble_eq_true rfl⟩ ?_
        refine x_iald (j := (3 * (nC b) + 194)) C dX6_cancel_55 1 rfl rfl (by omega) (by omega) ?_
        refine x_istore (lv' := [(4, .int (s (3 * (nC b) + 194))), (3, .int b), (0, .ref (a 0)), (1, .int h), (2, .int r)]) C dX6_cancel_56 (by decide) rfl ?_
        refine x_iload_n C 1 rfl dX6_cancel_58 rfl ?_
        refine x_top (y := (nI (nC b))) hb.2 ?_
        refine x_iconst (v := (nI 0)) C dX6_cancel_59 (by decide) ?_
        refine x_callSd (As := [.int (nI (nC b)), .int (nI 0)]) (rest := []) C dX6_cancel_60 (c_X6_ofBooking (gX.l X) G (nC b) 0 (3 * (nC b) + 193) (by omega)) ml_X6_75 st_X6_ofBooking in_X6 cd_X6_ofBooking hd_X6_ofBooking rfl rfl (Nat.le_of_ble_eq_true rfl) ⟨Nat.le_of_ble_eq_true rfl, Nat.le_of_ble_eq_true rfl⟩ [] (wM G a s as_ (m_recH s hi kn) (m_recK kn) sn ik tx ln it wl sp iw rs er) rfl (ws' := (wM G a s as_ (m_recH s hi kn) (m_recK kn) sn ik tx ln it wl sp iw rs er)) rfl (st' := [.int (nI (3 * (nC b) + 193))]) rfl ⟨rfl, rfl⟩ ⟨Nat.le_of_ble_eq_true rfl, Nat.le_of_ble_eq_true rfl⟩ ?_
        refine x_istore (lv' := [(5, .int (nI (3 * (nC b) + 193))), (4, .int (s (3 * (nC b) + 194))), (3, .int b), (0, .ref (a 0)), (1, .int h), (2, .int r)]) C dX6_cancel_63 (by decide) rfl ?_
        have L4 : ∀ (fu : Nat) (k : Nat) (g : Nat → Int32), k + fu = 310 → (m_shf fu k g = m_shf (310 - (3 * nC b + 193)) (3 * nC b + 193) s) → gW G X (wM G a g as_ (m_recH s hi kn) (m_recK kn) sn ik tx ln it wl sp iw rs er) 0 0 65 [(5, .int (nI k)), (4, .int (s (3 * (nC b) + 194))), (3, .int b), (0, .ref (a 0)), (1, .int h), (2, .int r)] [] := by
          intro fu
          induction fu with
          | zero =>
            intro k g hn hg
            have hg0 : g = m_shf (310 - (3 * nC b + 193)) (3 * nC b + 193) s := hg
            refine x_iload C 0 rfl dX6_cancel_65 ?_
            refine x_bipush (v := (nI 39)) C dX6_cancel_67 (by decide) ?_
            refine x_iconst (v := (nI 0)) C dX6_cancel_69 (by decide) ?_
            refine x_callSd (As := [.int (nI 39), .int (nI 0)]) (rest := [.int (nI k)]) C dX6_cancel_70 (c_X6_ofBooking (gX.l X) G 39 0 310 (by omega)) ml_X6_75 st_X6_ofBooking in_X6 cd_X6_ofBooking hd_X6_ofBooking rfl rfl (Nat.le_of_ble_eq_true rfl) ⟨Nat.le_of_ble_eq_true rfl, Nat.le_of_ble_eq_true rfl⟩ [] (wM G a g as_ (m_recH s hi kn) (m_recK kn) sn ik tx ln it wl sp iw rs er) rfl (ws' := (wM G a g as_ (m_recH s hi kn) (m_recK kn) sn ik tx ln it wl sp iw rs er)) rfl (st' := [.int (nI 310), .int (nI k)]) rfl ⟨rfl, rfl⟩ ⟨Nat.le_of_ble_eq_true rfl, Nat.le_of_ble_eq_true rfl⟩ ?_
            refine x_icmp_geN (a := k) (b := 310) (tgt := 98) C dX6_cancel_73 (by decide) (by omega) (by omega) (fun c5 => ?_) (fun c5 => False.elim (by omega))
            refine x_aload_n C 3 rfl dX6_cancel_98 rfl ?_
            refine x_get (k := 0) (v := .ref (a 1)) C dX6_cancel_99 layX6 fl_X6_7 0 rfl rfl (by decide) rfl ?_
            refine x_sipush (v := (nI 192)) C dX6_cancel_102 (by decide) ?_
            refine x_dup2 C rfl rfl dX6_cancel_105 ?_
            refine x_iald (j := 192) C dX6_cancel_106 1 rfl rfl (by omega) (by omega) ?_
            refine x_iconst (v := (nI 1)) C dX6_cancel_107 (by decide) ?_
            refine x_isub (x := (g 192)) (y := 1) C dX6_cancel_108 ?_
            refine x_iast (j := 192) (x := ((g 192) - 1)) (ws' := (wM G a (upd g 192 ((g 192) - 1)) as_ (m_recH s hi kn) (m_recK kn) sn ik tx ln it wl sp iw rs er)) C dX6_cancel_109 1 rfl rfl (by omega) (by omega) rfl ?_
            refine x_iload C 1 rfl dX6_cancel_110 ?_
            exact x_iret C hr E dX6_cancel_112 (fun _ => 0) (by rw [mX_cancel, if_pos (by assumption), if_pos (by assumption), ← b_e, if_neg (by assumption)]) (by rw [hg0, mX_cancel, if_pos (by assumption), if_pos (by assumption), ← b_e, if_neg (by assumption)]; rfl)
          | succ fu ih =>
            intro k g hn hg
            refine x_iload C 0 rfl dX6_cancel_65 ?_
            refine x_bipush (v := (nI 39)) C dX6_cancel_67 (by decide) ?_
            refine x_iconst (v := (nI 0)) C dX6_cancel_69 (by decide) ?_
            refine x_callSd (As := [.int (nI 39), .int (nI 0)]) (rest := [.int (nI k)]) C dX6_cancel_70 (c_X6_ofBooking (gX.l X) G 39 0 310 (by omega)) ml_X6_75 st_X6_ofBooking in_X6 cd_X6_ofBooking hd_X6_ofBooking rfl rfl (Nat.le_of_ble_eq_true rfl) ⟨Nat.le_of_ble_eq_true rfl, Nat.le_of_ble_eq_true rfl⟩ [] (wM G a g as_ (m_recH s hi kn) (m_recK kn) sn ik tx ln it wl sp iw rs er) rfl (ws' := (wM G a g as_ (m_recH s hi kn) (m_recK kn) sn ik tx ln it wl sp iw rs er)) rfl (st' := [.int (nI 310), .int (nI k)]) rfl ⟨rfl, rfl⟩ ⟨Nat.le_of_ble_eq_true rfl, Nat.le_of_ble_eq_true rfl⟩ ?_
            refine x_icmp_geN (a := k) (b := 310) (tgt := 98) C dX6_cancel_73 (by decide) (by omega) (by omega) (fun c6 => False.elim (by omega)) (fun c6 => ?_)
            refine x_aload_n C 3 rfl dX6_cancel_76 rfl ?_
            refine x_get (k := 0) (v := .ref (a 1)) C dX6_cancel_77 layX6 fl_X6_7 0 rfl rfl (by decide) rfl ?_
            refine x_iload C 0 rfl dX6_cancel_80 ?_
            refine x_aload_n C 3 rfl dX6_cancel_82 rfl ?_
            refine x_get (k := 0) (v := .ref (a 1)) C dX6_cancel_83 layX6 fl_X6_7 0 rfl rfl (by decide) rfl ?_
            refine x_iload C 0 rfl dX6_cancel_86 ?_
            refine x_iconst (v := (nI 3)) C dX6_cancel_88 (by decide) ?_
            refine x_iaddN C dX6_cancel_89 ?_
            refine x_iald (j := (k + 3)) C dX6_cancel_90 1 rfl rfl (by omega) (by omega) ?_
            refine x_iast (j := k) (x := (g (k + 3))) (ws' := (wM G a (upd g k (g (k + 3))) as_ (m_recH s hi kn) (m_recK kn) sn ik tx ln it wl sp iw rs er)) C dX6_cancel_91 1 rfl rfl (by omega) (by omega) rfl ?_
            refine x_iinc (v := (nI (k + 1))) (lv' := [(5, .int (nI (k + 1))), (4, .int (s (3 * (nC b) + 194))), (3, .int b), (0, .ref (a 0)), (1, .int h), (2, .int r)]) C 0 rfl dX6_cancel_92 (by rw [show Int32.ofInt 1 = nI 1 from rfl]; exact nI_add _ _) (by decide) rfl ?_
            refine x_goto (tgt := 65) C dX6_cancel_95 (by decide) ?_
            exact ih (k + 1) (upd g k (g (k + 3))) (by omega) (by exact hg)
        exact L4 (310 - (3 * nC b + 193)) (3 * (nC b) + 193) s (by omega) (by rfl)
      · refine x_bipush (v := (-5)) C dX6_cancel_39 (by decide) ?_
        exact x_iret C hr E dX6_cancel_41 (fun _ => 0) (by rw [b_e] at *; simp only [mX_cancel, m_in, c1, c2, c3,  if_true, if_false, ite_true, ite_false, and_true, true_and, and_false, false_and, or_true, true_or, or_false, false_or, not_true_eq_false, not_false_eq_true, and_self, or_self] <;> rfl) (by rw [b_e] at *; simp only [mX_cancel, m_in, c1, c2, c3,  if_true, if_false, ite_true, ite_false, and_true, true_and, and_false, false_and, or_true, true_or, or_false, false_or, not_true_eq_false, not_false_eq_true, and_self, or_self])
    · refine x_bipush (v := (-2)) C dX6_cancel_16 (by decide) ?_
      exact x_iret C hr E dX6_cancel_18 (fun _ => 0) (by simp only [mX_cancel, m_in, c1, c2,  if_true, if_false, ite_true, ite_false, and_true, true_and, and_false, false_and, or_true, true_or, or_false, false_or, not_true_eq_false, not_false_eq_true, and_self, or_self] <;> rfl) (by simp only [mX_cancel, m_in, c1, c2,  if_true, if_false, ite_true, ite_false, and_true, true_and, and_false, false_and, or_true, true_or, or_false, false_or, not_true_eq_false, not_false_eq_true, and_self, or_self])
  · refine x_iconst (v := (-1)) C dX6_cancel_7 (by decide) ?_
    exact x_iret C hr E dX6_cancel_8 (fun _ => 0) (by simp only [mX_cancel, m_in, c1,  if_true, if_false, ite_true, ite_false, and_true, true_and, and_false, false_and, or_true, true_or, or_false, false_or, not_true_eq_false, not_false_eq_true, and_self, or_self] <;> rfl) (by simp only [mX_cancel, m_in, c1,  if_true, if_false, ite_true, ite_false, and_true, true_and, and_false, false_and, or_true, true_or, or_false, false_or, not_true_eq_false, not_false_eq_true, and_self, or_self])
