def rm_X6_hour : Room := { frames := 6, cells := 0, slots := 0, locals := 143 }
set_option maxRecDepth 100000 in
set_option maxHeartbeats 600000 in
theorem c_X6_hour1 (l : Launch) (G : gG) (a : Nat → Nat) (s as_ hi : Nat → Int32) (kn : Nat) (sn : Nat → Int32) (ik : Int32) (tx : Nat → Int32) (ln : Nat) (it wl : Nat → Int32) (sp : Nat) (iw : Int32) (rs : Nat) (er : Int32)  (hz : ¬ s 191 = 0) (hB : okB (s 192)) (hF : okF (s 317)) (hrd : ∀ j, j < nC (s 192) → okR (s (3 * j + 195))) : CT l yX6_hour cX6_hour 5 (some .int) rm_X6_hour G [.ref (a 0), .int (nI 1)] (wM G a s as_ hi kn sn ik tx ln it wl sp iw rs er) (some (.int ((m_h1G s it).2.2.1))) (fun _ => (wM G a (m_h1S s it wl) as_ hi kn sn ik tx ln ((m_h1G s it).2.1) (m_wlL s wl 10) sp iw rs er)) := by
  refine gMet (by decide) (Nat.le_of_ble_eq_true rfl) (fun X hX C hr hin E => ?_)
  clear hX
  refine (show gW G X (wM G a s as_ hi kn sn ik tx ln it wl sp iw rs er) 0 0 0 [(0, .ref (a 0)), (1, .int (nI 1))] [] from ?_)
  refine x_aload_n C 0 rfl dX6_hour_0 rfl ?_
  refine x_callVd (As := []) (rest := []) C dX6_hour_1 (c_X6_shodHorse (gX.l X) G a s as_ hi kn sn ik tx ln it wl sp iw rs er hz) ml_X6_82 im_X6_shodHorse sl_X6_shodHorse in_X6 cd_X6_shodHorse hd_X6_shodHorse 0 rfl rfl rfl rfl (Nat.le_of_ble_eq_true rfl) ⟨Nat.le_of_ble_eq_true rfl, Nat.le_of_ble_eq_true rfl⟩ (List.take 0 (wM G a s as_ hi kn sn ik tx ln it wl sp iw rs er)) (List.drop 8 (wM G a s as_ hi kn sn ik tx ln it wl sp iw rs er)) rfl (ws' := (wM G a s as_ hi kn sn ik tx ln it wl sp iw rs er)) rfl (st' := [.int (m_shod s)]) rfl ⟨rfl, rfl⟩ ⟨Nat.le_of_ble_eq_true rfl, Nat.le_of_ble_eq_true rfl⟩ ?_
  refine x_istore_n (lv' := [(2, .int (m_shod s)), (0, .ref (a 0)), (1, .int (nI 1))]) C dX6_hour_4 rfl (by decide) rfl ?_
  refine x_aload_n C 1 rfl dX6_hour_5 rfl ?_
  refine x_callVd (As := []) (rest := []) C dX6_hour_6 (c_X6_frees (gX.l X) G a s as_ hi kn sn ik tx ln it wl sp iw rs er ) ml_X6_86 im_X6_frees sl_X6_frees in_X6 cd_X6_frees hd_X6_frees 0 rfl rfl rfl rfl (Nat.le_of_ble_eq_true rfl) ⟨Nat.le_of_ble_eq_true rfl, Nat.le_of_ble_eq_true rfl⟩ (List.take 0 (wM G a s as_ hi kn sn ik tx ln it wl sp iw rs er)) (List.drop 8 (wM G a s as_ hi kn sn ik tx ln it wl sp iw rs er)) rfl (ws' := (wM G a s as_ hi kn sn ik tx ln (zeL it 10) wl sp iw rs er)) rfl (st' := []) rfl ⟨rfl, rfl⟩ ⟨Nat.le_of_ble_eq_true rfl, Nat.le_of_ble_eq_true rfl⟩ ?_
  refine x_iconst (v := (nI 0)) C dX6_hour_9 (by decide) ?_
  refine x_istore_n (lv' := [(3, .int (nI 0)), (2, .int (m_shod s)), (0, .ref (a 0)), (1, .int (nI 1))]) C dX6_hour_10 rfl (by decide) rfl ?_
  have L1 : ∀ (fu : Nat) (i : Nat) (w1 : Nat → Int32), i + fu = 10 → (w1 = m_wlL s wl i) → gW G X (wM G a s as_ hi kn sn ik tx ln (zeL it 10) w1 sp iw rs er) 0 0 11 [(3, .int (nI i)), (2, .int (m_shod s)), (0, .ref (a 0)), (1, .int (nI 1))] [] := by
    intro fu
    induction fu with
    | zero =>
      intro i w1 hn hw
      have hi9 : i = 10 := by omega
      have hw9 : w1 = m_wlL s wl 10 := by rw [hw, hi9]
      refine x_iload_n C 0 rfl dX6_hour_11 rfl ?_
      refine x_bipush (v := (nI 10)) C dX6_hour_12 (by decide) ?_
      refine x_icmp_geN (a := i) (b := 10) (tgt := 39) C dX6_hour_14 (by decide) (by omega) (by omega) (fun c2 => ?_) (fun c2 => False.elim (by omega))
      subst hw9
      refine (show gW G X (wM G a s as_ hi kn sn ik tx ln (zeL it 10) (m_wlL s wl 10) sp iw rs er) 0 0 39 [(3, .int (nI i)), (2, .int (m_shod s)), (0, .ref (a 0)), (1, .int (nI 1))] [] from ?_)
      refine x_iload_n C 3 rfl dX6_hour_39 rfl ?_
      refine x_if_eqN (a := 1) (tgt := 51) C dX6_hour_40 (by decide) (by omega) (fun c3 => False.elim (by omega)) (fun c3 => ?_)
      refine x_aload_n C 2 rfl dX6_hour_43 rfl ?_
      refine x_iload_n C 1 rfl dX6_hour_44 rfl ?_
      refine x_callVd (As := [.int (m_shod s)]) (rest := []) C dX6_hour_45 (c_X6_gives (gX.l X) G a s as_ hi kn sn ik tx ln (zeL it 10) (m_wlL s wl 10) sp iw rs er (m_shod s) hB hF hrd) ml_X6_89 im_X6_gives sl_X6_gives in_X6 cd_X6_gives hd_X6_gives 0 rfl rfl rfl rfl (Nat.le_of_ble_eq_true rfl) ⟨Nat.le_of_ble_eq_true rfl, Nat.le_of_ble_eq_true rfl⟩ (List.take 0 (wM G a s as_ hi kn sn ik tx ln (zeL it 10) (m_wlL s wl 10) sp iw rs er)) (List.drop 8 (wM G a s as_ hi kn sn ik tx ln (zeL it 10) (m_wlL s wl 10) sp iw rs er)) rfl (ws' := (wM G a (upd (m_gN s (zeL it 10) (m_shod s)).1 192 (nI (m_gN s (zeL it 10) (m_shod s)).2.2.2)) as_ hi kn sn ik tx ln ((m_gN s (zeL it 10) (m_shod s)).2.1) (m_wlL s wl 10) sp iw rs er)) rfl (st' := [.int ((m_gN s (zeL it 10) (m_shod s)).2.2.1)]) rfl ⟨rfl, rfl⟩ ⟨Nat.le_of_ble_eq_true rfl, Nat.le_of_ble_eq_true rfl⟩ ?_
      refine x_goto (tgt := 52) C dX6_hour_48 (by decide) ?_
      refine x_istore_n (lv' := [(3, .int ((m_gN s (zeL it 10) (m_shod s)).2.2.1)), (2, .int (m_shod s)), (0, .ref (a 0)), (1, .int (nI 1))]) C dX6_hour_52 rfl (by decide) rfl ?_
      refine (show gW G X (wM G a (upd (m_h1G s it).1 192 (nI (m_h1G s it).2.2.2)) as_ hi kn sn ik tx ln ((m_h1G s it).2.1) (m_wlL s wl 10) sp iw rs er) 0 0 53 [(3, .int ((m_gN s (zeL it 10) (m_shod s)).2.2.1)), (2, .int (m_shod s)), (0, .ref (a 0)), (1, .int (nI 1))] [] from ?_)
      refine x_iconst (v := (nI 0)) C dX6_hour_53 (by decide) ?_
      refine x_istore (lv' := [(4, .int (nI 0)), (3, .int ((m_gN s (zeL it 10) (m_shod s)).2.2.1)), (2, .int (m_shod s)), (0, .ref (a 0)), (1, .int (nI 1))]) C dX6_hour_54 (by decide) rfl ?_
      have L4 : ∀ (fu : Nat) (j : Nat) (s2 : Nat → Int32), j + fu = 10 → (s2 = m_rsL (upd (m_h1G s it).1 192 (nI (m_h1G s it).2.2.2)) (m_h1G s it).2.1 (m_wlL s wl 10) (m_shod s) j) → gW G X (wM G a s2 as_ hi kn sn ik tx ln ((m_h1G s it).2.1) (m_wlL s wl 10) sp iw rs er) 0 0 56 [(4, .int (nI j)), (3, .int ((m_gN s (zeL it 10) (m_shod s)).2.2.1)), (2, .int (m_shod s)), (0, .ref (a 0)), (1, .int (nI 1))] [] := by
        intro fu
        induction fu with
        | zero =>
          intro j s2 hn hs
          have hj9 : j = 10 := by omega
          refine x_iload C 0 rfl dX6_hour_56 ?_
          refine x_bipush (v := (nI 10)) C dX6_hour_58 (by decide) ?_
          refine x_icmp_geN (a := j) (b := 10) (tgt := 76) C dX6_hour_60 (by decide) (by omega) (by omega) (fun c5 => ?_) (fun c5 => False.elim (by omega))
          refine x_aload_n C 3 rfl dX6_hour_76 rfl ?_
          refine x_get (k := 0) (v := .ref (a 1)) C dX6_hour_77 layX6 fl_X6_7 0 rfl rfl (by decide) rfl ?_
          refine x_iconst (v := (nI 0)) C dX6_hour_80 (by decide) ?_
          refine x_dup2 C rfl rfl dX6_hour_81 ?_
          refine x_iald (j := 0) C dX6_hour_82 1 rfl rfl (by omega) (by omega) ?_
          refine x_iconst (v := (nI 1)) C dX6_hour_83 (by decide) ?_
          refine x_iadd (x := (s2 0)) (y := 1) C dX6_hour_84 ?_
          refine x_iast (j := 0) (x := ((s2 0) + 1)) (ws' := (wM G a (upd s2 0 ((s2 0) + 1)) as_ hi kn sn ik tx ln ((m_h1G s it).2.1) (m_wlL s wl 10) sp iw rs er)) C dX6_hour_85 1 rfl rfl (by omega) (by omega) rfl ?_
          refine x_iload_n C 1 rfl dX6_hour_86 rfl ?_
          exact x_iret C hr E dX6_hour_87 (fun _ => 0) rfl (by rw [hs, hj9]; rfl)
        | succ fu ih =>
          intro j s2 hn hs
          refine x_iload C 0 rfl dX6_hour_56 ?_
          refine x_bipush (v := (nI 10)) C dX6_hour_58 (by decide) ?_
          refine x_icmp_geN (a := j) (b := 10) (tgt := 76) C dX6_hour_60 (by decide) (by omega) (by omega) (fun c6 => False.elim (by omega)) (fun c6 => ?_)
          refine x_aload_n C 3 rfl dX6_hour_63 rfl ?_
          refine x_iload C 0 rfl dX6_hour_64 ?_
          refine x_iload_n C 2 rfl dX6_hour_66 rfl ?_
          refine x_callVd (As := [.int (nI j), .int (m_shod s)]) (rest := []) C dX6_hour_67 (c_X6_rests (gX.l X) G a s2 as_ hi kn sn ik tx ln ((m_h1G s it).2.1) (m_wlL s wl 10) sp iw rs er j (m_shod s) (by omega)) ml_X6_92 im_X6_rests sl_X6_rests in_X6 cd_X6_rests hd_X6_rests 0 rfl rfl rfl rfl (Nat.le_of_ble_eq_true rfl) ⟨Nat.le_of_ble_eq_true rfl, Nat.le_of_ble_eq_true rfl⟩ (List.take 0 (wM G a s2 as_ hi kn sn ik tx ln ((m_h1G s it).2.1) (m_wlL s wl 10) sp iw rs er)) (List.drop 8 (wM G a s2 as_ hi kn sn ik tx ln ((m_h1G s it).2.1) (m_wlL s wl 10) sp iw rs er)) rfl (ws' := (wM G a (m_rests s2 ((m_h1G s it).2.1) (m_wlL s wl 10) j (m_shod s)) as_ hi kn sn ik tx ln ((m_h1G s it).2.1) (m_wlL s wl 10) sp iw rs er)) rfl (st' := []) rfl ⟨rfl, rfl⟩ ⟨Nat.le_of_ble_eq_true rfl, Nat.le_of_ble_eq_true rfl⟩ ?_
          refine x_iinc (v := (nI (j + 1))) (lv' := [(4, .int (nI (j + 1))), (3, .int ((m_gN s (zeL it 10) (m_shod s)).2.2.1)), (2, .int (m_shod s)), (0, .ref (a 0)), (1, .int (nI 1))]) C 0 rfl dX6_hour_70 (by rw [show Int32.ofInt 1 = nI 1 from rfl]; exact nI_add _ _) (by decide) rfl ?_
          refine x_goto (tgt := 56) C dX6_hour_73 (by decide) ?_
          exact ih (j + 1) (m_rests s2 ((m_h1G s it).2.1) (m_wlL s wl 10) j (m_shod s)) (by omega) (by rw [hs]; rfl)
      exact L4 10 0 (upd (m_h1G s it).1 192 (nI (m_h1G s it).2.2.2)) (by omega) (by rfl)
    | succ fu ih =>
      intro i w1 hn hw
      refine x_iload_n C 0 rfl dX6_hour_11 rfl ?_
      refine x_bipush (v := (nI 10)) C dX6_hour_12 (by decide) ?_
      refine x_icmp_geN (a := i) (b := 10) (tgt := 39) C dX6_hour_14 (by decide) (by omega) (by omega) (fun c7 => False.elim (by omega)) (fun c7 => ?_)
      refine x_aload_n C 2 rfl dX6_hour_17 rfl ?_
      refine x_get (k := 9) (v := .ref (a 7)) C dX6_hour_18 layX6 fl_X6_28 0 rfl rfl (by decide) rfl ?_
      refine x_iload_n C 0 rfl dX6_hour_21 rfl ?_
      refine x_aload_n C 2 rfl dX6_hour_22 rfl ?_
      refine x_get (k := 0) (v := .ref (a 1)) C dX6_hour_23 layX6 fl_X6_7 0 rfl rfl (by decide) rfl ?_
      refine x_iload_n C 0 rfl dX6_hour_26 rfl ?_
      refine x_iconst (v := (nI 5)) C dX6_hour_27 (by decide) ?_
      refine x_callSd (As := [.int (nI i), .int (nI 5)]) (rest := [.ref (a 1), .int (nI i), .ref (a 7)]) C dX6_hour_28 (c_X6_of (gX.l X) G i 5 (9 * i + 6) (by omega)) ml_X6_31 st_X6_of in_X6 cd_X6_of hd_X6_of rfl rfl (Nat.le_of_ble_eq_true rfl) ⟨Nat.le_of_ble_eq_true rfl, Nat.le_of_ble_eq_true rfl⟩ [] (wM G a s as_ hi kn sn ik tx ln (zeL it 10) w1 sp iw rs er) rfl (ws' := (wM G a s as_ hi kn sn ik tx ln (zeL it 10) w1 sp iw rs er)) rfl (st' := [.int (nI (9 * i + 6)), .ref (a 1), .int (nI i), .ref (a 7)]) rfl ⟨rfl, rfl⟩ ⟨Nat.le_of_ble_eq_true rfl, Nat.le_of_ble_eq_true rfl⟩ ?_
      refine x_iald (j := (9 * i + 6)) C dX6_hour_31 1 rfl rfl (by omega) (by omega) ?_
      refine x_iast (j := i) (x := (s (9 * i + 6))) (ws' := (wM G a s as_ hi kn sn ik tx ln (zeL it 10) (upd w1 i (s (9 * i + 6))) sp iw rs er)) C dX6_hour_32 7 rfl rfl (by omega) (by omega) rfl ?_
      refine x_iinc (v := (nI (i + 1))) (lv' := [(3, .int (nI (i + 1))), (2, .int (m_shod s)), (0, .ref (a 0)), (1, .int (nI 1))]) C 0 rfl dX6_hour_33 (by rw [show Int32.ofInt 1 = nI 1 from rfl]; exact nI_add _ _) (by decide) rfl ?_
      refine x_goto (tgt := 11) C dX6_hour_36 (by decide) ?_
      exact ih (i + 1) (upd w1 i (s (9 * i + 6))) (by omega) (by rw [hw]; rfl)
  exact L1 10 0 wl (by omega) (by rfl)
set_option maxRecDepth 100000 in
set_option maxHeartbeats 600000 in
theorem c_X6_hour0 (l : Launch) (G : gG) (a : Nat → Nat) (s as_ hi : Nat → Int32) (kn : Nat) (sn : Nat → Int32) (ik : Int32) (tx : Nat → Int32) (ln : Nat) (it wl : Nat → Int32) (sp : Nat) (iw : Int32) (rs : Nat) (er : Int32)  (hz : ¬ s 191 = 0) : CT l yX6_hour cX6_hour 5 (some .int) rm_X6_hour G [.ref (a 0), .int (nI 0)] (wM G a s as_ hi kn sn ik tx ln it wl sp iw rs er) (some (.int 0)) (fun _ => (wM G a (m_h0S s it wl) as_ hi kn sn ik tx ln (zeL it 10) (m_wlL s wl 10) sp iw rs er)) := by
  refine gMet (by decide) (Nat.le_of_ble_eq_true rfl) (fun X hX C hr hin E => ?_)
  clear hX
  refine (show gW G X (wM G a s as_ hi kn sn ik tx ln it wl sp iw rs er) 0 0 0 [(0, .ref (a 0)), (1, .int (nI 0))] [] from ?_)
  refine x_aload_n C 0 rfl dX6_hour_0 rfl ?_
  refine x_callVd (As := []) (rest := []) C dX6_hour_1 (c_X6_shodHorse (gX.l X) G a s as_ hi kn sn ik tx ln it wl sp iw rs er hz) ml_X6_82 im_X6_shodHorse sl_X6_shodHorse in_X6 cd_X6_shodHorse hd_X6_shodHorse 0 rfl rfl rfl rfl (Nat.le_of_ble_eq_true rfl) ⟨Nat.le_of_ble_eq_true rfl, Nat.le_of_ble_eq_true rfl⟩ (List.take 0 (wM G a s as_ hi kn sn ik tx ln it wl sp iw rs er)) (List.drop 8 (wM G a s as_ hi kn sn ik tx ln it wl sp iw rs er)) rfl (ws' := (wM G a s as_ hi kn sn ik tx ln it wl sp iw rs er)) rfl (st' := [.int (m_shod s)]) rfl ⟨rfl, rfl⟩ ⟨Nat.le_of_ble_eq_true rfl, Nat.le_of_ble_eq_true rfl⟩ ?_
  refine x_istore_n (lv' := [(2, .int (m_shod s)), (0, .ref (a 0)), (1, .int (nI 0))]) C dX6_hour_4 rfl (by decide) rfl ?_
  refine x_aload_n C 1 rfl dX6_hour_5 rfl ?_
  refine x_callVd (As := []) (rest := []) C dX6_hour_6 (c_X6_frees (gX.l X) G a s as_ hi kn sn ik tx ln it wl sp iw rs er ) ml_X6_86 im_X6_frees sl_X6_frees in_X6 cd_X6_frees hd_X6_frees 0 rfl rfl rfl rfl (Nat.le_of_ble_eq_true rfl) ⟨Nat.le_of_ble_eq_true rfl, Nat.le_of_ble_eq_true rfl⟩ (List.take 0 (wM G a s as_ hi kn sn ik tx ln it wl sp iw rs er)) (List.drop 8 (wM G a s as_ hi kn sn ik tx ln it wl sp iw rs er)) rfl (ws' := (wM G a s as_ hi kn sn ik tx ln (zeL it 10) wl sp iw rs er)) rfl (st' := []) rfl ⟨rfl, rfl⟩ ⟨Nat.le_of_ble_eq_true rfl, Nat.le_of_ble_eq_true rfl⟩ ?_
  refine x_iconst (v := (nI 0)) C dX6_hour_9 (by decide) ?_
  refine x_istore_n (lv' := [(3, .int (nI 0)), (2, .int (m_shod s)), (0, .ref (a 0)), (1, .int (nI 0))]) C dX6_hour_10 rfl (by decide) rfl ?_
  have L1 : ∀ (fu : Nat) (i : Nat) (w1 : Nat → Int32), i + fu = 10 → (w1 = m_wlL s wl i) → gW G X (wM G a s as_ hi kn sn ik tx ln (zeL it 10) w1 sp iw rs er) 0 0 11 [(3, .int (nI i)), (2, .int (m_shod s)), (0, .ref (a 0)), (1, .int (nI 0))] [] := by
    intro fu
    induction fu with
    | zero =>
      intro i w1 hn hw
      have hi9 : i = 10 := by omega
      have hw9 : w1 = m_wlL s wl 10 := by rw [hw, hi9]
      refine x_iload_n C 0 rfl dX6_hour_11 rfl ?_
      refine x_bipush (v := (nI 10)) C dX6_hour_12 (by decide) ?_
      refine x_icmp_geN (a := i) (b := 10) (tgt := 39) C dX6_hour_14 (by decide) (by omega) (by omega) (fun c2 => ?_) (fun c2 => False.elim (by omega))
      subst hw9
      refine (show gW G X (wM G a s as_ hi kn sn ik tx ln (zeL it 10) (m_wlL s wl 10) sp iw rs er) 0 0 39 [(3, .int (nI i)), (2, .int (m_shod s)), (0, .ref (a 0)), (1, .int (nI 0))] [] from ?_)
      refine x_iload_n C 3 rfl dX6_hour_39 rfl ?_
      refine x_if_eqN (a := 0) (tgt := 51) C dX6_hour_40 (by decide) (by omega) (fun c3 => ?_) (fun c3 => False.elim (by omega))
      refine x_iconst (v := (nI 0)) C dX6_hour_51 (by decide) ?_
      refine x_istore_n (lv' := [(3, .int (nI 0)), (2, .int (m_shod s)), (0, .ref (a 0)), (1, .int (nI 0))]) C dX6_hour_52 rfl (by decide) rfl ?_
      refine x_iconst (v := (nI 0)) C dX6_hour_53 (by decide) ?_
      refine x_istore (lv' := [(4, .int (nI 0)), (3, .int (nI 0)), (2, .int (m_shod s)), (0, .ref (a 0)), (1, .int (nI 0))]) C dX6_hour_54 (by decide) rfl ?_
      have L4 : ∀ (fu : Nat) (j : Nat) (s2 : Nat → Int32), j + fu = 10 → (s2 = m_rsL s (zeL it 10) (m_wlL s wl 10) (m_shod s) j) → gW G X (wM G a s2 as_ hi kn sn ik tx ln (zeL it 10) (m_wlL s wl 10) sp iw rs er) 0 0 56 [(4, .int (nI j)), (3, .int (nI 0)), (2, .int (m_shod s)), (0, .ref (a 0)), (1, .int (nI 0))] [] := by
        intro fu
        induction fu with
        | zero =>
          intro j s2 hn hs
          have hj9 : j = 10 := by omega
          refine x_iload C 0 rfl dX6_hour_56 ?_
          refine x_bipush (v := (nI 10)) C dX6_hour_58 (by decide) ?_
          refine x_icmp_geN (a := j) (b := 10) (tgt := 76) C dX6_hour_60 (by decide) (by omega) (by omega) (fun c5 => ?_) (fun c5 => False.elim (by omega))
          refine x_aload_n C 3 rfl dX6_hour_76 rfl ?_
          refine x_get (k := 0) (v := .ref (a 1)) C dX6_hour_77 layX6 fl_X6_7 0 rfl rfl (by decide) rfl ?_
          refine x_iconst (v := (nI 0)) C dX6_hour_80 (by decide) ?_
          refine x_dup2 C rfl rfl dX6_hour_81 ?_
          refine x_iald (j := 0) C dX6_hour_82 1 rfl rfl (by omega) (by omega) ?_
          refine x_iconst (v := (nI 1)) C dX6_hour_83 (by decide) ?_
          refine x_iadd (x := (s2 0)) (y := 1) C dX6_hour_84 ?_
          refine x_iast (j := 0) (x := ((s2 0) + 1)) (ws' := (wM G a (upd s2 0 ((s2 0) + 1)) as_ hi kn sn ik tx ln (zeL it 10) (m_wlL s wl 10) sp iw rs er)) C dX6_hour_85 1 rfl rfl (by omega) (by omega) rfl ?_
          refine x_iload_n C 1 rfl dX6_hour_86 rfl ?_
          exact x_iret C hr E dX6_hour_87 (fun _ => 0) rfl (by rw [hs, hj9]; rfl)
        | succ fu ih =>
          intro j s2 hn hs
          refine x_iload C 0 rfl dX6_hour_56 ?_
          refine x_bipush (v := (nI 10)) C dX6_hour_58 (by decide) ?_
          refine x_icmp_geN (a := j) (b := 10) (tgt := 76) C dX6_hour_60 (by decide) (by omega) (by omega) (fun c6 => False.elim (by omega)) (fun c6 => ?_)
          refine x_aload_n C 3 rfl dX6_hour_63 rfl ?_
          refine x_iload C 0 rfl dX6_hour_64 ?_
          refine x_iload_n C 2 rfl dX6_hour_66 rfl ?_
          refine x_callVd (As := [.int (nI j), .int (m_shod s)]) (rest := []) C dX6_hour_67 (c_X6_rests (gX.l X) G a s2 as_ hi kn sn ik tx ln (zeL it 10) (m_wlL s wl 10) sp iw rs er j (m_shod s) (by omega)) ml_X6_92 im_X6_rests sl_X6_rests in_X6 cd_X6_rests hd_X6_rests 0 rfl rfl rfl rfl (Nat.le_of_ble_eq_true rfl) ⟨Nat.le_of_ble_eq_true rfl, Nat.le_of_ble_eq_true rfl⟩ (List.take 0 (wM G a s2 as_ hi kn sn ik tx ln (zeL it 10) (m_wlL s wl 10) sp iw rs er)) (List.drop 8 (wM G a s2 as_ hi kn sn ik tx ln (zeL it 10) (m_wlL s wl 10) sp iw rs er)) rfl (ws' := (wM G a (m_rests s2 (zeL it 10) (m_wlL s wl 10) j (m_shod s)) as_ hi kn sn ik tx ln (zeL it 10) (m_wlL s wl 10) sp iw rs er)) rfl (st' := []) rfl ⟨rfl, rfl⟩ ⟨Nat.le_of_ble_eq_true rfl, Nat.le_of_ble_eq_true rfl⟩ ?_
          refine x_iinc (v := (nI (j + 1))) (lv' := [(4, .int (nI (j + 1))), (3, .int (nI 0)), (2, .int (m_shod s)), (0, .ref (a 0)), (1, .int (nI 0))]) C 0 rfl dX6_hour_70 (by rw [show Int32.ofInt 1 = nI 1 from rfl]; exact nI_add _ _) (by decide) rfl ?_
          refine x_goto (tgt := 56) C dX6_hour_73 (by decide) ?_
          exact ih (j + 1) (m_rests s2 (zeL it 10) (m_wlL s wl 10) j (m_shod s)) (by omega) (by rw [hs]; rfl)
      exact L4 10 0 s (by omega) (by rfl)
    | succ fu ih =>
      intro i w1 hn hw
      refine x_iload_n C 0 rfl dX6_hour_11 rfl ?_
      refine x_bipush (v := (nI 10)) C dX6_hour_12 (by decide) ?_
      refine x_icmp_geN (a := i) (b := 10) (tgt := 39) C dX6_hour_14 (by decide) (by omega) (by omega) (fun c7 => False.elim (by omega)) (fun c7 => ?_)
      refine x_aload_n C 2 rfl dX6_hour_17 rfl ?_
      refine x_get (k := 9) (v := .ref (a 7)) C dX6_hour_18 layX6 fl_X6_28 0 rfl rfl (by decide) rfl ?_
      refine x_iload_n C 0 rfl dX6_hour_21 rfl ?_
      refine x_aload_n C 2 rfl dX6_hour_22 rfl ?_
      refine x_get (k := 0) (v := .ref (a 1)) C dX6_hour_23 layX6 fl_X6_7 0 rfl rfl (by decide) rfl ?_
      refine x_iload_n C 0 rfl dX6_hour_26 rfl ?_
      refine x_iconst (v := (nI 5)) C dX6_hour_27 (by decide) ?_
      refine x_callSd (As := [.int (nI i), .int (nI 5)]) (rest := [.ref (a 1), .int (nI i), .ref (a 7)]) C dX6_hour_28 (c_X6_of (gX.l X) G i 5 (9 * i + 6) (by omega)) ml_X6_31 st_X6_of in_X6 cd_X6_of hd_X6_of rfl rfl (Nat.le_of_ble_eq_true rfl) ⟨Nat.le_of_ble_eq_true rfl, Nat.le_of_ble_eq_true rfl⟩ [] (wM G a s as_ hi kn sn ik tx ln (zeL it 10) w1 sp iw rs er) rfl (ws' := (wM G a s as_ hi kn sn ik tx ln (zeL it 10) w1 sp iw rs er)) rfl (st' := [.int (nI (9 * i + 6)), .ref (a 1), .int (nI i), .ref (a 7)]) rfl ⟨rfl, rfl⟩ ⟨Nat.le_of_ble_eq_true rfl, Nat.le_of_ble_eq_true rfl⟩ ?_
      refine x_iald (j := (9 * i + 6)) C dX6_hour_31 1 rfl rfl (by omega) (by omega) ?_
      refine x_iast (j := i) (x := (s (9 * i + 6))) (ws' := (wM G a s as_ hi kn sn ik tx ln (zeL it 10) (upd w1 i (s (9 * i + 6))) sp iw rs er)) C dX6_hour_32 7 rfl rfl (by omega) (by omega) rfl ?_
      refine x_iinc (v := (nI (i + 1))) (lv' := [(3, .int (nI (i + 1))), (2, .int (m_shod s)), (0, .ref (a 0)), (1, .int (nI 0))]) C 0 rfl dX6_hour_33 (by rw [show Int32.ofInt 1 = nI 1 from rfl]; exact nI_add _ _) (by decide) rfl ?_
      refine x_goto (tgt := 11) C dX6_hour_36 (by decide) ?_
      exact ih (i + 1) (upd w1 i (s (9 * i + 6))) (by omega) (by rw [hw]; rfl)
  exact L1 10 0 wl (by omega) (by rfl)
