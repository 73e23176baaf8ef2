def rm_X6_falls : Room := { frames := 1, cells := 0, slots := 0, locals := 21 }
set_option maxRecDepth 100000 in
set_option maxHeartbeats 4000000 in
theorem c_X6_falls (l : Launch) (G : gG) (a : Nat → Nat) (s as_ hi : Nat → Int32) (kn : Nat) (sn : Nat → Int32) (ik : Int32) (tx : Nat → Int32) (ln : Nat) (it wl : Nat → Int32) (sp : Nat) (iw : Int32) (rs : Nat) (er : Int32) (r h : Nat)  (hF : okF (s 317)) (hr0 : r < 12) (hh : h < 10) : CT l yX6_falls cX6_falls 4 none rm_X6_falls G [.ref (a 0), .int (nI r), .int (nI h)] (wM G a s as_ hi kn sn ik tx ln it wl sp iw rs er) none (fun _ => (wM G a (m_falls s r h) as_ hi kn sn ik tx ln it wl sp iw rs er)) := by
  refine gMet (by decide) (Nat.le_of_ble_eq_true rfl) (fun X hX C hr hin E => ?_)
  clear hX
  refine (show gW G X (wM G a s as_ hi kn sn ik tx ln it wl sp iw rs er) 0 0 0 [(0, .ref (a 0)), (1, .int (nI r)), (2, .int (nI h))] [] from ?_)
  have hfl := hF.1
  refine x_aload_n C 0 rfl dX6_falls_0 rfl ?_
  refine x_get (k := 0) (v := .ref (a 1)) C dX6_falls_1 layX6 fl_X6_7 0 rfl rfl (by decide) rfl ?_
  refine x_sipush (v := (nI 317)) C dX6_falls_4 (by decide) ?_
  refine x_dup2 C rfl rfl dX6_falls_7 ?_
  refine x_iald (j := 317) C dX6_falls_8 1 rfl rfl (by omega) (by omega) ?_
  refine x_aload_n C 0 rfl dX6_falls_9 rfl ?_
  refine x_get (k := 0) (v := .ref (a 1)) C dX6_falls_10 layX6 fl_X6_7 0 rfl rfl (by decide) rfl ?_
  refine x_sipush (v := (nI 317)) C dX6_falls_13 (by decide) ?_
  refine x_iald (j := 317) C dX6_falls_16 1 rfl rfl (by omega) (by omega) ?_
  refine x_bipush (v := (nI 20)) C dX6_falls_17 (by decide) ?_
  have J2 : ∀ (y3 : Int32) , y3 = bI ((s 317) < 20) → gW G X (wM G a s as_ hi kn sn ik tx ln it wl sp iw rs er) 0 0 27 [(0, .ref (a 0)), (1, .int (nI r)), (2, .int (nI h))] [.int y3, .int (s 317), .int (nI 317), .ref (a 1)] := by
    intro y3 ey3
    subst ey3
    refine x_iadd (x := (s 317)) (y := (bI ((s 317) < 20))) C dX6_falls_27 ?_
    refine x_iast (j := 317) (x := ((s 317) + (bI ((s 317) < 20)))) (ws' := (wM G a (upd s 317 ((s 317) + (bI ((s 317) < 20)))) as_ hi kn sn ik tx ln it wl sp iw rs er)) C dX6_falls_28 1 rfl rfl (by omega) (by omega) rfl ?_
    refine x_iconst (v := (nI 3)) C dX6_falls_29 (by decide) ?_
    refine x_aload_n C 0 rfl dX6_falls_30 rfl ?_
    refine x_get (k := 0) (v := .ref (a 1)) C dX6_falls_31 layX6 fl_X6_7 0 rfl rfl (by decide) rfl ?_
    refine x_sipush (v := (nI 317)) C dX6_falls_34 (by decide) ?_
    refine x_iald (j := 317) C dX6_falls_37 1 rfl rfl (by omega) (by omega) ?_
    refine x_top (y := (nI (min (nC (s 317) + 1) 20))) (by rw [pk_us]; exact m_fmu hF.2 hF.1) ?_
    refine x_imulN C dX6_falls_38 ?_
    refine x_iconst (v := (nI 1)) C dX6_falls_39 (by decide) ?_
    refine x_isubN C dX6_falls_40 (by omega) ?_
    refine x_istore_n (lv' := [(3, .int (nI ((3 * (min (nC (s 317) + 1) 20)) - 1))), (0, .ref (a 0)), (1, .int (nI r)), (2, .int (nI h))]) C dX6_falls_41 rfl (by decide) rfl ?_
    have L4 : ∀ (fu : Nat) (k : Nat) (g : Nat → Int32), k = fu + 2 → (m_shR fu k g = m_shR (3 * (min (nC (s 317) + 1) 20) - 3) (3 * (min (nC (s 317) + 1) 20) - 1) (upd s 317 (s 317 + bI (s 317 < 20)))) → (k < 60) → gW G X (wM G a g as_ hi kn sn ik tx ln it wl sp iw rs er) 0 0 42 [(3, .int (nI k)), (0, .ref (a 0)), (1, .int (nI r)), (2, .int (nI h))] [] := by
      intro fu
      induction fu with
      | zero =>
        intro k g hn hg hk60
        have hg0 : g = m_shR (3 * (min (nC (s 317) + 1) 20) - 3) (3 * (min (nC (s 317) + 1) 20) - 1) (upd s 317 (s 317 + bI (s 317 < 20))) := hg
        refine x_iload_n C 0 rfl dX6_falls_42 rfl ?_
        refine x_iconst (v := (nI 2)) C dX6_falls_43 (by decide) ?_
        refine x_icmp_leN (a := k) (b := 2) (tgt := 75) C dX6_falls_44 (by decide) (by omega) (by omega) (fun c5 => ?_) (fun c5 => False.elim (by omega))
        refine x_aload_n C 1 rfl dX6_falls_75 rfl ?_
        refine x_get (k := 0) (v := .ref (a 1)) C dX6_falls_76 layX6 fl_X6_7 0 rfl rfl (by decide) rfl ?_
        refine x_sipush (v := (nI 318)) C dX6_falls_79 (by decide) ?_
        refine x_aload_n C 1 rfl dX6_falls_82 rfl ?_
        refine x_get (k := 0) (v := .ref (a 1)) C dX6_falls_83 layX6 fl_X6_7 0 rfl rfl (by decide) rfl ?_
        refine x_iconst (v := (nI 0)) C dX6_falls_86 (by decide) ?_
        refine x_iald (j := 0) C dX6_falls_87 1 rfl rfl (by omega) (by omega) ?_
        refine x_iast (j := 318) (x := (g 0)) (ws' := (wM G a (upd g 318 (g 0)) as_ hi kn sn ik tx ln it wl sp iw rs er)) C dX6_falls_88 1 rfl rfl (by omega) (by omega) rfl ?_
        refine x_aload_n C 1 rfl dX6_falls_89 rfl ?_
        refine x_get (k := 0) (v := .ref (a 1)) C dX6_falls_90 layX6 fl_X6_7 0 rfl rfl (by decide) rfl ?_
        refine x_sipush (v := (nI 319)) C dX6_falls_93 (by decide) ?_
        refine x_iload_n C 2 rfl dX6_falls_96 rfl ?_
        refine x_iast (j := 319) (x := (nI r)) (ws' := (wM G a (upd (upd g 318 (g 0)) 319 (nI r)) as_ hi kn sn ik tx ln it wl sp iw rs er)) C dX6_falls_97 1 rfl rfl (by omega) (by omega) rfl ?_
        refine x_aload_n C 1 rfl dX6_falls_98 rfl ?_
        refine x_get (k := 0) (v := .ref (a 1)) C dX6_falls_99 layX6 fl_X6_7 0 rfl rfl (by decide) rfl ?_
        refine x_sipush (v := (nI 320)) C dX6_falls_102 (by decide) ?_
        refine x_iload_n C 3 rfl dX6_falls_105 rfl ?_
        refine x_iast (j := 320) (x := (nI h)) (ws' := (wM G a (upd (upd (upd g 318 (g 0)) 319 (nI r)) 320 (nI h)) as_ hi kn sn ik tx ln it wl sp iw rs er)) C dX6_falls_106 1 rfl rfl (by omega) (by omega) rfl ?_
        refine x_aload_n C 1 rfl dX6_falls_107 rfl ?_
        refine x_get (k := 0) (v := .ref (a 1)) C dX6_falls_108 layX6 fl_X6_7 0 rfl rfl (by decide) rfl ?_
        refine x_sipush (v := (nI 314)) C dX6_falls_111 (by decide) ?_
        refine x_dup2 C rfl rfl dX6_falls_114 ?_
        refine x_iald (j := 314) C dX6_falls_115 1 rfl rfl (by omega) (by omega) ?_
        refine x_iconst (v := (nI 1)) C dX6_falls_116 (by decide) ?_
        refine x_iadd (x := ((upd (upd (upd g 318 (g 0)) 319 (nI r)) 320 (nI h)) 314)) (y := 1) C dX6_falls_117 ?_
        refine x_iast (j := 314) (x := (((upd (upd (upd g 318 (g 0)) 319 (nI r)) 320 (nI h)) 314) + 1)) (ws' := (wM G a (upd (upd (upd (upd g 318 (g 0)) 319 (nI r)) 320 (nI h)) 314 (((upd (upd (upd g 318 (g 0)) 319 (nI r)) 320 (nI h)) 314) + 1)) as_ hi kn sn ik tx ln it wl sp iw rs er)) C dX6_falls_118 1 rfl rfl (by omega) (by omega) rfl ?_
        refine x_aload_n C 1 rfl dX6_falls_119 rfl ?_
        refine x_get (k := 0) (v := .ref (a 1)) C dX6_falls_120 layX6 fl_X6_7 0 rfl rfl (by decide) rfl ?_
        refine x_iload_n C 3 rfl dX6_falls_123 rfl ?_
        refine x_bipush (v := (nI 7)) C dX6_falls_124 (by decide) ?_
        refine x_callSd (As := [.int (nI h), .int (nI 7)]) (rest := [.ref (a 1)]) C dX6_falls_126 (c_X6_of (gX.l X) G h 7 (9 * h + 8) (by omega)) ml_X6_31 st_X6_of in_X6 cd_X6_of hd_X6_of rfl rfl (Nat.le_of_ble_eq_true rfl) ⟨Nat.le_of_ble_eq_true rfl, Nat.le_of_ble_eq_true rfl⟩ [] (wM G a (upd (upd (upd (upd g 318 (g 0)) 319 (nI r)) 320 (nI h)) 314 (((upd (upd (upd g 318 (g 0)) 319 (nI r)) 320 (nI h)) 314) + 1)) as_ hi kn sn ik tx ln it wl sp iw rs er) rfl (ws' := (wM G a (upd (upd (upd (upd g 318 (g 0)) 319 (nI r)) 320 (nI h)) 314 (((upd (upd (upd g 318 (g 0)) 319 (nI r)) 320 (nI h)) 314) + 1)) as_ hi kn sn ik tx ln it wl sp iw rs er)) rfl (st' := [.int (nI (9 * h + 8)), .ref (a 1)]) rfl ⟨rfl, rfl⟩ ⟨Nat.le_of_ble_eq_true rfl, Nat.le_of_ble_eq_true rfl⟩ ?_
        refine x_dup2 C rfl rfl dX6_falls_129 ?_
        refine x_iald (j := (9 * h + 8)) C dX6_falls_130 1 rfl rfl (by omega) (by omega) ?_
        refine x_iconst (v := (nI 1)) C dX6_falls_131 (by decide) ?_
        refine x_iadd (x := ((upd (upd (upd (upd g 318 (g 0)) 319 (nI r)) 320 (nI h)) 314 (((upd (upd (upd g 318 (g 0)) 319 (nI r)) 320 (nI h)) 314) + 1)) (9 * h + 8))) (y := 1) C dX6_falls_132 ?_
        refine x_iast (j := (9 * h + 8)) (x := (((upd (upd (upd (upd g 318 (g 0)) 319 (nI r)) 320 (nI h)) 314 (((upd (upd (upd g 318 (g 0)) 319 (nI r)) 320 (nI h)) 314) + 1)) (9 * h + 8)) + 1)) (ws' := (wM G a (upd (upd (upd (upd (upd g 318 (g 0)) 319 (nI r)) 320 (nI h)) 314 (((upd (upd (upd g 318 (g 0)) 319 (nI r)) 320 (nI h)) 314) + 1)) (9 * h + 8) (((upd (upd (upd (upd g 318 (g 0)) 319 (nI r)) 320 (nI h)) 314 (((upd (upd (upd g 318 (g 0)) 319 (nI r)) 320 (nI h)) 314) + 1)) (9 * h + 8)) + 1)) as_ hi kn sn ik tx ln it wl sp iw rs er)) C dX6_falls_133 1 rfl rfl (by omega) (by omega) rfl ?_
        refine x_aload_n C 1 rfl dX6_falls_134 rfl ?_
        refine x_get (k := 0) (v := .ref (a 1)) C dX6_falls_135 layX6 fl_X6_7 0 rfl rfl (by decide) rfl ?_
        refine x_iload_n C 2 rfl dX6_falls_138 rfl ?_
        refine x_iconst (v := (nI 5)) C dX6_falls_139 (by decide) ?_
        refine x_callSd (As := [.int (nI r), .int (nI 5)]) (rest := [.ref (a 1)]) C dX6_falls_140 (c_X6_ofRider (gX.l X) G r 5 (8 * r + 96) (by omega)) ml_X6_35 st_X6_ofRider in_X6 cd_X6_ofRider hd_X6_ofRider rfl rfl (Nat.le_of_ble_eq_true rfl) ⟨Nat.le_of_ble_eq_true rfl, Nat.le_of_ble_eq_true rfl⟩ [] (wM G a (upd (upd (upd (upd (upd g 318 (g 0)) 319 (nI r)) 320 (nI h)) 314 (((upd (upd (upd g 318 (g 0)) 319 (nI r)) 320 (nI h)) 314) + 1)) (9 * h + 8) (((upd (upd (upd (upd g 318 (g 0)) 319 (nI r)) 320 (nI h)) 314 (((upd (upd (upd g 318 (g 0)) 319 (nI r)) 320 (nI h)) 314) + 1)) (9 * h + 8)) + 1)) as_ hi kn sn ik tx ln it wl sp iw rs er) rfl (ws' := (wM G a (upd (upd (upd (upd (upd g 318 (g 0)) 319 (nI r)) 320 (nI h)) 314 (((upd (upd (upd g 318 (g 0)) 319 (nI r)) 320 (nI h)) 314) + 1)) (9 * h + 8) (((upd (upd (upd (upd g 318 (g 0)) 319 (nI r)) 320 (nI h)) 314 (((upd (upd (upd g 318 (g 0)) 319 (nI r)) 320 (nI h)) 314) + 1)) (9 * h + 8)) + 1)) as_ hi kn sn ik tx ln it wl sp iw rs er)) rfl (st' := [.int (nI (8 * r + 96)), .ref (a 1)]) rfl ⟨rfl, rfl⟩ ⟨Nat.le_of_ble_eq_true rfl, Nat.le_of_ble_eq_true rfl⟩ ?_
        refine x_dup2 C rfl rfl dX6_falls_143 ?_
        refine x_iald (j := (8 * r + 96)) C dX6_falls_144 1 rfl rfl (by omega) (by omega) ?_
        refine x_iconst (v := (nI 1)) C dX6_falls_145 (by decide) ?_
        refine x_iadd (x := ((upd (upd (upd (upd (upd g 318 (g 0)) 319 (nI r)) 320 (nI h)) 314 (((upd (upd (upd g 318 (g 0)) 319 (nI r)) 320 (nI h)) 314) + 1)) (9 * h + 8) (((upd (upd (upd (upd g 318 (g 0)) 319 (nI r)) 320 (nI h)) 314 (((upd (upd (upd g 318 (g 0)) 319 (nI r)) 320 (nI h)) 314) + 1)) (9 * h + 8)) + 1)) (8 * r + 96))) (y := 1) C dX6_falls_146 ?_
        refine x_iast (j := (8 * r + 96)) (x := (((upd (upd (upd (upd (upd g 318 (g 0)) 319 (nI r)) 320 (nI h)) 314 (((upd (upd (upd g 318 (g 0)) 319 (nI r)) 320 (nI h)) 314) + 1)) (9 * h + 8) (((upd (upd (upd (upd g 318 (g 0)) 319 (nI r)) 320 (nI h)) 314 (((upd (upd (upd g 318 (g 0)) 319 (nI r)) 320 (nI h)) 314) + 1)) (9 * h + 8)) + 1)) (8 * r + 96)) + 1)) (ws' := (wM G a (upd (upd (upd (upd (upd (upd g 318 (g 0)) 319 (nI r)) 320 (nI h)) 314 (((upd (upd (upd g 318 (g 0)) 319 (nI r)) 320 (nI h)) 314) + 1)) (9 * h + 8) (((upd (upd (upd (upd g 318 (g 0)) 319 (nI r)) 320 (nI h)) 314 (((upd (upd (upd g 318 (g 0)) 319 (nI r)) 320 (nI h)) 314) + 1)) (9 * h + 8)) + 1)) (8 * r + 96) (((upd (upd (upd (upd (upd g 318 (g 0)) 319 (nI r)) 320 (nI h)) 314 (((upd (upd (upd g 318 (g 0)) 319 (nI r)) 320 (nI h)) 314) + 1)) (9 * h + 8) (((upd (upd (upd (upd g 318 (g 0)) 319 (nI r)) 320 (nI h)) 314 (((upd (upd (upd g 318 (g 0)) 319 (nI r)) 320 (nI h)) 314) + 1)) (9 * h + 8)) + 1)) (8 * r + 96)) + 1)) as_ hi kn sn ik tx ln it wl sp iw rs er)) C dX6_falls_147 1 rfl rfl (by omega) (by omega) rfl ?_
        refine x_aload_n C 1 rfl dX6_falls_148 rfl ?_
        refine x_get (k := 0) (v := .ref (a 1)) C dX6_falls_149 layX6 fl_X6_7 0 rfl rfl (by decide) rfl ?_
        refine x_iload_n C 2 rfl dX6_falls_152 rfl ?_
        refine x_iconst (v := (nI 2)) C dX6_falls_153 (by decide) ?_
        refine x_callSd (As := [.int (nI r), .int (nI 2)]) (rest := [.ref (a 1)]) C dX6_falls_154 (c_X6_ofRider (gX.l X) G r 2 (8 * r + 93) (by omega)) ml_X6_35 st_X6_ofRider in_X6 cd_X6_ofRider hd_X6_ofRider rfl rfl (Nat.le_of_ble_eq_true rfl) ⟨Nat.le_of_ble_eq_true rfl, Nat.le_of_ble_eq_true rfl⟩ [] (wM G a (upd (upd (upd (upd (upd (upd g 318 (g 0)) 319 (nI r)) 320 (nI h)) 314 (((upd (upd (upd g 318 (g 0)) 319 (nI r)) 320 (nI h)) 314) + 1)) (9 * h + 8) (((upd (upd (upd (upd g 318 (g 0)) 319 (nI r)) 320 (nI h)) 314 (((upd (upd (upd g 318 (g 0)) 319 (nI r)) 320 (nI h)) 314) + 1)) (9 * h + 8)) + 1)) (8 * r + 96) (((upd (upd (upd (upd (upd g 318 (g 0)) 319 (nI r)) 320 (nI h)) 314 (((upd (upd (upd g 318 (g 0)) 319 (nI r)) 320 (nI h)) 314) + 1)) (9 * h + 8) (((upd (upd (upd (upd g 318 (g 0)) 319 (nI r)) 320 (nI h)) 314 (((upd (upd (upd g 318 (g 0)) 319 (nI r)) 320 (nI h)) 314) + 1)) (9 * h + 8)) + 1)) (8 * r + 96)) + 1)) as_ hi kn sn ik tx ln it wl sp iw rs er) rfl (ws' := (wM G a (upd (upd (upd (upd (upd (upd g 318 (g 0)) 319 (nI r)) 320 (nI h)) 314 (((upd (upd (upd g 318 (g 0)) 319 (nI r)) 320 (nI h)) 314) + 1)) (9 * h + 8) (((upd (upd (upd (upd g 318 (g 0)) 319 (nI r)) 320 (nI h)) 314 (((upd (upd (upd g 318 (g 0)) 319 (nI r)) 320 (nI h)) 314) + 1)) (9 * h + 8)) + 1)) (8 * r + 96) (((upd (upd (upd (upd (upd g 318 (g 0)) 319 (nI r)) 320 (nI h)) 314 (((upd (upd (upd g 318 (g 0)) 319 (nI r)) 320 (nI h)) 314) + 1)) (9 * h + 8) (((upd (upd (upd (upd g 318 (g 0)) 319 (nI r)) 320 (nI h)) 314 (((upd (upd (upd g 318 (g 0)) 319 (nI r)) 320 (nI h)) 314) + 1)) (9 * h + 8)) + 1)) (8 * r + 96)) + 1)) as_ hi kn sn ik tx ln it wl sp iw rs er)) rfl (st' := [.int (nI (8 * r + 93)), .ref (a 1)]) rfl ⟨rfl, rfl⟩ ⟨Nat.le_of_ble_eq_true rfl, Nat.le_of_ble_eq_true rfl⟩ ?_
        refine x_dup2 C rfl rfl dX6_falls_157 ?_
        refine x_iald (j := (8 * r + 93)) C dX6_falls_158 1 rfl rfl (by omega) (by omega) ?_
        refine x_aload_n C 1 rfl dX6_falls_159 rfl ?_
        refine x_get (k := 0) (v := .ref (a 1)) C dX6_falls_160 layX6 fl_X6_7 0 rfl rfl (by decide) rfl ?_
        refine x_iload_n C 2 rfl dX6_falls_163 rfl ?_
        refine x_iconst (v := (nI 2)) C dX6_falls_164 (by decide) ?_
        refine x_callSd (As := [.int (nI r), .int (nI 2)]) (rest := [.ref (a 1), .int ((upd (upd (upd (upd (upd (upd g 318 (g 0)) 319 (nI r)) 320 (nI h)) 314 (((upd (upd (upd g 318 (g 0)) 319 (nI r)) 320 (nI h)) 314) + 1)) (9 * h + 8) (((upd (upd (upd (upd g 318 (g 0)) 319 (nI r)) 320 (nI h)) 314 (((upd (upd (upd g 318 (g 0)) 319 (nI r)) 320 (nI h)) 314) + 1)) (9 * h + 8)) + 1)) (8 * r + 96) (((upd (upd (upd (upd (upd g 318 (g 0)) 319 (nI r)) 320 (nI h)) 314 (((upd (upd (upd g 318 (g 0)) 319 (nI r)) 320 (nI h)) 314) + 1)) (9 * h + 8) (((upd (upd (upd (upd g 318 (g 0)) 319 (nI r)) 320 (nI h)) 314 (((upd (upd (upd g 318 (g 0)) 319 (nI r)) 320 (nI h)) 314) + 1)) (9 * h + 8)) + 1)) (8 * r + 96)) + 1)) (8 * r + 93)), .int (nI (8 * r + 93)), .ref (a 1)]) C dX6_falls_165 (c_X6_ofRider (gX.l X) G r 2 (8 * r + 93) (by omega)) ml_X6_35 st_X6_ofRider in_X6 cd_X6_ofRider hd_X6_ofRider rfl rfl (Nat.le_of_ble_eq_true rfl) ⟨Nat.le_of_ble_eq_true rfl, Nat.le_of_ble_eq_true rfl⟩ [] (wM G a (upd (upd (upd (upd (upd (upd g 318 (g 0)) 319 (nI r)) 320 (nI h)) 314 (((upd (upd (upd g 318 (g 0)) 319 (nI r)) 320 (nI h)) 314) + 1)) (9 * h + 8) (((upd (upd (upd (upd g 318 (g 0)) 319 (nI r)) 320 (nI h)) 314 (((upd (upd (upd g 318 (g 0)) 319 (nI r)) 320 (nI h)) 314) + 1)) (9 * h + 8)) + 1)) (8 * r + 96) (((upd (upd (upd (upd (upd g 318 (g 0)) 319 (nI r)) 320 (nI h)) 314 (((upd (upd (upd g 318 (g 0)) 319 (nI r)) 320 (nI h)) 314) + 1)) (9 * h + 8) (((upd (upd (upd (upd g 318 (g 0)) 319 (nI r)) 320 (nI h)) 314 (((upd (upd (upd g 318 (g 0)) 319 (nI r)) 320 (nI h)) 314) + 1)) (9 * h + 8)) + 1)) (8 * r + 96)) + 1)) as_ hi kn sn ik tx ln it wl sp iw rs er) rfl (ws' := (wM G a (upd (upd (upd (upd (upd (upd g 318 (g 0)) 319 (nI r)) 320 (nI h)) 314 (((upd (upd (upd g 318 (g 0)) 319 (nI r)) 320 (nI h)) 314) + 1)) (9 * h + 8) (((upd (upd (upd (upd g 318 (g 0)) 319 (nI r)) 320 (nI h)) 314 (((upd (upd (upd g 318 (g 0)) 319 (nI r)) 320 (nI h)) 314) + 1)) (9 * h + 8)) + 1)) (8 * r + 96) (((upd (upd (upd (upd (upd g 318 (g 0)) 319 (nI r)) 320 (nI h)) 314 (((upd (upd (upd g 318 (g 0)) 319 (nI r)) 320 (nI h)) 314) + 1)) (9 * h + 8) (((upd (upd (upd (upd g 318 (g 0)) 319 (nI r)) 320 (nI h)) 314 (((upd (upd (upd g 318 (g 0)) 319 (nI r)) 320 (nI h)) 314) + 1)) (9 * h + 8)) + 1)) (8 * r + 96)) + 1)) as_ hi kn sn ik tx ln it wl sp iw rs er)) rfl (st' := [.int (nI (8 * r + 93)), .ref (a 1), .int ((upd (upd (upd (upd (upd (upd g 318 (g 0)) 319 (nI r)) 320 (nI h)) 314 (((upd (upd (upd g 318 (g 0)) 319 (nI r)) 320 (nI h)) 314) + 1)) (9 * h + 8) (((upd (upd (upd (upd g 318 (g 0)) 319 (nI r)) 320 (nI h)) 314 (((upd (upd (upd g 318 (g 0)) 319 (nI r)) 320 (nI h)) 314) + 1)) (9 * h + 8)) + 1)) (8 * r + 96) (((upd (upd (upd (upd (upd g 318 (g 0)) 319 (nI r)) 320 (nI h)) 314 (((upd (upd (upd g 318 (g 0)) 319 (nI r)) 320 (nI h)) 314) + 1)) (9 * h + 8) (((upd (upd (upd (upd g 318 (g 0)) 319 (nI r)) 320 (nI h)) 314 (((upd (upd (upd g 318 (g 0)) 319 (nI r)) 320 (nI h)) 314) + 1)) (9 * h + 8)) + 1)) (8 * r + 96)) + 1)) (8 * r + 93)), .int (nI (8 * r + 93)), .ref (a 1)]) rfl ⟨rfl, rfl⟩ ⟨Nat.le_of_ble_eq_true rfl, Nat.le_of_ble_eq_true rfl⟩ ?_
        refine x_iald (j := (8 * r + 93)) C dX6_falls_168 1 rfl rfl (by omega) (by omega) ?_
        refine x_bipush (v := (nI 9)) C dX6_falls_169 (by decide) ?_
        have J7 : ∀ (y8 : Int32) , y8 = bI (((upd (upd (upd (upd (upd (upd g 318 (g 0)) 319 (nI r)) 320 (nI h)) 314 (((upd (upd (upd g 318 (g 0)) 319 (nI r)) 320 (nI h)) 314) + 1)) (9 * h + 8) (((upd (upd (upd (upd g 318 (g 0)) 319 (nI r)) 320 (nI h)) 314 (((upd (upd (upd g 318 (g 0)) 319 (nI r)) 320 (nI h)) 314) + 1)) (9 * h + 8)) + 1)) (8 * r + 96) (((upd (upd (upd (upd (upd g 318 (g 0)) 319 (nI r)) 320 (nI h)) 314 (((upd (upd (upd g 318 (g 0)) 319 (nI r)) 320 (nI h)) 314) + 1)) (9 * h + 8) (((upd (upd (upd (upd g 318 (g 0)) 319 (nI r)) 320 (nI h)) 314 (((upd (upd (upd g 318 (g 0)) 319 (nI r)) 320 (nI h)) 314) + 1)) (9 * h + 8)) + 1)) (8 * r + 96)) + 1)) (8 * r + 93)) < 9) → gW G X (wM G a (upd (upd (upd (upd (upd (upd g 318 (g 0)) 319 (nI r)) 320 (nI h)) 314 (((upd (upd (upd g 318 (g 0)) 319 (nI r)) 320 (nI h)) 314) + 1)) (9 * h + 8) (((upd (upd (upd (upd g 318 (g 0)) 319 (nI r)) 320 (nI h)) 314 (((upd (upd (upd g 318 (g 0)) 319 (nI r)) 320 (nI h)) 314) + 1)) (9 * h + 8)) + 1)) (8 * r + 96) (((upd (upd (upd (upd (upd g 318 (g 0)) 319 (nI r)) 320 (nI h)) 314 (((upd (upd (upd g 318 (g 0)) 319 (nI r)) 320 (nI h)) 314) + 1)) (9 * h + 8) (((upd (upd (upd (upd g 318 (g 0)) 319 (nI r)) 320 (nI h)) 314 (((upd (upd (upd g 318 (g 0)) 319 (nI r)) 320 (nI h)) 314) + 1)) (9 * h + 8)) + 1)) (8 * r + 96)) + 1)) as_ hi kn sn ik tx ln it wl sp iw rs er) 0 0 179 [(3, .int (nI k)), (0, .ref (a 0)), (1, .int (nI r)), (2, .int (nI h))] [.int y8, .int ((upd (upd (upd (upd (upd (upd g 318 (g 0)) 319 (nI r)) 320 (nI h)) 314 (((upd (upd (upd g 318 (g 0)) 319 (nI r)) 320 (nI h)) 314) + 1)) (9 * h + 8) (((upd (upd (upd (upd g 318 (g 0)) 319 (nI r)) 320 (nI h)) 314 (((upd (upd (upd g 318 (g 0)) 319 (nI r)) 320 (nI h)) 314) + 1)) (9 * h + 8)) + 1)) (8 * r + 96) (((upd (upd (upd (upd (upd g 318 (g 0)) 319 (nI r)) 320 (nI h)) 314 (((upd (upd (upd g 318 (g 0)) 319 (nI r)) 320 (nI h)) 314) + 1)) (9 * h + 8) (((upd (upd (upd (upd g 318 (g 0)) 319 (nI r)) 320 (nI h)) 314 (((upd (upd (upd g 318 (g 0)) 319 (nI r)) 320 (nI h)) 314) + 1)) (9 * h + 8)) + 1)) (8 * r + 96)) + 1)) (8 * r + 93)), .int (nI (8 * r + 93)), .ref (a 1)] := by
          intro y8 ey8
          subst ey8
          refine x_iadd (x := ((upd (upd (upd (upd (upd (upd g 318 (g 0)) 319 (nI r)) 320 (nI h)) 314 (((upd (upd (upd g 318 (g 0)) 319 (nI r)) 320 (nI h)) 314) + 1)) (9 * h + 8) (((upd (upd (upd (upd g 318 (g 0)) 319 (nI r)) 320 (nI h)) 314 (((upd (upd (upd g 318 (g 0)) 319 (nI r)) 320 (nI h)) 314) + 1)) (9 * h + 8)) + 1)) (8 * r + 96) (((upd (upd (upd (upd (upd g 318 (g 0)) 319 (nI r)) 320 (nI h)) 314 (((upd (upd (upd g 318 (g 0)) 319 (nI r)) 320 (nI h)) 314) + 1)) (9 * h + 8) (((upd (upd (upd (upd g 318 (g 0)) 319 (nI r)) 320 (nI h)) 314 (((upd (upd (upd g 318 (g 0)) 319 (nI r)) 320 (nI h)) 314) + 1)) (9 * h + 8)) + 1)) (8 * r + 96)) + 1)) (8 * r + 93))) (y := (bI (((upd (upd (upd (upd (upd (upd g 318 (g 0)) 319 (nI r)) 320 (nI h)) 314 (((upd (upd (upd g 318 (g 0)) 319 (nI r)) 320 (nI h)) 314) + 1)) (9 * h + 8) (((upd (upd (upd (upd g 318 (g 0)) 319 (nI r)) 320 (nI h)) 314 (((upd (upd (upd g 318 (g 0)) 319 (nI r)) 320 (nI h)) 314) + 1)) (9 * h + 8)) + 1)) (8 * r + 96) (((upd (upd (upd (upd (upd g 318 (g 0)) 319 (nI r)) 320 (nI h)) 314 (((upd (upd (upd g 318 (g 0)) 319 (nI r)) 320 (nI h)) 314) + 1)) (9 * h + 8) (((upd (upd (upd (upd g 318 (g 0)) 319 (nI r)) 320 (nI h)) 314 (((upd (upd (upd g 318 (g 0)) 319 (nI r)) 320 (nI h)) 314) + 1)) (9 * h + 8)) + 1)) (8 * r + 96)) + 1)) (8 * r + 93)) < 9))) C dX6_falls_179 ?_
          refine x_iast (j := (8 * r + 93)) (x := (((upd (upd (upd (upd (upd (upd g 318 (g 0)) 319 (nI r)) 320 (nI h)) 314 (((upd (upd (upd g 318 (g 0)) 319 (nI r)) 320 (nI h)) 314) + 1)) (9 * h + 8) (((upd (upd (upd (upd g 318 (g 0)) 319 (nI r)) 320 (nI h)) 314 (((upd (upd (upd g 318 (g 0)) 319 (nI r)) 320 (nI h)) 314) + 1)) (9 * h + 8)) + 1)) (8 * r + 96) (((upd (upd (upd (upd (upd g 318 (g 0)) 319 (nI r)) 320 (nI h)) 314 (((upd (upd (upd g 318 (g 0)) 319 (nI r)) 320 (nI h)) 314) + 1)) (9 * h + 8) (((upd (upd (upd (upd g 318 (g 0)) 319 (nI r)) 320 (nI h)) 314 (((upd (upd (upd g 318 (g 0)) 319 (nI r)) 320 (nI h)) 314) + 1)) (9 * h + 8)) + 1)) (8 * r + 96)) + 1)) (8 * r + 93)) + (bI (((upd (upd (upd (upd (upd (upd g 318 (g 0)) 319 (nI r)) 320 (nI h)) 314 (((upd (upd (upd g 318 (g 0)) 319 (nI r)) 320 (nI h)) 314) + 1)) (9 * h + 8) (((upd (upd (upd (upd g 318 (g 0)) 319 (nI r)) 320 (nI h)) 314 (((upd (upd (upd g 318 (g 0)) 319 (nI r)) 320 (nI h)) 314) + 1)) (9 * h + 8)) + 1)) (8 * r + 96) (((upd (upd (upd (upd (upd g 318 (g 0)) 319 (nI r)) 320 (nI h)) 314 (((upd (upd (upd g 318 (g 0)) 319 (nI r)) 320 (nI h)) 314) + 1)) (9 * h + 8) (((upd (upd (upd (upd g 318 (g 0)) 319 (nI r)) 320 (nI h)) 314 (((upd (upd (upd g 318 (g 0)) 319 (nI r)) 320 (nI h)) 314) + 1)) (9 * h + 8)) + 1)) (8 * r + 96)) + 1)) (8 * r + 93)) < 9)))) (ws' := (wM G a (upd (upd (upd (upd (upd (upd (upd g 318 (g 0)) 319 (nI r)) 320 (nI h)) 314 (((upd (upd (upd g 318 (g 0)) 319 (nI r)) 320 (nI h)) 314) + 1)) (9 * h + 8) (((upd (upd (upd (upd g 318 (g 0)) 319 (nI r)) 320 (nI h)) 314 (((upd (upd (upd g 318 (g 0)) 319 (nI r)) 320 (nI h)) 314) + 1)) (9 * h + 8)) + 1)) (8 * r + 96) (((upd (upd (upd (upd (upd g 318 (g 0)) 319 (nI r)) 320 (nI h)) 314 (((upd (upd (upd g 318 (g 0)) 319 (nI r)) 320 (nI h)) 314) + 1)) (9 * h + 8) (((upd (upd (upd (upd g 318 (g 0)) 319 (nI r)) 320 (nI h)) 314 (((upd (upd (upd g 318 (g 0)) 319 (nI r)) 320 (nI h)) 314) + 1)) (9 * h + 8)) + 1)) (8 * r + 96)) + 1)) (8 * r + 93) (((upd (upd (upd (upd (upd (upd g 318 (g 0)) 319 (nI r)) 320 (nI h)) 314 (((upd (upd (upd g 318 (g 0)) 319 (nI r)) 320 (nI h)) 314) + 1)) (9 * h + 8) (((upd (upd (upd (upd g 318 (g 0)) 319 (nI r)) 320 (nI h)) 314 (((upd (upd (upd g 318 (g 0)) 319 (nI r)) 320 (nI h)) 314) + 1)) (9 * h + 8)) + 1)) (8 * r + 96) (((upd (upd (upd (upd (upd g 318 (g 0)) 319 (nI r)) 320 (nI h)) 314 (((upd (upd (upd g 318 (g 0)) 319 (nI r)) 320 (nI h)) 314) + 1)) (9 * h + 8) (((upd (upd (upd (upd g 318 (g 0)) 319 (nI r)) 320 (nI h)) 314 (((upd (upd (upd g 318 (g 0)) 319 (nI r)) 320 (nI h)) 314) + 1)) (9 * h + 8)) + 1)) (8 * r + 96)) + 1)) (8 * r + 93)) + (bI (((upd (upd (upd (upd (upd (upd g 318 (g 0)) 319 (nI r)) 320 (nI h)) 314 (((upd (upd (upd g 318 (g 0)) 319 (nI r)) 320 (nI h)) 314) + 1)) (9 * h + 8) (((upd (upd (upd (upd g 318 (g 0)) 319 (nI r)) 320 (nI h)) 314 (((upd (upd (upd g 318 (g 0)) 319 (nI r)) 320 (nI h)) 314) + 1)) (9 * h + 8)) + 1)) (8 * r + 96) (((upd (upd (upd (upd (upd g 318 (g 0)) 319 (nI r)) 320 (nI h)) 314 (((upd (upd (upd g 318 (g 0)) 319 (nI r)) 320 (nI h)) 314) + 1)) (9 * h + 8) (((upd (upd (upd (upd g 318 (g 0)) 319 (nI r)) 320 (nI h)) 314 (((upd (upd (upd g 318 (g 0)) 319 (nI r)) 320 (nI h)) 314) + 1)) (9 * h + 8)) + 1)) (8 * r + 96)) + 1)) (8 * r + 93)) < 9)))) as_ hi kn sn ik tx ln it wl sp iw rs er)) C dX6_falls_180 1 rfl rfl (by omega) (by omega) rfl ?_
          refine x_aload_n C 1 rfl dX6_falls_181 rfl ?_
          refine x_get (k := 0) (v := .ref (a 1)) C dX6_falls_182 layX6 fl_X6_7 0 rfl rfl (by decide) rfl ?_
          refine x_iload_n C 2 rfl dX6_falls_185 rfl ?_
          refine x_iconst (v := (nI 3)) C dX6_falls_186 (by decide) ?_
          refine x_callSd (As := [.int (nI r), .int (nI 3)]) (rest := [.ref (a 1)]) C dX6_falls_187 (c_X6_ofRider (gX.l X) G r 3 (8 * r + 94) (by omega)) ml_X6_35 st_X6_ofRider in_X6 cd_X6_ofRider hd_X6_ofRider rfl rfl (Nat.le_of_ble_eq_true rfl) ⟨Nat.le_of_ble_eq_true rfl, Nat.le_of_ble_eq_true rfl⟩ [] (wM G a (upd (upd (upd (upd (upd (upd (upd g 318 (g 0)) 319 (nI r)) 320 (nI h)) 314 (((upd (upd (upd g 318 (g 0)) 319 (nI r)) 320 (nI h)) 314) + 1)) (9 * h + 8) (((upd (upd (upd (upd g 318 (g 0)) 319 (nI r)) 320 (nI h)) 314 (((upd (upd (upd g 318 (g 0)) 319 (nI r)) 320 (nI h)) 314) + 1)) (9 * h + 8)) + 1)) (8 * r + 96) (((upd (upd (upd (upd (upd g 318 (g 0)) 319 (nI r)) 320 (nI h)) 314 (((upd (upd (upd g 318 (g 0)) 319 (nI r)) 320 (nI h)) 314) + 1)) (9 * h + 8) (((upd (upd (upd (upd g 318 (g 0)) 319 (nI r)) 320 (nI h)) 314 (((upd (upd (upd g 318 (g 0)) 319 (nI r)) 320 (nI h)) 314) + 1)) (9 * h + 8)) + 1)) (8 * r + 96)) + 1)) (8 * r + 93) (((upd (upd (upd (upd (upd (upd g 318 (g 0)) 319 (nI r)) 320 (nI h)) 314 (((upd (upd (upd g 318 (g 0)) 319 (nI r)) 320 (nI h)) 314) + 1)) (9 * h + 8) (((upd (upd (upd (upd g 318 (g 0)) 319 (nI r)) 320 (nI h)) 314 (((upd (upd (upd g 318 (g 0)) 319 (nI r)) 320 (nI h)) 314) + 1)) (9 * h + 8)) + 1)) (8 * r + 96) (((upd (upd (upd (upd (upd g 318 (g 0)) 319 (nI r)) 320 (nI h)) 314 (((upd (upd (upd g 318 (g 0)) 319 (nI r)) 320 (nI h)) 314) + 1)) (9 * h + 8) (((upd (upd (upd (upd g 318 (g 0)) 319 (nI r)) 320 (nI h)) 314 (((upd (upd (upd g 318 (g 0)) 319 (nI r)) 320 (nI h)) 314) + 1)) (9 * h + 8)) + 1)) (8 * r + 96)) + 1)) (8 * r + 93)) + (bI (((upd (upd (upd (upd (upd (upd g 318 (g 0)) 319 (nI r)) 320 (nI h)) 314 (((upd (upd (upd g 318 (g 0)) 319 (nI r)) 320 (nI h)) 314) + 1)) (9 * h + 8) (((upd (upd (upd (upd g 318 (g 0)) 319 (nI r)) 320 (nI h)) 314 (((upd (upd (upd g 318 (g 0)) 319 (nI r)) 320 (nI h)) 314) + 1)) (9 * h + 8)) + 1)) (8 * r + 96) (((upd (upd (upd (upd (upd g 318 (g 0)) 319 (nI r)) 320 (nI h)) 314 (((upd (upd (upd g 318 (g 0)) 319 (nI r)) 320 (nI h)) 314) + 1)) (9 * h + 8) (((upd (upd (upd (upd g 318 (g 0)) 319 (nI r)) 320 (nI h)) 314 (((upd (upd (upd g 318 (g 0)) 319 (nI r)) 320 (nI h)) 314) + 1)) (9 * h + 8)) + 1)) (8 * r + 96)) + 1)) (8 * r + 93)) < 9)))) as_ hi kn sn ik tx ln it wl sp iw rs er) rfl (ws' := (wM G a (upd (upd (upd (upd (upd (upd (upd g 318 (g 0)) 319 (nI r)) 320 (nI h)) 314 (((upd (upd (upd g 318 (g 0)) 319 (nI r)) 320 (nI h)) 314) + 1)) (9 * h + 8) (((upd (upd (upd (upd g 318 (g 0)) 319 (nI r)) 320 (nI h)) 314 (((upd (upd (upd g 318 (g 0)) 319 (nI r)) 320 (nI h)) 314) + 1)) (9 * h + 8)) + 1)) (8 * r + 96) (((upd (upd (upd (upd (upd g 318 (g 0)) 319 (nI r)) 320 (nI h)) 314 (((upd (upd (upd g 318 (g 0)) 319 (nI r)) 320 (nI h)) 314) + 1)) (9 * h + 8) (((upd (upd (upd (upd g 318 (g 0)) 319 (nI r)) 320 (nI h)) 314 (((upd (upd (upd g 318 (g 0)) 319 (nI r)) 320 (nI h)) 314) + 1)) (9 * h + 8)) + 1)) (8 * r + 96)) + 1)) (8 * r + 93) (((upd (upd (upd (upd (upd (upd g 318 (g 0)) 319 (nI r)) 320 (nI h)) 314 (((upd (upd (upd g 318 (g 0)) 319 (nI r)) 320 (nI h)) 314) + 1)) (9 * h + 8) (((upd (upd (upd (upd g 318 (g 0)) 319 (nI r)) 320 (nI h)) 314 (((upd (upd (upd g 318 (g 0)) 319 (nI r)) 320 (nI h)) 314) + 1)) (9 * h + 8)) + 1)) (8 * r + 96) (((upd (upd (upd (upd (upd g 318 (g 0)) 319 (nI r)) 320 (nI h)) 314 (((upd (upd (upd g 318 (g 0)) 319 (nI r)) 320 (nI h)) 314) + 1)) (9 * h + 8) (((upd (upd (upd (upd g 318 (g 0)) 319 (nI r)) 320 (nI h)) 314 (((upd (upd (upd g 318 (g 0)) 319 (nI r)) 320 (nI h)) 314) + 1)) (9 * h + 8)) + 1)) (8 * r + 96)) + 1)) (8 * r + 93)) + (bI (((upd (upd (upd (upd (upd (upd g 318 (g 0)) 319 (nI r)) 320 (nI h)) 314 (((upd (upd (upd g 318 (g 0)) 319 (nI r)) 320 (nI h)) 314) + 1)) (9 * h + 8) (((upd (upd (upd (upd g 318 (g 0)) 319 (nI r)) 320 (nI h)) 314 (((upd (upd (upd g 318 (g 0)) 319 (nI r)) 320 (nI h)) 314) + 1)) (9 * h + 8)) + 1)) (8 * r + 96) (((upd (upd (upd (upd (upd g 318 (g 0)) 319 (nI r)) 320 (nI h)) 314 (((upd (upd (upd g 318 (g 0)) 319 (nI r)) 320 (nI h)) 314) + 1)) (9 * h + 8) (((upd (upd (upd (upd g 318 (g 0)) 319 (nI r)) 320 (nI h)) 314 (((upd (upd (upd g 318 (g 0)) 319 (nI r)) 320 (nI h)) 314) + 1)) (9 * h + 8)) + 1)) (8 * r + 96)) + 1)) (8 * r + 93)) < 9)))) as_ hi kn sn ik tx ln it wl sp iw rs er)) rfl (st' := [.int (nI (8 * r + 94)), .ref (a 1)]) rfl ⟨rfl, rfl⟩ ⟨Nat.le_of_ble_eq_true rfl, Nat.le_of_ble_eq_true rfl⟩ ?_
          refine x_iconst (v := (nI 0)) C dX6_falls_190 (by decide) ?_
          refine x_iast (j := (8 * r + 94)) (x := 0) (ws' := (wM G a (upd (upd (upd (upd (upd (upd (upd (upd g 318 (g 0)) 319 (nI r)) 320 (nI h)) 314 (((upd (upd (upd g 318 (g 0)) 319 (nI r)) 320 (nI h)) 314) + 1)) (9 * h + 8) (((upd (upd (upd (upd g 318 (g 0)) 319 (nI r)) 320 (nI h)) 314 (((upd (upd (upd g 318 (g 0)) 319 (nI r)) 320 (nI h)) 314) + 1)) (9 * h + 8)) + 1)) (8 * r + 96) (((upd (upd (upd (upd (upd g 318 (g 0)) 319 (nI r)) 320 (nI h)) 314 (((upd (upd (upd g 318 (g 0)) 319 (nI r)) 320 (nI h)) 314) + 1)) (9 * h + 8) (((upd (upd (upd (upd g 318 (g 0)) 319 (nI r)) 320 (nI h)) 314 (((upd (upd (upd g 318 (g 0)) 319 (nI r)) 320 (nI h)) 314) + 1)) (9 * h + 8)) + 1)) (8 * r + 96)) + 1)) (8 * r + 93) (((upd (upd (upd (upd (upd (upd g 318 (g 0)) 319 (nI r)) 320 (nI h)) 314 (((upd (upd (upd g 318 (g 0)) 319 (nI r)) 320 (nI h)) 314) + 1)) (9 * h + 8) (((upd (upd (upd (upd g 318 (g 0)) 319 (nI r)) 320 (nI h)) 314 (((upd (upd (upd g 318 (g 0)) 319 (nI r)) 320 (nI h)) 314) + 1)) (9 * h + 8)) + 1)) (8 * r + 96) (((upd (upd (upd (upd (upd g 318 (g 0)) 319 (nI r)) 320 (nI h)) 314 (((upd (upd (upd g 318 (g 0)) 319 (nI r)) 320 (nI h)) 314) + 1)) (9 * h + 8) (((upd (upd (upd (upd g 318 (g 0)) 319 (nI r)) 320 (nI h)) 314 (((upd (upd (upd g 318 (g 0)) 319 (nI r)) 320 (nI h)) 314) + 1)) (9 * h + 8)) + 1)) (8 * r + 96)) + 1)) (8 * r + 93)) + (bI (((upd (upd (upd (upd (upd (upd g 318 (g 0)) 319 (nI r)) 320 (nI h)) 314 (((upd (upd (upd g 318 (g 0)) 319 (nI r)) 320 (nI h)) 314) + 1)) (9 * h + 8) (((upd (upd (upd (upd g 318 (g 0)) 319 (nI r)) 320 (nI h)) 314 (((upd (upd (upd g 318 (g 0)) 319 (nI r)) 320 (nI h)) 314) + 1)) (9 * h + 8)) + 1)) (8 * r + 96) (((upd (upd (upd (upd (upd g 318 (g 0)) 319 (nI r)) 320 (nI h)) 314 (((upd (upd (upd g 318 (g 0)) 319 (nI r)) 320 (nI h)) 314) + 1)) (9 * h + 8) (((upd (upd (upd (upd g 318 (g 0)) 319 (nI r)) 320 (nI h)) 314 (((upd (upd (upd g 318 (g 0)) 319 (nI r)) 320 (nI h)) 314) + 1)) (9 * h + 8)) + 1)) (8 * r + 96)) + 1)) (8 * r + 93)) < 9)))) (8 * r + 94) 0) as_ hi kn sn ik tx ln it wl sp iw rs er)) C dX6_falls_191 1 rfl rfl (by omega) (by omega) rfl ?_
          exact x_vret C hr E dX6_falls_192 (fun _ => 0) (by rw [hg0]; rfl)
        refine x_icmp_ge (x := ((upd (upd (upd (upd (upd (upd g 318 (g 0)) 319 (nI r)) 320 (nI h)) 314 (((upd (upd (upd g 318 (g 0)) 319 (nI r)) 320 (nI h)) 314) + 1)) (9 * h + 8) (((upd (upd (upd (upd g 318 (g 0)) 319 (nI r)) 320 (nI h)) 314 (((upd (upd (upd g 318 (g 0)) 319 (nI r)) 320 (nI h)) 314) + 1)) (9 * h + 8)) + 1)) (8 * r + 96) (((upd (upd (upd (upd (upd g 318 (g 0)) 319 (nI r)) 320 (nI h)) 314 (((upd (upd (upd g 318 (g 0)) 319 (nI r)) 320 (nI h)) 314) + 1)) (9 * h + 8) (((upd (upd (upd (upd g 318 (g 0)) 319 (nI r)) 320 (nI h)) 314 (((upd (upd (upd g 318 (g 0)) 319 (nI r)) 320 (nI h)) 314) + 1)) (9 * h + 8)) + 1)) (8 * r + 96)) + 1)) (8 * r + 93))) (y := 9) (tgt := 178) C dX6_falls_171 (by decide) (fun c6 => ?_) (fun c6 => ?_)
        · refine x_iconst (v := (nI 0)) C dX6_falls_178 (by decide) ?_
          exact J7 (nI 0) (bI_f (by simp only [c6, if_true, if_false, ite_true, ite_false, and_true, true_and, and_false, false_and, or_true, true_or, or_false, false_or, not_true_eq_false, not_false_eq_true, and_self, or_self] <;> decide)).symm
        · refine x_iconst (v := (nI 1)) C dX6_falls_174 (by decide) ?_
          refine x_goto (tgt := 179) C dX6_falls_175 (by decide) ?_
          exact J7 (nI 1) (bI_t (by simp only [c6, if_true, if_false, ite_true, ite_false, and_true, true_and, and_false, false_and, or_true, true_or, or_false, false_or, not_true_eq_false, not_false_eq_true, and_self, or_self] <;> decide)).symm
      | succ fu ih =>
        intro k g hn hg hk60
        refine x_iload_n C 0 rfl dX6_falls_42 rfl ?_
        refine x_iconst (v := (nI 2)) C dX6_falls_43 (by decide) ?_
        refine x_icmp_leN (a := k) (b := 2) (tgt := 75) C dX6_falls_44 (by decide) (by omega) (by omega) (fun c9 => False.elim (by omega)) (fun c9 => ?_)
        refine x_aload_n C 1 rfl dX6_falls_47 rfl ?_
        refine x_get (k := 0) (v := .ref (a 1)) C dX6_falls_48 layX6 fl_X6_7 0 rfl rfl (by decide) rfl ?_
        refine x_sipush (v := (nI 318)) C dX6_falls_51 (by decide) ?_
        refine x_iload_n C 0 rfl dX6_falls_54 rfl ?_
        refine x_iaddN C dX6_falls_55 ?_
        refine x_aload_n C 1 rfl dX6_falls_56 rfl ?_
        refine x_get (k := 0) (v := .ref (a 1)) C dX6_falls_57 layX6 fl_X6_7 0 rfl rfl (by decide) rfl ?_
        refine x_sipush (v := (nI 318)) C dX6_falls_60 (by decide) ?_
        refine x_iload_n C 0 rfl dX6_falls_63 rfl ?_
        refine x_iaddN C dX6_falls_64 ?_
        refine x_iconst (v := (nI 3)) C dX6_falls_65 (by decide) ?_
        refine x_isubN C dX6_falls_66 (by omega) ?_
        refine x_iald (j := ((318 + k) - 3)) C dX6_falls_67 1 rfl rfl (by omega) (by omega) ?_
        refine x_iast (j := (318 + k)) (x := (g ((318 + k) - 3))) (ws' := (wM G a (upd g (318 + k) (g ((318 + k) - 3))) as_ hi kn sn ik tx ln it wl sp iw rs er)) C dX6_falls_68 1 rfl rfl (by omega) (by omega) rfl ?_
        refine x_iinc (v := (nI (k - 1))) (lv' := [(3, .int (nI (k - 1))), (0, .ref (a 0)), (1, .int (nI r)), (2, .int (nI h))]) C 0 rfl dX6_falls_69 (gDec1 (by omega)) (by decide) rfl ?_
        refine x_goto (tgt := 42) C dX6_falls_72 (by decide) ?_
        exact ih (k - 1) (upd g (318 + k) (g ((318 + k) - 3))) (by omega) (by exact hg) (by omega)
    exact L4 (3 * (min (nC (s 317) + 1) 20) - 3) ((3 * (min (nC (s 317) + 1) 20)) - 1) (upd s 317 ((s 317) + (bI ((s 317) < 20)))) (by omega) (by rfl) (by omega)
  refine x_icmp_ge (x := (s 317)) (y := 20) (tgt := 26) C dX6_falls_19 (by decide) (fun c1 => ?_) (fun c1 => ?_)
  · refine x_iconst (v := (nI 0)) C dX6_falls_26 (by decide) ?_
    exact J2 (nI 0) (bI_f (by simp only [c1, if_true, if_false, ite_true, ite_false, and_true, true_and, and_false, false_and, or_true, true_or, or_false, false_or, not_true_eq_false, not_false_eq_true, and_self, or_self] <;> decide)).symm
  · refine x_iconst (v := (nI 1)) C dX6_falls_22 (by decide) ?_
    refine x_goto (tgt := 27) C dX6_falls_23 (by decide) ?_
    exact J2 (nI 1) (bI_t (by simp only [c1, if_true, if_false, ite_true, ite_false, and_true, true_and, and_false, false_and, or_true, true_or, or_false, false_or, not_true_eq_false, not_false_eq_true, and_self, or_self] <;> decide)).symm
def rm_X6_learns : Room := { frames := 1, cells := 0, slots := 0, locals := 21 }
set_option maxRecDepth 100000 in
set_option maxHeartbeats 4000000 in
theorem c_X6_learns (l : Launch) (G : gG) (a : Nat → Nat) (s as_ hi : Nat → Int32) (kn : Nat) (sn : Nat → Int32) (ik : Int32) (tx : Nat → Int32) (ln : Nat) (it wl : Nat → Int32) (sp : Nat) (iw : Int32) (rs : Nat) (er : Int32) (r : Nat)  (hr0 : r < 12) : CT l yX6_learns cX6_learns 3 none rm_X6_learns G [.ref (a 0), .int (nI r)] (wM G a s as_ hi kn sn ik tx ln it wl sp iw rs er) none (fun _ => (wM G a (m_learns s r) as_ hi kn sn ik tx ln it wl sp iw rs er)) := by
  refine gMet (by decide) (Nat.le_of_ble_eq_true rfl) (fun X hX C hr hin E => ?_)
  clear hX
  refine (show gW G X (wM G a s as_ hi kn sn ik tx ln it wl sp iw rs er) 0 0 0 [(0, .ref (a 0)), (1, .int (nI r))] [] from ?_)
  refine x_aload_n C 0 rfl dX6_learns_0 rfl ?_
  refine x_get (k := 0) (v := .ref (a 1)) C dX6_learns_1 layX6 fl_X6_7 0 rfl rfl (by decide) rfl ?_
  refine x_iload_n C 1 rfl dX6_learns_4 rfl ?_
  refine x_iconst (v := (nI 2)) C dX6_learns_5 (by decide) ?_
  refine x_callSd (As := [.int (nI r), .int (nI 2)]) (rest := [.ref (a 1)]) C dX6_learns_6 (c_X6_ofRider (gX.l X) G r 2 (8 * r + 93) (by omega)) ml_X6_35 st_X6_ofRider in_X6 cd_X6_ofRider hd_X6_ofRider rfl rfl (Nat.le_of_ble_eq_true rfl) ⟨Nat.le_of_ble_eq_true rfl, Nat.le_of_ble_eq_true rfl⟩ [] (wM G a s as_ hi kn sn ik tx ln it wl sp iw rs er) rfl (ws' := (wM G a s as_ hi kn sn ik tx ln it wl sp iw rs er)) rfl (st' := [.int (nI (8 * r + 93)), .ref (a 1)]) rfl ⟨rfl, rfl⟩ ⟨Nat.le_of_ble_eq_true rfl, Nat.le_of_ble_eq_true rfl⟩ ?_
  refine x_dup2 C rfl rfl dX6_learns_9 ?_
  refine x_iald (j := (8 * r + 93)) C dX6_learns_10 1 rfl rfl (by omega) (by omega) ?_
  refine x_aload_n C 0 rfl dX6_learns_11 rfl ?_
  refine x_get (k := 0) (v := .ref (a 1)) C dX6_learns_12 layX6 fl_X6_7 0 rfl rfl (by decide) rfl ?_
  refine x_iload_n C 1 rfl dX6_learns_15 rfl ?_
  refine x_iconst (v := (nI 2)) C dX6_learns_16 (by decide) ?_
  refine x_callSd (As := [.int (nI r), .int (nI 2)]) (rest := [.ref (a 1), .int (s (8 * r + 93)), .int (nI (8 * r + 93)), .ref (a 1)]) C dX6_learns_17 (c_X6_ofRider (gX.l X) G r 2 (8 * r + 93) (by omega)) ml_X6_35 st_X6_ofRider in_X6 cd_X6_ofRider hd_X6_ofRider rfl rfl (Nat.le_of_ble_eq_true rfl) ⟨Nat.le_of_ble_eq_true rfl, Nat.le_of_ble_eq_true rfl⟩ [] (wM G a s as_ hi kn sn ik tx ln it wl sp iw rs er) rfl (ws' := (wM G a s as_ hi kn sn ik tx ln it wl sp iw rs er)) rfl (st' := [.int (nI (8 * r + 93)), .ref (a 1), .int (s (8 * r + 93)), .int (nI (8 * r + 93)), .ref (a 1)]) rfl ⟨rfl, rfl⟩ ⟨Nat.le_of_ble_eq_true rfl, Nat.le_of_ble_eq_true rfl⟩ ?_
  refine x_iald (j := (8 * r + 93)) C dX6_learns_20 1 rfl rfl (by omega) (by omega) ?_
  have J2 : ∀ (y3 : Int32) , y3 = bI (0 < (s (8 * r + 93))) → gW G X (wM G a s as_ hi kn sn ik tx ln it wl sp iw rs er) 0 0 29 [(0, .ref (a 0)), (1, .int (nI r))] [.int y3, .int (s (8 * r + 93)), .int (nI (8 * r + 93)), .ref (a 1)] := by
    intro y3 ey3
    subst ey3
    refine x_isub (x := (s (8 * r + 93))) (y := (bI (0 < (s (8 * r + 93))))) C dX6_learns_29 ?_
    refine x_iast (j := (8 * r + 93)) (x := ((s (8 * r + 93)) - (bI (0 < (s (8 * r + 93)))))) (ws' := (wM G a (upd s (8 * r + 93) ((s (8 * r + 93)) - (bI (0 < (s (8 * r + 93)))))) as_ hi kn sn ik tx ln it wl sp iw rs er)) C dX6_learns_30 1 rfl rfl (by omega) (by omega) rfl ?_
    refine x_aload_n C 0 rfl dX6_learns_31 rfl ?_
    refine x_get (k := 0) (v := .ref (a 1)) C dX6_learns_32 layX6 fl_X6_7 0 rfl rfl (by decide) rfl ?_
    refine x_iload_n C 1 rfl dX6_learns_35 rfl ?_
    refine x_iconst (v := (nI 3)) C dX6_learns_36 (by decide) ?_
    refine x_callSd (As := [.int (nI r), .int (nI 3)]) (rest := [.ref (a 1)]) C dX6_learns_37 (c_X6_ofRider (gX.l X) G r 3 (8 * r + 94) (by omega)) ml_X6_35 st_X6_ofRider in_X6 cd_X6_ofRider hd_X6_ofRider rfl rfl (Nat.le_of_ble_eq_true rfl) ⟨Nat.le_of_ble_eq_true rfl, Nat.le_of_ble_eq_true rfl⟩ [] (wM G a (upd s (8 * r + 93) ((s (8 * r + 93)) - (bI (0 < (s (8 * r + 93)))))) as_ hi kn sn ik tx ln it wl sp iw rs er) rfl (ws' := (wM G a (upd s (8 * r + 93) ((s (8 * r + 93)) - (bI (0 < (s (8 * r + 93)))))) as_ hi kn sn ik tx ln it wl sp iw rs er)) rfl (st' := [.int (nI (8 * r + 94)), .ref (a 1)]) rfl ⟨rfl, rfl⟩ ⟨Nat.le_of_ble_eq_true rfl, Nat.le_of_ble_eq_true rfl⟩ ?_
    refine x_dup2 C rfl rfl dX6_learns_40 ?_
    refine x_iald (j := (8 * r + 94)) C dX6_learns_41 1 rfl rfl (by omega) (by omega) ?_
    refine x_iconst (v := (nI 1)) C dX6_learns_42 (by decide) ?_
    refine x_iadd (x := ((upd s (8 * r + 93) ((s (8 * r + 93)) - (bI (0 < (s (8 * r + 93)))))) (8 * r + 94))) (y := 1) C dX6_learns_43 ?_
    refine x_iast (j := (8 * r + 94)) (x := (((upd s (8 * r + 93) ((s (8 * r + 93)) - (bI (0 < (s (8 * r + 93)))))) (8 * r + 94)) + 1)) (ws' := (wM G a (upd (upd s (8 * r + 93) ((s (8 * r + 93)) - (bI (0 < (s (8 * r + 93)))))) (8 * r + 94) (((upd s (8 * r + 93) ((s (8 * r + 93)) - (bI (0 < (s (8 * r + 93)))))) (8 * r + 94)) + 1)) as_ hi kn sn ik tx ln it wl sp iw rs er)) C dX6_learns_44 1 rfl rfl (by omega) (by omega) rfl ?_
    refine x_aload_n C 0 rfl dX6_learns_45 rfl ?_
    refine x_get (k := 0) (v := .ref (a 1)) C dX6_learns_46 layX6 fl_X6_7 0 rfl rfl (by decide) rfl ?_
    refine x_iload_n C 1 rfl dX6_learns_49 rfl ?_
    refine x_iconst (v := (nI 3)) C dX6_learns_50 (by decide) ?_
    refine x_callSd (As := [.int (nI r), .int (nI 3)]) (rest := [.ref (a 1)]) C dX6_learns_51 (c_X6_ofRider (gX.l X) G r 3 (8 * r + 94) (by omega)) ml_X6_35 st_X6_ofRider in_X6 cd_X6_ofRider hd_X6_ofRider rfl rfl (Nat.le_of_ble_eq_true rfl) ⟨Nat.le_of_ble_eq_true rfl, Nat.le_of_ble_eq_true rfl⟩ [] (wM G a (upd (upd s (8 * r + 93) ((s (8 * r + 93)) - (bI (0 < (s (8 * r + 93)))))) (8 * r + 94) (((upd s (8 * r + 93) ((s (8 * r + 93)) - (bI (0 < (s (8 * r + 93)))))) (8 * r + 94)) + 1)) as_ hi kn sn ik tx ln it wl sp iw rs er) rfl (ws' := (wM G a (upd (upd s (8 * r + 93) ((s (8 * r + 93)) - (bI (0 < (s (8 * r + 93)))))) (8 * r + 94) (((upd s (8 * r + 93) ((s (8 * r + 93)) - (bI (0 < (s (8 * r + 93)))))) (8 * r + 94)) + 1)) as_ hi kn sn ik tx ln it wl sp iw rs er)) rfl (st' := [.int (nI (8 * r + 94)), .ref (a 1)]) rfl ⟨rfl, rfl⟩ ⟨Nat.le_of_ble_eq_true rfl, Nat.le_of_ble_eq_true rfl⟩ ?_
    refine x_iald (j := (8 * r + 94)) C dX6_learns_54 1 rfl rfl (by omega) (by omega) ?_
    refine x_iconst (v := (nI 3)) C dX6_learns_55 (by decide) ?_
    refine x_irem (x := ((upd (upd s (8 * r + 93) ((s (8 * r + 93)) - (bI (0 < (s (8 * r + 93)))))) (8 * r + 94) (((upd s (8 * r + 93) ((s (8 * r + 93)) - (bI (0 < (s (8 * r + 93)))))) (8 * r + 94)) + 1)) (8 * r + 94))) (y := 3) C (by decide) dX6_learns_56 ?_
    have J6 : ∀ (y7 : Int32) , y7 = bI (((iR ((upd (upd s (8 * r + 93) ((s (8 * r + 93)) - (bI (0 < (s (8 * r + 93)))))) (8 * r + 94) (((upd s (8 * r + 93) ((s (8 * r + 93)) - (bI (0 < (s (8 * r + 93)))))) (8 * r + 94)) + 1)) (8 * r + 94)) 3) = 0) ∧ (((upd (upd s (8 * r + 93) ((s (8 * r + 93)) - (bI (0 < (s (8 * r + 93)))))) (8 * r + 94) (((upd s (8 * r + 93) ((s (8 * r + 93)) - (bI (0 < (s (8 * r + 93)))))) (8 * r + 94)) + 1)) (8 * r + 92)) < 9)) → gW G X (wM G a (upd (upd s (8 * r + 93) ((s (8 * r + 93)) - (bI (0 < (s (8 * r + 93)))))) (8 * r + 94) (((upd s (8 * r + 93) ((s (8 * r + 93)) - (bI (0 < (s (8 * r + 93)))))) (8 * r + 94)) + 1)) as_ hi kn sn ik tx ln it wl sp iw rs er) 0 0 80 [(0, .ref (a 0)), (1, .int (nI r))] [.int y7] := by
      intro y7 ey7
      subst ey7
      refine x_istore_n (lv' := [(2, .int (bI (((iR ((upd (upd s (8 * r + 93) ((s (8 * r + 93)) - (bI (0 < (s (8 * r + 93)))))) (8 * r + 94) (((upd s (8 * r + 93) ((s (8 * r + 93)) - (bI (0 < (s (8 * r + 93)))))) (8 * r + 94)) + 1)) (8 * r + 94)) 3) = 0) ∧ (((upd (upd s (8 * r + 93) ((s (8 * r + 93)) - (bI (0 < (s (8 * r + 93)))))) (8 * r + 94) (((upd s (8 * r + 93) ((s (8 * r + 93)) - (bI (0 < (s (8 * r + 93)))))) (8 * r + 94)) + 1)) (8 * r + 92)) < 9)))), (0, .ref (a 0)), (1, .int (nI r))]) C dX6_learns_80 rfl (by decide) rfl ?_
      refine x_aload_n C 1 rfl dX6_learns_81 rfl ?_
      refine x_get (k := 0) (v := .ref (a 1)) C dX6_learns_82 layX6 fl_X6_7 0 rfl rfl (by decide) rfl ?_
      refine x_iload_n C 2 rfl dX6_learns_85 rfl ?_
      refine x_iconst (v := (nI 1)) C dX6_learns_86 (by decide) ?_
      refine x_callSd (As := [.int (nI r), .int (nI 1)]) (rest := [.ref (a 1)]) C dX6_learns_87 (c_X6_ofRider (gX.l X) G r 1 (8 * r + 92) (by omega)) ml_X6_35 st_X6_ofRider in_X6 cd_X6_ofRider hd_X6_ofRider rfl rfl (Nat.le_of_ble_eq_true rfl) ⟨Nat.le_of_ble_eq_true rfl, Nat.le_of_ble_eq_true rfl⟩ [] (wM G a (upd (upd s (8 * r + 93) ((s (8 * r + 93)) - (bI (0 < (s (8 * r + 93)))))) (8 * r + 94) (((upd s (8 * r + 93) ((s (8 * r + 93)) - (bI (0 < (s (8 * r + 93)))))) (8 * r + 94)) + 1)) as_ hi kn sn ik tx ln it wl sp iw rs er) rfl (ws' := (wM G a (upd (upd s (8 * r + 93) ((s (8 * r + 93)) - (bI (0 < (s (8 * r + 93)))))) (8 * r + 94) (((upd s (8 * r + 93) ((s (8 * r + 93)) - (bI (0 < (s (8 * r + 93)))))) (8 * r + 94)) + 1)) as_ hi kn sn ik tx ln it wl sp iw rs er)) rfl (st' := [.int (nI (8 * r + 92)), .ref (a 1)]) rfl ⟨rfl, rfl⟩ ⟨Nat.le_of_ble_eq_true rfl, Nat.le_of_ble_eq_true rfl⟩ ?_
      refine x_dup2 C rfl rfl dX6_learns_90 ?_
      refine x_iald (j := (8 * r + 92)) C dX6_learns_91 1 rfl rfl (by omega) (by omega) ?_
      refine x_iload_n C 0 rfl dX6_learns_92 rfl ?_
      have J9 : ∀ (y10 : Int32) , y10 = bI (((iR ((upd (upd s (8 * r + 93) ((s (8 * r + 93)) - (bI (0 < (s (8 * r + 93)))))) (8 * r + 94) (((upd s (8 * r + 93) ((s (8 * r + 93)) - (bI (0 < (s (8 * r + 93)))))) (8 * r + 94)) + 1)) (8 * r + 94)) 3) = 0) ∧ (((upd (upd s (8 * r + 93) ((s (8 * r + 93)) - (bI (0 < (s (8 * r + 93)))))) (8 * r + 94) (((upd s (8 * r + 93) ((s (8 * r + 93)) - (bI (0 < (s (8 * r + 93)))))) (8 * r + 94)) + 1)) (8 * r + 92)) < 9)) → gW G X (wM G a (upd (upd s (8 * r + 93) ((s (8 * r + 93)) - (bI (0 < (s (8 * r + 93)))))) (8 * r + 94) (((upd s (8 * r + 93) ((s (8 * r + 93)) - (bI (0 < (s (8 * r + 93)))))) (8 * r + 94)) + 1)) as_ hi kn sn ik tx ln it wl sp iw rs er) 0 0 101 [(2, .int (bI (((iR ((upd (upd s (8 * r + 93) ((s (8 * r + 93)) - (bI (0 < (s (8 * r + 93)))))) (8 * r + 94) (((upd s (8 * r + 93) ((s (8 * r + 93)) - (bI (0 < (s (8 * r + 93)))))) (8 * r + 94)) + 1)) (8 * r + 94)) 3) = 0) ∧ (((upd (upd s (8 * r + 93) ((s (8 * r + 93)) - (bI (0 < (s (8 * r + 93)))))) (8 * r + 94) (((upd s (8 * r + 93) ((s (8 * r + 93)) - (bI (0 < (s (8 * r + 93)))))) (8 * r + 94)) + 1)) (8 * r + 92)) < 9)))), (0, .ref (a 0)), (1, .int (nI r))] [.int y10, .int ((upd (upd s (8 * r + 93) ((s (8 * r + 93)) - (bI (0 < (s (8 * r + 93)))))) (8 * r + 94) (((upd s (8 * r + 93) ((s (8 * r + 93)) - (bI (0 < (s (8 * r + 93)))))) (8 * r + 94)) + 1)) (8 * r + 92)), .int (nI (8 * r + 92)), .ref (a 1)] := by
        intro y10 ey10
        subst ey10
        refine x_iadd (x := ((upd (upd s (8 * r + 93) ((s (8 * r + 93)) - (bI (0 < (s (8 * r + 93)))))) (8 * r + 94) (((upd s (8 * r + 93) ((s (8 * r + 93)) - (bI (0 < (s (8 * r + 93)))))) (8 * r + 94)) + 1)) (8 * r + 92))) (y := (bI (((iR ((upd (upd s (8 * r + 93) ((s (8 * r + 93)) - (bI (0 < (s (8 * r + 93)))))) (8 * r + 94) (((upd s (8 * r + 93) ((s (8 * r + 93)) - (bI (0 < (s (8 * r + 93)))))) (8 * r + 94)) + 1)) (8 * r + 94)) 3) = 0) ∧ (((upd (upd s (8 * r + 93) ((s (8 * r + 93)) - (bI (0 < (s (8 * r + 93)))))) (8 * r + 94) (((upd s (8 * r + 93) ((s (8 * r + 93)) - (bI (0 < (s (8 * r + 93)))))) (8 * r + 94)) + 1)) (8 * r + 92)) < 9)))) C dX6_learns_101 ?_
        refine x_iast (j := (8 * r + 92)) (x := (((upd (upd s (8 * r + 93) ((s (8 * r + 93)) - (bI (0 < (s (8 * r + 93)))))) (8 * r + 94) (((upd s (8 * r + 93) ((s (8 * r + 93)) - (bI (0 < (s (8 * r + 93)))))) (8 * r + 94)) + 1)) (8 * r + 92)) + (bI (((iR ((upd (upd s (8 * r + 93) ((s (8 * r + 93)) - (bI (0 < (s (8 * r + 93)))))) (8 * r + 94) (((upd s (8 * r + 93) ((s (8 * r + 93)) - (bI (0 < (s (8 * r + 93)))))) (8 * r + 94)) + 1)) (8 * r + 94)) 3) = 0) ∧ (((upd (upd s (8 * r + 93) ((s (8 * r + 93)) - (bI (0 < (s (8 * r + 93)))))) (8 * r + 94) (((upd s (8 * r + 93) ((s (8 * r + 93)) - (bI (0 < (s (8 * r + 93)))))) (8 * r + 94)) + 1)) (8 * r + 92)) < 9))))) (ws' := (wM G a (upd (upd (upd s (8 * r + 93) ((s (8 * r + 93)) - (bI (0 < (s (8 * r + 93)))))) (8 * r + 94) (((upd s (8 * r + 93) ((s (8 * r + 93)) - (bI (0 < (s (8 * r + 93)))))) (8 * r + 94)) + 1)) (8 * r + 92) (((upd (upd s (8 * r + 93) ((s (8 * r + 93)) - (bI (0 < (s (8 * r + 93)))))) (8 * r + 94) (((upd s (8 * r + 93) ((s (8 * r + 93)) - (bI (0 < (s (8 * r + 93)))))) (8 * r + 94)) + 1)) (8 * r + 92)) + (bI (((iR ((upd (upd s (8 * r + 93) ((s (8 * r + 93)) - (bI (0 < (s (8 * r + 93)))))) (8 * r + 94) (((upd s (8 * r + 93) ((s (8 * r + 93)) - (bI (0 < (s (8 * r + 93)))))) (8 * r + 94)) + 1)) (8 * r + 94)) 3) = 0) ∧ (((upd (upd s (8 * r + 93) ((s (8 * r + 93)) - (bI (0 < (s (8 * r + 93)))))) (8 * r + 94) (((upd s (8 * r + 93) ((s (8 * r + 93)) - (bI (0 < (s (8 * r + 93)))))) (8 * r + 94)) + 1)) (8 * r + 92)) < 9))))) as_ hi kn sn ik tx ln it wl sp iw rs er)) C dX6_learns_102 1 rfl rfl (by omega) (by omega) rfl ?_
        exact x_vret C hr E dX6_learns_103 (fun _ => 0) rfl
      refine x_if_eqB (P := ((iR ((upd (upd s (8 * r + 93) ((s (8 * r + 93)) - (bI (0 < (s (8 * r + 93)))))) (8 * r + 94) (((upd s (8 * r + 93) ((s (8 * r + 93)) - (bI (0 < (s (8 * r + 93)))))) (8 * r + 94)) + 1)) (8 * r + 94)) 3) = 0) ∧ (((upd (upd s (8 * r + 93) ((s (8 * r + 93)) - (bI (0 < (s (8 * r + 93)))))) (8 * r + 94) (((upd s (8 * r + 93) ((s (8 * r + 93)) - (bI (0 < (s (8 * r + 93)))))) (8 * r + 94)) + 1)) (8 * r + 92)) < 9)) (tgt := 100) C dX6_learns_93 (by decide) (fun c8 => ?_) (fun c8 => ?_)
      · refine x_iconst (v := (nI 0)) C dX6_learns_100 (by decide) ?_
        exact J9 (nI 0) (bI_f (by simp only [c8, if_true, if_false, ite_true, ite_false, and_true, true_and, and_false, false_and, or_true, true_or, or_false, false_or, not_true_eq_false, not_false_eq_true, and_self, or_self] <;> decide)).symm
      · refine x_iconst (v := (nI 1)) C dX6_learns_96 (by decide) ?_
        refine x_goto (tgt := 101) C dX6_learns_97 (by decide) ?_
        exact J9 (nI 1) (bI_t (by simp only [c8, if_true, if_false, ite_true, ite_false, and_true, true_and, and_false, false_and, or_true, true_or, or_false, false_or, not_true_eq_false, not_false_eq_true, and_self, or_self] <;> decide)).symm
    refine x_if_ne (x := (iR ((upd (upd s (8 * r + 93) ((s (8 * r + 93)) - (bI (0 < (s (8 * r + 93)))))) (8 * r + 94) (((upd s (8 * r + 93) ((s (8 * r + 93)) - (bI (0 < (s (8 * r + 93)))))) (8 * r + 94)) + 1)) (8 * r + 94)) 3)) (tgt := 79) C dX6_learns_57 (by decide) (fun c4 => ?_) (fun c4 => ?_)
    · refine x_iconst (v := (nI 0)) C dX6_learns_79 (by decide) ?_
      exact J6 (nI 0) (bI_f (by simp only [c4, if_true, if_false, ite_true, ite_false, and_true, true_and, and_false, false_and, or_true, true_or, or_false, false_or, not_true_eq_false, not_false_eq_true, and_self, or_self] <;> decide)).symm
    · refine x_aload_n C 0 rfl dX6_learns_60 rfl ?_
      refine x_get (k := 0) (v := .ref (a 1)) C dX6_learns_61 layX6 fl_X6_7 0 rfl rfl (by decide) rfl ?_
      refine x_iload_n C 1 rfl dX6_learns_64 rfl ?_
      refine x_iconst (v := (nI 1)) C dX6_learns_65 (by decide) ?_
      refine x_callSd (As := [.int (nI r), .int (nI 1)]) (rest := [.ref (a 1)]) C dX6_learns_66 (c_X6_ofRider (gX.l X) G r 1 (8 * r + 92) (by omega)) ml_X6_35 st_X6_ofRider in_X6 cd_X6_ofRider hd_X6_ofRider rfl rfl (Nat.le_of_ble_eq_true rfl) ⟨Nat.le_of_ble_eq_true rfl, Nat.le_of_ble_eq_true rfl⟩ [] (wM G a (upd (upd s (8 * r + 93) ((s (8 * r + 93)) - (bI (0 < (s (8 * r + 93)))))) (8 * r + 94) (((upd s (8 * r + 93) ((s (8 * r + 93)) - (bI (0 < (s (8 * r + 93)))))) (8 * r + 94)) + 1)) as_ hi kn sn ik tx ln it wl sp iw rs er) rfl (ws' := (wM G a (upd (upd s (8 * r + 93) ((s (8 * r + 93)) - (bI (0 < (s (8 * r + 93)))))) (8 * r + 94) (((upd s (8 * r + 93) ((s (8 * r + 93)) - (bI (0 < (s (8 * r + 93)))))) (8 * r + 94)) + 1)) as_ hi kn sn ik tx ln it wl sp iw rs er)) rfl (st' := [.int (nI (8 * r + 92)), .ref (a 1)]) rfl ⟨rfl, rfl⟩ ⟨Nat.le_of_ble_eq_true rfl, Nat.le_of_ble_eq_true rfl⟩ ?_
      refine x_iald (j := (8 * r + 92)) C dX6_learns_69 1 rfl rfl (by omega) (by omega) ?_
      refine x_bipush (v := (nI 9)) C dX6_learns_70 (by decide) ?_
      refine x_icmp_ge (x := ((upd (upd s (8 * r + 93) ((s (8 * r + 93)) - (bI (0 < (s (8 * r + 93)))))) (8 * r + 94) (((upd s (8 * r + 93) ((s (8 * r + 93)) - (bI (0 < (s (8 * r + 93)))))) (8 * r + 94)) + 1)) (8 * r + 92))) (y := 9) (tgt := 79) C dX6_learns_72 (by decide) (fun c5 => ?_) (fun c5 => ?_)
      · refine x_iconst (v := (nI 0)) C dX6_learns_79 (by decide) ?_
        exact J6 (nI 0) (bI_f (by simp only [c4, c5, if_true, if_false, ite_true, ite_false, and_true, true_and, and_false, false_and, or_true, true_or, or_false, false_or, not_true_eq_false, not_false_eq_true, and_self, or_self] <;> decide)).symm
      · refine x_iconst (v := (nI 1)) C dX6_learns_75 (by decide) ?_
        refine x_goto (tgt := 80) C dX6_learns_76 (by decide) ?_
        exact J6 (nI 1) (bI_t (by simp only [c4, c5, if_true, if_false, ite_true, ite_false, and_true, true_and, and_false, false_and, or_true, true_or, or_false, false_or, not_true_eq_false, not_false_eq_true, and_self, or_self] <;> decide)).symm
  refine x_if_le (x := (s (8 * r + 93))) (tgt := 28) C dX6_learns_21 (by decide) (fun c1 => ?_) (fun c1 => ?_)
  · refine x_iconst (v := (nI 0)) C dX6_learns_28 (by decide) ?_
    exact J2 (nI 0) (bI_f (by simp only [c1, if_true, if_false, ite_true, ite_false, and_true, true_and, and_false, false_and, or_true, true_or, or_false, false_or, not_true_eq_false, not_false_eq_true, and_self, or_self] <;> decide)).symm
  · refine x_iconst (v := (nI 1)) C dX6_learns_24 (by decide) ?_
    refine x_goto (tgt := 29) C dX6_learns_25 (by decide) ?_
    exact J2 (nI 1) (bI_t (by simp only [c1, if_true, if_false, ite_true, ite_false, and_true, true_and, and_false, false_and, or_true, true_or, or_false, false_or, not_true_eq_false, not_false_eq_true, and_self, or_self] <;> decide)).symm
def rm_X6_strains : Room := { frames := 1, cells := 0, slots := 0, locals := 21 }
set_option maxRecDepth 100000 in
set_option maxHeartbeats 4000000 in
theorem c_X6_strains (l : Launch) (G : gG) (a : Nat → Nat) (s as_ hi : Nat → Int32) (kn : Nat) (sn : Nat → Int32) (ik : Int32) (tx : Nat → Int32) (ln : Nat) (it wl : Nat → Int32) (sp : Nat) (iw : Int32) (rs : Nat) (er : Int32) (h : Nat)  (hh : h < 10) : CT l yX6_strains cX6_strains 2 none rm_X6_strains G [.ref (a 0), .int (nI h)] (wM G a s as_ hi kn sn ik tx ln it wl sp iw rs er) none (fun _ => (wM G a (m_strains s h) as_ hi kn sn ik tx ln it wl sp iw rs er)) := by
  refine gMet (by decide) (Nat.le_of_ble_eq_true rfl) (fun X hX C hr hin E => ?_)
  clear hX
  refine (show gW G X (wM G a s as_ hi kn sn ik tx ln it wl sp iw rs er) 0 0 0 [(0, .ref (a 0)), (1, .int (nI h))] [] from ?_)
  refine x_aload_n C 0 rfl dX6_strains_0 rfl ?_
  refine x_get (k := 0) (v := .ref (a 1)) C dX6_strains_1 layX6 fl_X6_7 0 rfl rfl (by decide) rfl ?_
  refine x_iload_n C 1 rfl dX6_strains_4 rfl ?_
  refine x_iconst (v := (nI 4)) C dX6_strains_5 (by decide) ?_
  refine x_callSd (As := [.int (nI h), .int (nI 4)]) (rest := [.ref (a 1)]) C dX6_strains_6 (c_X6_of (gX.l X) G h 4 (9 * h + 5) (by omega)) ml_X6_31 st_X6_of in_X6 cd_X6_of hd_X6_of rfl rfl (Nat.le_of_ble_eq_true rfl) ⟨Nat.le_of_ble_eq_true rfl, Nat.le_of_ble_eq_true rfl⟩ [] (wM G a s as_ hi kn sn ik tx ln it wl sp iw rs er) rfl (ws' := (wM G a s as_ hi kn sn ik tx ln it wl sp iw rs er)) rfl (st' := [.int (nI (9 * h + 5)), .ref (a 1)]) rfl ⟨rfl, rfl⟩ ⟨Nat.le_of_ble_eq_true rfl, Nat.le_of_ble_eq_true rfl⟩ ?_
  refine x_dup2 C rfl rfl dX6_strains_9 ?_
  refine x_iald (j := (9 * h + 5)) C dX6_strains_10 1 rfl rfl (by omega) (by omega) ?_
  refine x_iconst (v := (nI 1)) C dX6_strains_11 (by decide) ?_
  refine x_iadd (x := (s (9 * h + 5))) (y := 1) C dX6_strains_12 ?_
  refine x_iast (j := (9 * h + 5)) (x := ((s (9 * h + 5)) + 1)) (ws' := (wM G a (upd s (9 * h + 5) ((s (9 * h + 5)) + 1)) as_ hi kn sn ik tx ln it wl sp iw rs er)) C dX6_strains_13 1 rfl rfl (by omega) (by omega) rfl ?_
  refine x_aload_n C 0 rfl dX6_strains_14 rfl ?_
  refine x_get (k := 0) (v := .ref (a 1)) C dX6_strains_15 layX6 fl_X6_7 0 rfl rfl (by decide) rfl ?_
  refine x_iload_n C 1 rfl dX6_strains_18 rfl ?_
  refine x_iconst (v := (nI 4)) C dX6_strains_19 (by decide) ?_
  refine x_callSd (As := [.int (nI h), .int (nI 4)]) (rest := [.ref (a 1)]) C dX6_strains_20 (c_X6_of (gX.l X) G h 4 (9 * h + 5) (by omega)) ml_X6_31 st_X6_of in_X6 cd_X6_of hd_X6_of rfl rfl (Nat.le_of_ble_eq_true rfl) ⟨Nat.le_of_ble_eq_true rfl, Nat.le_of_ble_eq_true rfl⟩ [] (wM G a (upd s (9 * h + 5) ((s (9 * h + 5)) + 1)) as_ hi kn sn ik tx ln it wl sp iw rs er) rfl (ws' := (wM G a (upd s (9 * h + 5) ((s (9 * h + 5)) + 1)) as_ hi kn sn ik tx ln it wl sp iw rs er)) rfl (st' := [.int (nI (9 * h + 5)), .ref (a 1)]) rfl ⟨rfl, rfl⟩ ⟨Nat.le_of_ble_eq_true rfl, Nat.le_of_ble_eq_true rfl⟩ ?_
  refine x_iald (j := (9 * h + 5)) C dX6_strains_23 1 rfl rfl (by omega) (by omega) ?_
  refine x_iconst (v := (nI 3)) C dX6_strains_24 (by decide) ?_
  refine x_icmp_ne (x := ((upd s (9 * h + 5) ((s (9 * h + 5)) + 1)) (9 * h + 5))) (y := 3) (tgt := 57) C dX6_strains_25 (by decide) (fun c1 => ?_) (fun c1 => ?_)
  · exact x_vret C hr E dX6_strains_57 (fun _ => 0) (by rw [m_strains]; first | rw [if_pos (by assumption)]; rfl | rw [if_neg (by assumption)]; rfl)
  · refine x_aload_n C 0 rfl dX6_strains_28 rfl ?_
    refine x_get (k := 0) (v := .ref (a 1)) C dX6_strains_29 layX6 fl_X6_7 0 rfl rfl (by decide) rfl ?_
    refine x_iload_n C 1 rfl dX6_strains_32 rfl ?_
    refine x_iconst (v := (nI 4)) C dX6_strains_33 (by decide) ?_
    refine x_callSd (As := [.int (nI h), .int (nI 4)]) (rest := [.ref (a 1)]) C dX6_strains_34 (c_X6_of (gX.l X) G h 4 (9 * h + 5) (by omega)) ml_X6_31 st_X6_of in_X6 cd_X6_of hd_X6_of rfl rfl (Nat.le_of_ble_eq_true rfl) ⟨Nat.le_of_ble_eq_true rfl, Nat.le_of_ble_eq_true rfl⟩ [] (wM G a (upd s (9 * h + 5) ((s (9 * h + 5)) + 1)) as_ hi kn sn ik tx ln it wl sp iw rs er) rfl (ws' := (wM G a (upd s (9 * h + 5) ((s (9 * h + 5)) + 1)) as_ hi kn sn ik tx ln it wl sp iw rs er)) rfl (st' := [.int (nI (9 * h + 5)), .ref (a 1)]) rfl ⟨rfl, rfl⟩ ⟨Nat.le_of_ble_eq_true rfl, Nat.le_of_ble_eq_true rfl⟩ ?_
    refine x_iconst (v := (nI 0)) C dX6_strains_37 (by decide) ?_
    refine x_iast (j := (9 * h + 5)) (x := 0) (ws' := (wM G a (upd (upd s (9 * h + 5) ((s (9 * h + 5)) + 1)) (9 * h + 5) 0) as_ hi kn sn ik tx ln it wl sp iw rs er)) C dX6_strains_38 1 rfl rfl (by omega) (by omega) rfl ?_
    refine x_aload_n C 0 rfl dX6_strains_39 rfl ?_
    refine x_get (k := 0) (v := .ref (a 1)) C dX6_strains_40 layX6 fl_X6_7 0 rfl rfl (by decide) rfl ?_
    refine x_iload_n C 1 rfl dX6_strains_43 rfl ?_
    refine x_iconst (v := (nI 5)) C dX6_strains_44 (by decide) ?_
    refine x_callSd (As := [.int (nI h), .int (nI 5)]) (rest := [.ref (a 1)]) C dX6_strains_45 (c_X6_of (gX.l X) G h 5 (9 * h + 6) (by omega)) ml_X6_31 st_X6_of in_X6 cd_X6_of hd_X6_of rfl rfl (Nat.le_of_ble_eq_true rfl) ⟨Nat.le_of_ble_eq_true rfl, Nat.le_of_ble_eq_true rfl⟩ [] (wM G a (upd (upd s (9 * h + 5) ((s (9 * h + 5)) + 1)) (9 * h + 5) 0) as_ hi kn sn ik tx ln it wl sp iw rs er) rfl (ws' := (wM G a (upd (upd s (9 * h + 5) ((s (9 * h + 5)) + 1)) (9 * h + 5) 0) as_ hi kn sn ik tx ln it wl sp iw rs er)) rfl (st' := [.int (nI (9 * h + 6)), .ref (a 1)]) rfl ⟨rfl, rfl⟩ ⟨Nat.le_of_ble_eq_true rfl, Nat.le_of_ble_eq_true rfl⟩ ?_
    refine x_aload_n C 0 rfl dX6_strains_48 rfl ?_
    refine x_get (k := 0) (v := .ref (a 1)) C dX6_strains_49 layX6 fl_X6_7 0 rfl rfl (by decide) rfl ?_
    refine x_sipush (v := (nI 190)) C dX6_strains_52 (by decide) ?_
    refine x_iald (j := 190) C dX6_strains_55 1 rfl rfl (by omega) (by omega) ?_
    refine x_iast (j := (9 * h + 6)) (x := ((upd (upd s (9 * h + 5) ((s (9 * h + 5)) + 1)) (9 * h + 5) 0) 190)) (ws' := (wM G a (upd (upd (upd s (9 * h + 5) ((s (9 * h + 5)) + 1)) (9 * h + 5) 0) (9 * h + 6) ((upd (upd s (9 * h + 5) ((s (9 * h + 5)) + 1)) (9 * h + 5) 0) 190)) as_ hi kn sn ik tx ln it wl sp iw rs er)) C dX6_strains_56 1 rfl rfl (by omega) (by omega) rfl ?_
    exact x_vret C hr E dX6_strains_57 (fun _ => 0) (by rw [m_strains]; first | rw [if_pos (by assumption)]; rfl | rw [if_neg (by assumption)]; rfl)
def rm_X6_rides : Room := { frames := 4, cells := 0, slots := 0, locals := 94 }
set_option maxRecDepth 100000 in
set_option maxHeartbeats 4000000 in
theorem c_X6_rides (l : Launch) (G : gG) (a : Nat → Nat) (s as_ hi : Nat → Int32) (kn : Nat) (sn : Nat → Int32) (ik : Int32) (tx : Nat → Int32) (ln : Nat) (it wl : Nat → Int32) (sp : Nat) (iw : Int32) (rs : Nat) (er : Int32) (r : Nat) (fa : Int32)  (hF : okF (s 317)) (hr0 : r < 12) : CT l yX6_rides cX6_rides 4 (some .boolean) rm_X6_rides G [.ref (a 0), .int (nI r), .int fa] (wM G a s as_ hi kn sn ik tx ln it wl sp iw rs er) (some (.int (bI (¬ (m_best s it r fa = -5))))) (fun _ => (wM G a (m_rideS s r (m_best s it r fa)) as_ hi kn sn ik tx ln (m_rideT it (m_best s it r fa)) wl sp iw rs er)) := by
  refine gMet (by decide) (Nat.le_of_ble_eq_true rfl) (fun X hX C hr hin E => ?_)
  clear hX
  refine (show gW G X (wM G a s as_ hi kn sn ik tx ln it wl sp iw rs er) 0 0 0 [(0, .ref (a 0)), (1, .int (nI r)), (2, .int fa)] [] from ?_)
  refine x_aload_n C 0 rfl dX6_rides_0 rfl ?_
  refine x_iload_n C 1 rfl dX6_rides_1 rfl ?_
  refine x_iload_n C 2 rfl dX6_rides_2 rfl ?_
  refine x_callVd (As := [.int (nI r), .int fa]) (rest := []) C dX6_rides_3 (c_X6_bestFor (gX.l X) G a s as_ hi kn sn ik tx ln it wl sp iw rs er r fa (by omega)) ml_X6_61 im_X6_bestFor sl_X6_bestFor in_X6 cd_X6_bestFor hd_X6_bestFor 0 rfl rfl rfl rfl (Nat.le_of_ble_eq_true rfl) ⟨Nat.le_of_ble_eq_true rfl, Nat.le_of_ble_eq_true rfl⟩ (List.take 0 (wM G a s as_ hi kn sn ik tx ln it wl sp iw rs er)) (List.drop 8 (wM G a s as_ hi kn sn ik tx ln it wl sp iw rs er)) rfl (ws' := (wM G a s as_ hi kn sn ik tx ln it wl sp iw rs er)) rfl (st' := [.int (m_best s it r fa)]) rfl ⟨rfl, rfl⟩ ⟨Nat.le_of_ble_eq_true rfl, Nat.le_of_ble_eq_true rfl⟩ ?_
  refine x_gen (fun f f_e => ?_)
  have hf : okH f := f_e ▸ m_best_ok _ _ _ _
  refine x_istore_n (lv' := [(3, .int f), (0, .ref (a 0)), (1, .int (nI r)), (2, .int fa)]) C dX6_rides_6 rfl (by decide) rfl ?_
  refine x_iload_n C 0 rfl dX6_rides_7 rfl ?_
  refine x_bipush (v := (-5)) C dX6_rides_8 (by decide) ?_
  refine x_icmp_ne (x := f) (y := (-5)) (tgt := 42) C dX6_rides_10 (by decide) (fun c1 => ?_) (fun c1 => ?_)
  · have hfn : nC f < 10 ∧ f = nI (nC f) := by
      rcases hf with h9 | h9
      · exact absurd h9 (by assumption)
      · exact h9
    refine x_aload_n C 1 rfl dX6_rides_42 rfl ?_
    refine x_get (k := 8) (v := .ref (a 6)) C dX6_rides_43 layX6 fl_X6_25 0 rfl rfl (by decide) rfl ?_
    refine x_iload_n C 0 rfl dX6_rides_46 rfl ?_
    refine x_top (y := (nI (nC f))) hfn.2 ?_
    refine x_iconst (v := (nI 1)) C dX6_rides_47 (by decide) ?_
    refine x_iast (j := (nC f)) (x := 1) (ws' := (wM G a s as_ hi kn sn ik tx ln (upd it (nC f) 1) wl sp iw rs er)) C dX6_rides_48 6 rfl rfl (by omega) (by omega) rfl ?_
    refine x_aload_n C 1 rfl dX6_rides_49 rfl ?_
    refine x_get (k := 0) (v := .ref (a 1)) C dX6_rides_50 layX6 fl_X6_7 0 rfl rfl (by decide) rfl ?_
    refine x_sipush (v := (nI 313)) C dX6_rides_53 (by decide) ?_
    refine x_dup2 C rfl rfl dX6_rides_56 ?_
    refine x_iald (j := 313) C dX6_rides_57 1 rfl rfl (by omega) (by omega) ?_
    refine x_iconst (v := (nI 1)) C dX6_rides_58 (by decide) ?_
    refine x_iadd (x := (s 313)) (y := 1) C dX6_rides_59 ?_
    refine x_iast (j := 313) (x := ((s 313) + 1)) (ws' := (wM G a (upd s 313 ((s 313) + 1)) as_ hi kn sn ik tx ln (upd it (nC f) 1) wl sp iw rs er)) C dX6_rides_60 1 rfl rfl (by omega) (by omega) rfl ?_
    refine x_aload_n C 1 rfl dX6_rides_61 rfl ?_
    refine x_get (k := 0) (v := .ref (a 1)) C dX6_rides_62 layX6 fl_X6_7 0 rfl rfl (by decide) rfl ?_
    refine x_iload_n C 0 rfl dX6_rides_65 rfl ?_
    refine x_top (y := (nI (nC f))) hfn.2 ?_
    refine x_bipush (v := (nI 6)) C dX6_rides_66 (by decide) ?_
    refine x_callSd (As := [.int (nI (nC f)), .int (nI 6)]) (rest := [.ref (a 1)]) C dX6_rides_68 (c_X6_of (gX.l X) G (nC f) 6 (9 * (nC f) + 7) (by omega)) ml_X6_31 st_X6_of in_X6 cd_X6_of hd_X6_of rfl rfl (Nat.le_of_ble_eq_true rfl) ⟨Nat.le_of_ble_eq_true rfl, Nat.le_of_ble_eq_true rfl⟩ [] (wM G a (upd s 313 ((s 313) + 1)) as_ hi kn sn ik tx ln (upd it (nC f) 1) wl sp iw rs er) rfl (ws' := (wM G a (upd s 313 ((s 313) + 1)) as_ hi kn sn ik tx ln (upd it (nC f) 1) wl sp iw rs er)) rfl (st' := [.int (nI (9 * (nC f) + 7)), .ref (a 1)]) rfl ⟨rfl, rfl⟩ ⟨Nat.le_of_ble_eq_true rfl, Nat.le_of_ble_eq_true rfl⟩ ?_
    refine x_dup2 C rfl rfl dX6_rides_71 ?_
    refine x_iald (j := (9 * (nC f) + 7)) C dX6_rides_72 1 rfl rfl (by omega) (by omega) ?_
    refine x_iconst (v := (nI 1)) C dX6_rides_73 (by decide) ?_
    refine x_iadd (x := ((upd s 313 ((s 313) + 1)) (9 * (nC f) + 7))) (y := 1) C dX6_rides_74 ?_
    refine x_iast (j := (9 * (nC f) + 7)) (x := (((upd s 313 ((s 313) + 1)) (9 * (nC f) + 7)) + 1)) (ws' := (wM G a (upd (upd s 313 ((s 313) + 1)) (9 * (nC f) + 7) (((upd s 313 ((s 313) + 1)) (9 * (nC f) + 7)) + 1)) as_ hi kn sn ik tx ln (upd it (nC f) 1) wl sp iw rs er)) C dX6_rides_75 1 rfl rfl (by omega) (by omega) rfl ?_
    refine x_aload_n C 1 rfl dX6_rides_76 rfl ?_
    refine x_get (k := 0) (v := .ref (a 1)) C dX6_rides_77 layX6 fl_X6_7 0 rfl rfl (by decide) rfl ?_
    refine x_iload_n C 2 rfl dX6_rides_80 rfl ?_
    refine x_iconst (v := (nI 4)) C dX6_rides_81 (by decide) ?_
    refine x_callSd (As := [.int (nI r), .int (nI 4)]) (rest := [.ref (a 1)]) C dX6_rides_82 (c_X6_ofRider (gX.l X) G r 4 (8 * r + 95) (by omega)) ml_X6_35 st_X6_ofRider in_X6 cd_X6_ofRider hd_X6_ofRider rfl rfl (Nat.le_of_ble_eq_true rfl) ⟨Nat.le_of_ble_eq_true rfl, Nat.le_of_ble_eq_true rfl⟩ [] (wM G a (upd (upd s 313 ((s 313) + 1)) (9 * (nC f) + 7) (((upd s 313 ((s 313) + 1)) (9 * (nC f) + 7)) + 1)) as_ hi kn sn ik tx ln (upd it (nC f) 1) wl sp iw rs er) rfl (ws' := (wM G a (upd (upd s 313 ((s 313) + 1)) (9 * (nC f) + 7) (((upd s 313 ((s 313) + 1)) (9 * (nC f) + 7)) + 1)) as_ hi kn sn ik tx ln (upd it (nC f) 1) wl sp iw rs er)) rfl (st' := [.int (nI (8 * r + 95)), .ref (a 1)]) rfl ⟨rfl, rfl⟩ ⟨Nat.le_of_ble_eq_true rfl, Nat.le_of_ble_eq_true rfl⟩ ?_
    refine x_dup2 C rfl rfl dX6_rides_85 ?_
    refine x_iald (j := (8 * r + 95)) C dX6_rides_86 1 rfl rfl (by omega) (by omega) ?_
    refine x_iconst (v := (nI 1)) C dX6_rides_87 (by decide) ?_
    refine x_iadd (x := ((upd (upd s 313 ((s 313) + 1)) (9 * (nC f) + 7) (((upd s 313 ((s 313) + 1)) (9 * (nC f) + 7)) + 1)) (8 * r + 95))) (y := 1) C dX6_rides_88 ?_
    refine x_iast (j := (8 * r + 95)) (x := (((upd (upd s 313 ((s 313) + 1)) (9 * (nC f) + 7) (((upd s 313 ((s 313) + 1)) (9 * (nC f) + 7)) + 1)) (8 * r + 95)) + 1)) (ws' := (wM G a (upd (upd (upd s 313 ((s 313) + 1)) (9 * (nC f) + 7) (((upd s 313 ((s 313) + 1)) (9 * (nC f) + 7)) + 1)) (8 * r + 95) (((upd (upd s 313 ((s 313) + 1)) (9 * (nC f) + 7) (((upd s 313 ((s 313) + 1)) (9 * (nC f) + 7)) + 1)) (8 * r + 95)) + 1)) as_ hi kn sn ik tx ln (upd it (nC f) 1) wl sp iw rs er)) C dX6_rides_89 1 rfl rfl (by omega) (by omega) rfl ?_
    refine x_aload_n C 1 rfl dX6_rides_90 rfl ?_
    refine x_get (k := 0) (v := .ref (a 1)) C dX6_rides_91 layX6 fl_X6_7 0 rfl rfl (by decide) rfl ?_
    refine x_iload_n C 2 rfl dX6_rides_94 rfl ?_
    refine x_bipush (v := (nI 7)) C dX6_rides_95 (by decide) ?_
    refine x_callSd (As := [.int (nI r), .int (nI 7)]) (rest := [.ref (a 1)]) C dX6_rides_97 (c_X6_ofRider (gX.l X) G r 7 (8 * r + 98) (by omega)) ml_X6_35 st_X6_ofRider in_X6 cd_X6_ofRider hd_X6_ofRider rfl rfl (Nat.le_of_ble_eq_true rfl) ⟨Nat.le_of_ble_eq_true rfl, Nat.le_of_ble_eq_true rfl⟩ [] (wM G a (upd (upd (upd s 313 ((s 313) + 1)) (9 * (nC f) + 7) (((upd s 313 ((s 313) + 1)) (9 * (nC f) + 7)) + 1)) (8 * r + 95) (((upd (upd s 313 ((s 313) + 1)) (9 * (nC f) + 7) (((upd s 313 ((s 313) + 1)) (9 * (nC f) + 7)) + 1)) (8 * r + 95)) + 1)) as_ hi kn sn ik tx ln (upd it (nC f) 1) wl sp iw rs er) rfl (ws' := (wM G a (upd (upd (upd s 313 ((s 313) + 1)) (9 * (nC f) + 7) (((upd s 313 ((s 313) + 1)) (9 * (nC f) + 7)) + 1)) (8 * r + 95) (((upd (upd s 313 ((s 313) + 1)) (9 * (nC f) + 7) (((upd s 313 ((s 313) + 1)) (9 * (nC f) + 7)) + 1)) (8 * r + 95)) + 1)) as_ hi kn sn ik tx ln (upd it (nC f) 1) wl sp iw rs er)) rfl (st' := [.int (nI (8 * r + 98)), .ref (a 1)]) rfl ⟨rfl, rfl⟩ ⟨Nat.le_of_ble_eq_true rfl, Nat.le_of_ble_eq_true rfl⟩ ?_
    refine x_iload_n C 0 rfl dX6_rides_100 rfl ?_
    refine x_iast (j := (8 * r + 98)) (x := f) (ws' := (wM G a (upd (upd (upd (upd s 313 ((s 313) + 1)) (9 * (nC f) + 7) (((upd s 313 ((s 313) + 1)) (9 * (nC f) + 7)) + 1)) (8 * r + 95) (((upd (upd s 313 ((s 313) + 1)) (9 * (nC f) + 7) (((upd s 313 ((s 313) + 1)) (9 * (nC f) + 7)) + 1)) (8 * r + 95)) + 1)) (8 * r + 98) f) as_ hi kn sn ik tx ln (upd it (nC f) 1) wl sp iw rs er)) C dX6_rides_101 1 rfl rfl (by omega) (by omega) rfl ?_
    refine (show gW G X (wM G a (m_rd1 s r f) as_ hi kn sn ik tx ln (upd it (nC f) 1) wl sp iw rs er) 0 0 102 [(3, .int f), (0, .ref (a 0)), (1, .int (nI r)), (2, .int fa)] [] from ?_)
    refine x_aload_n C 1 rfl dX6_rides_102 rfl ?_
    refine x_get (k := 0) (v := .ref (a 1)) C dX6_rides_103 layX6 fl_X6_7 0 rfl rfl (by decide) rfl ?_
    refine x_iload_n C 0 rfl dX6_rides_106 rfl ?_
    refine x_top (y := (nI (nC f))) hfn.2 ?_
    refine x_iconst (v := (nI 1)) C dX6_rides_107 (by decide) ?_
    refine x_callSd (As := [.int (nI (nC f)), .int (nI 1)]) (rest := [.ref (a 1)]) C dX6_rides_108 (c_X6_of (gX.l X) G (nC f) 1 (9 * (nC f) + 2) (by omega)) ml_X6_31 st_X6_of in_X6 cd_X6_of hd_X6_of rfl rfl (Nat.le_of_ble_eq_true rfl) ⟨Nat.le_of_ble_eq_true rfl, Nat.le_of_ble_eq_true rfl⟩ [] (wM G a (m_rd1 s r f) as_ hi kn sn ik tx ln (upd it (nC f) 1) wl sp iw rs er) rfl (ws' := (wM G a (m_rd1 s r f) as_ hi kn sn ik tx ln (upd it (nC f) 1) wl sp iw rs er)) rfl (st' := [.int (nI (9 * (nC f) + 2)), .ref (a 1)]) rfl ⟨rfl, rfl⟩ ⟨Nat.le_of_ble_eq_true rfl, Nat.le_of_ble_eq_true rfl⟩ ?_
    refine x_iald (j := (9 * (nC f) + 2)) C dX6_rides_111 1 rfl rfl (by omega) (by omega) ?_
    refine x_aload_n C 1 rfl dX6_rides_112 rfl ?_
    refine x_iload_n C 2 rfl dX6_rides_113 rfl ?_
    refine x_callVd (As := [.int (nI r)]) (rest := [.int ((m_rd1 s r f) (9 * (nC f) + 2))]) C dX6_rides_114 (c_X6_can (gX.l X) G a (m_rd1 s r f) as_ hi kn sn ik tx ln (upd it (nC f) 1) wl sp iw rs er r (by omega)) ml_X6_50 im_X6_can sl_X6_can in_X6 cd_X6_can hd_X6_can 0 rfl rfl rfl rfl (Nat.le_of_ble_eq_true rfl) ⟨Nat.le_of_ble_eq_true rfl, Nat.le_of_ble_eq_true rfl⟩ (List.take 0 (wM G a (m_rd1 s r f) as_ hi kn sn ik tx ln (upd it (nC f) 1) wl sp iw rs er)) (List.drop 8 (wM G a (m_rd1 s r f) as_ hi kn sn ik tx ln (upd it (nC f) 1) wl sp iw rs er)) rfl (ws' := (wM G a (m_rd1 s r f) as_ hi kn sn ik tx ln (upd it (nC f) 1) wl sp iw rs er)) rfl (st' := [.int (m_can (m_rd1 s r f) r), .int ((m_rd1 s r f) (9 * (nC f) + 2))]) rfl ⟨rfl, rfl⟩ ⟨Nat.le_of_ble_eq_true rfl, Nat.le_of_ble_eq_true rfl⟩ ?_
    have J3 : ∀ (y4 : Nat → Int32) , y4 = (m_rd2 s r f) → gW G X (wM G a y4 as_ hi kn sn ik tx ln (upd it (nC f) 1) wl sp iw rs er) 0 0 134 [(3, .int f), (0, .ref (a 0)), (1, .int (nI r)), (2, .int fa)] [] := by
      intro y4 ey4
      subst ey4
      refine x_aload_n C 1 rfl dX6_rides_134 rfl ?_
      refine x_get (k := 0) (v := .ref (a 1)) C dX6_rides_135 layX6 fl_X6_7 0 rfl rfl (by decide) rfl ?_
      refine x_iload_n C 2 rfl dX6_rides_138 rfl ?_
      refine x_iconst (v := (nI 0)) C dX6_rides_139 (by decide) ?_
      refine x_callSd (As := [.int (nI r), .int (nI 0)]) (rest := [.ref (a 1)]) C dX6_rides_140 (c_X6_ofRider (gX.l X) G r 0 (8 * r + 91) (by omega)) ml_X6_35 st_X6_ofRider in_X6 cd_X6_ofRider hd_X6_ofRider rfl rfl (Nat.le_of_ble_eq_true rfl) ⟨Nat.le_of_ble_eq_true rfl, Nat.le_of_ble_eq_true rfl⟩ [] (wM G a (m_rd2 s r f) as_ hi kn sn ik tx ln (upd it (nC f) 1) wl sp iw rs er) rfl (ws' := (wM G a (m_rd2 s r f) as_ hi kn sn ik tx ln (upd it (nC f) 1) wl sp iw rs er)) rfl (st' := [.int (nI (8 * r + 91)), .ref (a 1)]) rfl ⟨rfl, rfl⟩ ⟨Nat.le_of_ble_eq_true rfl, Nat.le_of_ble_eq_true rfl⟩ ?_
      refine x_iald (j := (8 * r + 91)) C dX6_rides_143 1 rfl rfl (by omega) (by omega) ?_
      refine x_aload_n C 1 rfl dX6_rides_144 rfl ?_
      refine x_get (k := 0) (v := .ref (a 1)) C dX6_rides_145 layX6 fl_X6_7 0 rfl rfl (by decide) rfl ?_
      refine x_sipush (v := (nI 189)) C dX6_rides_148 (by decide) ?_
      refine x_iald (j := 189) C dX6_rides_151 1 rfl rfl (by omega) (by omega) ?_
      refine x_iadd (x := ((m_rd2 s r f) (8 * r + 91))) (y := ((m_rd2 s r f) 189)) C dX6_rides_152 ?_
      refine x_aload_n C 1 rfl dX6_rides_153 rfl ?_
      refine x_get (k := 0) (v := .ref (a 1)) C dX6_rides_154 layX6 fl_X6_7 0 rfl rfl (by decide) rfl ?_
      refine x_iload_n C 0 rfl dX6_rides_157 rfl ?_
      refine x_top (y := (nI (nC f))) hfn.2 ?_
      refine x_iconst (v := (nI 0)) C dX6_rides_158 (by decide) ?_
      refine x_callSd (As := [.int (nI (nC f)), .int (nI 0)]) (rest := [.ref (a 1), .int (((m_rd2 s r f) (8 * r + 91)) + ((m_rd2 s r f) 189))]) C dX6_rides_159 (c_X6_of (gX.l X) G (nC f) 0 (9 * (nC f) + 1) (by omega)) ml_X6_31 st_X6_of in_X6 cd_X6_of hd_X6_of rfl rfl (Nat.le_of_ble_eq_true rfl) ⟨Nat.le_of_ble_eq_true rfl, Nat.le_of_ble_eq_true rfl⟩ [] (wM G a (m_rd2 s r f) as_ hi kn sn ik tx ln (upd it (nC f) 1) wl sp iw rs er) rfl (ws' := (wM G a (m_rd2 s r f) as_ hi kn sn ik tx ln (upd it (nC f) 1) wl sp iw rs er)) rfl (st' := [.int (nI (9 * (nC f) + 1)), .ref (a 1), .int (((m_rd2 s r f) (8 * r + 91)) + ((m_rd2 s r f) 189))]) rfl ⟨rfl, rfl⟩ ⟨Nat.le_of_ble_eq_true rfl, Nat.le_of_ble_eq_true rfl⟩ ?_
      refine x_iald (j := (9 * (nC f) + 1)) C dX6_rides_162 1 rfl rfl (by omega) (by omega) ?_
      refine x_icmp_le (x := (((m_rd2 s r f) (8 * r + 91)) + ((m_rd2 s r f) 189))) (y := ((m_rd2 s r f) (9 * (nC f) + 1))) (tgt := 171) C dX6_rides_163 (by decide) (fun c5 => ?_) (fun c5 => ?_)
      · refine x_iconst (v := (nI 1)) C dX6_rides_171 (by decide) ?_
        exact x_zret C hr bI_nar E dX6_rides_172 (fun _ => 0) (bI_t (by rw [← f_e]; exact c1)).symm (by rw [← f_e, m_rideT, m_rideS, if_neg c1, if_neg c1]; first | rw [if_pos c5] | rw [if_neg c5])
      · refine x_aload_n C 1 rfl dX6_rides_166 rfl ?_
        refine x_iload_n C 0 rfl dX6_rides_167 rfl ?_
        refine x_top (y := (nI (nC f))) hfn.2 ?_
        refine x_callVd (As := [.int (nI (nC f))]) (rest := []) C dX6_rides_168 (c_X6_strains (gX.l X) G a (m_rd2 s r f) as_ hi kn sn ik tx ln (upd it (nC f) 1) wl sp iw rs er (nC f) (by omega)) ml_X6_72 im_X6_strains sl_X6_strains in_X6 cd_X6_strains hd_X6_strains 0 rfl rfl rfl rfl (Nat.le_of_ble_eq_true rfl) ⟨Nat.le_of_ble_eq_true rfl, Nat.le_of_ble_eq_true rfl⟩ (List.take 0 (wM G a (m_rd2 s r f) as_ hi kn sn ik tx ln (upd it (nC f) 1) wl sp iw rs er)) (List.drop 8 (wM G a (m_rd2 s r f) as_ hi kn sn ik tx ln (upd it (nC f) 1) wl sp iw rs er)) rfl (ws' := (wM G a (m_strains (m_rd2 s r f) (nC f)) as_ hi kn sn ik tx ln (upd it (nC f) 1) wl sp iw rs er)) rfl (st' := []) rfl ⟨rfl, rfl⟩ ⟨Nat.le_of_ble_eq_true rfl, Nat.le_of_ble_eq_true rfl⟩ ?_
        refine x_iconst (v := (nI 1)) C dX6_rides_171 (by decide) ?_
        exact x_zret C hr bI_nar E dX6_rides_172 (fun _ => 0) (bI_t (by rw [← f_e]; exact c1)).symm (by rw [← f_e, m_rideT, m_rideS, if_neg c1, if_neg c1]; first | rw [if_pos c5] | rw [if_neg c5])
    refine x_icmp_le (x := ((m_rd1 s r f) (9 * (nC f) + 2))) (y := (m_can (m_rd1 s r f) r)) (tgt := 129) C dX6_rides_117 (by decide) (fun c2 => ?_) (fun c2 => ?_)
    · refine x_aload_n C 1 rfl dX6_rides_129 rfl ?_
      refine x_iload_n C 2 rfl dX6_rides_130 rfl ?_
      refine x_callVd (As := [.int (nI r)]) (rest := []) C dX6_rides_131 (c_X6_learns (gX.l X) G a (m_rd1 s r f) as_ hi kn sn ik tx ln (upd it (nC f) 1) wl sp iw rs er r (by omega)) ml_X6_68 im_X6_learns sl_X6_learns in_X6 cd_X6_learns hd_X6_learns 0 rfl rfl rfl rfl (Nat.le_of_ble_eq_true rfl) ⟨Nat.le_of_ble_eq_true rfl, Nat.le_of_ble_eq_true rfl⟩ (List.take 0 (wM G a (m_rd1 s r f) as_ hi kn sn ik tx ln (upd it (nC f) 1) wl sp iw rs er)) (List.drop 8 (wM G a (m_rd1 s r f) as_ hi kn sn ik tx ln (upd it (nC f) 1) wl sp iw rs er)) rfl (ws' := (wM G a (m_learns (m_rd1 s r f) r) as_ hi kn sn ik tx ln (upd it (nC f) 1) wl sp iw rs er)) rfl (st' := []) rfl ⟨rfl, rfl⟩ ⟨Nat.le_of_ble_eq_true rfl, Nat.le_of_ble_eq_true rfl⟩ ?_
      exact J3 (m_learns (m_rd1 s r f) r) (by first | rw [m_rd2, if_pos c2] | rw [m_rd2, if_neg c2])
    · refine x_aload_n C 1 rfl dX6_rides_120 rfl ?_
      refine x_iload_n C 2 rfl dX6_rides_121 rfl ?_
      refine x_iload_n C 0 rfl dX6_rides_122 rfl ?_
      refine x_top (y := (nI (nC f))) hfn.2 ?_
      refine x_callVd (As := [.int (nI r), .int (nI (nC f))]) (rest := []) C dX6_rides_123 (c_X6_falls (gX.l X) G a (m_rd1 s r f) as_ hi kn sn ik tx ln (upd it (nC f) 1) wl sp iw rs er r (nC f) (by rw [m_rd1_317 hr0 hfn.1]; exact hF) (by omega) (by omega)) ml_X6_64 im_X6_falls sl_X6_falls in_X6 cd_X6_falls hd_X6_falls 0 rfl rfl rfl rfl (Nat.le_of_ble_eq_true rfl) ⟨Nat.le_of_ble_eq_true rfl, Nat.le_of_ble_eq_true rfl⟩ (List.take 0 (wM G a (m_rd1 s r f) as_ hi kn sn ik tx ln (upd it (nC f) 1) wl sp iw rs er)) (List.drop 8 (wM G a (m_rd1 s r f) as_ hi kn sn ik tx ln (upd it (nC f) 1) wl sp iw rs er)) rfl (ws' := (wM G a (m_falls (m_rd1 s r f) r (nC f)) as_ hi kn sn ik tx ln (upd it (nC f) 1) wl sp iw rs er)) rfl (st' := []) rfl ⟨rfl, rfl⟩ ⟨Nat.le_of_ble_eq_true rfl, Nat.le_of_ble_eq_true rfl⟩ ?_
      refine x_goto (tgt := 134) C dX6_rides_126 (by decide) ?_
      exact J3 (m_falls (m_rd1 s r f) r (nC f)) (by first | rw [m_rd2, if_pos c2] | rw [m_rd2, if_neg c2])
  · refine x_aload_n C 1 rfl dX6_rides_13 rfl ?_
    refine x_get (k := 0) (v := .ref (a 1)) C dX6_rides_14 layX6 fl_X6_7 0 rfl rfl (by decide) rfl ?_
    refine x_sipush (v := (nI 315)) C dX6_rides_17 (by decide) ?_
    refine x_dup2 C rfl rfl dX6_rides_20 ?_
    refine x_iald (j := 315) C dX6_rides_21 1 rfl rfl (by omega) (by omega) ?_
    refine x_iconst (v := (nI 1)) C dX6_rides_22 (by decide) ?_
    refine x_iadd (x := (s 315)) (y := 1) C dX6_rides_23 ?_
    refine x_iast (j := 315) (x := ((s 315) + 1)) (ws' := (wM G a (upd s 315 ((s 315) + 1)) as_ hi kn sn ik tx ln it wl sp iw rs er)) C dX6_rides_24 1 rfl rfl (by omega) (by omega) rfl ?_
    refine x_aload_n C 1 rfl dX6_rides_25 rfl ?_
    refine x_get (k := 0) (v := .ref (a 1)) C dX6_rides_26 layX6 fl_X6_7 0 rfl rfl (by decide) rfl ?_
    refine x_iload_n C 2 rfl dX6_rides_29 rfl ?_
    refine x_bipush (v := (nI 6)) C dX6_rides_30 (by decide) ?_
    refine x_callSd (As := [.int (nI r), .int (nI 6)]) (rest := [.ref (a 1)]) C dX6_rides_32 (c_X6_ofRider (gX.l X) G r 6 (8 * r + 97) (by omega)) ml_X6_35 st_X6_ofRider in_X6 cd_X6_ofRider hd_X6_ofRider rfl rfl (Nat.le_of_ble_eq_true rfl) ⟨Nat.le_of_ble_eq_true rfl, Nat.le_of_ble_eq_true rfl⟩ [] (wM G a (upd s 315 ((s 315) + 1)) as_ hi kn sn ik tx ln it wl sp iw rs er) rfl (ws' := (wM G a (upd s 315 ((s 315) + 1)) as_ hi kn sn ik tx ln it wl sp iw rs er)) rfl (st' := [.int (nI (8 * r + 97)), .ref (a 1)]) rfl ⟨rfl, rfl⟩ ⟨Nat.le_of_ble_eq_true rfl, Nat.le_of_ble_eq_true rfl⟩ ?_
    refine x_dup2 C rfl rfl dX6_rides_35 ?_
    refine x_iald (j := (8 * r + 97)) C dX6_rides_36 1 rfl rfl (by omega) (by omega) ?_
    refine x_iconst (v := (nI 1)) C dX6_rides_37 (by decide) ?_
    refine x_iadd (x := ((upd s 315 ((s 315) + 1)) (8 * r + 97))) (y := 1) C dX6_rides_38 ?_
    refine x_iast (j := (8 * r + 97)) (x := (((upd s 315 ((s 315) + 1)) (8 * r + 97)) + 1)) (ws' := (wM G a (upd (upd s 315 ((s 315) + 1)) (8 * r + 97) (((upd s 315 ((s 315) + 1)) (8 * r + 97)) + 1)) as_ hi kn sn ik tx ln it wl sp iw rs er)) C dX6_rides_39 1 rfl rfl (by omega) (by omega) rfl ?_
    refine x_iconst (v := (nI 0)) C dX6_rides_40 (by decide) ?_
    exact x_zret C hr bI_nar E dX6_rides_41 (fun _ => 0) (bI_f (by rw [← f_e]; exact fun h9 => h9 (by assumption))).symm (by rw [← f_e, m_rideS, m_rideT, if_pos c1, if_pos c1]; rfl)
