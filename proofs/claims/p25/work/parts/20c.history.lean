def rm_X0_record : Room := { frames := 3, cells := 0, slots := 0, locals := 82 }
set_option maxRecDepth 100000 in
set_option maxHeartbeats 600000 in
theorem c_X0_record0 (l : Launch) (G : gG) (a : Nat → Nat) (q : c_S) (e : Nat → Nat) (b : Nat → Nat → Nat) (sz : Nat) (h0 h1 h2 h3 : c_S)  (hsz : sz ≤ 4) : CT l yX0_record cX0_record 3 none rm_X0_record G [.ref (e 0), .ref (a 0)] ((wQ G a q) ++ ((wH2 G e b 0 sz) ++ ((wQ G (b 0) h0) ++ ((wQ G (b 1) h1) ++ ((wQ G (b 2) h2) ++ ((wQ G (b 3) h3) ++ [])))))) none (fun _ => ((wQ G a q) ++ ((wH2 G e b 1 (min (sz + 1) 4)) ++ ((wQ G (b 0) q) ++ ((wQ G (b 1) h1) ++ ((wQ G (b 2) h2) ++ ((wQ G (b 3) h3) ++ []))))))) := by
  refine gMet (by decide) (Nat.le_of_ble_eq_true rfl) (fun X hX C hr hin E => ?_)
  clear hX
  refine (show gW G X ((wQ G a q) ++ ((wH2 G e b 0 sz) ++ ((wQ G (b 0) h0) ++ ((wQ G (b 1) h1) ++ ((wQ G (b 2) h2) ++ ((wQ G (b 3) h3) ++ [])))))) 0 0 0 [(0, .ref (e 0)), (1, .ref (a 0))] [] from ?_)
  refine x_aload_n C 0 rfl dX0_record_0 rfl ?_
  refine x_aload_n C 0 rfl dX0_record_1 rfl ?_
  refine x_get (k := 1) (v := .int (nI 0)) C dX0_record_2 layX0 fl_X0_22 11 rfl rfl (by decide) rfl ?_
  refine x_callVd (As := [.int (nI 0)]) (rest := []) C dX0_record_5 (c_X0_stateAt (gX.l X) G e b 0 sz 0 (by omega)) ml_X0_25 im_X0_stateAt sl_X0_stateAt in_X0 cd_X0_stateAt hd_X0_stateAt 0 rfl rfl rfl rfl (Nat.le_of_ble_eq_true rfl) ⟨Nat.le_of_ble_eq_true rfl, Nat.le_of_ble_eq_true rfl⟩ (wQ G a q) ((wQ G (b 0) h0) ++ ((wQ G (b 1) h1) ++ ((wQ G (b 2) h2) ++ ((wQ G (b 3) h3) ++ [])))) (by simp only [List.append_assoc, List.nil_append, List.cons_append]) (ws' := ((wQ G a q) ++ ((wH2 G e b 0 sz) ++ ((wQ G (b 0) h0) ++ ((wQ G (b 1) h1) ++ ((wQ G (b 2) h2) ++ ((wQ G (b 3) h3) ++ []))))))) (by simp only [List.append_assoc, List.nil_append, List.cons_append]) (st' := [.ref (b 0 0)]) rfl ⟨rfl, rfl⟩ ⟨Nat.le_of_ble_eq_true rfl, Nat.le_of_ble_eq_true rfl⟩ ?_
  refine x_astore_n (lv' := [(2, .ref (b 0 0)), (0, .ref (e 0)), (1, .ref (a 0))]) C dX0_record_8 rfl (by decide) rfl ?_
  refine x_aload_n C 0 rfl dX0_record_9 rfl ?_
  refine x_ifnull C dX0_record_10 ?_
  refine x_aload_n C 0 rfl dX0_record_13 rfl ?_
  refine x_aload_n C 2 rfl dX0_record_14 rfl ?_
  refine x_call2B (As := [.ref (a 0)]) (rest := []) C dX0_record_15 (c_Q_copyFrom (gX.l X) G (b 0) a h0 q ) ml_X0_29 im_X2_copyFrom sl_X2_copyFrom in_X2 cd_X2_copyFrom hd_X2_copyFrom 0 rfl rfl rfl rfl (Nat.le_of_ble_eq_true rfl) ⟨Nat.le_of_ble_eq_true rfl, Nat.le_of_ble_eq_true rfl⟩ [] (wH2 G e b 0 sz) ((wQ G (b 1) h1) ++ ((wQ G (b 2) h2) ++ ((wQ G (b 3) h3) ++ []))) (by simp only [List.append_assoc, List.nil_append, List.cons_append]) (ws' := ((wQ G a q) ++ ((wH2 G e b 0 sz) ++ ((wQ G (b 0) q) ++ ((wQ G (b 1) h1) ++ ((wQ G (b 2) h2) ++ ((wQ G (b 3) h3) ++ []))))))) (by simp only [List.append_assoc, List.nil_append, List.cons_append]) (st' := []) rfl ⟨rfl, rfl⟩ ⟨Nat.le_of_ble_eq_true rfl, Nat.le_of_ble_eq_true rfl⟩ ?_
  refine x_aload_n C 1 rfl dX0_record_18 rfl ?_
  refine x_aload_n C 1 rfl dX0_record_19 rfl ?_
  refine x_get (k := 1) (v := .int (nI 0)) C dX0_record_20 layX0 fl_X0_22 11 rfl rfl (by decide) rfl ?_
  refine x_iconst (v := (nI 1)) C dX0_record_23 (by decide) ?_
  refine x_iaddN C dX0_record_24 ?_
  refine x_iconst (v := (nI 4)) C dX0_record_25 (by decide) ?_
  refine x_iremN C dX0_record_26 (by omega) (by omega) (by omega) ?_
  refine x_put (k := 1) (ws' := ((wQ G a q) ++ ((wH2 G e b 1 sz) ++ ((wQ G (b 0) q) ++ ((wQ G (b 1) h1) ++ ((wQ G (b 2) h2) ++ ((wQ G (b 3) h3) ++ []))))))) C dX0_record_27 layX0 tyX0 tyX0_ok nmX0 fl_X0_22 11 rfl rfl (by decide) rfl rfl rfl rfl (Nat.le_of_ble_eq_true rfl) rfl ?_
  refine x_aload_n C 1 rfl dX0_record_30 rfl ?_
  refine x_aload_n C 1 rfl dX0_record_31 rfl ?_
  refine x_get (k := 2) (v := .int (nI sz)) C dX0_record_32 layX0 fl_X0_18 11 rfl rfl (by decide) rfl ?_
  refine x_iconst (v := (nI 1)) C dX0_record_35 (by decide) ?_
  refine x_iaddN C dX0_record_36 ?_
  refine x_iconst (v := (nI 4)) C dX0_record_37 (by decide) ?_
  refine x_min (x := (nI (sz + 1))) (y := 4) C dX0_record_38 ml_X0_33 st_J9_min_7cf53 in_J9 cd_J9_min_7cf53 (Nat.le_of_ble_eq_true rfl) ⟨Nat.le_of_ble_eq_true rfl, Nat.le_of_ble_eq_true rfl⟩ ⟨Nat.le_of_ble_eq_true rfl, Nat.le_of_ble_eq_true rfl⟩ ?_
  refine x_top (y := (nI (min (sz + 1) 4))) (by rw [show (4 : Int32) = nI 4 from rfl, mnI_nI (by omega) (by omega)]) ?_
  refine x_put (k := 2) (ws' := ((wQ G a q) ++ ((wH2 G e b 1 (min (sz + 1) 4)) ++ ((wQ G (b 0) q) ++ ((wQ G (b 1) h1) ++ ((wQ G (b 2) h2) ++ ((wQ G (b 3) h3) ++ []))))))) C dX0_record_41 layX0 tyX0 tyX0_ok nmX0 fl_X0_18 11 rfl rfl (by decide) rfl rfl rfl rfl (Nat.le_of_ble_eq_true rfl) rfl ?_
  exact x_vret C hr E dX0_record_44 (fun _ => 0) rfl
set_option maxRecDepth 100000 in
set_option maxHeartbeats 600000 in
theorem c_X0_record1 (l : Launch) (G : gG) (a : Nat → Nat) (q : c_S) (e : Nat → Nat) (b : Nat → Nat → Nat) (sz : Nat) (h0 h1 h2 h3 : c_S)  (hsz : sz ≤ 4) : CT l yX0_record cX0_record 3 none rm_X0_record G [.ref (e 0), .ref (a 0)] ((wQ G a q) ++ ((wH2 G e b 1 sz) ++ ((wQ G (b 0) h0) ++ ((wQ G (b 1) h1) ++ ((wQ G (b 2) h2) ++ ((wQ G (b 3) h3) ++ [])))))) none (fun _ => ((wQ G a q) ++ ((wH2 G e b 2 (min (sz + 1) 4)) ++ ((wQ G (b 0) h0) ++ ((wQ G (b 1) q) ++ ((wQ G (b 2) h2) ++ ((wQ G (b 3) h3) ++ []))))))) := by
  refine gMet (by decide) (Nat.le_of_ble_eq_true rfl) (fun X hX C hr hin E => ?_)
  clear hX
  refine (show gW G X ((wQ G a q) ++ ((wH2 G e b 1 sz) ++ ((wQ G (b 0) h0) ++ ((wQ G (b 1) h1) ++ ((wQ G (b 2) h2) ++ ((wQ G (b 3) h3) ++ [])))))) 0 0 0 [(0, .ref (e 0)), (1, .ref (a 0))] [] from ?_)
  refine x_aload_n C 0 rfl dX0_record_0 rfl ?_
  refine x_aload_n C 0 rfl dX0_record_1 rfl ?_
  refine x_get (k := 1) (v := .int (nI 1)) C dX0_record_2 layX0 fl_X0_22 11 rfl rfl (by decide) rfl ?_
  refine x_callVd (As := [.int (nI 1)]) (rest := []) C dX0_record_5 (c_X0_stateAt (gX.l X) G e b 1 sz 1 (by omega)) ml_X0_25 im_X0_stateAt sl_X0_stateAt in_X0 cd_X0_stateAt hd_X0_stateAt 0 rfl rfl rfl rfl (Nat.le_of_ble_eq_true rfl) ⟨Nat.le_of_ble_eq_true rfl, Nat.le_of_ble_eq_true rfl⟩ (wQ G a q) ((wQ G (b 0) h0) ++ ((wQ G (b 1) h1) ++ ((wQ G (b 2) h2) ++ ((wQ G (b 3) h3) ++ [])))) (by simp only [List.append_assoc, List.nil_append, List.cons_append]) (ws' := ((wQ G a q) ++ ((wH2 G e b 1 sz) ++ ((wQ G (b 0) h0) ++ ((wQ G (b 1) h1) ++ ((wQ G (b 2) h2) ++ ((wQ G (b 3) h3) ++ []))))))) (by simp only [List.append_assoc, List.nil_append, List.cons_append]) (st' := [.ref (b 1 0)]) rfl ⟨rfl, rfl⟩ ⟨Nat.le_of_ble_eq_true rfl, Nat.le_of_ble_eq_true rfl⟩ ?_
  refine x_astore_n (lv' := [(2, .ref (b 1 0)), (0, .ref (e 0)), (1, .ref (a 0))]) C dX0_record_8 rfl (by decide) rfl ?_
  refine x_aload_n C 0 rfl dX0_record_9 rfl ?_
  refine x_ifnull C dX0_record_10 ?_
  refine x_aload_n C 0 rfl dX0_record_13 rfl ?_
  refine x_aload_n C 2 rfl dX0_record_14 rfl ?_
  refine x_call2B (As := [.ref (a 0)]) (rest := []) C dX0_record_15 (c_Q_copyFrom (gX.l X) G (b 1) a h1 q ) ml_X0_29 im_X2_copyFrom sl_X2_copyFrom in_X2 cd_X2_copyFrom hd_X2_copyFrom 0 rfl rfl rfl rfl (Nat.le_of_ble_eq_true rfl) ⟨Nat.le_of_ble_eq_true rfl, Nat.le_of_ble_eq_true rfl⟩ [] ((wH2 G e b 1 sz) ++ (wQ G (b 0) h0)) ((wQ G (b 2) h2) ++ ((wQ G (b 3) h3) ++ [])) (by simp only [List.append_assoc, List.nil_append, List.cons_append]) (ws' := ((wQ G a q) ++ ((wH2 G e b 1 sz) ++ ((wQ G (b 0) h0) ++ ((wQ G (b 1) q) ++ ((wQ G (b 2) h2) ++ ((wQ G (b 3) h3) ++ []))))))) (by simp only [List.append_assoc, List.nil_append, List.cons_append]) (st' := []) rfl ⟨rfl, rfl⟩ ⟨Nat.le_of_ble_eq_true rfl, Nat.le_of_ble_eq_true rfl⟩ ?_
  refine x_aload_n C 1 rfl dX0_record_18 rfl ?_
  refine x_aload_n C 1 rfl dX0_record_19 rfl ?_
  refine x_get (k := 1) (v := .int (nI 1)) C dX0_record_20 layX0 fl_X0_22 11 rfl rfl (by decide) rfl ?_
  refine x_iconst (v := (nI 1)) C dX0_record_23 (by decide) ?_
  refine x_iaddN C dX0_record_24 ?_
  refine x_iconst (v := (nI 4)) C dX0_record_25 (by decide) ?_
  refine x_iremN C dX0_record_26 (by omega) (by omega) (by omega) ?_
  refine x_put (k := 1) (ws' := ((wQ G a q) ++ ((wH2 G e b 2 sz) ++ ((wQ G (b 0) h0) ++ ((wQ G (b 1) q) ++ ((wQ G (b 2) h2) ++ ((wQ G (b 3) h3) ++ []))))))) C dX0_record_27 layX0 tyX0 tyX0_ok nmX0 fl_X0_22 11 rfl rfl (by decide) rfl rfl rfl rfl (Nat.le_of_ble_eq_true rfl) rfl ?_
  refine x_aload_n C 1 rfl dX0_record_30 rfl ?_
  refine x_aload_n C 1 rfl dX0_record_31 rfl ?_
  refine x_get (k := 2) (v := .int (nI sz)) C dX0_record_32 layX0 fl_X0_18 11 rfl rfl (by decide) rfl ?_
  refine x_iconst (v := (nI 1)) C dX0_record_35 (by decide) ?_
  refine x_iaddN C dX0_record_36 ?_
  refine x_iconst (v := (nI 4)) C dX0_record_37 (by decide) ?_
  refine x_min (x := (nI (sz + 1))) (y := 4) C dX0_record_38 ml_X0_33 st_J9_min_7cf53 in_J9 cd_J9_min_7cf53 (Nat.le_of_ble_eq_true rfl) ⟨Nat.le_of_ble_eq_true rfl, Nat.le_of_ble_eq_true rfl⟩ ⟨Nat.le_of_ble_eq_true rfl, Nat.le_of_ble_eq_true rfl⟩ ?_
  refine x_top (y := (nI (min (sz + 1) 4))) (by rw [show (4 : Int32) = nI 4 from rfl, mnI_nI (by omega) (by omega)]) ?_
  refine x_put (k := 2) (ws' := ((wQ G a q) ++ ((wH2 G e b 2 (min (sz + 1) 4)) ++ ((wQ G (b 0) h0) ++ ((wQ G (b 1) q) ++ ((wQ G (b 2) h2) ++ ((wQ G (b 3) h3) ++ []))))))) C dX0_record_41 layX0 tyX0 tyX0_ok nmX0 fl_X0_18 11 rfl rfl (by decide) rfl rfl rfl rfl (Nat.le_of_ble_eq_true rfl) rfl ?_
  exact x_vret C hr E dX0_record_44 (fun _ => 0) rfl
set_option maxRecDepth 100000 in
set_option maxHeartbeats 600000 in
theorem c_X0_record2 (l : Launch) (G : gG) (a : Nat → Nat) (q : c_S) (e : Nat → Nat) (b : Nat → Nat → Nat) (sz : Nat) (h0 h1 h2 h3 : c_S)  (hsz : sz ≤ 4) : CT l yX0_record cX0_record 3 none rm_X0_record G [.ref (e 0), .ref (a 0)] ((wQ G a q) ++ ((wH2 G e b 2 sz) ++ ((wQ G (b 0) h0) ++ ((wQ G (b 1) h1) ++ ((wQ G (b 2) h2) ++ ((wQ G (b 3) h3) ++ [])))))) none (fun _ => ((wQ G a q) ++ ((wH2 G e b 3 (min (sz + 1) 4)) ++ ((wQ G (b 0) h0) ++ ((wQ G (b 1) h1) ++ ((wQ G (b 2) q) ++ ((wQ G (b 3) h3) ++ []))))))) := by
  refine gMet (by decide) (Nat.le_of_ble_eq_true rfl) (fun X hX C hr hin E => ?_)
  clear hX
  refine (show gW G X ((wQ G a q) ++ ((wH2 G e b 2 sz) ++ ((wQ G (b 0) h0) ++ ((wQ G (b 1) h1) ++ ((wQ G (b 2) h2) ++ ((wQ G (b 3) h3) ++ [])))))) 0 0 0 [(0, .ref (e 0)), (1, .ref (a 0))] [] from ?_)
  refine x_aload_n C 0 rfl dX0_record_0 rfl ?_
  refine x_aload_n C 0 rfl dX0_record_1 rfl ?_
  refine x_get (k := 1) (v := .int (nI 2)) C dX0_record_2 layX0 fl_X0_22 11 rfl rfl (by decide) rfl ?_
  refine x_callVd (As := [.int (nI 2)]) (rest := []) C dX0_record_5 (c_X0_stateAt (gX.l X) G e b 2 sz 2 (by omega)) ml_X0_25 im_X0_stateAt sl_X0_stateAt in_X0 cd_X0_stateAt hd_X0_stateAt 0 rfl rfl rfl rfl (Nat.le_of_ble_eq_true rfl) ⟨Nat.le_of_ble_eq_true rfl, Nat.le_of_ble_eq_true rfl⟩ (wQ G a q) ((wQ G (b 0) h0) ++ ((wQ G (b 1) h1) ++ ((wQ G (b 2) h2) ++ ((wQ G (b 3) h3) ++ [])))) (by simp only [List.append_assoc, List.nil_append, List.cons_append]) (ws' := ((wQ G a q) ++ ((wH2 G e b 2 sz) ++ ((wQ G (b 0) h0) ++ ((wQ G (b 1) h1) ++ ((wQ G (b 2) h2) ++ ((wQ G (b 3) h3) ++ []))))))) (by simp only [List.append_assoc, List.nil_append, List.cons_append]) (st' := [.ref (b 2 0)]) rfl ⟨rfl, rfl⟩ ⟨Nat.le_of_ble_eq_true rfl, Nat.le_of_ble_eq_true rfl⟩ ?_
  refine x_astore_n (lv' := [(2, .ref (b 2 0)), (0, .ref (e 0)), (1, .ref (a 0))]) C dX0_record_8 rfl (by decide) rfl ?_
  refine x_aload_n C 0 rfl dX0_record_9 rfl ?_
  refine x_ifnull C dX0_record_10 ?_
  refine x_aload_n C 0 rfl dX0_record_13 rfl ?_
  refine x_aload_n C 2 rfl dX0_record_14 rfl ?_
  refine x_call2B (As := [.ref (a 0)]) (rest := []) C dX0_record_15 (c_Q_copyFrom (gX.l X) G (b 2) a h2 q ) ml_X0_29 im_X2_copyFrom sl_X2_copyFrom in_X2 cd_X2_copyFrom hd_X2_copyFrom 0 rfl rfl rfl rfl (Nat.le_of_ble_eq_true rfl) ⟨Nat.le_of_ble_eq_true rfl, Nat.le_of_ble_eq_true rfl⟩ [] ((wH2 G e b 2 sz) ++ ((wQ G (b 0) h0) ++ (wQ G (b 1) h1))) ((wQ G (b 3) h3) ++ []) (by simp only [List.append_assoc, List.nil_append, List.cons_append]) (ws' := ((wQ G a q) ++ ((wH2 G e b 2 sz) ++ ((wQ G (b 0) h0) ++ ((wQ G (b 1) h1) ++ ((wQ G (b 2) q) ++ ((wQ G (b 3) h3) ++ []))))))) (by simp only [List.append_assoc, List.nil_append, List.cons_append]) (st' := []) rfl ⟨rfl, rfl⟩ ⟨Nat.le_of_ble_eq_true rfl, Nat.le_of_ble_eq_true rfl⟩ ?_
  refine x_aload_n C 1 rfl dX0_record_18 rfl ?_
  refine x_aload_n C 1 rfl dX0_record_19 rfl ?_
  refine x_get (k := 1) (v := .int (nI 2)) C dX0_record_20 layX0 fl_X0_22 11 rfl rfl (by decide) rfl ?_
  refine x_iconst (v := (nI 1)) C dX0_record_23 (by decide) ?_
  refine x_iaddN C dX0_record_24 ?_
  refine x_iconst (v := (nI 4)) C dX0_record_25 (by decide) ?_
  refine x_iremN C dX0_record_26 (by omega) (by omega) (by omega) ?_
  refine x_put (k := 1) (ws' := ((wQ G a q) ++ ((wH2 G e b 3 sz) ++ ((wQ G (b 0) h0) ++ ((wQ G (b 1) h1) ++ ((wQ G (b 2) q) ++ ((wQ G (b 3) h3) ++ []))))))) C dX0_record_27 layX0 tyX0 tyX0_ok nmX0 fl_X0_22 11 rfl rfl (by decide) rfl rfl rfl rfl (Nat.le_of_ble_eq_true rfl) rfl ?_
  refine x_aload_n C 1 rfl dX0_record_30 rfl ?_
  refine x_aload_n C 1 rfl dX0_record_31 rfl ?_
  refine x_get (k := 2) (v := .int (nI sz)) C dX0_record_32 layX0 fl_X0_18 11 rfl rfl (by decide) rfl ?_
  refine x_iconst (v := (nI 1)) C dX0_record_35 (by decide) ?_
  refine x_iaddN C dX0_record_36 ?_
  refine x_iconst (v := (nI 4)) C dX0_record_37 (by decide) ?_
  refine x_min (x := (nI (sz + 1))) (y := 4) C dX0_record_38 ml_X0_33 st_J9_min_7cf53 in_J9 cd_J9_min_7cf53 (Nat.le_of_ble_eq_true rfl) ⟨Nat.le_of_ble_eq_true rfl, Nat.le_of_ble_eq_true rfl⟩ ⟨Nat.le_of_ble_eq_true rfl, Nat.le_of_ble_eq_true rfl⟩ ?_
  refine x_top (y := (nI (min (sz + 1) 4))) (by rw [show (4 : Int32) = nI 4 from rfl, mnI_nI (by omega) (by omega)]) ?_
  refine x_put (k := 2) (ws' := ((wQ G a q) ++ ((wH2 G e b 3 (min (sz + 1) 4)) ++ ((wQ G (b 0) h0) ++ ((wQ G (b 1) h1) ++ ((wQ G (b 2) q) ++ ((wQ G (b 3) h3) ++ []))))))) C dX0_record_41 layX0 tyX0 tyX0_ok nmX0 fl_X0_18 11 rfl rfl (by decide) rfl rfl rfl rfl (Nat.le_of_ble_eq_true rfl) rfl ?_
  exact x_vret C hr E dX0_record_44 (fun _ => 0) rfl
set_option maxRecDepth 100000 in
set_option maxHeartbeats 600000 in
theorem c_X0_record3 (l : Launch) (G : gG) (a : Nat → Nat) (q : c_S) (e : Nat → Nat) (b : Nat → Nat → Nat) (sz : Nat) (h0 h1 h2 h3 : c_S)  (hsz : sz ≤ 4) : CT l yX0_record cX0_record 3 none rm_X0_record G [.ref (e 0), .ref (a 0)] ((wQ G a q) ++ ((wH2 G e b 3 sz) ++ ((wQ G (b 0) h0) ++ ((wQ G (b 1) h1) ++ ((wQ G (b 2) h2) ++ ((wQ G (b 3) h3) ++ [])))))) none (fun _ => ((wQ G a q) ++ ((wH2 G e b 0 (min (sz + 1) 4)) ++ ((wQ G (b 0) h0) ++ ((wQ G (b 1) h1) ++ ((wQ G (b 2) h2) ++ ((wQ G (b 3) q) ++ []))))))) := by
  refine gMet (by decide) (Nat.le_of_ble_eq_true rfl) (fun X hX C hr hin E => ?_)
  clear hX
  refine (show gW G X ((wQ G a q) ++ ((wH2 G e b 3 sz) ++ ((wQ G (b 0) h0) ++ ((wQ G (b 1) h1) ++ ((wQ G (b 2) h2) ++ ((wQ G (b 3) h3) ++ [])))))) 0 0 0 [(0, .ref (e 0)), (1, .ref (a 0))] [] from ?_)
  refine x_aload_n C 0 rfl dX0_record_0 rfl ?_
  refine x_aload_n C 0 rfl dX0_record_1 rfl ?_
  refine x_get (k := 1) (v := .int (nI 3)) C dX0_record_2 layX0 fl_X0_22 11 rfl rfl (by decide) rfl ?_
  refine x_callVd (As := [.int (nI 3)]) (rest := []) C dX0_record_5 (c_X0_stateAt (gX.l X) G e b 3 sz 3 (by omega)) ml_X0_25 im_X0_stateAt sl_X0_stateAt in_X0 cd_X0_stateAt hd_X0_stateAt 0 rfl rfl rfl rfl (Nat.le_of_ble_eq_true rfl) ⟨Nat.le_of_ble_eq_true rfl, Nat.le_of_ble_eq_true rfl⟩ (wQ G a q) ((wQ G (b 0) h0) ++ ((wQ G (b 1) h1) ++ ((wQ G (b 2) h2) ++ ((wQ G (b 3) h3) ++ [])))) (by simp only [List.append_assoc, List.nil_append, List.cons_append]) (ws' := ((wQ G a q) ++ ((wH2 G e b 3 sz) ++ ((wQ G (b 0) h0) ++ ((wQ G (b 1) h1) ++ ((wQ G (b 2) h2) ++ ((wQ G (b 3) h3) ++ []))))))) (by simp only [List.append_assoc, List.nil_append, List.cons_append]) (st' := [.ref (b 3 0)]) rfl ⟨rfl, rfl⟩ ⟨Nat.le_of_ble_eq_true rfl, Nat.le_of_ble_eq_true rfl⟩ ?_
  refine x_astore_n (lv' := [(2, .ref (b 3 0)), (0, .ref (e 0)), (1, .ref (a 0))]) C dX0_record_8 rfl (by decide) rfl ?_
  refine x_aload_n C 0 rfl dX0_record_9 rfl ?_
  refine x_ifnull C dX0_record_10 ?_
  refine x_aload_n C 0 rfl dX0_record_13 rfl ?_
  refine x_aload_n C 2 rfl dX0_record_14 rfl ?_
  refine x_call2B (As := [.ref (a 0)]) (rest := []) C dX0_record_15 (c_Q_copyFrom (gX.l X) G (b 3) a h3 q ) ml_X0_29 im_X2_copyFrom sl_X2_copyFrom in_X2 cd_X2_copyFrom hd_X2_copyFrom 0 rfl rfl rfl rfl (Nat.le_of_ble_eq_true rfl) ⟨Nat.le_of_ble_eq_true rfl, Nat.le_of_ble_eq_true rfl⟩ [] ((wH2 G e b 3 sz) ++ ((wQ G (b 0) h0) ++ ((wQ G (b 1) h1) ++ (wQ G (b 2) h2)))) [] (by simp only [List.append_assoc, List.nil_append, List.cons_append]) (ws' := ((wQ G a q) ++ ((wH2 G e b 3 sz) ++ ((wQ G (b 0) h0) ++ ((wQ G (b 1) h1) ++ ((wQ G (b 2) h2) ++ ((wQ G (b 3) q) ++ []))))))) (by simp only [List.append_assoc, List.nil_append, List.cons_append]) (st' := []) rfl ⟨rfl, rfl⟩ ⟨Nat.le_of_ble_eq_true rfl, Nat.le_of_ble_eq_true rfl⟩ ?_
  refine x_aload_n C 1 rfl dX0_record_18 rfl ?_
  refine x_aload_n C 1 rfl dX0_record_19 rfl ?_
  refine x_get (k := 1) (v := .int (nI 3)) C dX0_record_20 layX0 fl_X0_22 11 rfl rfl (by decide) rfl ?_
  refine x_iconst (v := (nI 1)) C dX0_record_23 (by decide) ?_
  refine x_iaddN C dX0_record_24 ?_
  refine x_iconst (v := (nI 4)) C dX0_record_25 (by decide) ?_
  refine x_iremN C dX0_record_26 (by omega) (by omega) (by omega) ?_
  refine x_put (k := 1) (ws' := ((wQ G a q) ++ ((wH2 G e b 0 sz) ++ ((wQ G (b 0) h0) ++ ((wQ G (b 1) h1) ++ ((wQ G (b 2) h2) ++ ((wQ G (b 3) q) ++ []))))))) C dX0_record_27 layX0 tyX0 tyX0_ok nmX0 fl_X0_22 11 rfl rfl (by decide) rfl rfl rfl rfl (Nat.le_of_ble_eq_true rfl) rfl ?_
  refine x_aload_n C 1 rfl dX0_record_30 rfl ?_
  refine x_aload_n C 1 rfl dX0_record_31 rfl ?_
  refine x_get (k := 2) (v := .int (nI sz)) C dX0_record_32 layX0 fl_X0_18 11 rfl rfl (by decide) rfl ?_
  refine x_iconst (v := (nI 1)) C dX0_record_35 (by decide) ?_
  refine x_iaddN C dX0_record_36 ?_
  refine x_iconst (v := (nI 4)) C dX0_record_37 (by decide) ?_
  refine x_min (x := (nI (sz + 1))) (y := 4) C dX0_record_38 ml_X0_33 st_J9_min_7cf53 in_J9 cd_J9_min_7cf53 (Nat.le_of_ble_eq_true rfl) ⟨Nat.le_of_ble_eq_true rfl, Nat.le_of_ble_eq_true rfl⟩ ⟨Nat.le_of_ble_eq_true rfl, Nat.le_of_ble_eq_true rfl⟩ ?_
  refine x_top (y := (nI (min (sz + 1) 4))) (by rw [show (4 : Int32) = nI 4 from rfl, mnI_nI (by omega) (by omega)]) ?_
  refine x_put (k := 2) (ws' := ((wQ G a q) ++ ((wH2 G e b 0 (min (sz + 1) 4)) ++ ((wQ G (b 0) h0) ++ ((wQ G (b 1) h1) ++ ((wQ G (b 2) h2) ++ ((wQ G (b 3) q) ++ []))))))) C dX0_record_41 layX0 tyX0 tyX0_ok nmX0 fl_X0_18 11 rfl rfl (by decide) rfl rfl rfl rfl (Nat.le_of_ble_eq_true rfl) rfl ?_
  exact x_vret C hr E dX0_record_44 (fun _ => 0) rfl
def rm_X0_takeBack : Room := { frames := 3, cells := 0, slots := 0, locals := 82 }
set_option maxRecDepth 100000 in
set_option maxHeartbeats 600000 in
theorem c_X0_takeBack0 (l : Launch) (G : gG) (a : Nat → Nat) (q : c_S) (e : Nat → Nat) (b : Nat → Nat → Nat) (sz : Nat) (h0 h1 h2 h3 : c_S)  (hsz : sz ≤ 4) (h1z : 1 ≤ sz) : CT l yX0_takeBack cX0_takeBack 3 none rm_X0_takeBack G [.ref (e 0), .ref (a 0)] ((wQ G a q) ++ ((wH2 G e b 0 sz) ++ ((wQ G (b 0) h0) ++ ((wQ G (b 1) h1) ++ ((wQ G (b 2) h2) ++ ((wQ G (b 3) h3) ++ [])))))) none (fun _ => ((wQ G a h3) ++ ((wH2 G e b 3 (sz - 1)) ++ ((wQ G (b 0) h0) ++ ((wQ G (b 1) h1) ++ ((wQ G (b 2) h2) ++ ((wQ G (b 3) h3) ++ []))))))) := by
  refine gMet (by decide) (Nat.le_of_ble_eq_true rfl) (fun X hX C hr hin E => ?_)
  clear hX
  refine (show gW G X ((wQ G a q) ++ ((wH2 G e b 0 sz) ++ ((wQ G (b 0) h0) ++ ((wQ G (b 1) h1) ++ ((wQ G (b 2) h2) ++ ((wQ G (b 3) h3) ++ [])))))) 0 0 0 [(0, .ref (e 0)), (1, .ref (a 0))] [] from ?_)
  refine x_aload_n C 0 rfl dX0_takeBack_0 rfl ?_
  refine x_aload_n C 0 rfl dX0_takeBack_1 rfl ?_
  refine x_get (k := 1) (v := .int (nI 0)) C dX0_takeBack_2 layX0 fl_X0_22 11 rfl rfl (by decide) rfl ?_
  refine x_iconst (v := (nI 4)) C dX0_takeBack_5 (by decide) ?_
  refine x_iaddN C dX0_takeBack_6 ?_
  refine x_iconst (v := (nI 1)) C dX0_takeBack_7 (by decide) ?_
  refine x_isubN C dX0_takeBack_8 (by omega) ?_
  refine x_iconst (v := (nI 4)) C dX0_takeBack_9 (by decide) ?_
  refine x_iremN C dX0_takeBack_10 (by omega) (by omega) (by omega) ?_
  refine x_put (k := 1) (ws' := ((wQ G a q) ++ ((wH2 G e b 3 sz) ++ ((wQ G (b 0) h0) ++ ((wQ G (b 1) h1) ++ ((wQ G (b 2) h2) ++ ((wQ G (b 3) h3) ++ []))))))) C dX0_takeBack_11 layX0 tyX0 tyX0_ok nmX0 fl_X0_22 11 rfl rfl (by decide) rfl rfl rfl rfl (Nat.le_of_ble_eq_true rfl) rfl ?_
  refine x_aload_n C 0 rfl dX0_takeBack_14 rfl ?_
  refine x_aload_n C 0 rfl dX0_takeBack_15 rfl ?_
  refine x_get (k := 2) (v := .int (nI sz)) C dX0_takeBack_16 layX0 fl_X0_18 11 rfl rfl (by decide) rfl ?_
  refine x_iconst (v := (nI 1)) C dX0_takeBack_19 (by decide) ?_
  refine x_isubN C dX0_takeBack_20 (by omega) ?_
  refine x_iconst (v := (nI 0)) C dX0_takeBack_21 (by decide) ?_
  refine x_max (x := (nI (sz - 1))) (y := 0) C dX0_takeBack_22 ml_X0_39 st_J9_max_7cf53 in_J9 cd_J9_max_7cf53 (Nat.le_of_ble_eq_true rfl) ⟨Nat.le_of_ble_eq_true rfl, Nat.le_of_ble_eq_true rfl⟩ ⟨Nat.le_of_ble_eq_true rfl, Nat.le_of_ble_eq_true rfl⟩ ?_
  refine x_top (y := (nI (sz - 1))) (by rw [show (0 : Int32) = nI 0 from rfl, mxI_nI (by omega) (by omega), Nat.max_eq_left (by omega)]) ?_
  refine x_put (k := 2) (ws' := ((wQ G a q) ++ ((wH2 G e b 3 (sz - 1)) ++ ((wQ G (b 0) h0) ++ ((wQ G (b 1) h1) ++ ((wQ G (b 2) h2) ++ ((wQ G (b 3) h3) ++ []))))))) C dX0_takeBack_25 layX0 tyX0 tyX0_ok nmX0 fl_X0_18 11 rfl rfl (by decide) rfl rfl rfl rfl (Nat.le_of_ble_eq_true rfl) rfl ?_
  refine x_aload_n C 0 rfl dX0_takeBack_28 rfl ?_
  refine x_aload_n C 0 rfl dX0_takeBack_29 rfl ?_
  refine x_get (k := 1) (v := .int (nI 3)) C dX0_takeBack_30 layX0 fl_X0_22 11 rfl rfl (by decide) rfl ?_
  refine x_callVd (As := [.int (nI 3)]) (rest := []) C dX0_takeBack_33 (c_X0_stateAt (gX.l X) G e b 3 (sz - 1) 3 (by omega)) ml_X0_25 im_X0_stateAt sl_X0_stateAt in_X0 cd_X0_stateAt hd_X0_stateAt 0 rfl rfl rfl rfl (Nat.le_of_ble_eq_true rfl) ⟨Nat.le_of_ble_eq_true rfl, Nat.le_of_ble_eq_true rfl⟩ (wQ G a q) ((wQ G (b 0) h0) ++ ((wQ G (b 1) h1) ++ ((wQ G (b 2) h2) ++ ((wQ G (b 3) h3) ++ [])))) (by simp only [List.append_assoc, List.nil_append, List.cons_append]) (ws' := ((wQ G a q) ++ ((wH2 G e b 3 (sz - 1)) ++ ((wQ G (b 0) h0) ++ ((wQ G (b 1) h1) ++ ((wQ G (b 2) h2) ++ ((wQ G (b 3) h3) ++ []))))))) (by simp only [List.append_assoc, List.nil_append, List.cons_append]) (st' := [.ref (b 3 0)]) rfl ⟨rfl, rfl⟩ ⟨Nat.le_of_ble_eq_true rfl, Nat.le_of_ble_eq_true rfl⟩ ?_
  refine x_astore_n (lv' := [(2, .ref (b 3 0)), (0, .ref (e 0)), (1, .ref (a 0))]) C dX0_takeBack_36 rfl (by decide) rfl ?_
  refine x_aload_n C 0 rfl dX0_takeBack_37 rfl ?_
  refine x_ifnull C dX0_takeBack_38 ?_
  refine x_aload_n C 2 rfl dX0_takeBack_41 rfl ?_
  refine x_aload_n C 0 rfl dX0_takeBack_42 rfl ?_
  refine x_call2A (As := [.ref (b 3 0)]) (rest := []) C dX0_takeBack_43 (c_Q_copyFrom (gX.l X) G a (b 3) q h3 ) ml_X0_29 im_X2_copyFrom sl_X2_copyFrom in_X2 cd_X2_copyFrom hd_X2_copyFrom 0 rfl rfl rfl rfl (Nat.le_of_ble_eq_true rfl) ⟨Nat.le_of_ble_eq_true rfl, Nat.le_of_ble_eq_true rfl⟩ [] ((wH2 G e b 3 (sz - 1)) ++ ((wQ G (b 0) h0) ++ ((wQ G (b 1) h1) ++ (wQ G (b 2) h2)))) [] (by simp only [List.append_assoc, List.nil_append, List.cons_append]) (ws' := ((wQ G a h3) ++ ((wH2 G e b 3 (sz - 1)) ++ ((wQ G (b 0) h0) ++ ((wQ G (b 1) h1) ++ ((wQ G (b 2) h2) ++ ((wQ G (b 3) h3) ++ []))))))) (by simp only [List.append_assoc, List.nil_append, List.cons_append]) (st' := []) rfl ⟨rfl, rfl⟩ ⟨Nat.le_of_ble_eq_true rfl, Nat.le_of_ble_eq_true rfl⟩ ?_
  exact x_vret C hr E dX0_takeBack_46 (fun _ => 0) rfl
set_option maxRecDepth 100000 in
set_option maxHeartbeats 600000 in
theorem c_X0_takeBack1 (l : Launch) (G : gG) (a : Nat → Nat) (q : c_S) (e : Nat → Nat) (b : Nat → Nat → Nat) (sz : Nat) (h0 h1 h2 h3 : c_S)  (hsz : sz ≤ 4) (h1z : 1 ≤ sz) : CT l yX0_takeBack cX0_takeBack 3 none rm_X0_takeBack G [.ref (e 0), .ref (a 0)] ((wQ G a q) ++ ((wH2 G e b 1 sz) ++ ((wQ G (b 0) h0) ++ ((wQ G (b 1) h1) ++ ((wQ G (b 2) h2) ++ ((wQ G (b 3) h3) ++ [])))))) none (fun _ => ((wQ G a h0) ++ ((wH2 G e b 0 (sz - 1)) ++ ((wQ G (b 0) h0) ++ ((wQ G (b 1) h1) ++ ((wQ G (b 2) h2) ++ ((wQ G (b 3) h3) ++ []))))))) := by
  refine gMet (by decide) (Nat.le_of_ble_eq_true rfl) (fun X hX C hr hin E => ?_)
  clear hX
  refine (show gW G X ((wQ G a q) ++ ((wH2 G e b 1 sz) ++ ((wQ G (b 0) h0) ++ ((wQ G (b 1) h1) ++ ((wQ G (b 2) h2) ++ ((wQ G (b 3) h3) ++ [])))))) 0 0 0 [(0, .ref (e 0)), (1, .ref (a 0))] [] from ?_)
  refine x_aload_n C 0 rfl dX0_takeBack_0 rfl ?_
  refine x_aload_n C 0 rfl dX0_takeBack_1 rfl ?_
  refine x_get (k := 1) (v := .int (nI 1)) C dX0_takeBack_2 layX0 fl_X0_22 11 rfl rfl (by decide) rfl ?_
  refine x_iconst (v := (nI 4)) C dX0_takeBack_5 (by decide) ?_
  refine x_iaddN C dX0_takeBack_6 ?_
  refine x_iconst (v := (nI 1)) C dX0_takeBack_7 (by decide) ?_
  refine x_isubN C dX0_takeBack_8 (by omega) ?_
  refine x_iconst (v := (nI 4)) C dX0_takeBack_9 (by decide) ?_
  refine x_iremN C dX0_takeBack_10 (by omega) (by omega) (by omega) ?_
  refine x_put (k := 1) (ws' := ((wQ G a q) ++ ((wH2 G e b 0 sz) ++ ((wQ G (b 0) h0) ++ ((wQ G (b 1) h1) ++ ((wQ G (b 2) h2) ++ ((wQ G (b 3) h3) ++ []))))))) C dX0_takeBack_11 layX0 tyX0 tyX0_ok nmX0 fl_X0_22 11 rfl rfl (by decide) rfl rfl rfl rfl (Nat.le_of_ble_eq_true rfl) rfl ?_
  refine x_aload_n C 0 rfl dX0_takeBack_14 rfl ?_
  refine x_aload_n C 0 rfl dX0_takeBack_15 rfl ?_
  refine x_get (k := 2) (v := .int (nI sz)) C dX0_takeBack_16 layX0 fl_X0_18 11 rfl rfl (by decide) rfl ?_
  refine x_iconst (v := (nI 1)) C dX0_takeBack_19 (by decide) ?_
  refine x_isubN C dX0_takeBack_20 (by omega) ?_
  refine x_iconst (v := (nI 0)) C dX0_takeBack_21 (by decide) ?_
  refine x_max (x := (nI (sz - 1))) (y := 0) C dX0_takeBack_22 ml_X0_39 st_J9_max_7cf53 in_J9 cd_J9_max_7cf53 (Nat.le_of_ble_eq_true rfl) ⟨Nat.le_of_ble_eq_true rfl, Nat.le_of_ble_eq_true rfl⟩ ⟨Nat.le_of_ble_eq_true rfl, Nat.le_of_ble_eq_true rfl⟩ ?_
  refine x_top (y := (nI (sz - 1))) (by rw [show (0 : Int32) = nI 0 from rfl, mxI_nI (by omega) (by omega), Nat.max_eq_left (by omega)]) ?_
  refine x_put (k := 2) (ws' := ((wQ G a q) ++ ((wH2 G e b 0 (sz - 1)) ++ ((wQ G (b 0) h0) ++ ((wQ G (b 1) h1) ++ ((wQ G (b 2) h2) ++ ((wQ G (b 3) h3) ++ []))))))) C dX0_takeBack_25 layX0 tyX0 tyX0_ok nmX0 fl_X0_18 11 rfl rfl (by decide) rfl rfl rfl rfl (Nat.le_of_ble_eq_true rfl) rfl ?_
  refine x_aload_n C 0 rfl dX0_takeBack_28 rfl ?_
  refine x_aload_n C 0 rfl dX0_takeBack_29 rfl ?_
  refine x_get (k := 1) (v := .int (nI 0)) C dX0_takeBack_30 layX0 fl_X0_22 11 rfl rfl (by decide) rfl ?_
  refine x_callVd (As := [.int (nI 0)]) (rest := []) C dX0_takeBack_33 (c_X0_stateAt (gX.l X) G e b 0 (sz - 1) 0 (by omega)) ml_X0_25 im_X0_stateAt sl_X0_stateAt in_X0 cd_X0_stateAt hd_X0_stateAt 0 rfl rfl rfl rfl (Nat.le_of_ble_eq_true rfl) ⟨Nat.le_of_ble_eq_true rfl, Nat.le_of_ble_eq_true rfl⟩ (wQ G a q) ((wQ G (b 0) h0) ++ ((wQ G (b 1) h1) ++ ((wQ G (b 2) h2) ++ ((wQ G (b 3) h3) ++ [])))) (by simp only [List.append_assoc, List.nil_append, List.cons_append]) (ws' := ((wQ G a q) ++ ((wH2 G e b 0 (sz - 1)) ++ ((wQ G (b 0) h0) ++ ((wQ G (b 1) h1) ++ ((wQ G (b 2) h2) ++ ((wQ G (b 3) h3) ++ []))))))) (by simp only [List.append_assoc, List.nil_append, List.cons_append]) (st' := [.ref (b 0 0)]) rfl ⟨rfl, rfl⟩ ⟨Nat.le_of_ble_eq_true rfl, Nat.le_of_ble_eq_true rfl⟩ ?_
  refine x_astore_n (lv' := [(2, .ref (b 0 0)), (0, .ref (e 0)), (1, .ref (a 0))]) C dX0_takeBack_36 rfl (by decide) rfl ?_
  refine x_aload_n C 0 rfl dX0_takeBack_37 rfl ?_
  refine x_ifnull C dX0_takeBack_38 ?_
  refine x_aload_n C 2 rfl dX0_takeBack_41 rfl ?_
  refine x_aload_n C 0 rfl dX0_takeBack_42 rfl ?_
  refine x_call2A (As := [.ref (b 0 0)]) (rest := []) C dX0_takeBack_43 (c_Q_copyFrom (gX.l X) G a (b 0) q h0 ) ml_X0_29 im_X2_copyFrom sl_X2_copyFrom in_X2 cd_X2_copyFrom hd_X2_copyFrom 0 rfl rfl rfl rfl (Nat.le_of_ble_eq_true rfl) ⟨Nat.le_of_ble_eq_true rfl, Nat.le_of_ble_eq_true rfl⟩ [] (wH2 G e b 0 (sz - 1)) ((wQ G (b 1) h1) ++ ((wQ G (b 2) h2) ++ ((wQ G (b 3) h3) ++ []))) (by simp only [List.append_assoc, List.nil_append, List.cons_append]) (ws' := ((wQ G a h0) ++ ((wH2 G e b 0 (sz - 1)) ++ ((wQ G (b 0) h0) ++ ((wQ G (b 1) h1) ++ ((wQ G (b 2) h2) ++ ((wQ G (b 3) h3) ++ []))))))) (by simp only [List.append_assoc, List.nil_append, List.cons_append]) (st' := []) rfl ⟨rfl, rfl⟩ ⟨Nat.le_of_ble_eq_true rfl, Nat.le_of_ble_eq_true rfl⟩ ?_
  exact x_vret C hr E dX0_takeBack_46 (fun _ => 0) rfl
set_option maxRecDepth 100000 in
set_option maxHeartbeats 600000 in
theorem c_X0_takeBack2 (l : Launch) (G : gG) (a : Nat → Nat) (q : c_S) (e : Nat → Nat) (b : Nat → Nat → Nat) (sz : Nat) (h0 h1 h2 h3 : c_S)  (hsz : sz ≤ 4) (h1z : 1 ≤ sz) : CT l yX0_takeBack cX0_takeBack 3 none rm_X0_takeBack G [.ref (e 0), .ref (a 0)] ((wQ G a q) ++ ((wH2 G e b 2 sz) ++ ((wQ G (b 0) h0) ++ ((wQ G (b 1) h1) ++ ((wQ G (b 2) h2) ++ ((wQ G (b 3) h3) ++ [])))))) none (fun _ => ((wQ G a h1) ++ ((wH2 G e b 1 (sz - 1)) ++ ((wQ G (b 0) h0) ++ ((wQ G (b 1) h1) ++ ((wQ G (b 2) h2) ++ ((wQ G (b 3) h3) ++ []))))))) := by
  refine gMet (by decide) (Nat.le_of_ble_eq_true rfl) (fun X hX C hr hin E => ?_)
  clear hX
  refine (show gW G X ((wQ G a q) ++ ((wH2 G e b 2 sz) ++ ((wQ G (b 0) h0) ++ ((wQ G (b 1) h1) ++ ((wQ G (b 2) h2) ++ ((wQ G (b 3) h3) ++ [])))))) 0 0 0 [(0, .ref (e 0)), (1, .ref (a 0))] [] from ?_)
  refine x_aload_n C 0 rfl dX0_takeBack_0 rfl ?_
  refine x_aload_n C 0 rfl dX0_takeBack_1 rfl ?_
  refine x_get (k := 1) (v := .int (nI 2)) C dX0_takeBack_2 layX0 fl_X0_22 11 rfl rfl (by decide) rfl ?_
  refine x_iconst (v := (nI 4)) C dX0_takeBack_5 (by decide) ?_
  refine x_iaddN C dX0_takeBack_6 ?_
  refine x_iconst (v := (nI 1)) C dX0_takeBack_7 (by decide) ?_
  refine x_isubN C dX0_takeBack_8 (by omega) ?_
  refine x_iconst (v := (nI 4)) C dX0_takeBack_9 (by decide) ?_
  refine x_iremN C dX0_takeBack_10 (by omega) (by omega) (by omega) ?_
  refine x_put (k := 1) (ws' := ((wQ G a q) ++ ((wH2 G e b 1 sz) ++ ((wQ G (b 0) h0) ++ ((wQ G (b 1) h1) ++ ((wQ G (b 2) h2) ++ ((wQ G (b 3) h3) ++ []))))))) C dX0_takeBack_11 layX0 tyX0 tyX0_ok nmX0 fl_X0_22 11 rfl rfl (by decide) rfl rfl rfl rfl (Nat.le_of_ble_eq_true rfl) rfl ?_
  refine x_aload_n C 0 rfl dX0_takeBack_14 rfl ?_
  refine x_aload_n C 0 rfl dX0_takeBack_15 rfl ?_
  refine x_get (k := 2) (v := .int (nI sz)) C dX0_takeBack_16 layX0 fl_X0_18 11 rfl rfl (by decide) rfl ?_
  refine x_iconst (v := (nI 1)) C dX0_takeBack_19 (by decide) ?_
  refine x_isubN C dX0_takeBack_20 (by omega) ?_
  refine x_iconst (v := (nI 0)) C dX0_takeBack_21 (by decide) ?_
  refine x_max (x := (nI (sz - 1))) (y := 0) C dX0_takeBack_22 ml_X0_39 st_J9_max_7cf53 in_J9 cd_J9_max_7cf53 (Nat.le_of_ble_eq_true rfl) ⟨Nat.le_of_ble_eq_true rfl, Nat.le_of_ble_eq_true rfl⟩ ⟨Nat.le_of_ble_eq_true rfl, Nat.le_of_ble_eq_true rfl⟩ ?_
  refine x_top (y := (nI (sz - 1))) (by rw [show (0 : Int32) = nI 0 from rfl, mxI_nI (by omega) (by omega), Nat.max_eq_left (by omega)]) ?_
  refine x_put (k := 2) (ws' := ((wQ G a q) ++ ((wH2 G e b 1 (sz - 1)) ++ ((wQ G (b 0) h0) ++ ((wQ G (b 1) h1) ++ ((wQ G (b 2) h2) ++ ((wQ G (b 3) h3) ++ []))))))) C dX0_takeBack_25 layX0 tyX0 tyX0_ok nmX0 fl_X0_18 11 rfl rfl (by decide) rfl rfl rfl rfl (Nat.le_of_ble_eq_true rfl) rfl ?_
  refine x_aload_n C 0 rfl dX0_takeBack_28 rfl ?_
  refine x_aload_n C 0 rfl dX0_takeBack_29 rfl ?_
  refine x_get (k := 1) (v := .int (nI 1)) C dX0_takeBack_30 layX0 fl_X0_22 11 rfl rfl (by decide) rfl ?_
  refine x_callVd (As := [.int (nI 1)]) (rest := []) C dX0_takeBack_33 (c_X0_stateAt (gX.l X) G e b 1 (sz - 1) 1 (by omega)) ml_X0_25 im_X0_stateAt sl_X0_stateAt in_X0 cd_X0_stateAt hd_X0_stateAt 0 rfl rfl rfl rfl (Nat.le_of_ble_eq_true rfl) ⟨Nat.le_of_ble_eq_true rfl, Nat.le_of_ble_eq_true rfl⟩ (wQ G a q) ((wQ G (b 0) h0) ++ ((wQ G (b 1) h1) ++ ((wQ G (b 2) h2) ++ ((wQ G (b 3) h3) ++ [])))) (by simp only [List.append_assoc, List.nil_append, List.cons_append]) (ws' := ((wQ G a q) ++ ((wH2 G e b 1 (sz - 1)) ++ ((wQ G (b 0) h0) ++ ((wQ G (b 1) h1) ++ ((wQ G (b 2) h2) ++ ((wQ G (b 3) h3) ++ []))))))) (by simp only [List.append_assoc, List.nil_append, List.cons_append]) (st' := [.ref (b 1 0)]) rfl ⟨rfl, rfl⟩ ⟨Nat.le_of_ble_eq_true rfl, Nat.le_of_ble_eq_true rfl⟩ ?_
  refine x_astore_n (lv' := [(2, .ref (b 1 0)), (0, .ref (e 0)), (1, .ref (a 0))]) C dX0_takeBack_36 rfl (by decide) rfl ?_
  refine x_aload_n C 0 rfl dX0_takeBack_37 rfl ?_
  refine x_ifnull C dX0_takeBack_38 ?_
  refine x_aload_n C 2 rfl dX0_takeBack_41 rfl ?_
  refine x_aload_n C 0 rfl dX0_takeBack_42 rfl ?_
  refine x_call2A (As := [.ref (b 1 0)]) (rest := []) C dX0_takeBack_43 (c_Q_copyFrom (gX.l X) G a (b 1) q h1 ) ml_X0_29 im_X2_copyFrom sl_X2_copyFrom in_X2 cd_X2_copyFrom hd_X2_copyFrom 0 rfl rfl rfl rfl (Nat.le_of_ble_eq_true rfl) ⟨Nat.le_of_ble_eq_true rfl, Nat.le_of_ble_eq_true rfl⟩ [] ((wH2 G e b 1 (sz - 1)) ++ (wQ G (b 0) h0)) ((wQ G (b 2) h2) ++ ((wQ G (b 3) h3) ++ [])) (by simp only [List.append_assoc, List.nil_append, List.cons_append]) (ws' := ((wQ G a h1) ++ ((wH2 G e b 1 (sz - 1)) ++ ((wQ G (b 0) h0) ++ ((wQ G (b 1) h1) ++ ((wQ G (b 2) h2) ++ ((wQ G (b 3) h3) ++ []))))))) (by simp only [List.append_assoc, List.nil_append, List.cons_append]) (st' := []) rfl ⟨rfl, rfl⟩ ⟨Nat.le_of_ble_eq_true rfl, Nat.le_of_ble_eq_true rfl⟩ ?_
  exact x_vret C hr E dX0_takeBack_46 (fun _ => 0) rfl
set_option maxRecDepth 100000 in
set_option maxHeartbeats 600000 in
theorem c_X0_takeBack3 (l : Launch) (G : gG) (a : Nat → Nat) (q : c_S) (e : Nat → Nat) (b : Nat → Nat → Nat) (sz : Nat) (h0 h1 h2 h3 : c_S)  (hsz : sz ≤ 4) (h1z : 1 ≤ sz) : CT l yX0_takeBack cX0_takeBack 3 none rm_X0_takeBack G [.ref (e 0), .ref (a 0)] ((wQ G a q) ++ ((wH2 G e b 3 sz) ++ ((wQ G (b 0) h0) ++ ((wQ G (b 1) h1) ++ ((wQ G (b 2) h2) ++ ((wQ G (b 3) h3) ++ [])))))) none (fun _ => ((wQ G a h2) ++ ((wH2 G e b 2 (sz - 1)) ++ ((wQ G (b 0) h0) ++ ((wQ G (b 1) h1) ++ ((wQ G (b 2) h2) ++ ((wQ G (b 3) h3) ++ []))))))) := by
  refine gMet (by decide) (Nat.le_of_ble_eq_true rfl) (fun X hX C hr hin E => ?_)
  clear hX
  refine (show gW G X ((wQ G a q) ++ ((wH2 G e b 3 sz) ++ ((wQ G (b 0) h0) ++ ((wQ G (b 1) h1) ++ ((wQ G (b 2) h2) ++ ((wQ G (b 3) h3) ++ [])))))) 0 0 0 [(0, .ref (e 0)), (1, .ref (a 0))] [] from ?_)
  refine x_aload_n C 0 rfl dX0_takeBack_0 rfl ?_
  refine x_aload_n C 0 rfl dX0_takeBack_1 rfl ?_
  refine x_get (k := 1) (v := .int (nI 3)) C dX0_takeBack_2 layX0 fl_X0_22 11 rfl rfl (by decide) rfl ?_
  refine x_iconst (v := (nI 4)) C dX0_takeBack_5 (by decide) ?_
  refine x_iaddN C dX0_takeBack_6 ?_
  refine x_iconst (v := (nI 1)) C dX0_takeBack_7 (by decide) ?_
  refine x_isubN C dX0_takeBack_8 (by omega) ?_
  refine x_iconst (v := (nI 4)) C dX0_takeBack_9 (by decide) ?_
  refine x_iremN C dX0_takeBack_10 (by omega) (by omega) (by omega) ?_
  refine x_put (k := 1) (ws' := ((wQ G a q) ++ ((wH2 G e b 2 sz) ++ ((wQ G (b 0) h0) ++ ((wQ G (b 1) h1) ++ ((wQ G (b 2) h2) ++ ((wQ G (b 3) h3) ++ []))))))) C dX0_takeBack_11 layX0 tyX0 tyX0_ok nmX0 fl_X0_22 11 rfl rfl (by decide) rfl rfl rfl rfl (Nat.le_of_ble_eq_true rfl) rfl ?_
  refine x_aload_n C 0 rfl dX0_takeBack_14 rfl ?_
  refine x_aload_n C 0 rfl dX0_takeBack_15 rfl ?_
  refine x_get (k := 2) (v := .int (nI sz)) C dX0_takeBack_16 layX0 fl_X0_18 11 rfl rfl (by decide) rfl ?_
  refine x_iconst (v := (nI 1)) C dX0_takeBack_19 (by decide) ?_
  refine x_isubN C dX0_takeBack_20 (by omega) ?_
  refine x_iconst (v := (nI 0)) C dX0_takeBack_21 (by decide) ?_
  refine x_max (x := (nI (sz - 1))) (y := 0) C dX0_takeBack_22 ml_X0_39 st_J9_max_7cf53 in_J9 cd_J9_max_7cf53 (Nat.le_of_ble_eq_true rfl) ⟨Nat.le_of_ble_eq_true rfl, Nat.le_of_ble_eq_true rfl⟩ ⟨Nat.le_of_ble_eq_true rfl, Nat.le_of_ble_eq_true rfl⟩ ?_
  refine x_top (y := (nI (sz - 1))) (by rw [show (0 : Int32) = nI 0 from rfl, mxI_nI (by omega) (by omega), Nat.max_eq_left (by omega)]) ?_
  refine x_put (k := 2) (ws' := ((wQ G a q) ++ ((wH2 G e b 2 (sz - 1)) ++ ((wQ G (b 0) h0) ++ ((wQ G (b 1) h1) ++ ((wQ G (b 2) h2) ++ ((wQ G (b 3) h3) ++ []))))))) C dX0_takeBack_25 layX0 tyX0 tyX0_ok nmX0 fl_X0_18 11 rfl rfl (by decide) rfl rfl rfl rfl (Nat.le_of_ble_eq_true rfl) rfl ?_
  refine x_aload_n C 0 rfl dX0_takeBack_28 rfl ?_
  refine x_aload_n C 0 rfl dX0_takeBack_29 rfl ?_
  refine x_get (k := 1) (v := .int (nI 2)) C dX0_takeBack_30 layX0 fl_X0_22 11 rfl rfl (by decide) rfl ?_
  refine x_callVd (As := [.int (nI 2)]) (rest := []) C dX0_takeBack_33 (c_X0_stateAt (gX.l X) G e b 2 (sz - 1) 2 (by omega)) ml_X0_25 im_X0_stateAt sl_X0_stateAt in_X0 cd_X0_stateAt hd_X0_stateAt 0 rfl rfl rfl rfl (Nat.le_of_ble_eq_true rfl) ⟨Nat.le_of_ble_eq_true rfl, Nat.le_of_ble_eq_true rfl⟩ (wQ G a q) ((wQ G (b 0) h0) ++ ((wQ G (b 1) h1) ++ ((wQ G (b 2) h2) ++ ((wQ G (b 3) h3) ++ [])))) (by simp only [List.append_assoc, List.nil_append, List.cons_append]) (ws' := ((wQ G a q) ++ ((wH2 G e b 2 (sz - 1)) ++ ((wQ G (b 0) h0) ++ ((wQ G (b 1) h1) ++ ((wQ G (b 2) h2) ++ ((wQ G (b 3) h3) ++ []))))))) (by simp only [List.append_assoc, List.nil_append, List.cons_append]) (st' := [.ref (b 2 0)]) rfl ⟨rfl, rfl⟩ ⟨Nat.le_of_ble_eq_true rfl, Nat.le_of_ble_eq_true rfl⟩ ?_
  refine x_astore_n (lv' := [(2, .ref (b 2 0)), (0, .ref (e 0)), (1, .ref (a 0))]) C dX0_takeBack_36 rfl (by decide) rfl ?_
  refine x_aload_n C 0 rfl dX0_takeBack_37 rfl ?_
  refine x_ifnull C dX0_takeBack_38 ?_
  refine x_aload_n C 2 rfl dX0_takeBack_41 rfl ?_
  refine x_aload_n C 0 rfl dX0_takeBack_42 rfl ?_
  refine x_call2A (As := [.ref (b 2 0)]) (rest := []) C dX0_takeBack_43 (c_Q_copyFrom (gX.l X) G a (b 2) q h2 ) ml_X0_29 im_X2_copyFrom sl_X2_copyFrom in_X2 cd_X2_copyFrom hd_X2_copyFrom 0 rfl rfl rfl rfl (Nat.le_of_ble_eq_true rfl) ⟨Nat.le_of_ble_eq_true rfl, Nat.le_of_ble_eq_true rfl⟩ [] ((wH2 G e b 2 (sz - 1)) ++ ((wQ G (b 0) h0) ++ (wQ G (b 1) h1))) ((wQ G (b 3) h3) ++ []) (by simp only [List.append_assoc, List.nil_append, List.cons_append]) (ws' := ((wQ G a h2) ++ ((wH2 G e b 2 (sz - 1)) ++ ((wQ G (b 0) h0) ++ ((wQ G (b 1) h1) ++ ((wQ G (b 2) h2) ++ ((wQ G (b 3) h3) ++ []))))))) (by simp only [List.append_assoc, List.nil_append, List.cons_append]) (st' := []) rfl ⟨rfl, rfl⟩ ⟨Nat.le_of_ble_eq_true rfl, Nat.le_of_ble_eq_true rfl⟩ ?_
  exact x_vret C hr E dX0_takeBack_46 (fun _ => 0) rfl
theorem c_H_record (l : Launch) (G : gG) (a : Nat → Nat) (q : c_S) (e : Nat → Nat) (b : Nat → Nat → Nat) (nx sz : Nat) (hs : Nat → c_S) (hnx : nx < 4) (hsz : sz ≤ 4) : CT l yX0_record cX0_record 3 none rm_X0_record G [.ref (e 0), .ref (a 0)] (wQ G a q ++ wH G e b nx sz hs) none (fun _ => (wQ G a q ++ wH G e b ((nx + 1) % 4) (min (sz + 1) 4) (hup hs nx q))) := by
  rcases (show nx = 0 ∨ nx = 1 ∨ nx = 2 ∨ nx = 3 by omega) with rfl | rfl | rfl | rfl
  · exact c_X0_record0 l G a q e b sz (hs 0) (hs 1) (hs 2) (hs 3) hsz
  · exact c_X0_record1 l G a q e b sz (hs 0) (hs 1) (hs 2) (hs 3) hsz
  · exact c_X0_record2 l G a q e b sz (hs 0) (hs 1) (hs 2) (hs 3) hsz
  · exact c_X0_record3 l G a q e b sz (hs 0) (hs 1) (hs 2) (hs 3) hsz
theorem c_H_takeBack (l : Launch) (G : gG) (a : Nat → Nat) (q : c_S) (e : Nat → Nat) (b : Nat → Nat → Nat) (nx sz : Nat) (hs : Nat → c_S) (hnx : nx < 4) (hsz : sz ≤ 4) (h1z : 1 ≤ sz) : CT l yX0_takeBack cX0_takeBack 3 none rm_X0_takeBack G [.ref (e 0), .ref (a 0)] (wQ G a q ++ wH G e b nx sz hs) none (fun _ => (wQ G a (hs ((nx + 3) % 4)) ++ wH G e b ((nx + 3) % 4) (sz - 1) hs)) := by
  rcases (show nx = 0 ∨ nx = 1 ∨ nx = 2 ∨ nx = 3 by omega) with rfl | rfl | rfl | rfl
  · exact c_X0_takeBack0 l G a q e b sz (hs 0) (hs 1) (hs 2) (hs 3) hsz h1z
  · exact c_X0_takeBack1 l G a q e b sz (hs 0) (hs 1) (hs 2) (hs 3) hsz h1z
  · exact c_X0_takeBack2 l G a q e b sz (hs 0) (hs 1) (hs 2) (hs 3) hsz h1z
  · exact c_X0_takeBack3 l G a q e b sz (hs 0) (hs 1) (hs 2) (hs 3) hsz h1z
