def rm_X4_length : Room := { frames := 0, cells := 0, slots := 0, locals := 0 }
set_option maxRecDepth 100000 in
set_option maxHeartbeats 600000 in
theorem c_X4_length (l : Launch) (G : gG) (t : Nat → Nat) (tc : Nat → Int32) (en : Nat)  : CT l yX4_length cX4_length 1 (some .int) rm_X4_length G [.ref (t 0)] (wX4 G t tc en) (some (.int (nI en))) (fun _ => (wX4 G t tc en)) := by
  refine gMet (by decide) (Nat.le_of_ble_eq_true rfl) (fun X hX C hr hin E => ?_)
  clear hX
  refine (show gW G X (wX4 G t tc en) 0 0 0 [(0, .ref (t 0))] [] from ?_)
  refine x_aload_n C 0 rfl dX4_length_0 rfl ?_
  refine x_get (k := 1) (v := .int (nI en)) C dX4_length_1 layX4 fl_X4_15 0 rfl rfl (by decide) rfl ?_
  exact x_iret C hr E dX4_length_4 (fun _ => 0) rfl rfl
def rm_X4_empty : Room := { frames := 0, cells := 0, slots := 0, locals := 0 }
set_option maxRecDepth 100000 in
set_option maxHeartbeats 600000 in
theorem c_X4_empty (l : Launch) (G : gG) (t : Nat → Nat) (tc : Nat → Int32) (en : Nat)  : CT l yX4_empty cX4_empty 1 none rm_X4_empty G [.ref (t 0)] (wX4 G t tc en) none (fun _ => (wX4 G t tc 0)) := by
  refine gMet (by decide) (Nat.le_of_ble_eq_true rfl) (fun X hX C hr hin E => ?_)
  clear hX
  refine (show gW G X (wX4 G t tc en) 0 0 0 [(0, .ref (t 0))] [] from ?_)
  refine x_aload_n C 0 rfl dX4_empty_0 rfl ?_
  refine x_iconst (v := (nI 0)) C dX4_empty_1 (by decide) ?_
  refine x_put (k := 1) (ws' := (wX4 G t tc 0)) C dX4_empty_2 layX4 tyX4 tyX4_ok nmX4 fl_X4_15 0 rfl rfl (by decide) rfl rfl rfl rfl (Nat.le_of_ble_eq_true rfl) rfl ?_
  exact x_vret C hr E dX4_empty_5 (fun _ => 0) rfl
def rm_X4_characterAt : Room := { frames := 0, cells := 0, slots := 0, locals := 0 }
set_option maxRecDepth 100000 in
set_option maxHeartbeats 600000 in
theorem c_X4_characterAt (l : Launch) (G : gG) (t : Nat → Nat) (tc : Nat → Int32) (en : Nat) (i : Nat)  (hi : i < 60) (hch : okC (tc i)) : CT l yX4_characterAt cX4_characterAt 2 (some .char) rm_X4_characterAt G [.ref (t 0), .int (nI i)] (wX4 G t tc en) (some (.int (tc i))) (fun _ => (wX4 G t tc en)) := by
  refine gMet (by decide) (Nat.le_of_ble_eq_true rfl) (fun X hX C hr hin E => ?_)
  clear hX
  refine (show gW G X (wX4 G t tc en) 0 0 0 [(0, .ref (t 0)), (1, .int (nI i))] [] from ?_)
  refine x_iload_n C 1 rfl dX4_characterAt_0 rfl ?_
  refine x_if_ltN (a := i) (tgt := 22) C dX4_characterAt_1 (by decide) (by omega) (fun c1 => False.elim (by omega)) (fun c1 => ?_)
  refine x_iload_n C 1 rfl dX4_characterAt_4 rfl ?_
  refine x_aload_n C 0 rfl dX4_characterAt_5 rfl ?_
  refine x_get (k := 0) (v := .ref (t 1)) C dX4_characterAt_6 layX4 fl_X4_9 0 rfl rfl (by decide) rfl ?_
  refine x_alenC C dX4_characterAt_9 1 rfl ?_
  refine x_icmp_geN (a := i) (b := 60) (tgt := 22) C dX4_characterAt_10 (by decide) (by omega) (by omega) (fun c2 => False.elim (by omega)) (fun c2 => ?_)
  refine x_aload_n C 0 rfl dX4_characterAt_13 rfl ?_
  refine x_get (k := 0) (v := .ref (t 1)) C dX4_characterAt_14 layX4 fl_X4_9 0 rfl rfl (by decide) rfl ?_
  refine x_iload_n C 1 rfl dX4_characterAt_17 rfl ?_
  refine x_cald (j := i) C dX4_characterAt_18 1 rfl rfl (by omega) (by omega) ?_
  refine x_goto (tgt := 23) C dX4_characterAt_19 (by decide) ?_
  exact x_cret C hr hch E dX4_characterAt_23 (fun _ => 0) rfl rfl
def rm_X4_append : Room := { frames := 0, cells := 0, slots := 0, locals := 0 }
set_option maxRecDepth 100000 in
set_option maxHeartbeats 600000 in
theorem c_X4_append (l : Launch) (G : gG) (t : Nat → Nat) (tc : Nat → Int32) (en : Nat) (c : Int32)  (hen : en ≤ 60) (hch : okC c) : CT l yX4_append cX4_append 2 (some .boolean) rm_X4_append G [.ref (t 0), .int c] (wX4 G t tc en) (some (.int (bI (en < 60)))) (fun _ => (wX4 G t (if en < 60 then upd tc en c else tc) (if en < 60 then en + 1 else en))) := by
  refine gMet (by decide) (Nat.le_of_ble_eq_true rfl) (fun X hX C hr hin E => ?_)
  clear hX
  refine (show gW G X (wX4 G t tc en) 0 0 0 [(0, .ref (t 0)), (1, .int c)] [] from ?_)
  refine x_aload_n C 0 rfl dX4_append_0 rfl ?_
  refine x_get (k := 1) (v := .int (nI en)) C dX4_append_1 layX4 fl_X4_15 0 rfl rfl (by decide) rfl ?_
  refine x_if_ltN (a := en) (tgt := 19) C dX4_append_4 (by decide) (by omega) (fun c1 => False.elim (by omega)) (fun c1 => ?_)
  refine x_aload_n C 0 rfl dX4_append_7 rfl ?_
  refine x_get (k := 1) (v := .int (nI en)) C dX4_append_8 layX4 fl_X4_15 0 rfl rfl (by decide) rfl ?_
  refine x_aload_n C 0 rfl dX4_append_11 rfl ?_
  refine x_get (k := 0) (v := .ref (t 1)) C dX4_append_12 layX4 fl_X4_9 0 rfl rfl (by decide) rfl ?_
  refine x_alenC C dX4_append_15 1 rfl ?_
  refine x_icmp_ltN (a := en) (b := 60) (tgt := 21) C dX4_append_16 (by decide) (by omega) (by omega) (fun c2 => ?_) (fun c2 => ?_)
  · refine x_aload_n C 0 rfl dX4_append_21 rfl ?_
    refine x_get (k := 0) (v := .ref (t 1)) C dX4_append_22 layX4 fl_X4_9 0 rfl rfl (by decide) rfl ?_
    refine x_aload_n C 0 rfl dX4_append_25 rfl ?_
    refine x_get (k := 1) (v := .int (nI en)) C dX4_append_26 layX4 fl_X4_15 0 rfl rfl (by decide) rfl ?_
    refine x_iload_n C 1 rfl dX4_append_29 rfl ?_
    refine x_cast (j := en) (x := c) (ws' := (wX4 G t (upd tc en c) en)) C dX4_append_30 1 rfl rfl (by omega) (by omega) (okC_nar hch) rfl ?_
    refine x_aload_n C 0 rfl dX4_append_31 rfl ?_
    refine x_dup C rfl dX4_append_32 ?_
    refine x_get (k := 1) (v := .int (nI en)) C dX4_append_33 layX4 fl_X4_15 0 rfl rfl (by decide) rfl ?_
    refine x_iconst (v := (nI 1)) C dX4_append_36 (by decide) ?_
    refine x_iaddN C dX4_append_37 ?_
    refine x_put (k := 1) (ws' := (wX4 G t (upd tc en c) (en + 1))) C dX4_append_38 layX4 tyX4 tyX4_ok nmX4 fl_X4_15 0 rfl rfl (by decide) rfl rfl rfl rfl (Nat.le_of_ble_eq_true rfl) rfl ?_
    refine x_iconst (v := (nI 1)) C dX4_append_41 (by decide) ?_
    exact x_zret C hr bI_nar E dX4_append_42 (fun _ => 0) (bI_t (by simp only [c1, c2, if_true, if_false, ite_true, ite_false, and_true, true_and, and_false, false_and, or_true, true_or, or_false, false_or, not_true_eq_false, not_false_eq_true, and_self, or_self] <;> decide)).symm (by rw [if_pos (by assumption), if_pos (by assumption)])
  · refine x_iconst (v := (nI 0)) C dX4_append_19 (by decide) ?_
    exact x_zret C hr bI_nar E dX4_append_20 (fun _ => 0) (bI_f (by simp only [c1, c2, if_true, if_false, ite_true, ite_false, and_true, true_and, and_false, false_and, or_true, true_or, or_false, false_or, not_true_eq_false, not_false_eq_true, and_self, or_self] <;> decide)).symm (by rw [if_neg (by assumption), if_neg (by assumption)])
def rm_X0_size : Room := { frames := 0, cells := 0, slots := 0, locals := 0 }
set_option maxRecDepth 100000 in
set_option maxHeartbeats 600000 in
theorem c_X0_size (l : Launch) (G : gG) (e : Nat → Nat) (b : Nat → Nat → Nat) (nx sz : Nat)  : CT l yX0_size cX0_size 1 (some .int) rm_X0_size G [.ref (e 0)] (wH2 G e b nx sz) (some (.int (nI sz))) (fun _ => (wH2 G e b nx sz)) := by
  refine gMet (by decide) (Nat.le_of_ble_eq_true rfl) (fun X hX C hr hin E => ?_)
  clear hX
  refine (show gW G X (wH2 G e b nx sz) 0 0 0 [(0, .ref (e 0))] [] from ?_)
  refine x_aload_n C 0 rfl dX0_size_0 rfl ?_
  refine x_get (k := 2) (v := .int (nI sz)) C dX0_size_1 layX0 fl_X0_18 0 rfl rfl (by decide) rfl ?_
  exact x_iret C hr E dX0_size_4 (fun _ => 0) rfl rfl
def rm_X0_stateAt : Room := { frames := 0, cells := 0, slots := 0, locals := 0 }
set_option maxRecDepth 100000 in
set_option maxHeartbeats 600000 in
theorem c_X0_stateAt (l : Launch) (G : gG) (e : Nat → Nat) (b : Nat → Nat → Nat) (nx sz i : Nat)  (hi : i < 4) : CT l yX0_stateAt cX0_stateAt 2 (some (.object "LessonHorses$Stable")) rm_X0_stateAt G [.ref (e 0), .int (nI i)] (wH2 G e b nx sz) (some (.ref (b i 0))) (fun _ => (wH2 G e b nx sz)) := by
  refine gMet (by decide) (Nat.le_of_ble_eq_true rfl) (fun X hX C hr hin E => ?_)
  clear hX
  refine (show gW G X (wH2 G e b nx sz) 0 0 0 [(0, .ref (e 0)), (1, .int (nI i))] [] from ?_)
  refine x_iload_n C 1 rfl dX0_stateAt_0 rfl ?_
  refine x_if_ltN (a := i) (tgt := 22) C dX0_stateAt_1 (by decide) (by omega) (fun c1 => False.elim (by omega)) (fun c1 => ?_)
  refine x_iload_n C 1 rfl dX0_stateAt_4 rfl ?_
  refine x_aload_n C 0 rfl dX0_stateAt_5 rfl ?_
  refine x_get (k := 0) (v := .ref (e 1)) C dX0_stateAt_6 layX0 fl_X0_11 0 rfl rfl (by decide) rfl ?_
  refine x_alenR C dX0_stateAt_9 1 rfl ?_
  refine x_icmp_geN (a := i) (b := 4) (tgt := 22) C dX0_stateAt_10 (by decide) (by omega) (by omega) (fun c2 => False.elim (by omega)) (fun c2 => ?_)
  refine x_aload_n C 0 rfl dX0_stateAt_13 rfl ?_
  refine x_get (k := 0) (v := .ref (e 1)) C dX0_stateAt_14 layX0 fl_X0_11 0 rfl rfl (by decide) rfl ?_
  refine x_iload_n C 1 rfl dX0_stateAt_17 rfl ?_
  refine x_aald (j := i) (b := (b i 0)) C dX0_stateAt_18 1 rfl rfl (by omega) (by omega) rfl ?_
  refine x_goto (tgt := 23) C dX0_stateAt_19 (by decide) ?_
  exact x_aret C hr E dX0_stateAt_23 (fun _ => 0) rfl
