def rm_X4_length : Room := { frames := 0, cells := 0, slots := 0, locals := 0 }
set_option maxRecDepth 100000 in
set_option maxHeartbeats 600000 in
theorem c_X4_length (l : Launch) (G : gG) (t : Nat → Nat) (tc : Nat → Int32) (en : Nat)  : CT l yX4_length cX4_length 1 (some .int) rm_X4_length G [.ref (t 0)] (wX4 G t tc en) (some (.int (nI en))) (fun _ => (wX4 G t tc en)) := by
  refine gMet (by decide) (Nat.le_of_ble_eq_true rfl) (fun X hX C hr hin E => ?_)
  clear hX
  refine (show gW G X (wX4 G t tc en) 0 0 0 [(0, .ref (t 0))] [] from ?_)
  refine x_aload_n C 0 rfl dX4_length_0 rfl ?_
  refine x_get (k := 1) (v := .int (nI en)) C dX4_length_1 layX4 fl_X4_15 0 rfl rfl (by decide) rfl ?_
  exact x_iret C hr E dX4_length_4 (fun _ => 0) rfl rfl
def rm_X0_size : Room := { frames := 0, cells := 0, slots := 0, locals := 0 }
set_option maxRecDepth 100000 in
set_option maxHeartbeats 600000 in
theorem c_X0_size (l : Launch) (G : gG) (e : Nat → Nat) (b : Nat → Nat → Nat) (nx sz : Nat)  : CT l yX0_size cX0_size 1 (some .int) rm_X0_size G [.ref (e 0)] (wH2 G e b nx sz) (some (.int (nI sz))) (fun _ => (wH2 G e b nx sz)) := by
  refine gMet (by decide) (Nat.le_of_ble_eq_true rfl) (fun X hX C hr hin E => ?_)
  clear hX
  refine (show gW G X (wH2 G e b nx sz) 0 0 0 [(0, .ref (e 0))] [] from ?_)
  refine x_aload_n C 0 rfl dX0_size_0 rfl ?_
  refine x_get (k := 2) (v := .int (nI sz)) C dX0_size_1 layX0 fl_X0_18 0 rfl rfl (by decide) rfl ?_
  exact x_iret C hr E dX0_size_4 (fun _ => 0) rfl rfl
def rm_X0_stateAt : Room := { frames := 0, cells := 0, slots := 0, locals := 0 }
set_option maxRecDepth 100000 in
set_option maxHeartbeats 600000 in
theorem c_X0_stateAt (l : Launch) (G : gG) (e : Nat → Nat) (b : Nat → Nat → Nat) (nx sz i : Nat)  (hi : i < 4) : CT l yX0_stateAt cX0_stateAt 2 (some (.object "LessonHorses$Stable")) rm_X0_stateAt G [.ref (e 0), .int (nI i)] (wH2 G e b nx sz) (some (.ref (b i 0))) (fun _ => (wH2 G e b nx sz)) := by
  refine gMet (by decide) (Nat.le_of_ble_eq_true rfl) (fun X hX C hr hin E => ?_)
  clear hX
  refine (show gW G X (wH2 G e b nx sz) 0 0 0 [(0, .ref (e 0)), (1, .int (nI i))] [] from ?_)
  refine x_iload_n C 1 rfl dX0_stateAt_0 rfl ?_
  refine x_if_ltN (a := i) (tgt := 22) C dX0_stateAt_1 (by decide) (by omega) (fun c1 => False.elim (by omega)) (fun c1 => ?_)
  refine x_iload_n C 1 rfl dX0_stateAt_4 rfl ?_
  refine x_aload_n C 0 rfl dX0_stateAt_5 rfl ?_
  refine x_get (k := 0) (v := .ref (e 1)) C dX0_stateAt_6 layX0 fl_X0_11 0 rfl rfl (by decide) rfl ?_
  refine x_alenR C dX0_stateAt_9 1 rfl ?_
  refine x_icmp_geN (a := i) (b := 4) (tgt := 22) C dX0_stateAt_10 (by decide) (by omega) (by omega) (fun c2 => False.elim (by omega)) (fun c2 => ?_)
  refine x_aload_n C 0 rfl dX0_stateAt_13 rfl ?_
  refine x_get (k := 0) (v := .ref (e 1)) C dX0_stateAt_14 layX0 fl_X0_11 0 rfl rfl (by decide) rfl ?_
  refine x_iload_n C 1 rfl dX0_stateAt_17 rfl ?_
  refine x_aald (j := i) (b := (b i 0)) C dX0_stateAt_18 1 rfl rfl (by omega) (by omega) rfl ?_
  refine x_goto (tgt := 23) C dX0_stateAt_19 (by decide) ?_
  exact x_aret C hr E dX0_stateAt_23 (fun _ => 0) rfl
