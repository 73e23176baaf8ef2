set_option maxRecDepth 100000 in
set_option maxHeartbeats 600000 in
theorem c_H_size0 (l : Launch) (G : gG) (e : Nat → Nat) (b : Nat → Nat → Nat) (nx sz : Nat) (hs : Nat → c_S)  : CT l yX0_size cX0_size 1 (some .int) rm_X0_size G [.ref (e 0)] ((wH2 G e b nx sz) ++ ((wQ G (b 0) (hs 0)) ++ ((wQ G (b 1) (hs 1)) ++ ((wQ G (b 2) (hs 2)) ++ ((wQ G (b 3) (hs 3)) ++ []))))) (some (.int (nI sz))) (fun _ => ((wH2 G e b nx sz) ++ ((wQ G (b 0) (hs 0)) ++ ((wQ G (b 1) (hs 1)) ++ ((wQ G (b 2) (hs 2)) ++ ((wQ G (b 3) (hs 3)) ++ [])))))) := by
  refine gMet (by decide) (Nat.le_of_ble_eq_true rfl) (fun X hX C hr hin E => ?_)
  clear hX
  refine (show gW G X ((wH2 G e b nx sz) ++ ((wQ G (b 0) (hs 0)) ++ ((wQ G (b 1) (hs 1)) ++ ((wQ G (b 2) (hs 2)) ++ ((wQ G (b 3) (hs 3)) ++ []))))) 0 0 0 [(0, .ref (e 0))] [] from ?_)
  refine x_aload_n C 0 rfl dX0_size_0 rfl ?_
  refine x_get (k := 2) (v := .int (nI sz)) C dX0_size_1 layX0 fl_X0_18 0 rfl rfl (by decide) rfl ?_
  exact x_iret C hr E dX0_size_4 (fun _ => 0) rfl rfl
theorem c_H_size (l : Launch) (G : gG) (e : Nat → Nat) (b : Nat → Nat → Nat) (nx sz : Nat) (hs : Nat → c_S) : CT l yX0_size cX0_size 1 (some .int) rm_X0_size G [.ref (e 0)] (wH G e b nx sz hs) (some (.int (nI sz))) (fun _ => (wH G e b nx sz hs)) := c_H_size0 l G e b nx sz hs
