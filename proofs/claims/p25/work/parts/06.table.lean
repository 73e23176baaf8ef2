/-- a Table's two cells -/
def wT (G : gG) (a b w n : Nat) (f : Nat → Int32) : va_W := [(a, .inr (3, [.int (nI w), .ref b])), (b, .inl (G.2.1.1, n, .inl f))]
/-- the sum of n numbers from b on -/
def sumF (f : Nat → Int32) (b : Nat) : Nat → Int32
  | 0 => 0
  | n + 1 => sumF f b n + f (b + n)
/-- n rows of a table of width w, a column written over another -/
def mvC (f : Nat → Int32) (w a b : Nat) : Nat → Nat → Int32
  | 0 => f
  | n + 1 => upd (mvC f w a b n) (n * w + b) (mvC f w a b n (n * w + a))
def rm_X3_at : Room := { frames := 0, cells := 0, slots := 0, locals := 0 }
set_option maxRecDepth 100000 in
set_option maxHeartbeats 4000000 in
theorem c_X3_at (l : Launch) (G : gG) (a b w n : Nat) (f : Nat → Int32) (r c j : Nat)  (hj : r * w + c = j) (hc : c < w) (hjn : j < n) (hn : n < 2 ^ 31) (hw : w < 2 ^ 31) : CT l yX3_at cX3_at 4 (some .int) rm_X3_at G [.ref a, .int (nI r), .int (nI c)] (wT G a b w n f) (some (.int (f j))) (fun _ => (wT G a b w n f)) := by
  refine gMet (by decide) (Nat.le_of_ble_eq_true rfl) (fun X hX C hr hin E => ?_)
  clear hX
  refine (show gW G X (wT G a b w n f) 0 0 0 [(0, .ref a), (1, .int (nI r)), (2, .int (nI c))] [] from ?_)
  refine x_iload_n C 1 rfl dX3_at_0 rfl ?_
  refine x_aload_n C 0 rfl dX3_at_1 rfl ?_
  refine x_get (k := 0) (v := .int (nI w)) C dX3_at_2 layX3 fl_X3_7 0 rfl rfl (by decide) rfl ?_
  refine x_imulN C dX3_at_5 ?_
  refine x_iload_n C 2 rfl dX3_at_6 rfl ?_
  refine x_iaddN C dX3_at_7 ?_
  refine x_top (y := nI j) (congrArg nI hj) ?_
  refine x_istore_n (lv' := [(3, .int (nI j)), (0, .ref a), (1, .int (nI r)), (2, .int (nI c))]) C dX3_at_8 rfl (by decide) rfl ?_
  refine x_iload_n C 3 rfl dX3_at_9 rfl ?_
  refine x_if_ltN (a := c) (tgt := 43) C dX3_at_10 (by decide) (by omega) (fun c1 => False.elim (by omega)) (fun c1 => ?_)
  refine x_iload_n C 3 rfl dX3_at_13 rfl ?_
  refine x_aload_n C 1 rfl dX3_at_14 rfl ?_
  refine x_get (k := 0) (v := .int (nI w)) C dX3_at_15 layX3 fl_X3_7 0 rfl rfl (by decide) rfl ?_
  refine x_icmp_geN (a := c) (b := w) (tgt := 43) C dX3_at_18 (by decide) (by omega) (by omega) (fun c2 => False.elim (by omega)) (fun c2 => ?_)
  refine x_iload_n C 0 rfl dX3_at_21 rfl ?_
  refine x_if_ltN (a := j) (tgt := 43) C dX3_at_22 (by decide) (by omega) (fun c3 => False.elim (by omega)) (fun c3 => ?_)
  refine x_iload_n C 0 rfl dX3_at_25 rfl ?_
  refine x_aload_n C 1 rfl dX3_at_26 rfl ?_
  refine x_get (k := 1) (v := .ref b) C dX3_at_27 layX3 fl_X3_13 0 rfl rfl (by decide) rfl ?_
  refine x_alenI C dX3_at_30 1 rfl ?_
  refine x_icmp_geN (a := j) (b := n) (tgt := 43) C dX3_at_31 (by decide) (by omega) (by omega) (fun c4 => False.elim (by omega)) (fun c4 => ?_)
  refine x_aload_n C 1 rfl dX3_at_34 rfl ?_
  refine x_get (k := 1) (v := .ref b) C dX3_at_35 layX3 fl_X3_13 0 rfl rfl (by decide) rfl ?_
  refine x_iload_n C 0 rfl dX3_at_38 rfl ?_
  refine x_iald (j := j) C dX3_at_39 1 rfl rfl (by omega) (by omega) ?_
  refine x_goto (tgt := 44) C dX3_at_40 (by decide) ?_
  exact x_iret C hr E dX3_at_44 (fun _ => 0) rfl rfl
def rm_X3_put : Room := { frames := 0, cells := 0, slots := 0, locals := 0 }
set_option maxRecDepth 100000 in
set_option maxHeartbeats 4000000 in
theorem c_X3_put (l : Launch) (G : gG) (a b w n : Nat) (f : Nat → Int32) (r c j : Nat) (v : Int32)  (hj : r * w + c = j) (hc : c < w) (hjn : j < n) (hn : n < 2 ^ 31) (hw : w < 2 ^ 31) : CT l yX3_put cX3_put 5 none rm_X3_put G [.ref a, .int (nI r), .int (nI c), .int v] (wT G a b w n f) none (fun _ => (wT G a b w n (upd f j v))) := by
  refine gMet (by decide) (Nat.le_of_ble_eq_true rfl) (fun X hX C hr hin E => ?_)
  clear hX
  refine (show gW G X (wT G a b w n f) 0 0 0 [(0, .ref a), (1, .int (nI r)), (2, .int (nI c)), (3, .int v)] [] from ?_)
  refine x_iload_n C 1 rfl dX3_put_0 rfl ?_
  refine x_aload_n C 0 rfl dX3_put_1 rfl ?_
  refine x_get (k := 0) (v := .int (nI w)) C dX3_put_2 layX3 fl_X3_7 0 rfl rfl (by decide) rfl ?_
  refine x_imulN C dX3_put_5 ?_
  refine x_iload_n C 2 rfl dX3_put_6 rfl ?_
  refine x_iaddN C dX3_put_7 ?_
  refine x_top (y := nI j) (congrArg nI hj) ?_
  refine x_istore (lv' := [(4, .int (nI j)), (0, .ref a), (1, .int (nI r)), (2, .int (nI c)), (3, .int v)]) C dX3_put_8 (by decide) rfl ?_
  refine x_iload_n C 3 rfl dX3_put_10 rfl ?_
  refine x_if_ltN (a := c) (tgt := 45) C dX3_put_11 (by decide) (by omega) (fun c1 => False.elim (by omega)) (fun c1 => ?_)
  refine x_iload_n C 3 rfl dX3_put_14 rfl ?_
  refine x_aload_n C 1 rfl dX3_put_15 rfl ?_
  refine x_get (k := 0) (v := .int (nI w)) C dX3_put_16 layX3 fl_X3_7 0 rfl rfl (by decide) rfl ?_
  refine x_icmp_geN (a := c) (b := w) (tgt := 45) C dX3_put_19 (by decide) (by omega) (by omega) (fun c2 => False.elim (by omega)) (fun c2 => ?_)
  refine x_iload C 0 rfl dX3_put_22 ?_
  refine x_if_ltN (a := j) (tgt := 45) C dX3_put_24 (by decide) (by omega) (fun c3 => False.elim (by omega)) (fun c3 => ?_)
  refine x_iload C 0 rfl dX3_put_27 ?_
  refine x_aload_n C 1 rfl dX3_put_29 rfl ?_
  refine x_get (k := 1) (v := .ref b) C dX3_put_30 layX3 fl_X3_13 0 rfl rfl (by decide) rfl ?_
  refine x_alenI C dX3_put_33 1 rfl ?_
  refine x_icmp_geN (a := j) (b := n) (tgt := 45) C dX3_put_34 (by decide) (by omega) (by omega) (fun c4 => False.elim (by omega)) (fun c4 => ?_)
  refine x_aload_n C 1 rfl dX3_put_37 rfl ?_
  refine x_get (k := 1) (v := .ref b) C dX3_put_38 layX3 fl_X3_13 0 rfl rfl (by decide) rfl ?_
  refine x_iload C 0 rfl dX3_put_41 ?_
  refine x_iload_n C 4 rfl dX3_put_43 rfl ?_
  refine x_iast (j := j) (x := v) (ws' := (wT G a b w n (upd f j v))) C dX3_put_44 1 rfl rfl (by omega) (by omega) rfl ?_
  exact x_vret C hr E dX3_put_45 (fun _ => 0) rfl
def rm_X3_add : Room := { frames := 1, cells := 0, slots := 0, locals := 24 }
set_option maxRecDepth 100000 in
set_option maxHeartbeats 4000000 in
theorem c_X3_add (l : Launch) (G : gG) (a b w n : Nat) (f : Nat → Int32) (r c j : Nat) (v : Int32)  (hj : r * w + c = j) (hc : c < w) (hjn : j < n) (hn : n < 2 ^ 31) (hw : w < 2 ^ 31) : CT l yX3_add cX3_add 4 none rm_X3_add G [.ref a, .int (nI r), .int (nI c), .int v] (wT G a b w n f) none (fun _ => (wT G a b w n (upd f j (f j + v)))) := by
  refine gMet (by decide) (Nat.le_of_ble_eq_true rfl) (fun X hX C hr hin E => ?_)
  clear hX
  refine (show gW G X (wT G a b w n f) 0 0 0 [(0, .ref a), (1, .int (nI r)), (2, .int (nI c)), (3, .int v)] [] from ?_)
  refine x_aload_n C 0 rfl dX3_add_0 rfl ?_
  refine x_iload_n C 1 rfl dX3_add_1 rfl ?_
  refine x_iload_n C 2 rfl dX3_add_2 rfl ?_
  refine x_aload_n C 0 rfl dX3_add_3 rfl ?_
  refine x_iload_n C 1 rfl dX3_add_4 rfl ?_
  refine x_iload_n C 2 rfl dX3_add_5 rfl ?_
  refine x_callVd (As := [.int (nI r), .int (nI c)]) (rest := [.int (nI c), .int (nI r), .ref a]) C dX3_add_6 (c_X3_at (gX.l X) G a b w n f r c j (by omega) (by omega) (by omega) (by omega) (by omega)) ml_X3_17 im_X3_at sl_X3_at in_X3 cd_X3_at hd_X3_at 0 rfl rfl rfl rfl (Nat.le_of_ble_eq_true rfl) ⟨Nat.le_of_ble_eq_true rfl, Nat.le_of_ble_eq_true rfl⟩ (List.take 0 (wT G a b w n f)) (List.drop 2 (wT G a b w n f)) rfl (ws' := (wT G a b w n f)) rfl (st' := [.int (f j), .int (nI c), .int (nI r), .ref a]) rfl ⟨rfl, rfl⟩ ⟨Nat.le_of_ble_eq_true rfl, Nat.le_of_ble_eq_true rfl⟩ ?_
  refine x_iload_n C 3 rfl dX3_add_9 rfl ?_
  refine x_iadd (x := (f j)) (y := v) C dX3_add_10 ?_
  refine x_callVd (As := [.int (nI r), .int (nI c), .int ((f j) + v)]) (rest := []) C dX3_add_11 (c_X3_put (gX.l X) G a b w n f r c j ((f j) + v) (by omega) (by omega) (by omega) (by omega) (by omega)) ml_X3_21 im_X3_put sl_X3_put in_X3 cd_X3_put hd_X3_put 0 rfl rfl rfl rfl (Nat.le_of_ble_eq_true rfl) ⟨Nat.le_of_ble_eq_true rfl, Nat.le_of_ble_eq_true rfl⟩ (List.take 0 (wT G a b w n f)) (List.drop 2 (wT G a b w n f)) rfl (ws' := (wT G a b w n (upd f j ((f j) + v)))) rfl (st' := []) rfl ⟨rfl, rfl⟩ ⟨Nat.le_of_ble_eq_true rfl, Nat.le_of_ble_eq_true rfl⟩ ?_
  exact x_vret C hr E dX3_add_14 (fun _ => 0) rfl
def rm_X3_takeAway : Room := { frames := 1, cells := 0, slots := 0, locals := 24 }
set_option maxRecDepth 100000 in
set_option maxHeartbeats 4000000 in
theorem c_X3_takeAway (l : Launch) (G : gG) (a b w n : Nat) (f : Nat → Int32) (r c j : Nat) (v : Int32)  (hj : r * w + c = j) (hc : c < w) (hjn : j < n) (hn : n < 2 ^ 31) (hw : w < 2 ^ 31) : CT l yX3_takeAway cX3_takeAway 4 none rm_X3_takeAway G [.ref a, .int (nI r), .int (nI c), .int v] (wT G a b w n f) none (fun _ => (wT G a b w n (upd f j (mxI 0 (f j - v))))) := by
  refine gMet (by decide) (Nat.le_of_ble_eq_true rfl) (fun X hX C hr hin E => ?_)
  clear hX
  refine (show gW G X (wT G a b w n f) 0 0 0 [(0, .ref a), (1, .int (nI r)), (2, .int (nI c)), (3, .int v)] [] from ?_)
  refine x_aload_n C 0 rfl dX3_takeAway_0 rfl ?_
  refine x_iload_n C 1 rfl dX3_takeAway_1 rfl ?_
  refine x_iload_n C 2 rfl dX3_takeAway_2 rfl ?_
  refine x_iconst (v := (nI 0)) C dX3_takeAway_3 (by decide) ?_
  refine x_aload_n C 0 rfl dX3_takeAway_4 rfl ?_
  refine x_iload_n C 1 rfl dX3_takeAway_5 rfl ?_
  refine x_iload_n C 2 rfl dX3_takeAway_6 rfl ?_
  refine x_callVd (As := [.int (nI r), .int (nI c)]) (rest := [.int (nI 0), .int (nI c), .int (nI r), .ref a]) C dX3_takeAway_7 (c_X3_at (gX.l X) G a b w n f r c j (by omega) (by omega) (by omega) (by omega) (by omega)) ml_X3_17 im_X3_at sl_X3_at in_X3 cd_X3_at hd_X3_at 0 rfl rfl rfl rfl (Nat.le_of_ble_eq_true rfl) ⟨Nat.le_of_ble_eq_true rfl, Nat.le_of_ble_eq_true rfl⟩ (List.take 0 (wT G a b w n f)) (List.drop 2 (wT G a b w n f)) rfl (ws' := (wT G a b w n f)) rfl (st' := [.int (f j), .int (nI 0), .int (nI c), .int (nI r), .ref a]) rfl ⟨rfl, rfl⟩ ⟨Nat.le_of_ble_eq_true rfl, Nat.le_of_ble_eq_true rfl⟩ ?_
  refine x_iload_n C 3 rfl dX3_takeAway_10 rfl ?_
  refine x_isub (x := (f j)) (y := v) C dX3_takeAway_11 ?_
  refine x_max (x := 0) (y := ((f j) - v)) C dX3_takeAway_12 ml_X3_25 st_J9_max_7cf53 in_J9 cd_J9_max_7cf53 (Nat.le_of_ble_eq_true rfl) ⟨Nat.le_of_ble_eq_true rfl, Nat.le_of_ble_eq_true rfl⟩ ⟨Nat.le_of_ble_eq_true rfl, Nat.le_of_ble_eq_true rfl⟩ ?_
  refine x_callVd (As := [.int (nI r), .int (nI c), .int (mxI 0 ((f j) - v))]) (rest := []) C dX3_takeAway_15 (c_X3_put (gX.l X) G a b w n f r c j (mxI 0 ((f j) - v)) (by omega) (by omega) (by omega) (by omega) (by omega)) ml_X3_21 im_X3_put sl_X3_put in_X3 cd_X3_put hd_X3_put 0 rfl rfl rfl rfl (Nat.le_of_ble_eq_true rfl) ⟨Nat.le_of_ble_eq_true rfl, Nat.le_of_ble_eq_true rfl⟩ (List.take 0 (wT G a b w n f)) (List.drop 2 (wT G a b w n f)) rfl (ws' := (wT G a b w n (upd f j (mxI 0 ((f j) - v))))) rfl (st' := []) rfl ⟨rfl, rfl⟩ ⟨Nat.le_of_ble_eq_true rfl, Nat.le_of_ble_eq_true rfl⟩ ?_
  exact x_vret C hr E dX3_takeAway_18 (fun _ => 0) rfl
def rm_X3_addUpTo : Room := { frames := 1, cells := 0, slots := 0, locals := 24 }
set_option maxRecDepth 100000 in
set_option maxHeartbeats 4000000 in
theorem c_X3_addUpTo (l : Launch) (G : gG) (a b w n : Nat) (f : Nat → Int32) (r c j : Nat) (v : Int32)  (hj : r * w + c = j) (hc : c < w) (hjn : j < n) (hn : n < 2 ^ 31) (hw : w < 2 ^ 31) : CT l yX3_addUpTo cX3_addUpTo 4 none rm_X3_addUpTo G [.ref a, .int (nI r), .int (nI c), .int v] (wT G a b w n f) none (fun _ => (wT G a b w n (upd f j (mnI v (f j + 1))))) := by
  refine gMet (by decide) (Nat.le_of_ble_eq_true rfl) (fun X hX C hr hin E => ?_)
  clear hX
  refine (show gW G X (wT G a b w n f) 0 0 0 [(0, .ref a), (1, .int (nI r)), (2, .int (nI c)), (3, .int v)] [] from ?_)
  refine x_aload_n C 0 rfl dX3_addUpTo_0 rfl ?_
  refine x_iload_n C 1 rfl dX3_addUpTo_1 rfl ?_
  refine x_iload_n C 2 rfl dX3_addUpTo_2 rfl ?_
  refine x_iload_n C 3 rfl dX3_addUpTo_3 rfl ?_
  refine x_aload_n C 0 rfl dX3_addUpTo_4 rfl ?_
  refine x_iload_n C 1 rfl dX3_addUpTo_5 rfl ?_
  refine x_iload_n C 2 rfl dX3_addUpTo_6 rfl ?_
  refine x_callVd (As := [.int (nI r), .int (nI c)]) (rest := [.int v, .int (nI c), .int (nI r), .ref a]) C dX3_addUpTo_7 (c_X3_at (gX.l X) G a b w n f r c j (by omega) (by omega) (by omega) (by omega) (by omega)) ml_X3_17 im_X3_at sl_X3_at in_X3 cd_X3_at hd_X3_at 0 rfl rfl rfl rfl (Nat.le_of_ble_eq_true rfl) ⟨Nat.le_of_ble_eq_true rfl, Nat.le_of_ble_eq_true rfl⟩ (List.take 0 (wT G a b w n f)) (List.drop 2 (wT G a b w n f)) rfl (ws' := (wT G a b w n f)) rfl (st' := [.int (f j), .int v, .int (nI c), .int (nI r), .ref a]) rfl ⟨rfl, rfl⟩ ⟨Nat.le_of_ble_eq_true rfl, Nat.le_of_ble_eq_true rfl⟩ ?_
  refine x_iconst (v := (nI 1)) C dX3_addUpTo_10 (by decide) ?_
  refine x_iadd (x := (f j)) (y := 1) C dX3_addUpTo_11 ?_
  refine x_min (x := v) (y := ((f j) + 1)) C dX3_addUpTo_12 ml_X3_30 st_J9_min_7cf53 in_J9 cd_J9_min_7cf53 (Nat.le_of_ble_eq_true rfl) ⟨Nat.le_of_ble_eq_true rfl, Nat.le_of_ble_eq_true rfl⟩ ⟨Nat.le_of_ble_eq_true rfl, Nat.le_of_ble_eq_true rfl⟩ ?_
  refine x_callVd (As := [.int (nI r), .int (nI c), .int (mnI v ((f j) + 1))]) (rest := []) C dX3_addUpTo_15 (c_X3_put (gX.l X) G a b w n f r c j (mnI v ((f j) + 1)) (by omega) (by omega) (by omega) (by omega) (by omega)) ml_X3_21 im_X3_put sl_X3_put in_X3 cd_X3_put hd_X3_put 0 rfl rfl rfl rfl (Nat.le_of_ble_eq_true rfl) ⟨Nat.le_of_ble_eq_true rfl, Nat.le_of_ble_eq_true rfl⟩ (List.take 0 (wT G a b w n f)) (List.drop 2 (wT G a b w n f)) rfl (ws' := (wT G a b w n (upd f j (mnI v ((f j) + 1))))) rfl (st' := []) rfl ⟨rfl, rfl⟩ ⟨Nat.le_of_ble_eq_true rfl, Nat.le_of_ble_eq_true rfl⟩ ?_
  exact x_vret C hr E dX3_addUpTo_18 (fun _ => 0) rfl
def rm_X3_sum : Room := { frames := 1, cells := 0, slots := 0, locals := 23 }
set_option maxRecDepth 100000 in
set_option maxHeartbeats 4000000 in
theorem c_X3_sum (l : Launch) (G : gG) (a b w n : Nat) (f : Nat → Int32) (r j : Nat)  (hj : r * w = j) (hjn : j + w ≤ n) (hn : n < 2 ^ 31) : CT l yX3_sum cX3_sum 4 (some .int) rm_X3_sum G [.ref a, .int (nI r)] (wT G a b w n f) (some (.int (sumF f j w))) (fun _ => (wT G a b w n f)) := by
  refine gMet (by decide) (Nat.le_of_ble_eq_true rfl) (fun X hX C hr hin E => ?_)
  clear hX
  refine (show gW G X (wT G a b w n f) 0 0 0 [(0, .ref a), (1, .int (nI r))] [] from ?_)
  refine x_iconst (v := (nI 0)) C dX3_sum_0 (by decide) ?_
  refine x_istore_n (lv' := [(2, .int (nI 0)), (0, .ref a), (1, .int (nI r))]) C dX3_sum_1 rfl (by decide) rfl ?_
  refine x_iconst (v := (nI 0)) C dX3_sum_2 (by decide) ?_
  refine x_istore_n (lv' := [(3, .int (nI 0)), (2, .int (nI 0)), (0, .ref a), (1, .int (nI r))]) C dX3_sum_3 rfl (by decide) rfl ?_
  have L1 : ∀ (fu : Nat) (i : Nat) (acc : Int32), i + fu = w → acc = sumF f j i → gW G X (wT G a b w n f) 0 0 4 [(3, .int (nI i)), (2, .int acc), (0, .ref a), (1, .int (nI r))] [] := by
    intro fu
    induction fu with
    | zero =>
      intro i acc hn ha
      have hi : i = w := by omega
      refine x_iload_n C 0 rfl dX3_sum_4 rfl ?_
      refine x_aload_n C 2 rfl dX3_sum_5 rfl ?_
      refine x_get (k := 0) (v := .int (nI w)) C dX3_sum_6 layX3 fl_X3_7 0 rfl rfl (by decide) rfl ?_
      refine x_icmp_geN (a := i) (b := w) (tgt := 27) C dX3_sum_9 (by decide) (by omega) (by omega) (fun c2 => ?_) (fun c2 => False.elim (by omega))
      refine x_iload_n C 1 rfl dX3_sum_27 rfl ?_
      exact x_iret C hr E dX3_sum_28 (fun _ => 0) (by rw [ha, hi]) rfl
    | succ fu ih =>
      intro i acc hn ha
      refine x_iload_n C 0 rfl dX3_sum_4 rfl ?_
      refine x_aload_n C 2 rfl dX3_sum_5 rfl ?_
      refine x_get (k := 0) (v := .int (nI w)) C dX3_sum_6 layX3 fl_X3_7 0 rfl rfl (by decide) rfl ?_
      refine x_icmp_geN (a := i) (b := w) (tgt := 27) C dX3_sum_9 (by decide) (by omega) (by omega) (fun c3 => False.elim (by omega)) (fun c3 => ?_)
      refine x_iload_n C 1 rfl dX3_sum_12 rfl ?_
      refine x_aload_n C 2 rfl dX3_sum_13 rfl ?_
      refine x_iload_n C 3 rfl dX3_sum_14 rfl ?_
      refine x_iload_n C 0 rfl dX3_sum_15 rfl ?_
      refine x_callVd (As := [.int (nI r), .int (nI i)]) (rest := [.int acc]) C dX3_sum_16 (c_X3_at (gX.l X) G a b w n f r i (j + i) (by omega) (by omega) (by omega) (by omega) (by omega)) ml_X3_17 im_X3_at sl_X3_at in_X3 cd_X3_at hd_X3_at 0 rfl rfl rfl rfl (Nat.le_of_ble_eq_true rfl) ⟨Nat.le_of_ble_eq_true rfl, Nat.le_of_ble_eq_true rfl⟩ (List.take 0 (wT G a b w n f)) (List.drop 2 (wT G a b w n f)) rfl (ws' := (wT G a b w n f)) rfl (st' := [.int (f (j + i)), .int acc]) rfl ⟨rfl, rfl⟩ ⟨Nat.le_of_ble_eq_true rfl, Nat.le_of_ble_eq_true rfl⟩ ?_
      refine x_iadd (x := acc) (y := (f (j + i))) C dX3_sum_19 ?_
      refine x_istore_n (lv' := [(2, .int (acc + (f (j + i)))), (3, .int (nI i)), (0, .ref a), (1, .int (nI r))]) C dX3_sum_20 rfl (by decide) rfl ?_
      refine x_iinc (v := (nI (i + 1))) (lv' := [(3, .int (nI (i + 1))), (2, .int (acc + (f (j + i)))), (0, .ref a), (1, .int (nI r))]) C 1 rfl dX3_sum_21 (by rw [show Int32.ofInt 1 = nI 1 from rfl]; exact nI_add _ _) (by decide) rfl ?_
      refine x_goto (tgt := 4) C dX3_sum_24 (by decide) ?_
      exact ih (i + 1) (acc + (f (j + i))) (by omega) (by rw [ha]; rfl)
  exact L1 w 0 0 (by omega) (by rfl)
def rm_X3_moveColumn : Room := { frames := 1, cells := 0, slots := 0, locals := 24 }
set_option maxRecDepth 100000 in
set_option maxHeartbeats 4000000 in
theorem c_X3_moveColumn (l : Launch) (G : gG) (a b : Nat) (f : Nat → Int32) (x y : Nat)  (hx : x < 40) (hy : y < 40) : CT l yX3_moveColumn cX3_moveColumn 5 none rm_X3_moveColumn G [.ref a, .int (nI x), .int (nI y), .int (nI 3)] (wT G a b 40 120 f) none (fun _ => (wT G a b 40 120 (mvC f 40 x y 3))) := by
  refine gMet (by decide) (Nat.le_of_ble_eq_true rfl) (fun X hX C hr hin E => ?_)
  clear hX
  refine (show gW G X (wT G a b 40 120 f) 0 0 0 [(0, .ref a), (1, .int (nI x)), (2, .int (nI y)), (3, .int (nI 3))] [] from ?_)
  refine x_iconst (v := (nI 0)) C dX3_moveColumn_0 (by decide) ?_
  refine x_istore (lv' := [(4, .int (nI 0)), (0, .ref a), (1, .int (nI x)), (2, .int (nI y)), (3, .int (nI 3))]) C dX3_moveColumn_1 (by decide) rfl ?_
  have L1 : ∀ (fu : Nat) (i : Nat) (g : Nat → Int32), i + fu = 3 → g = mvC f 40 x y i → gW G X (wT G a b 40 120 g) 0 0 3 [(4, .int (nI i)), (0, .ref a), (1, .int (nI x)), (2, .int (nI y)), (3, .int (nI 3))] [] := by
    intro fu
    induction fu with
    | zero =>
      intro i g hn hg
      have hi : i = 3 := by omega
      refine x_iload C 0 rfl dX3_moveColumn_3 ?_
      refine x_iload_n C 4 rfl dX3_moveColumn_5 rfl ?_
      refine x_icmp_geN (a := i) (b := 3) (tgt := 29) C dX3_moveColumn_6 (by decide) (by omega) (by omega) (fun c2 => ?_) (fun c2 => False.elim (by omega))
      exact x_vret C hr E dX3_moveColumn_29 (fun _ => 0) (by rw [hg, hi])
    | succ fu ih =>
      intro i g hn hg
      refine x_iload C 0 rfl dX3_moveColumn_3 ?_
      refine x_iload_n C 4 rfl dX3_moveColumn_5 rfl ?_
      refine x_icmp_geN (a := i) (b := 3) (tgt := 29) C dX3_moveColumn_6 (by decide) (by omega) (by omega) (fun c3 => False.elim (by omega)) (fun c3 => ?_)
      refine x_aload_n C 1 rfl dX3_moveColumn_9 rfl ?_
      refine x_iload C 0 rfl dX3_moveColumn_10 ?_
      refine x_iload_n C 3 rfl dX3_moveColumn_12 rfl ?_
      refine x_aload_n C 1 rfl dX3_moveColumn_13 rfl ?_
      refine x_iload C 0 rfl dX3_moveColumn_14 ?_
      refine x_iload_n C 2 rfl dX3_moveColumn_16 rfl ?_
      refine x_callVd (As := [.int (nI i), .int (nI x)]) (rest := [.int (nI y), .int (nI i), .ref a]) C dX3_moveColumn_17 (c_X3_at (gX.l X) G a b 40 120 g i x (i * 40 + x) (by omega) (by omega) (by omega) (by omega) (by omega)) ml_X3_17 im_X3_at sl_X3_at in_X3 cd_X3_at hd_X3_at 0 rfl rfl rfl rfl (Nat.le_of_ble_eq_true rfl) ⟨Nat.le_of_ble_eq_true rfl, Nat.le_of_ble_eq_true rfl⟩ (List.take 0 (wT G a b 40 120 g)) (List.drop 2 (wT G a b 40 120 g)) rfl (ws' := (wT G a b 40 120 g)) rfl (st' := [.int (g (i * 40 + x)), .int (nI y), .int (nI i), .ref a]) rfl ⟨rfl, rfl⟩ ⟨Nat.le_of_ble_eq_true rfl, Nat.le_of_ble_eq_true rfl⟩ ?_
      refine x_callVd (As := [.int (nI i), .int (nI y), .int (g (i * 40 + x))]) (rest := []) C dX3_moveColumn_20 (c_X3_put (gX.l X) G a b 40 120 g i y (i * 40 + y) (g (i * 40 + x)) (by omega) (by omega) (by omega) (by omega) (by omega)) ml_X3_21 im_X3_put sl_X3_put in_X3 cd_X3_put hd_X3_put 0 rfl rfl rfl rfl (Nat.le_of_ble_eq_true rfl) ⟨Nat.le_of_ble_eq_true rfl, Nat.le_of_ble_eq_true rfl⟩ (List.take 0 (wT G a b 40 120 g)) (List.drop 2 (wT G a b 40 120 g)) rfl (ws' := (wT G a b 40 120 (upd g (i * 40 + y) (g (i * 40 + x))))) rfl (st' := []) rfl ⟨rfl, rfl⟩ ⟨Nat.le_of_ble_eq_true rfl, Nat.le_of_ble_eq_true rfl⟩ ?_
      refine x_iinc (v := (nI (i + 1))) (lv' := [(4, .int (nI (i + 1))), (0, .ref a), (1, .int (nI x)), (2, .int (nI y)), (3, .int (nI 3))]) C 0 rfl dX3_moveColumn_23 (by rw [show Int32.ofInt 1 = nI 1 from rfl]; exact nI_add _ _) (by decide) rfl ?_
      refine x_goto (tgt := 3) C dX3_moveColumn_26 (by decide) ?_
      exact ih (i + 1) (upd g (i * 40 + y) (g (i * 40 + x))) (by omega) (by rw [hg]; rfl)
  exact L1 3 0 f (by omega) (by rfl)
