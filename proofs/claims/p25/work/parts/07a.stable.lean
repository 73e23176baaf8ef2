/-- a Stable's cells: the object, and five tables -/
def wS (G : gG) (a : Nat → Nat) (ti : Nat) (se ho ri bo : Nat → Int32) (bc : Nat) (fs : Nat → Int32) (fc : Nat) : va_W := (a 0, .inr (2, [.int (nI ti), .ref (a 1), .ref (a 3), .ref (a 5), .ref (a 7), .int (nI bc), .ref (a 9), .int (nI fc)])) :: (wT G (a 1) (a 2) 5 5 se ++ (wT G (a 3) (a 4) 10 90 ho ++ (wT G (a 5) (a 6) 12 120 ri ++ (wT G (a 7) (a 8) 40 120 bo ++ wT G (a 9) (a 10) 20 60 fs))))
/-! what the methods of Stable do, on the numbers of their tables -/
def nC (x : Int32) : Nat := x.toNatClampNeg
def okH (f : Int32) : Prop := f = -5 ∨ (nC f < 10 ∧ f = nI (nC f))
def c_abil (ri : Nat → Int32) (r : Nat) : Int32 := mxI 0 (ri (12 + r) - ri (24 + r))
def c_hind (se ho ri : Nat → Int32) (h r : Nat) (fa : Int32) : Int32 := if 0 < ho (50 + h) then 1 else if nI h = fa then 2 else if ¬ ho (30 + h) < se 1 then 3 else if ¬ ho (20 + h) < se 0 then 4 else if ho h < ri r then 5 else 0
abbrev c_there (se : Nat → Int32) (t : Nat) : Prop := 0 < se 4 ∧ iR (nI (t / 10)) (se 4) = 0
def c_farL (ho : Nat → Int32) : Nat → Int32 × Int32
  | 0 => (0, -5)
  | h + 1 => if (c_farL ho h).1 < ho (30 + h) then (ho (30 + h), nI h) else c_farL ho h
def c_far (se ho : Nat → Int32) (t : Nat) : Int32 := if c_there se t then (c_farL ho 10).2 else -5
abbrev c_better (ho : Nat → Int32) (x y : Nat) (ab : Int32) : Prop := (¬ ab < ho (10 + x) ∧ ab < ho (10 + y)) ∨ ((ab < ho (10 + x) ↔ ab < ho (10 + y)) ∧ (ho (20 + x) - ho (20 + y) < 0 ∨ (ho (20 + x) - ho (20 + y) = 0 ∧ ho x - ho y < 0)))
abbrev c_in (tk : Int32) (h : Nat) : Int32 := (tk >>> (nI h &&& 31)) &&& 1
def c_bestS (se ho ri : Nat → Int32) (r : Nat) (fa tk : Int32) (h : Nat) (f : Int32) : Int32 := if ¬ c_in tk h = 0 then f else if ¬ c_hind se ho ri h r fa = 0 then f else if f = -5 then nI h else if c_better ho h (nC f) (c_abil ri r) then nI h else f
def c_bestL (se ho ri : Nat → Int32) (r : Nat) (fa tk : Int32) : Nat → Int32
  | 0 => -5
  | h + 1 => c_bestS se ho ri r fa tk h (c_bestL se ho ri r fa tk h)
def c_best (se ho ri : Nat → Int32) (r : Nat) (fa tk : Int32) : Int32 := c_bestL se ho ri r fa tk 10
def c_lame (ho : Nat → Int32) : Nat → Int32
  | 0 => 0
  | h + 1 => c_lame ho h + bI (0 < ho (50 + h))
abbrev c_isB (bo : Nat → Int32) (tm : Int32) (i : Nat) : Prop := bo i = tm
abbrev c_isBR (bo : Nat → Int32) (tm rg : Int32) (i : Nat) : Prop := (bo i = tm) ∧ (bo (40 + i) = rg)
def c_findR (bo : Nat → Int32) (tm r : Int32) : Nat → Nat → Int32
  | 0, _ => -5
  | n + 1, i => if bo i = tm then (if bo (80 + i) = r then nI i else c_findR bo tm r n (i + 1)) else c_findR bo tm r n (i + 1)
def c_find (bo : Nat → Int32) (bc : Nat) (tm r : Int32) : Int32 := c_findR bo tm r bc 0
def c_bf (bo : Nat → Int32) (tm rg : Int32) : Nat → Int32
  | 0 => 0
  | i + 1 => c_bf bo tm rg i + bI (c_isBR bo tm rg i)
def c_ball (bo : Nat → Int32) (tm : Int32) : Nat → Int32
  | 0 => 0
  | i + 1 => c_ball bo tm i + bI (bo i = tm)
def c_set (bo : Nat → Int32) (tm rg : Int32) : Nat → Int32
  | 0 => 0
  | i + 1 => if c_isBR bo tm rg i then c_set bo tm rg i ||| ((1 : Int32) <<< (bo (80 + i) &&& 31)) else c_set bo tm rg i
def c_bof (bo : Nat → Int32) (r : Int32) : Nat → Int32
  | 0 => 0
  | i + 1 => c_bof bo r i + bI (bo (80 + i) = r)
def c_bErr (bo : Nat → Int32) (bc : Nat) (tm : Int32) (rg r : Nat) : Int32 := if c_find bo bc tm (nI r) = -5 then (if c_bf bo tm (nI rg) bc < sT 0 rg then (if bc < 40 then 0 else -3) else -3) else -4
def c_rmR : Nat → Nat → (Nat → Int32) → Nat → Int32
  | 0, _, f => f
  | n + 1, i, f => c_rmR n (i + 1) (mvC f 40 i (i - 1) 3)
def c_addB (bo : Nat → Int32) (bc : Nat) (tm rg r : Int32) : Nat → Int32 := upd (upd (upd bo bc tm) (40 + bc) rg) (80 + bc) r
def c_ofFall (fs : Nat → Int32) (fc : Nat) (rk w : Nat) : Int32 := if rk < min fc 20 then fs (w * 20 + (fc - 1 - rk) % 20) else -5
def c_fallRi (ri : Nat → Int32) (r : Nat) : Nat → Int32 :=
  let a := upd ri (24 + r) (mnI 9 (ri (24 + r) + 1))
  let b := upd a (48 + r) 0
  upd b (72 + r) (b (72 + r) + 1)
def c_fallHo (ho : Nat → Int32) (h : Nat) : Nat → Int32 := upd ho (70 + h) (ho (70 + h) + 1)
def c_fallFs (fs : Nat → Int32) (fc t r h : Nat) : Nat → Int32 := upd (upd (upd fs (fc % 20) (nI t)) (20 + fc % 20) (nI r)) (40 + fc % 20) (nI h)
def c_lea1 (ri : Nat → Int32) (r : Nat) : Nat → Int32 :=
  let a := upd ri (24 + r) (mxI 0 (ri (24 + r) - 1))
  upd a (48 + r) (a (48 + r) + 1)
def c_learn (ri : Nat → Int32) (r : Nat) : Nat → Int32 := if iR (c_lea1 ri r (48 + r)) 3 = 0 then upd (c_lea1 ri r) (12 + r) (mnI 9 (c_lea1 ri r (12 + r) + 1)) else c_lea1 ri r
def c_str1 (ho : Nat → Int32) (h : Nat) : Nat → Int32 := upd ho (40 + h) (ho (40 + h) + 1)
theorem c_better_same {ho : Nat → Int32} {x y : Nat} {ab : Int32} (h : bI (¬ ab < ho (10 + x)) = bI (¬ ab < ho (10 + y))) : bI ((ho (20 + x) - ho (20 + y) < 0) ∨ ((ho (20 + x) - ho (20 + y) = 0) ∧ (ho x - ho y < 0))) = bI (c_better ho x y ab) := by
  refine bI_iff ?_
  unfold c_better
  by_cases h1 : ab < ho (10 + x) <;> by_cases h2 : ab < ho (10 + y)
  · simp only [h1, h2, not_true_eq_false, false_and, false_or, true_and]
  · simp [bI, h1, h2] at h
  · simp [bI, h1, h2] at h
  · simp only [h1, h2, not_false_eq_true, and_false, false_or, true_and]
theorem c_better_diff {ho : Nat → Int32} {x y : Nat} {ab : Int32} (h : ¬ bI (¬ ab < ho (10 + x)) = bI (¬ ab < ho (10 + y))) : bI (¬ ab < ho (10 + x)) = bI (c_better ho x y ab) := by
  refine bI_iff ?_
  unfold c_better
  by_cases h1 : ab < ho (10 + x) <;> by_cases h2 : ab < ho (10 + y)
  · simp [bI, h1, h2] at h
  · simp only [h1, h2, not_true_eq_false, false_and, false_or, iff_false, not_false_eq_true]
  · simp only [h1, h2, not_false_eq_true, true_and, true_or]
  · simp [bI, h1, h2] at h
def c_strain (se ho : Nat → Int32) (h : Nat) (w : Int32) : Nat → Int32 := if ho h < w + se 2 then (if c_str1 ho h (40 + h) < 3 then c_str1 ho h else upd (upd (c_str1 ho h) (50 + h) (se 3)) (40 + h) 0) else ho
def rm_X3_copyFrom : Room := { frames := 1, cells := 0, slots := 0, locals := 40 }
set_option maxRecDepth 100000 in
set_option maxHeartbeats 4000000 in
theorem c_X3_copyFrom (l : Launch) (G : gG) (a b c d w n : Nat) (f g : Nat → Int32)  (hn : n < 2 ^ 31) : CT l yX3_copyFrom cX3_copyFrom 2 none rm_X3_copyFrom G [.ref a, .ref c] (wT G a b w n f ++ wT G c d w n g) none (fun _ => (wT G a b w n g ++ wT G c d w n g)) := by
  refine gMet (by decide) (Nat.le_of_ble_eq_true rfl) (fun X hX C hr hin E => ?_)
  clear hX
  refine (show gW G X (wT G a b w n f ++ wT G c d w n g) 0 0 0 [(0, .ref a), (1, .ref c)] [] from ?_)
  refine x_aload_n C 1 rfl dX3_copyFrom_0 rfl ?_
  refine x_get (k := 1) (v := .ref d) C dX3_copyFrom_1 layX3 fl_X3_13 2 rfl rfl (by decide) rfl ?_
  refine x_alenI C dX3_copyFrom_4 3 rfl ?_
  refine x_aload_n C 0 rfl dX3_copyFrom_5 rfl ?_
  refine x_get (k := 1) (v := .ref b) C dX3_copyFrom_6 layX3 fl_X3_13 0 rfl rfl (by decide) rfl ?_
  refine x_alenI C dX3_copyFrom_9 1 rfl ?_
  refine x_icmp_neN (a := n) (b := n) (tgt := 31) C dX3_copyFrom_10 (by decide) (by omega) (by omega) (fun c1 => False.elim (by omega)) (fun c1 => ?_)
  refine x_aload_n C 1 rfl dX3_copyFrom_13 rfl ?_
  refine x_get (k := 1) (v := .ref d) C dX3_copyFrom_14 layX3 fl_X3_13 2 rfl rfl (by decide) rfl ?_
  refine x_iconst (v := (nI 0)) C dX3_copyFrom_17 (by decide) ?_
  refine x_aload_n C 0 rfl dX3_copyFrom_18 rfl ?_
  refine x_get (k := 1) (v := .ref b) C dX3_copyFrom_19 layX3 fl_X3_13 0 rfl rfl (by decide) rfl ?_
  refine x_iconst (v := (nI 0)) C dX3_copyFrom_22 (by decide) ?_
  refine x_aload_n C 0 rfl dX3_copyFrom_23 rfl ?_
  refine x_get (k := 1) (v := .ref b) C dX3_copyFrom_24 layX3 fl_X3_13 0 rfl rfl (by decide) rfl ?_
  refine x_alenI C dX3_copyFrom_27 1 rfl ?_
  refine x_copy C dX3_copyFrom_28 ml_X3_33 na_System_arraycopy st_System_arraycopy in_J10 3 1 rfl rfl (by omega) (Nat.le_of_ble_eq_true rfl) (Nat.le_of_ble_eq_true rfl) (ws' := (wT G a b w n g ++ wT G c d w n g)) rfl ?_
  exact x_vret C hr E dX3_copyFrom_31 (fun _ => 0) rfl
def rm_X5_entry : Room := { frames := 0, cells := 0, slots := 0, locals := 0 }
set_option maxRecDepth 100000 in
set_option maxHeartbeats 4000000 in
theorem c_X5_entry0 (l : Launch) (G : gG) (j : Nat)  (hj : j < 3) : CT l yX5_entry cX5_entry 2 (some .int) rm_X5_entry G [.ref (G.2.2 0), .int (nI j)] [] (some (.int (sT 0 j))) (fun _ => []) := by
  refine gMet (by decide) (Nat.le_of_ble_eq_true rfl) (fun X hX C hr hin E => ?_)
  clear hX
  refine (show gW G X [] 0 0 0 [(0, .ref (G.2.2 0)), (1, .int (nI j))] [] from ?_)
  refine x_iload_n C 1 rfl dX5_entry_0 rfl ?_
  refine x_if_ltN (a := j) (tgt := 16) C dX5_entry_1 (by decide) (by omega) (fun c1 => False.elim (by omega)) (fun c1 => ?_)
  refine x_iload_n C 1 rfl dX5_entry_4 rfl ?_
  refine x_aload_n C 0 rfl dX5_entry_5 rfl ?_
  refine x_tlen0 C dX5_entry_6 ?_
  refine x_icmp_geN (a := j) (b := 3) (tgt := 16) C dX5_entry_7 (by decide) (by omega) (by omega) (fun c2 => False.elim (by omega)) (fun c2 => ?_)
  refine x_aload_n C 0 rfl dX5_entry_10 rfl ?_
  refine x_iload_n C 1 rfl dX5_entry_11 rfl ?_
  refine x_ti0 C dX5_entry_12 rfl (by omega) ?_
  refine x_goto (tgt := 17) C dX5_entry_13 (by decide) ?_
  exact x_iret C hr E dX5_entry_17 (fun _ => 0) rfl rfl
set_option maxRecDepth 100000 in
set_option maxHeartbeats 4000000 in
theorem c_X5_entry1 (l : Launch) (G : gG) (j : Nat)  (hj : j < 5) : CT l yX5_entry cX5_entry 2 (some .int) rm_X5_entry G [.ref (G.2.2 1), .int (nI j)] [] (some (.int (sT 1 j))) (fun _ => []) := by
  refine gMet (by decide) (Nat.le_of_ble_eq_true rfl) (fun X hX C hr hin E => ?_)
  clear hX
  refine (show gW G X [] 0 0 0 [(0, .ref (G.2.2 1)), (1, .int (nI j))] [] from ?_)
  refine x_iload_n C 1 rfl dX5_entry_0 rfl ?_
  refine x_if_ltN (a := j) (tgt := 16) C dX5_entry_1 (by decide) (by omega) (fun c1 => False.elim (by omega)) (fun c1 => ?_)
  refine x_iload_n C 1 rfl dX5_entry_4 rfl ?_
  refine x_aload_n C 0 rfl dX5_entry_5 rfl ?_
  refine x_tlen1 C dX5_entry_6 ?_
  refine x_icmp_geN (a := j) (b := 5) (tgt := 16) C dX5_entry_7 (by decide) (by omega) (by omega) (fun c2 => False.elim (by omega)) (fun c2 => ?_)
  refine x_aload_n C 0 rfl dX5_entry_10 rfl ?_
  refine x_iload_n C 1 rfl dX5_entry_11 rfl ?_
  refine x_ti1 C dX5_entry_12 rfl (by omega) ?_
  refine x_goto (tgt := 17) C dX5_entry_13 (by decide) ?_
  exact x_iret C hr E dX5_entry_17 (fun _ => 0) rfl rfl
set_option maxRecDepth 100000 in
set_option maxHeartbeats 4000000 in
theorem c_X5_entry2 (l : Launch) (G : gG) (j : Nat)  (hj : j < 5) : CT l yX5_entry cX5_entry 2 (some .int) rm_X5_entry G [.ref (G.2.2 2), .int (nI j)] [] (some (.int (sT 2 j))) (fun _ => []) := by
  refine gMet (by decide) (Nat.le_of_ble_eq_true rfl) (fun X hX C hr hin E => ?_)
  clear hX
  refine (show gW G X [] 0 0 0 [(0, .ref (G.2.2 2)), (1, .int (nI j))] [] from ?_)
  refine x_iload_n C 1 rfl dX5_entry_0 rfl ?_
  refine x_if_ltN (a := j) (tgt := 16) C dX5_entry_1 (by decide) (by omega) (fun c1 => False.elim (by omega)) (fun c1 => ?_)
  refine x_iload_n C 1 rfl dX5_entry_4 rfl ?_
  refine x_aload_n C 0 rfl dX5_entry_5 rfl ?_
  refine x_tlen2 C dX5_entry_6 ?_
  refine x_icmp_geN (a := j) (b := 5) (tgt := 16) C dX5_entry_7 (by decide) (by omega) (by omega) (fun c2 => False.elim (by omega)) (fun c2 => ?_)
  refine x_aload_n C 0 rfl dX5_entry_10 rfl ?_
  refine x_iload_n C 1 rfl dX5_entry_11 rfl ?_
  refine x_ti2 C dX5_entry_12 rfl (by omega) ?_
  refine x_goto (tgt := 17) C dX5_entry_13 (by decide) ?_
  exact x_iret C hr E dX5_entry_17 (fun _ => 0) rfl rfl
set_option maxRecDepth 100000 in
set_option maxHeartbeats 4000000 in
theorem c_X5_entry3 (l : Launch) (G : gG) (j : Nat)  (hj : j < 5) : CT l yX5_entry cX5_entry 2 (some .int) rm_X5_entry G [.ref (G.2.2 3), .int (nI j)] [] (some (.int (sT 3 j))) (fun _ => []) := by
  refine gMet (by decide) (Nat.le_of_ble_eq_true rfl) (fun X hX C hr hin E => ?_)
  clear hX
  refine (show gW G X [] 0 0 0 [(0, .ref (G.2.2 3)), (1, .int (nI j))] [] from ?_)
  refine x_iload_n C 1 rfl dX5_entry_0 rfl ?_
  refine x_if_ltN (a := j) (tgt := 16) C dX5_entry_1 (by decide) (by omega) (fun c1 => False.elim (by omega)) (fun c1 => ?_)
  refine x_iload_n C 1 rfl dX5_entry_4 rfl ?_
  refine x_aload_n C 0 rfl dX5_entry_5 rfl ?_
  refine x_tlen3 C dX5_entry_6 ?_
  refine x_icmp_geN (a := j) (b := 5) (tgt := 16) C dX5_entry_7 (by decide) (by omega) (by omega) (fun c2 => False.elim (by omega)) (fun c2 => ?_)
  refine x_aload_n C 0 rfl dX5_entry_10 rfl ?_
  refine x_iload_n C 1 rfl dX5_entry_11 rfl ?_
  refine x_ti3 C dX5_entry_12 rfl (by omega) ?_
  refine x_goto (tgt := 17) C dX5_entry_13 (by decide) ?_
  exact x_iret C hr E dX5_entry_17 (fun _ => 0) rfl rfl
def rm_X5_isOutside : Room := { frames := 0, cells := 0, slots := 0, locals := 0 }
set_option maxRecDepth 100000 in
set_option maxHeartbeats 4000000 in
theorem c_X5_isOutside (l : Launch) (G : gG) (v lo hi : Int32)  : CT l yX5_isOutside cX5_isOutside 3 (some .boolean) rm_X5_isOutside G [.int v, .int lo, .int hi] [] (some (.int (bI ((v < lo) ∨ (hi < v))))) (fun _ => []) := by
  refine gMet (by decide) (Nat.le_of_ble_eq_true rfl) (fun X hX C hr hin E => ?_)
  clear hX
  refine (show gW G X [] 0 0 0 [(0, .int v), (1, .int lo), (2, .int hi)] [] from ?_)
  refine x_iload_n C 0 rfl dX5_isOutside_0 rfl ?_
  refine x_iload_n C 1 rfl dX5_isOutside_1 rfl ?_
  have J3 : ∀ (y4 : Int32) , y4 = bI ((v < lo) ∨ (hi < v)) → gW G X [] 0 0 15 [(0, .int v), (1, .int lo), (2, .int hi)] [.int y4] := by
    intro y4 ey4
    subst ey4
    exact x_zret C hr bI_nar E dX5_isOutside_15 (fun _ => 0) rfl rfl
  refine x_icmp_lt (x := v) (y := lo) (tgt := 10) C dX5_isOutside_2 (by decide) (fun c1 => ?_) (fun c1 => ?_)
  · refine x_iconst (v := (nI 1)) C dX5_isOutside_10 (by decide) ?_
    refine x_goto (tgt := 15) C dX5_isOutside_11 (by decide) ?_
    exact J3 (nI 1) (bI_t (by simp only [c1, if_true, if_false, ite_true, ite_false, and_true, true_and, and_false, false_and, or_true, true_or, or_false, false_or, not_true_eq_false, not_false_eq_true, and_self, or_self] <;> decide)).symm
  · refine x_iload_n C 0 rfl dX5_isOutside_5 rfl ?_
    refine x_iload_n C 2 rfl dX5_isOutside_6 rfl ?_
    refine x_icmp_le (x := v) (y := hi) (tgt := 14) C dX5_isOutside_7 (by decide) (fun c2 => ?_) (fun c2 => ?_)
    · refine x_iconst (v := (nI 0)) C dX5_isOutside_14 (by decide) ?_
      exact J3 (nI 0) (bI_f (by simp only [c1, c2, if_true, if_false, ite_true, ite_false, and_true, true_and, and_false, false_and, or_true, true_or, or_false, false_or, not_true_eq_false, not_false_eq_true, and_self, or_self] <;> decide)).symm
    · refine x_iconst (v := (nI 1)) C dX5_isOutside_10 (by decide) ?_
      refine x_goto (tgt := 15) C dX5_isOutside_11 (by decide) ?_
      exact J3 (nI 1) (bI_t (by simp only [c1, c2, if_true, if_false, ite_true, ite_false, and_true, true_and, and_false, false_and, or_true, true_or, or_false, false_or, not_true_eq_false, not_false_eq_true, and_self, or_self] <;> decide)).symm
def rm_X2_time : Room := { frames := 0, cells := 0, slots := 0, locals := 0 }
set_option maxRecDepth 100000 in
set_option maxHeartbeats 4000000 in
theorem c_X2_time (l : Launch) (G : gG) (a : Nat → Nat) (ti : Nat) (se ho ri bo : Nat → Int32) (bc : Nat) (fs : Nat → Int32) (fc : Nat)  : CT l yX2_time cX2_time 1 (some .int) rm_X2_time G [.ref (a 0)] (wS G a ti se ho ri bo bc fs fc) (some (.int (nI ti))) (fun _ => (wS G a ti se ho ri bo bc fs fc)) := by
  refine gMet (by decide) (Nat.le_of_ble_eq_true rfl) (fun X hX C hr hin E => ?_)
  clear hX
  refine (show gW G X (wS G a ti se ho ri bo bc fs fc) 0 0 0 [(0, .ref (a 0))] [] from ?_)
  refine x_aload_n C 0 rfl dX2_time_0 rfl ?_
  refine x_get (k := 0) (v := .int (nI ti)) C dX2_time_1 layX2 fl_X2_44 0 rfl rfl (by decide) rfl ?_
  exact x_iret C hr E dX2_time_4 (fun _ => 0) rfl rfl
def rm_X2_bookingsWaiting : Room := { frames := 0, cells := 0, slots := 0, locals := 0 }
set_option maxRecDepth 100000 in
set_option maxHeartbeats 4000000 in
theorem c_X2_bookingsWaiting (l : Launch) (G : gG) (a : Nat → Nat) (ti : Nat) (se ho ri bo : Nat → Int32) (bc : Nat) (fs : Nat → Int32) (fc : Nat)  : CT l yX2_bookingsWaiting cX2_bookingsWaiting 1 (some .int) rm_X2_bookingsWaiting G [.ref (a 0)] (wS G a ti se ho ri bo bc fs fc) (some (.int (nI bc))) (fun _ => (wS G a ti se ho ri bo bc fs fc)) := by
  refine gMet (by decide) (Nat.le_of_ble_eq_true rfl) (fun X hX C hr hin E => ?_)
  clear hX
  refine (show gW G X (wS G a ti se ho ri bo bc fs fc) 0 0 0 [(0, .ref (a 0))] [] from ?_)
  refine x_aload_n C 0 rfl dX2_bookingsWaiting_0 rfl ?_
  refine x_get (k := 5) (v := .int (nI bc)) C dX2_bookingsWaiting_1 layX2 fl_X2_52 0 rfl rfl (by decide) rfl ?_
  exact x_iret C hr E dX2_bookingsWaiting_4 (fun _ => 0) rfl rfl
def rm_X2_fallsSoFar : Room := { frames := 0, cells := 0, slots := 0, locals := 0 }
set_option maxRecDepth 100000 in
set_option maxHeartbeats 4000000 in
theorem c_X2_fallsSoFar (l : Launch) (G : gG) (a : Nat → Nat) (ti : Nat) (se ho ri bo : Nat → Int32) (bc : Nat) (fs : Nat → Int32) (fc : Nat)  : CT l yX2_fallsSoFar cX2_fallsSoFar 1 (some .int) rm_X2_fallsSoFar G [.ref (a 0)] (wS G a ti se ho ri bo bc fs fc) (some (.int (nI fc))) (fun _ => (wS G a ti se ho ri bo bc fs fc)) := by
  refine gMet (by decide) (Nat.le_of_ble_eq_true rfl) (fun X hX C hr hin E => ?_)
  clear hX
  refine (show gW G X (wS G a ti se ho ri bo bc fs fc) 0 0 0 [(0, .ref (a 0))] [] from ?_)
  refine x_aload_n C 0 rfl dX2_fallsSoFar_0 rfl ?_
  refine x_get (k := 7) (v := .int (nI fc)) C dX2_fallsSoFar_1 layX2 fl_X2_55 0 rfl rfl (by decide) rfl ?_
  exact x_iret C hr E dX2_fallsSoFar_4 (fun _ => 0) rfl rfl
def rm_X2_setting : Room := { frames := 1, cells := 0, slots := 0, locals := 23 }
set_option maxRecDepth 100000 in
set_option maxHeartbeats 4000000 in
theorem c_X2_setting (l : Launch) (G : gG) (a : Nat → Nat) (ti : Nat) (se ho ri bo : Nat → Int32) (bc : Nat) (fs : Nat → Int32) (fc : Nat) (k : Nat)  (hk : k < 5) : CT l yX2_setting cX2_setting 2 (some .int) rm_X2_setting G [.ref (a 0), .int (nI k)] (wS G a ti se ho ri bo bc fs fc) (some (.int (se k))) (fun _ => (wS G a ti se ho ri bo bc fs fc)) := by
  refine gMet (by decide) (Nat.le_of_ble_eq_true rfl) (fun X hX C hr hin E => ?_)
  clear hX
  refine (show gW G X (wS G a ti se ho ri bo bc fs fc) 0 0 0 [(0, .ref (a 0)), (1, .int (nI k))] [] from ?_)
  refine x_aload_n C 0 rfl dX2_setting_0 rfl ?_
  refine x_get (k := 1) (v := .ref (a 1)) C dX2_setting_1 layX2 fl_X2_14 0 rfl rfl (by decide) rfl ?_
  refine x_iconst (v := (nI 0)) C dX2_setting_4 (by decide) ?_
  refine x_iload_n C 1 rfl dX2_setting_5 rfl ?_
  refine x_callVd (As := [.int (nI 0), .int (nI k)]) (rest := []) C dX2_setting_6 (c_X3_at (gX.l X) G (a 1) (a 2) 5 5 se 0 k k (by omega) (by omega) (by omega) (by omega) (by omega)) ml_X2_58 im_X3_at sl_X3_at in_X3 cd_X3_at hd_X3_at 0 rfl rfl rfl rfl (Nat.le_of_ble_eq_true rfl) ⟨Nat.le_of_ble_eq_true rfl, Nat.le_of_ble_eq_true rfl⟩ (List.take 1 (wS G a ti se ho ri bo bc fs fc)) (List.drop 3 (wS G a ti se ho ri bo bc fs fc)) rfl (ws' := (wS G a ti se ho ri bo bc fs fc)) rfl (st' := [.int (se k)]) rfl ⟨rfl, rfl⟩ ⟨Nat.le_of_ble_eq_true rfl, Nat.le_of_ble_eq_true rfl⟩ ?_
  exact x_iret C hr E dX2_setting_9 (fun _ => 0) rfl rfl
def rm_X2_changeSetting : Room := { frames := 1, cells := 0, slots := 0, locals := 24 }
set_option maxRecDepth 100000 in
set_option maxHeartbeats 4000000 in
theorem c_X2_changeSetting (l : Launch) (G : gG) (a : Nat → Nat) (ti : Nat) (se ho ri bo : Nat → Int32) (bc : Nat) (fs : Nat → Int32) (fc : Nat) (k : Nat) (v : Int32)  (hk : k < 5) : CT l yX2_changeSetting cX2_changeSetting 3 none rm_X2_changeSetting G [.ref (a 0), .int (nI k), .int v] (wS G a ti se ho ri bo bc fs fc) none (fun _ => (wS G a ti (upd se k v) ho ri bo bc fs fc)) := by
  refine gMet (by decide) (Nat.le_of_ble_eq_true rfl) (fun X hX C hr hin E => ?_)
  clear hX
  refine (show gW G X (wS G a ti se ho ri bo bc fs fc) 0 0 0 [(0, .ref (a 0)), (1, .int (nI k)), (2, .int v)] [] from ?_)
  refine x_aload_n C 0 rfl dX2_changeSetting_0 rfl ?_
  refine x_get (k := 1) (v := .ref (a 1)) C dX2_changeSetting_1 layX2 fl_X2_14 0 rfl rfl (by decide) rfl ?_
  refine x_iconst (v := (nI 0)) C dX2_changeSetting_4 (by decide) ?_
  refine x_iload_n C 1 rfl dX2_changeSetting_5 rfl ?_
  refine x_iload_n C 2 rfl dX2_changeSetting_6 rfl ?_
  refine x_callVd (As := [.int (nI 0), .int (nI k), .int v]) (rest := []) C dX2_changeSetting_7 (c_X3_put (gX.l X) G (a 1) (a 2) 5 5 se 0 k k v (by omega) (by omega) (by omega) (by omega) (by omega)) ml_X2_40 im_X3_put sl_X3_put in_X3 cd_X3_put hd_X3_put 0 rfl rfl rfl rfl (Nat.le_of_ble_eq_true rfl) ⟨Nat.le_of_ble_eq_true rfl, Nat.le_of_ble_eq_true rfl⟩ (List.take 1 (wS G a ti se ho ri bo bc fs fc)) (List.drop 3 (wS G a ti se ho ri bo bc fs fc)) rfl (ws' := (wS G a ti (upd se k v) ho ri bo bc fs fc)) rfl (st' := []) rfl ⟨rfl, rfl⟩ ⟨Nat.le_of_ble_eq_true rfl, Nat.le_of_ble_eq_true rfl⟩ ?_
  exact x_vret C hr E dX2_changeSetting_10 (fun _ => 0) rfl
def rm_X2_ofHorse : Room := { frames := 1, cells := 0, slots := 0, locals := 23 }
set_option maxRecDepth 100000 in
set_option maxHeartbeats 4000000 in
theorem c_X2_ofHorse (l : Launch) (G : gG) (a : Nat → Nat) (ti : Nat) (se ho ri bo : Nat → Int32) (bc : Nat) (fs : Nat → Int32) (fc : Nat) (h w j : Nat)  (hh : h < 10) (hw : w < 9) (hj : w * 10 + h = j) : CT l yX2_ofHorse cX2_ofHorse 3 (some .int) rm_X2_ofHorse G [.ref (a 0), .int (nI h), .int (nI w)] (wS G a ti se ho ri bo bc fs fc) (some (.int (ho j))) (fun _ => (wS G a ti se ho ri bo bc fs fc)) := by
  refine gMet (by decide) (Nat.le_of_ble_eq_true rfl) (fun X hX C hr hin E => ?_)
  clear hX
  refine (show gW G X (wS G a ti se ho ri bo bc fs fc) 0 0 0 [(0, .ref (a 0)), (1, .int (nI h)), (2, .int (nI w))] [] from ?_)
  refine x_aload_n C 0 rfl dX2_ofHorse_0 rfl ?_
  refine x_get (k := 2) (v := .ref (a 3)) C dX2_ofHorse_1 layX2 fl_X2_20 0 rfl rfl (by decide) rfl ?_
  refine x_iload_n C 2 rfl dX2_ofHorse_4 rfl ?_
  refine x_iload_n C 1 rfl dX2_ofHorse_5 rfl ?_
  refine x_callVd (As := [.int (nI w), .int (nI h)]) (rest := []) C dX2_ofHorse_6 (c_X3_at (gX.l X) G (a 3) (a 4) 10 90 ho w h j (by omega) (by omega) (by omega) (by omega) (by omega)) ml_X2_58 im_X3_at sl_X3_at in_X3 cd_X3_at hd_X3_at 0 rfl rfl rfl rfl (Nat.le_of_ble_eq_true rfl) ⟨Nat.le_of_ble_eq_true rfl, Nat.le_of_ble_eq_true rfl⟩ (List.take 3 (wS G a ti se ho ri bo bc fs fc)) (List.drop 5 (wS G a ti se ho ri bo bc fs fc)) rfl (ws' := (wS G a ti se ho ri bo bc fs fc)) rfl (st' := [.int (ho j)]) rfl ⟨rfl, rfl⟩ ⟨Nat.le_of_ble_eq_true rfl, Nat.le_of_ble_eq_true rfl⟩ ?_
  exact x_iret C hr E dX2_ofHorse_9 (fun _ => 0) rfl rfl
def rm_X2_changeHorse : Room := { frames := 1, cells := 0, slots := 0, locals := 24 }
set_option maxRecDepth 100000 in
set_option maxHeartbeats 4000000 in
theorem c_X2_changeHorse (l : Launch) (G : gG) (a : Nat → Nat) (ti : Nat) (se ho ri bo : Nat → Int32) (bc : Nat) (fs : Nat → Int32) (fc : Nat) (h : Nat) (v w : Int32)  (hh : h < 10) : CT l yX2_changeHorse cX2_changeHorse 4 none rm_X2_changeHorse G [.ref (a 0), .int (nI h), .int v, .int w] (wS G a ti se ho ri bo bc fs fc) none (fun _ => (wS G a ti se (upd (upd ho h v) (10 + h) w) ri bo bc fs fc)) := by
  refine gMet (by decide) (Nat.le_of_ble_eq_true rfl) (fun X hX C hr hin E => ?_)
  clear hX
  refine (show gW G X (wS G a ti se ho ri bo bc fs fc) 0 0 0 [(0, .ref (a 0)), (1, .int (nI h)), (2, .int v), (3, .int w)] [] from ?_)
  refine x_aload_n C 0 rfl dX2_changeHorse_0 rfl ?_
  refine x_get (k := 2) (v := .ref (a 3)) C dX2_changeHorse_1 layX2 fl_X2_20 0 rfl rfl (by decide) rfl ?_
  refine x_iconst (v := (nI 0)) C dX2_changeHorse_4 (by decide) ?_
  refine x_iload_n C 1 rfl dX2_changeHorse_5 rfl ?_
  refine x_iload_n C 2 rfl dX2_changeHorse_6 rfl ?_
  refine x_callVd (As := [.int (nI 0), .int (nI h), .int v]) (rest := []) C dX2_changeHorse_7 (c_X3_put (gX.l X) G (a 3) (a 4) 10 90 ho 0 h h v (by omega) (by omega) (by omega) (by omega) (by omega)) ml_X2_40 im_X3_put sl_X3_put in_X3 cd_X3_put hd_X3_put 0 rfl rfl rfl rfl (Nat.le_of_ble_eq_true rfl) ⟨Nat.le_of_ble_eq_true rfl, Nat.le_of_ble_eq_true rfl⟩ (List.take 3 (wS G a ti se ho ri bo bc fs fc)) (List.drop 5 (wS G a ti se ho ri bo bc fs fc)) rfl (ws' := (wS G a ti se (upd ho h v) ri bo bc fs fc)) rfl (st' := []) rfl ⟨rfl, rfl⟩ ⟨Nat.le_of_ble_eq_true rfl, Nat.le_of_ble_eq_true rfl⟩ ?_
  refine x_aload_n C 0 rfl dX2_changeHorse_10 rfl ?_
  refine x_get (k := 2) (v := .ref (a 3)) C dX2_changeHorse_11 layX2 fl_X2_20 0 rfl rfl (by decide) rfl ?_
  refine x_iconst (v := (nI 1)) C dX2_changeHorse_14 (by decide) ?_
  refine x_iload_n C 1 rfl dX2_changeHorse_15 rfl ?_
  refine x_iload_n C 3 rfl dX2_changeHorse_16 rfl ?_
  refine x_callVd (As := [.int (nI 1), .int (nI h), .int w]) (rest := []) C dX2_changeHorse_17 (c_X3_put (gX.l X) G (a 3) (a 4) 10 90 (upd ho h v) 1 h (10 + h) w (by omega) (by omega) (by omega) (by omega) (by omega)) ml_X2_40 im_X3_put sl_X3_put in_X3 cd_X3_put hd_X3_put 0 rfl rfl rfl rfl (Nat.le_of_ble_eq_true rfl) ⟨Nat.le_of_ble_eq_true rfl, Nat.le_of_ble_eq_true rfl⟩ (List.take 3 (wS G a ti se (upd ho h v) ri bo bc fs fc)) (List.drop 5 (wS G a ti se (upd ho h v) ri bo bc fs fc)) rfl (ws' := (wS G a ti se (upd (upd ho h v) (10 + h) w) ri bo bc fs fc)) rfl (st' := []) rfl ⟨rfl, rfl⟩ ⟨Nat.le_of_ble_eq_true rfl, Nat.le_of_ble_eq_true rfl⟩ ?_
  exact x_vret C hr E dX2_changeHorse_20 (fun _ => 0) rfl
def rm_X2_sumOfHorses : Room := { frames := 2, cells := 0, slots := 0, locals := 46 }
set_option maxRecDepth 100000 in
set_option maxHeartbeats 4000000 in
theorem c_X2_sumOfHorses (l : Launch) (G : gG) (a : Nat → Nat) (ti : Nat) (se ho ri bo : Nat → Int32) (bc : Nat) (fs : Nat → Int32) (fc : Nat) (w : Nat)  (hw : w < 9) : CT l yX2_sumOfHorses cX2_sumOfHorses 2 (some .int) rm_X2_sumOfHorses G [.ref (a 0), .int (nI w)] (wS G a ti se ho ri bo bc fs fc) (some (.int (sumF ho (w * 10) 10))) (fun _ => (wS G a ti se ho ri bo bc fs fc)) := by
  refine gMet (by decide) (Nat.le_of_ble_eq_true rfl) (fun X hX C hr hin E => ?_)
  clear hX
  refine (show gW G X (wS G a ti se ho ri bo bc fs fc) 0 0 0 [(0, .ref (a 0)), (1, .int (nI w))] [] from ?_)
  refine x_aload_n C 0 rfl dX2_sumOfHorses_0 rfl ?_
  refine x_get (k := 2) (v := .ref (a 3)) C dX2_sumOfHorses_1 layX2 fl_X2_20 0 rfl rfl (by decide) rfl ?_
  refine x_iload_n C 1 rfl dX2_sumOfHorses_4 rfl ?_
  refine x_callVd (As := [.int (nI w)]) (rest := []) C dX2_sumOfHorses_5 (c_X3_sum (gX.l X) G (a 3) (a 4) 10 90 ho w (w * 10) (by omega) (by omega) (by omega)) ml_X2_62 im_X3_sum sl_X3_sum in_X3 cd_X3_sum hd_X3_sum 0 rfl rfl rfl rfl (Nat.le_of_ble_eq_true rfl) ⟨Nat.le_of_ble_eq_true rfl, Nat.le_of_ble_eq_true rfl⟩ (List.take 3 (wS G a ti se ho ri bo bc fs fc)) (List.drop 5 (wS G a ti se ho ri bo bc fs fc)) rfl (ws' := (wS G a ti se ho ri bo bc fs fc)) rfl (st' := [.int (sumF ho (w * 10) 10)]) rfl ⟨rfl, rfl⟩ ⟨Nat.le_of_ble_eq_true rfl, Nat.le_of_ble_eq_true rfl⟩ ?_
  exact x_iret C hr E dX2_sumOfHorses_8 (fun _ => 0) rfl rfl
