theorem nC_nI {h : Nat} (hh : h < 2 ^ 31) : nC (nI h) = h := nI_clamp hh
theorem okH_nI {h : Nat} (hh : h < 10) : okH (nI h) := Or.inr ⟨by rw [nC_nI (by omega)]; exact hh, by rw [nC_nI (by omega)]⟩
theorem c_bestL_ok (se ho ri : Nat → Int32) (r : Nat) (fa tk : Int32) : ∀ h, h ≤ 10 → okH (c_bestL se ho ri r fa tk h)
  | 0, _ => Or.inl rfl
  | h + 1, hh => by
    have ih := c_bestL_ok se ho ri r fa tk h (by omega)
    have hn := okH_nI (h := h) (by omega)
    simp only [c_bestL, c_bestS]
    repeat' split
    all_goals first | exact ih | exact hn
theorem c_best_ok (se ho ri : Nat → Int32) (r : Nat) (fa tk : Int32) : okH (c_best se ho ri r fa tk) := c_bestL_ok se ho ri r fa tk 10 (Nat.le_refl _)
theorem c_farL_ok (ho : Nat → Int32) : ∀ h, h ≤ 10 → okH (c_farL ho h).2
  | 0, _ => Or.inl rfl
  | h + 1, hh => by
    have ih := c_farL_ok ho h (by omega)
    have hn := okH_nI (h := h) (by omega)
    simp only [c_farL]
    split
    · exact hn
    · exact ih
theorem c_far_ok (se ho : Nat → Int32) (t : Nat) : okH (c_far se ho t) := by
  unfold c_far
  split
  · exact c_farL_ok ho 10 (Nat.le_refl _)
  · exact Or.inl rfl
def c_ho1 (ho : Nat → Int32) (h : Nat) : Nat → Int32 := upd ho (60 + h) (ho (60 + h) + 1)
def c_ri2 (ri : Nat → Int32) (r : Nat) (f : Int32) : Nat → Int32 := upd (upd ri (60 + r) (ri (60 + r) + 1)) (108 + r) f
/-- horses, riders, falls, how many falls -/
abbrev c_T4 : Type := (Nat → Int32) × (Nat → Int32) × (Nat → Int32) × Nat
def c_ride (se ho ri fs : Nat → Int32) (fc t r : Nat) (f : Int32) : c_T4 := if c_abil (c_ri2 ri r f) r < c_ho1 ho (nC f) (10 + nC f) then (c_strain se (c_fallHo (c_ho1 ho (nC f)) (nC f)) (nC f) (c_fallRi (c_ri2 ri r f) r r), c_fallRi (c_ri2 ri r f) r, c_fallFs fs fc t r (nC f), fc + 1) else (c_strain se (c_ho1 ho (nC f)) (nC f) (c_learn (c_ri2 ri r f) r r), c_learn (c_ri2 ri r f) r, fs, fc)
def c_give (se ho ri fs : Nat → Int32) (fc t r : Nat) (f : Int32) : c_T4 := if f = -5 then (ho, upd ri (84 + r) (ri (84 + r) + 1), fs, fc) else c_ride se ho ri fs fc t r f
def c_giveT (f : Int32) : Int32 := if f = -5 then 0 else (1 : Int32) <<< (f &&& 31)
theorem c_give_fc (se ho ri fs : Nat → Int32) (fc t r : Nat) (f : Int32) : (c_give se ho ri fs fc t r f).2.2.2 ≤ fc + 1 := by
  unfold c_give c_ride
  split
  · exact Nat.le_succ _
  · split
    · exact Nat.le_refl _
    · exact Nat.le_succ _
def okR (x : Int32) : Prop := nC x < 12 ∧ x = nI (nC x)
theorem mvC_r {f : Nat → Int32} {i wa j : Nat} (h1 : wa < j) (h2 : j < 40) : mvC f 40 i wa 3 (80 + j) = f (80 + j) := by
  show upd (upd (upd f (0 * 40 + wa) _) (1 * 40 + wa) _) (2 * 40 + wa) _ (80 + j) = f (80 + j)
  rw [pk_un (by omega), pk_un (by omega), pk_un (by omega)]
/-- horses, riders, falls, how many falls, bookings, the set of those taken, how many wait -/
abbrev c_T7 : Type := (Nat → Int32) × (Nat → Int32) × (Nat → Int32) × Nat × (Nat → Int32) × Int32 × Nat
def c_gLG (se : Nat → Int32) (fa : Int32) (t i : Nat) (p : c_T7) : c_T4 := c_give se p.1 p.2.1 p.2.2.1 p.2.2.2.1 t (nC (p.2.2.2.2.1 (80 + i))) (c_best se p.1 p.2.1 (nC (p.2.2.2.2.1 (80 + i))) fa p.2.2.2.2.2.1)
def c_gLS (se : Nat → Int32) (fa : Int32) (t i : Nat) (p : c_T7) : c_T7 := if p.2.2.2.2.1 i = nI (t + 0) then ((c_gLG se fa t i p).1, (c_gLG se fa t i p).2.1, (c_gLG se fa t i p).2.2.1, (c_gLG se fa t i p).2.2.2, p.2.2.2.2.1, p.2.2.2.2.2.1 ||| c_giveT (c_best se p.1 p.2.1 (nC (p.2.2.2.2.1 (80 + i))) fa p.2.2.2.2.2.1), p.2.2.2.2.2.2) else (p.1, p.2.1, p.2.2.1, p.2.2.2.1, (if p.2.2.2.2.2.2 < i then mvC p.2.2.2.2.1 40 i p.2.2.2.2.2.2 3 else p.2.2.2.2.1), p.2.2.2.2.2.1, p.2.2.2.2.2.2 + 1)
def c_gLL (se : Nat → Int32) (fa : Int32) (t : Nat) (p : c_T7) : Nat → c_T7
  | 0 => p
  | i + 1 => c_gLS se fa t i (c_gLL se fa t p i)
def c_rT (g : Nat → Int32) (h : Nat) : Nat → Int32 := upd (upd g (20 + h) (g (20 + h) + 1)) (30 + h) ((upd g (20 + h) (g (20 + h) + 1)) (30 + h) + 1)
def c_rN (g : Nat → Int32) (h : Nat) : Nat → Int32 := upd (upd g (20 + h) (mxI 0 (g (20 + h) - 1))) (50 + h) (mxI 0 ((upd g (20 + h) (mxI 0 (g (20 + h) - 1))) (50 + h) - 1))
def c_r1 (tk : Int32) (h : Nat) (g : Nat → Int32) : Nat → Int32 := if c_in tk h = 1 then c_rT g h else c_rN g h
def c_r2 (t h : Nat) (g : Nat → Int32) : Nat → Int32 := if t % 10 = 9 then upd g (20 + h) (mxI 0 (g (20 + h) - 8)) else g
def c_restL (tk : Int32) (t : Nat) (g : Nat → Int32) : Nat → Nat → Int32
  | 0 => g
  | h + 1 => c_r2 t h (c_r1 tk h (c_restL tk t g h))
def c_shoe (g : Nat → Int32) (f : Int32) : Nat → Int32 := if f = -5 then g else upd (upd g (30 + nC f) 0) (80 + nC f) ((upd g (30 + nC f) 0) (80 + nC f) + 1)
def c_hrL (se ho ri bo : Nat → Int32) (bc : Nat) (fs : Nat → Int32) (fc t : Nat) : c_T7 := c_gLL se (c_far se ho t) t (ho, ri, fs, fc, bo, 0, 0) bc
def c_hrHo (se ho ri bo : Nat → Int32) (bc : Nat) (fs : Nat → Int32) (fc t : Nat) : Nat → Int32 := c_shoe (c_restL (c_hrL se ho ri bo bc fs fc t).2.2.2.2.2.1 t (c_hrL se ho ri bo bc fs fc t).1 10) (c_far se ho t)
def c_hr0 (se ho : Nat → Int32) (t : Nat) : Nat → Int32 := c_shoe (c_restL 0 t ho 10) (c_far se ho t)
def c_ofRid (ri bo : Nat → Int32) (bc r w : Nat) : Int32 := if w = 3 then c_abil ri r else if w = 8 then c_bof bo (nI r) bc else ri (w * 12 + r)
def rm_X2_changeRider : Room := { frames := 1, cells := 0, slots := 0, locals := 24 }
set_option maxRecDepth 100000 in
set_option maxHeartbeats 4000000 in
theorem c_X2_changeRider (l : Launch) (G : gG) (a : Nat → Nat) (ti : Nat) (se ho ri bo : Nat → Int32) (bc : Nat) (fs : Nat → Int32) (fc : Nat) (r : Nat) (v w : Int32)  (hr0 : r < 12) : CT l yX2_changeRider cX2_changeRider 4 none rm_X2_changeRider G [.ref (a 0), .int (nI r), .int v, .int w] (wS G a ti se ho ri bo bc fs fc) none (fun _ => (wS G a ti se ho (upd (upd (upd (upd ri r v) (12 + r) w) (24 + r) 0) (48 + r) 0) bo bc fs fc)) := by
  refine gMet (by decide) (Nat.le_of_ble_eq_true rfl) (fun X hX C hr hin E => ?_)
  clear hX
  refine (show gW G X (wS G a ti se ho ri bo bc fs fc) 0 0 0 [(0, .ref (a 0)), (1, .int (nI r)), (2, .int v), (3, .int w)] [] from ?_)
  refine x_aload_n C 0 rfl dX2_changeRider_0 rfl ?_
  refine x_get (k := 3) (v := .ref (a 5)) C dX2_changeRider_1 layX2 fl_X2_23 0 rfl rfl (by decide) rfl ?_
  refine x_iconst (v := (nI 0)) C dX2_changeRider_4 (by decide) ?_
  refine x_iload_n C 1 rfl dX2_changeRider_5 rfl ?_
  refine x_iload_n C 2 rfl dX2_changeRider_6 rfl ?_
  refine x_callVd (As := [.int (nI 0), .int (nI r), .int v]) (rest := []) C dX2_changeRider_7 (c_X3_put (gX.l X) G (a 5) (a 6) 12 120 ri 0 r r v (by omega) (by omega) (by omega) (by omega) (by omega)) ml_X2_40 im_X3_put sl_X3_put in_X3 cd_X3_put hd_X3_put 0 rfl rfl rfl rfl (Nat.le_of_ble_eq_true rfl) ⟨Nat.le_of_ble_eq_true rfl, Nat.le_of_ble_eq_true rfl⟩ (List.take 5 (wS G a ti se ho ri bo bc fs fc)) (List.drop 7 (wS G a ti se ho ri bo bc fs fc)) rfl (ws' := (wS G a ti se ho (upd ri r v) bo bc fs fc)) rfl (st' := []) rfl ⟨rfl, rfl⟩ ⟨Nat.le_of_ble_eq_true rfl, Nat.le_of_ble_eq_true rfl⟩ ?_
  refine x_aload_n C 0 rfl dX2_changeRider_10 rfl ?_
  refine x_get (k := 3) (v := .ref (a 5)) C dX2_changeRider_11 layX2 fl_X2_23 0 rfl rfl (by decide) rfl ?_
  refine x_iconst (v := (nI 1)) C dX2_changeRider_14 (by decide) ?_
  refine x_iload_n C 1 rfl dX2_changeRider_15 rfl ?_
  refine x_iload_n C 3 rfl dX2_changeRider_16 rfl ?_
  refine x_callVd (As := [.int (nI 1), .int (nI r), .int w]) (rest := []) C dX2_changeRider_17 (c_X3_put (gX.l X) G (a 5) (a 6) 12 120 (upd ri r v) 1 r (12 + r) w (by omega) (by omega) (by omega) (by omega) (by omega)) ml_X2_40 im_X3_put sl_X3_put in_X3 cd_X3_put hd_X3_put 0 rfl rfl rfl rfl (Nat.le_of_ble_eq_true rfl) ⟨Nat.le_of_ble_eq_true rfl, Nat.le_of_ble_eq_true rfl⟩ (List.take 5 (wS G a ti se ho (upd ri r v) bo bc fs fc)) (List.drop 7 (wS G a ti se ho (upd ri r v) bo bc fs fc)) rfl (ws' := (wS G a ti se ho (upd (upd ri r v) (12 + r) w) bo bc fs fc)) rfl (st' := []) rfl ⟨rfl, rfl⟩ ⟨Nat.le_of_ble_eq_true rfl, Nat.le_of_ble_eq_true rfl⟩ ?_
  refine x_aload_n C 0 rfl dX2_changeRider_20 rfl ?_
  refine x_get (k := 3) (v := .ref (a 5)) C dX2_changeRider_21 layX2 fl_X2_23 0 rfl rfl (by decide) rfl ?_
  refine x_iconst (v := (nI 2)) C dX2_changeRider_24 (by decide) ?_
  refine x_iload_n C 1 rfl dX2_changeRider_25 rfl ?_
  refine x_iconst (v := (nI 0)) C dX2_changeRider_26 (by decide) ?_
  refine x_callVd (As := [.int (nI 2), .int (nI r), .int (nI 0)]) (rest := []) C dX2_changeRider_27 (c_X3_put (gX.l X) G (a 5) (a 6) 12 120 (upd (upd ri r v) (12 + r) w) 2 r (24 + r) 0 (by omega) (by omega) (by omega) (by omega) (by omega)) ml_X2_40 im_X3_put sl_X3_put in_X3 cd_X3_put hd_X3_put 0 rfl rfl rfl rfl (Nat.le_of_ble_eq_true rfl) ⟨Nat.le_of_ble_eq_true rfl, Nat.le_of_ble_eq_true rfl⟩ (List.take 5 (wS G a ti se ho (upd (upd ri r v) (12 + r) w) bo bc fs fc)) (List.drop 7 (wS G a ti se ho (upd (upd ri r v) (12 + r) w) bo bc fs fc)) rfl (ws' := (wS G a ti se ho (upd (upd (upd ri r v) (12 + r) w) (24 + r) 0) bo bc fs fc)) rfl (st' := []) rfl ⟨rfl, rfl⟩ ⟨Nat.le_of_ble_eq_true rfl, Nat.le_of_ble_eq_true rfl⟩ ?_
  refine x_aload_n C 0 rfl dX2_changeRider_30 rfl ?_
  refine x_get (k := 3) (v := .ref (a 5)) C dX2_changeRider_31 layX2 fl_X2_23 0 rfl rfl (by decide) rfl ?_
  refine x_iconst (v := (nI 4)) C dX2_changeRider_34 (by decide) ?_
  refine x_iload_n C 1 rfl dX2_changeRider_35 rfl ?_
  refine x_iconst (v := (nI 0)) C dX2_changeRider_36 (by decide) ?_
  refine x_callVd (As := [.int (nI 4), .int (nI r), .int (nI 0)]) (rest := []) C dX2_changeRider_37 (c_X3_put (gX.l X) G (a 5) (a 6) 12 120 (upd (upd (upd ri r v) (12 + r) w) (24 + r) 0) 4 r (48 + r) 0 (by omega) (by omega) (by omega) (by omega) (by omega)) ml_X2_40 im_X3_put sl_X3_put in_X3 cd_X3_put hd_X3_put 0 rfl rfl rfl rfl (Nat.le_of_ble_eq_true rfl) ⟨Nat.le_of_ble_eq_true rfl, Nat.le_of_ble_eq_true rfl⟩ (List.take 5 (wS G a ti se ho (upd (upd (upd ri r v) (12 + r) w) (24 + r) 0) bo bc fs fc)) (List.drop 7 (wS G a ti se ho (upd (upd (upd ri r v) (12 + r) w) (24 + r) 0) bo bc fs fc)) rfl (ws' := (wS G a ti se ho (upd (upd (upd (upd ri r v) (12 + r) w) (24 + r) 0) (48 + r) 0) bo bc fs fc)) rfl (st' := []) rfl ⟨rfl, rfl⟩ ⟨Nat.le_of_ble_eq_true rfl, Nat.le_of_ble_eq_true rfl⟩ ?_
  exact x_vret C hr E dX2_changeRider_40 (fun _ => 0) rfl
def rm_X2_ofRider : Room := { frames := 2, cells := 0, slots := 0, locals := 46 }
set_option maxRecDepth 100000 in
set_option maxHeartbeats 4000000 in
theorem c_X2_ofRider (l : Launch) (G : gG) (a : Nat → Nat) (ti : Nat) (se ho ri bo : Nat → Int32) (bc : Nat) (fs : Nat → Int32) (fc : Nat) (r w : Nat)  (hbc : bc ≤ 40) (hr0 : r < 12) (hw : w < 10) : CT l yX2_ofRider cX2_ofRider 3 (some .int) rm_X2_ofRider G [.ref (a 0), .int (nI r), .int (nI w)] (wS G a ti se ho ri bo bc fs fc) (some (.int (c_ofRid ri bo bc r w))) (fun _ => (wS G a ti se ho ri bo bc fs fc)) := by
  refine gMet (by decide) (Nat.le_of_ble_eq_true rfl) (fun X hX C hr hin E => ?_)
  clear hX
  refine (show gW G X (wS G a ti se ho ri bo bc fs fc) 0 0 0 [(0, .ref (a 0)), (1, .int (nI r)), (2, .int (nI w))] [] from ?_)
  refine x_iload_n C 2 rfl dX2_ofRider_0 rfl ?_
  refine x_look38 (a := w) (t1 := 28) (t2 := 34) (t3 := 40) C dX2_ofRider_1 (by omega) (by decide) (by decide) (by decide) (fun c1 => ?_) (fun c2 => ?_) (fun c1 c2 => ?_)
  · refine x_aload_n C 0 rfl dX2_ofRider_28 rfl ?_
    refine x_iload_n C 1 rfl dX2_ofRider_29 rfl ?_
    refine x_callVd (As := [.int (nI r)]) (rest := []) C dX2_ofRider_30 (c_X2_abilityOf (gX.l X) G a ti se ho ri bo bc fs fc r (by omega)) ml_X2_66 im_X2_abilityOf sl_X2_abilityOf in_X2 cd_X2_abilityOf hd_X2_abilityOf 0 rfl rfl rfl rfl (Nat.le_of_ble_eq_true rfl) ⟨Nat.le_of_ble_eq_true rfl, Nat.le_of_ble_eq_true rfl⟩ (List.take 0 (wS G a ti se ho ri bo bc fs fc)) (List.drop 11 (wS G a ti se ho ri bo bc fs fc)) rfl (ws' := (wS G a ti se ho ri bo bc fs fc)) rfl (st' := [.int (c_abil ri r)]) rfl ⟨rfl, rfl⟩ ⟨Nat.le_of_ble_eq_true rfl, Nat.le_of_ble_eq_true rfl⟩ ?_
    exact x_iret C hr E dX2_ofRider_33 (fun _ => 0) (by rw [c_ofRid, if_pos (by assumption)]) rfl
  · refine x_aload_n C 0 rfl dX2_ofRider_34 rfl ?_
    refine x_iload_n C 1 rfl dX2_ofRider_35 rfl ?_
    refine x_callVd (As := [.int (nI r)]) (rest := []) C dX2_ofRider_36 (c_X2_bookingsOf (gX.l X) G a ti se ho ri bo bc fs fc r (by omega)) ml_X2_69 im_X2_bookingsOf sl_X2_bookingsOf in_X2 cd_X2_bookingsOf hd_X2_bookingsOf 0 rfl rfl rfl rfl (Nat.le_of_ble_eq_true rfl) ⟨Nat.le_of_ble_eq_true rfl, Nat.le_of_ble_eq_true rfl⟩ (List.take 0 (wS G a ti se ho ri bo bc fs fc)) (List.drop 11 (wS G a ti se ho ri bo bc fs fc)) rfl (ws' := (wS G a ti se ho ri bo bc fs fc)) rfl (st' := [.int (c_bof bo (nI r) bc)]) rfl ⟨rfl, rfl⟩ ⟨Nat.le_of_ble_eq_true rfl, Nat.le_of_ble_eq_true rfl⟩ ?_
    exact x_iret C hr E dX2_ofRider_39 (fun _ => 0) (by rw [c_ofRid, if_neg (by omega), if_pos (by assumption)]) rfl
  · refine x_aload_n C 0 rfl dX2_ofRider_40 rfl ?_
    refine x_get (k := 3) (v := .ref (a 5)) C dX2_ofRider_41 layX2 fl_X2_23 0 rfl rfl (by decide) rfl ?_
    refine x_iload_n C 2 rfl dX2_ofRider_44 rfl ?_
    refine x_iload_n C 1 rfl dX2_ofRider_45 rfl ?_
    refine x_callVd (As := [.int (nI w), .int (nI r)]) (rest := []) C dX2_ofRider_46 (c_X3_at (gX.l X) G (a 5) (a 6) 12 120 ri w r (w * 12 + r) (by omega) (by omega) (by omega) (by omega) (by omega)) ml_X2_58 im_X3_at sl_X3_at in_X3 cd_X3_at hd_X3_at 0 rfl rfl rfl rfl (Nat.le_of_ble_eq_true rfl) ⟨Nat.le_of_ble_eq_true rfl, Nat.le_of_ble_eq_true rfl⟩ (List.take 5 (wS G a ti se ho ri bo bc fs fc)) (List.drop 7 (wS G a ti se ho ri bo bc fs fc)) rfl (ws' := (wS G a ti se ho ri bo bc fs fc)) rfl (st' := [.int (ri (w * 12 + r))]) rfl ⟨rfl, rfl⟩ ⟨Nat.le_of_ble_eq_true rfl, Nat.le_of_ble_eq_true rfl⟩ ?_
    exact x_iret C hr E dX2_ofRider_49 (fun _ => 0) (by rw [c_ofRid, if_neg (by assumption), if_neg (by assumption)]) rfl
def rm_X2_giveLesson : Room := { frames := 3, cells := 0, slots := 0, locals := 76 }
set_option maxRecDepth 100000 in
set_option maxHeartbeats 4000000 in
theorem c_X2_giveLesson (l : Launch) (G : gG) (a : Nat → Nat) (ti : Nat) (se ho ri bo : Nat → Int32) (bc : Nat) (fs : Nat → Int32) (fc : Nat) (r : Nat) (fa tk : Int32)  (hr0 : r < 12) (hfc : fc < 2 ^ 30) : CT l yX2_giveLesson cX2_giveLesson 5 (some .int) rm_X2_giveLesson G [.ref (a 0), .int (nI r), .int fa, .int tk] (wS G a ti se ho ri bo bc fs fc) (some (.int (c_giveT (c_best se ho ri r fa tk)))) (fun _ => (wS G a ti se ((c_give se ho ri fs fc ti r (c_best se ho ri r fa tk)).1) ((c_give se ho ri fs fc ti r (c_best se ho ri r fa tk)).2.1) bo bc ((c_give se ho ri fs fc ti r (c_best se ho ri r fa tk)).2.2.1) ((c_give se ho ri fs fc ti r (c_best se ho ri r fa tk)).2.2.2))) := by
  refine gMet (by decide) (Nat.le_of_ble_eq_true rfl) (fun X hX C hr hin E => ?_)
  clear hX
  refine (show gW G X (wS G a ti se ho ri bo bc fs fc) 0 0 0 [(0, .ref (a 0)), (1, .int (nI r)), (2, .int fa), (3, .int tk)] [] from ?_)
  refine x_aload_n C 0 rfl dX2_giveLesson_0 rfl ?_
  refine x_iload_n C 1 rfl dX2_giveLesson_1 rfl ?_
  refine x_iload_n C 2 rfl dX2_giveLesson_2 rfl ?_
  refine x_iload_n C 3 rfl dX2_giveLesson_3 rfl ?_
  refine x_callVd (As := [.int (nI r), .int fa, .int tk]) (rest := []) C dX2_giveLesson_4 (c_X2_bestHorse (gX.l X) G a ti se ho ri bo bc fs fc r fa tk (by omega)) ml_X2_126 im_X2_bestHorse sl_X2_bestHorse in_X2 cd_X2_bestHorse hd_X2_bestHorse 0 rfl rfl rfl rfl (Nat.le_of_ble_eq_true rfl) ⟨Nat.le_of_ble_eq_true rfl, Nat.le_of_ble_eq_true rfl⟩ (List.take 0 (wS G a ti se ho ri bo bc fs fc)) (List.drop 11 (wS G a ti se ho ri bo bc fs fc)) rfl (ws' := (wS G a ti se ho ri bo bc fs fc)) rfl (st' := [.int (c_best se ho ri r fa tk)]) rfl ⟨rfl, rfl⟩ ⟨Nat.le_of_ble_eq_true rfl, Nat.le_of_ble_eq_true rfl⟩ ?_
  refine x_gen (fun f f_e => ?_)
  have hf : okH f := f_e ▸ c_best_ok _ _ _ _ _ _
  refine x_istore (lv' := [(4, .int f), (0, .ref (a 0)), (1, .int (nI r)), (2, .int fa), (3, .int tk)]) C dX2_giveLesson_7 (by decide) rfl ?_
  refine x_iload C 0 rfl dX2_giveLesson_9 ?_
  refine x_bipush (v := (-5)) C dX2_giveLesson_11 (by decide) ?_
  refine x_icmp_ne (x := f) (y := (-5)) (tgt := 29) C dX2_giveLesson_13 (by decide) (fun c1 => ?_) (fun c1 => ?_)
  · have hfn : nC f < 10 ∧ f = nI (nC f) := by
      rcases hf with h9 | h9
      · exact absurd h9 (by assumption)
      · exact h9
    refine x_aload_n C 1 rfl dX2_giveLesson_29 rfl ?_
    refine x_get (k := 2) (v := .ref (a 3)) C dX2_giveLesson_30 layX2 fl_X2_20 0 rfl rfl (by decide) rfl ?_
    refine x_bipush (v := (nI 6)) C dX2_giveLesson_33 (by decide) ?_
    refine x_iload C 0 rfl dX2_giveLesson_35 ?_
    refine x_top (y := (nI (nC f))) hfn.2 ?_
    refine x_iconst (v := (nI 1)) C dX2_giveLesson_37 (by decide) ?_
    refine x_callVd (As := [.int (nI 6), .int (nI (nC f)), .int (nI 1)]) (rest := []) C dX2_giveLesson_38 (c_X3_add (gX.l X) G (a 3) (a 4) 10 90 ho 6 (nC f) (60 + (nC f)) 1 (by omega) (by omega) (by omega) (by omega) (by omega)) ml_X2_117 im_X3_add sl_X3_add in_X3 cd_X3_add hd_X3_add 0 rfl rfl rfl rfl (Nat.le_of_ble_eq_true rfl) ⟨Nat.le_of_ble_eq_true rfl, Nat.le_of_ble_eq_true rfl⟩ (List.take 3 (wS G a ti se ho ri bo bc fs fc)) (List.drop 5 (wS G a ti se ho ri bo bc fs fc)) rfl (ws' := (wS G a ti se (upd ho (60 + (nC f)) (ho (60 + (nC f)) + 1)) ri bo bc fs fc)) rfl (st' := []) rfl ⟨rfl, rfl⟩ ⟨Nat.le_of_ble_eq_true rfl, Nat.le_of_ble_eq_true rfl⟩ ?_
    refine x_aload_n C 1 rfl dX2_giveLesson_41 rfl ?_
    refine x_get (k := 3) (v := .ref (a 5)) C dX2_giveLesson_42 layX2 fl_X2_23 0 rfl rfl (by decide) rfl ?_
    refine x_iconst (v := (nI 5)) C dX2_giveLesson_45 (by decide) ?_
    refine x_iload_n C 2 rfl dX2_giveLesson_46 rfl ?_
    refine x_iconst (v := (nI 1)) C dX2_giveLesson_47 (by decide) ?_
    refine x_callVd (As := [.int (nI 5), .int (nI r), .int (nI 1)]) (rest := []) C dX2_giveLesson_48 (c_X3_add (gX.l X) G (a 5) (a 6) 12 120 ri 5 r (60 + r) 1 (by omega) (by omega) (by omega) (by omega) (by omega)) ml_X2_117 im_X3_add sl_X3_add in_X3 cd_X3_add hd_X3_add 0 rfl rfl rfl rfl (Nat.le_of_ble_eq_true rfl) ⟨Nat.le_of_ble_eq_true rfl, Nat.le_of_ble_eq_true rfl⟩ (List.take 5 (wS G a ti se (upd ho (60 + (nC f)) (ho (60 + (nC f)) + 1)) ri bo bc fs fc)) (List.drop 7 (wS G a ti se (upd ho (60 + (nC f)) (ho (60 + (nC f)) + 1)) ri bo bc fs fc)) rfl (ws' := (wS G a ti se (upd ho (60 + (nC f)) (ho (60 + (nC f)) + 1)) (upd ri (60 + r) (ri (60 + r) + 1)) bo bc fs fc)) rfl (st' := []) rfl ⟨rfl, rfl⟩ ⟨Nat.le_of_ble_eq_true rfl, Nat.le_of_ble_eq_true rfl⟩ ?_
    refine x_aload_n C 1 rfl dX2_giveLesson_51 rfl ?_
    refine x_get (k := 3) (v := .ref (a 5)) C dX2_giveLesson_52 layX2 fl_X2_23 0 rfl rfl (by decide) rfl ?_
    refine x_bipush (v := (nI 9)) C dX2_giveLesson_55 (by decide) ?_
    refine x_iload_n C 2 rfl dX2_giveLesson_57 rfl ?_
    refine x_iload C 0 rfl dX2_giveLesson_58 ?_
    refine x_callVd (As := [.int (nI 9), .int (nI r), .int f]) (rest := []) C dX2_giveLesson_60 (c_X3_put (gX.l X) G (a 5) (a 6) 12 120 (upd ri (60 + r) (ri (60 + r) + 1)) 9 r (108 + r) f (by omega) (by omega) (by omega) (by omega) (by omega)) ml_X2_40 im_X3_put sl_X3_put in_X3 cd_X3_put hd_X3_put 0 rfl rfl rfl rfl (Nat.le_of_ble_eq_true rfl) ⟨Nat.le_of_ble_eq_true rfl, Nat.le_of_ble_eq_true rfl⟩ (List.take 5 (wS G a ti se (upd ho (60 + (nC f)) (ho (60 + (nC f)) + 1)) (upd ri (60 + r) (ri (60 + r) + 1)) bo bc fs fc)) (List.drop 7 (wS G a ti se (upd ho (60 + (nC f)) (ho (60 + (nC f)) + 1)) (upd ri (60 + r) (ri (60 + r) + 1)) bo bc fs fc)) rfl (ws' := (wS G a ti se (upd ho (60 + (nC f)) (ho (60 + (nC f)) + 1)) (upd (upd ri (60 + r) (ri (60 + r) + 1)) (108 + r) f) bo bc fs fc)) rfl (st' := []) rfl ⟨rfl, rfl⟩ ⟨Nat.le_of_ble_eq_true rfl, Nat.le_of_ble_eq_true rfl⟩ ?_
    refine x_aload_n C 1 rfl dX2_giveLesson_63 rfl ?_
    refine x_get (k := 2) (v := .ref (a 3)) C dX2_giveLesson_64 layX2 fl_X2_20 0 rfl rfl (by decide) rfl ?_
    refine x_iconst (v := (nI 1)) C dX2_giveLesson_67 (by decide) ?_
    refine x_iload C 0 rfl dX2_giveLesson_68 ?_
    refine x_top (y := (nI (nC f))) hfn.2 ?_
    refine x_callVd (As := [.int (nI 1), .int (nI (nC f))]) (rest := []) C dX2_giveLesson_70 (c_X3_at (gX.l X) G (a 3) (a 4) 10 90 (upd ho (60 + (nC f)) (ho (60 + (nC f)) + 1)) 1 (nC f) (10 + (nC f)) (by omega) (by omega) (by omega) (by omega) (by omega)) ml_X2_58 im_X3_at sl_X3_at in_X3 cd_X3_at hd_X3_at 0 rfl rfl rfl rfl (Nat.le_of_ble_eq_true rfl) ⟨Nat.le_of_ble_eq_true rfl, Nat.le_of_ble_eq_true rfl⟩ (List.take 3 (wS G a ti se (upd ho (60 + (nC f)) (ho (60 + (nC f)) + 1)) (upd (upd ri (60 + r) (ri (60 + r) + 1)) (108 + r) f) bo bc fs fc)) (List.drop 5 (wS G a ti se (upd ho (60 + (nC f)) (ho (60 + (nC f)) + 1)) (upd (upd ri (60 + r) (ri (60 + r) + 1)) (108 + r) f) bo bc fs fc)) rfl (ws' := (wS G a ti se (upd ho (60 + (nC f)) (ho (60 + (nC f)) + 1)) (upd (upd ri (60 + r) (ri (60 + r) + 1)) (108 + r) f) bo bc fs fc)) rfl (st' := [.int ((upd ho (60 + (nC f)) (ho (60 + (nC f)) + 1)) (10 + (nC f)))]) rfl ⟨rfl, rfl⟩ ⟨Nat.le_of_ble_eq_true rfl, Nat.le_of_ble_eq_true rfl⟩ ?_
    refine x_aload_n C 1 rfl dX2_giveLesson_73 rfl ?_
    refine x_iload_n C 2 rfl dX2_giveLesson_74 rfl ?_
    refine x_callVd (As := [.int (nI r)]) (rest := [.int ((upd ho (60 + (nC f)) (ho (60 + (nC f)) + 1)) (10 + (nC f)))]) C dX2_giveLesson_75 (c_X2_abilityOf (gX.l X) G a ti se (upd ho (60 + (nC f)) (ho (60 + (nC f)) + 1)) (upd (upd ri (60 + r) (ri (60 + r) + 1)) (108 + r) f) bo bc fs fc r (by omega)) ml_X2_66 im_X2_abilityOf sl_X2_abilityOf in_X2 cd_X2_abilityOf hd_X2_abilityOf 0 rfl rfl rfl rfl (Nat.le_of_ble_eq_true rfl) ⟨Nat.le_of_ble_eq_true rfl, Nat.le_of_ble_eq_true rfl⟩ (List.take 0 (wS G a ti se (upd ho (60 + (nC f)) (ho (60 + (nC f)) + 1)) (upd (upd ri (60 + r) (ri (60 + r) + 1)) (108 + r) f) bo bc fs fc)) (List.drop 11 (wS G a ti se (upd ho (60 + (nC f)) (ho (60 + (nC f)) + 1)) (upd (upd ri (60 + r) (ri (60 + r) + 1)) (108 + r) f) bo bc fs fc)) rfl (ws' := (wS G a ti se (upd ho (60 + (nC f)) (ho (60 + (nC f)) + 1)) (upd (upd ri (60 + r) (ri (60 + r) + 1)) (108 + r) f) bo bc fs fc)) rfl (st' := [.int (c_abil (upd (upd ri (60 + r) (ri (60 + r) + 1)) (108 + r) f) r), .int ((upd ho (60 + (nC f)) (ho (60 + (nC f)) + 1)) (10 + (nC f)))]) rfl ⟨rfl, rfl⟩ ⟨Nat.le_of_ble_eq_true rfl, Nat.le_of_ble_eq_true rfl⟩ ?_
    refine x_icmp_le (x := ((upd ho (60 + (nC f)) (ho (60 + (nC f)) + 1)) (10 + (nC f)))) (y := (c_abil (upd (upd ri (60 + r) (ri (60 + r) + 1)) (108 + r) f) r)) (tgt := 91) C dX2_giveLesson_78 (by decide) (fun c2 => ?_) (fun c2 => ?_)
    · refine x_aload_n C 1 rfl dX2_giveLesson_91 rfl ?_
      refine x_iload_n C 2 rfl dX2_giveLesson_92 rfl ?_
      refine x_callVd (As := [.int (nI r)]) (rest := []) C dX2_giveLesson_93 (c_X2_letLearn (gX.l X) G a ti se (upd ho (60 + (nC f)) (ho (60 + (nC f)) + 1)) (upd (upd ri (60 + r) (ri (60 + r) + 1)) (108 + r) f) bo bc fs fc r (by omega)) ml_X2_132 im_X2_letLearn sl_X2_letLearn in_X2 cd_X2_letLearn hd_X2_letLearn 0 rfl rfl rfl rfl (Nat.le_of_ble_eq_true rfl) ⟨Nat.le_of_ble_eq_true rfl, Nat.le_of_ble_eq_true rfl⟩ (List.take 0 (wS G a ti se (upd ho (60 + (nC f)) (ho (60 + (nC f)) + 1)) (upd (upd ri (60 + r) (ri (60 + r) + 1)) (108 + r) f) bo bc fs fc)) (List.drop 11 (wS G a ti se (upd ho (60 + (nC f)) (ho (60 + (nC f)) + 1)) (upd (upd ri (60 + r) (ri (60 + r) + 1)) (108 + r) f) bo bc fs fc)) rfl (ws' := (wS G a ti se (upd ho (60 + (nC f)) (ho (60 + (nC f)) + 1)) (c_learn (upd (upd ri (60 + r) (ri (60 + r) + 1)) (108 + r) f) r) bo bc fs fc)) rfl (st' := []) rfl ⟨rfl, rfl⟩ ⟨Nat.le_of_ble_eq_true rfl, Nat.le_of_ble_eq_true rfl⟩ ?_
      refine x_aload_n C 1 rfl dX2_giveLesson_96 rfl ?_
      refine x_iload C 0 rfl dX2_giveLesson_97 ?_
      refine x_top (y := (nI (nC f))) hfn.2 ?_
      refine x_aload_n C 1 rfl dX2_giveLesson_99 rfl ?_
      refine x_get (k := 3) (v := .ref (a 5)) C dX2_giveLesson_100 layX2 fl_X2_23 0 rfl rfl (by decide) rfl ?_
      refine x_iconst (v := (nI 0)) C dX2_giveLesson_103 (by decide) ?_
      refine x_iload_n C 2 rfl dX2_giveLesson_104 rfl ?_
      refine x_callVd (As := [.int (nI 0), .int (nI r)]) (rest := [.int (nI (nC f)), .ref (a 0)]) C dX2_giveLesson_105 (c_X3_at (gX.l X) G (a 5) (a 6) 12 120 (c_learn (upd (upd ri (60 + r) (ri (60 + r) + 1)) (108 + r) f) r) 0 r r (by omega) (by omega) (by omega) (by omega) (by omega)) ml_X2_58 im_X3_at sl_X3_at in_X3 cd_X3_at hd_X3_at 0 rfl rfl rfl rfl (Nat.le_of_ble_eq_true rfl) ⟨Nat.le_of_ble_eq_true rfl, Nat.le_of_ble_eq_true rfl⟩ (List.take 5 (wS G a ti se (upd ho (60 + (nC f)) (ho (60 + (nC f)) + 1)) (c_learn (upd (upd ri (60 + r) (ri (60 + r) + 1)) (108 + r) f) r) bo bc fs fc)) (List.drop 7 (wS G a ti se (upd ho (60 + (nC f)) (ho (60 + (nC f)) + 1)) (c_learn (upd (upd ri (60 + r) (ri (60 + r) + 1)) (108 + r) f) r) bo bc fs fc)) rfl (ws' := (wS G a ti se (upd ho (60 + (nC f)) (ho (60 + (nC f)) + 1)) (c_learn (upd (upd ri (60 + r) (ri (60 + r) + 1)) (108 + r) f) r) bo bc fs fc)) rfl (st' := [.int ((c_learn (upd (upd ri (60 + r) (ri (60 + r) + 1)) (108 + r) f) r) r), .int (nI (nC f)), .ref (a 0)]) rfl ⟨rfl, rfl⟩ ⟨Nat.le_of_ble_eq_true rfl, Nat.le_of_ble_eq_true rfl⟩ ?_
      refine x_callVd (As := [.int (nI (nC f)), .int ((c_learn (upd (upd ri (60 + r) (ri (60 + r) + 1)) (108 + r) f) r) r)]) (rest := []) C dX2_giveLesson_108 (c_X2_strain (gX.l X) G a ti se (upd ho (60 + (nC f)) (ho (60 + (nC f)) + 1)) (c_learn (upd (upd ri (60 + r) (ri (60 + r) + 1)) (108 + r) f) r) bo bc fs fc (nC f) ((c_learn (upd (upd ri (60 + r) (ri (60 + r) + 1)) (108 + r) f) r) r) (by omega)) ml_X2_136 im_X2_strain sl_X2_strain in_X2 cd_X2_strain hd_X2_strain 0 rfl rfl rfl rfl (Nat.le_of_ble_eq_true rfl) ⟨Nat.le_of_ble_eq_true rfl, Nat.le_of_ble_eq_true rfl⟩ (List.take 0 (wS G a ti se (upd ho (60 + (nC f)) (ho (60 + (nC f)) + 1)) (c_learn (upd (upd ri (60 + r) (ri (60 + r) + 1)) (108 + r) f) r) bo bc fs fc)) (List.drop 11 (wS G a ti se (upd ho (60 + (nC f)) (ho (60 + (nC f)) + 1)) (c_learn (upd (upd ri (60 + r) (ri (60 + r) + 1)) (108 + r) f) r) bo bc fs fc)) rfl (ws' := (wS G a ti se (c_strain se (upd ho (60 + (nC f)) (ho (60 + (nC f)) + 1)) (nC f) ((c_learn (upd (upd ri (60 + r) (ri (60 + r) + 1)) (108 + r) f) r) r)) (c_learn (upd (upd ri (60 + r) (ri (60 + r) + 1)) (108 + r) f) r) bo bc fs fc)) rfl (st' := []) rfl ⟨rfl, rfl⟩ ⟨Nat.le_of_ble_eq_true rfl, Nat.le_of_ble_eq_true rfl⟩ ?_
      refine x_iconst (v := (nI 1)) C dX2_giveLesson_111 (by decide) ?_
      refine x_iload C 0 rfl dX2_giveLesson_112 ?_
      refine x_ishl (x := 1) (y := f) C dX2_giveLesson_114 ?_
      exact x_iret C hr E dX2_giveLesson_115 (fun _ => 0) (by rw [← f_e, c_giveT, if_neg (by assumption)]) (by rw [← f_e, c_give, if_neg (by assumption), c_ride]; first | rw [if_pos (by assumption)]; rfl | rw [if_neg (by assumption)]; rfl)
    · refine x_aload_n C 1 rfl dX2_giveLesson_81 rfl ?_
      refine x_iload_n C 2 rfl dX2_giveLesson_82 rfl ?_
      refine x_iload C 0 rfl dX2_giveLesson_83 ?_
      refine x_top (y := (nI (nC f))) hfn.2 ?_
      refine x_callVd (As := [.int (nI r), .int (nI (nC f))]) (rest := []) C dX2_giveLesson_85 (c_X2_letFall (gX.l X) G a ti se (upd ho (60 + (nC f)) (ho (60 + (nC f)) + 1)) (upd (upd ri (60 + r) (ri (60 + r) + 1)) (108 + r) f) bo bc fs fc r (nC f) (by omega) (by omega) (by omega)) ml_X2_129 im_X2_letFall sl_X2_letFall in_X2 cd_X2_letFall hd_X2_letFall 0 rfl rfl rfl rfl (Nat.le_of_ble_eq_true rfl) ⟨Nat.le_of_ble_eq_true rfl, Nat.le_of_ble_eq_true rfl⟩ (List.take 0 (wS G a ti se (upd ho (60 + (nC f)) (ho (60 + (nC f)) + 1)) (upd (upd ri (60 + r) (ri (60 + r) + 1)) (108 + r) f) bo bc fs fc)) (List.drop 11 (wS G a ti se (upd ho (60 + (nC f)) (ho (60 + (nC f)) + 1)) (upd (upd ri (60 + r) (ri (60 + r) + 1)) (108 + r) f) bo bc fs fc)) rfl (ws' := (wS G a ti se (c_fallHo (upd ho (60 + (nC f)) (ho (60 + (nC f)) + 1)) (nC f)) (c_fallRi (upd (upd ri (60 + r) (ri (60 + r) + 1)) (108 + r) f) r) bo bc (c_fallFs fs fc ti r (nC f)) (fc + 1))) rfl (st' := []) rfl ⟨rfl, rfl⟩ ⟨Nat.le_of_ble_eq_true rfl, Nat.le_of_ble_eq_true rfl⟩ ?_
      refine x_goto (tgt := 96) C dX2_giveLesson_88 (by decide) ?_
      refine x_aload_n C 1 rfl dX2_giveLesson_96 rfl ?_
      refine x_iload C 0 rfl dX2_giveLesson_97 ?_
      refine x_top (y := (nI (nC f))) hfn.2 ?_
      refine x_aload_n C 1 rfl dX2_giveLesson_99 rfl ?_
      refine x_get (k := 3) (v := .ref (a 5)) C dX2_giveLesson_100 layX2 fl_X2_23 0 rfl rfl (by decide) rfl ?_
      refine x_iconst (v := (nI 0)) C dX2_giveLesson_103 (by decide) ?_
      refine x_iload_n C 2 rfl dX2_giveLesson_104 rfl ?_
      refine x_callVd (As := [.int (nI 0), .int (nI r)]) (rest := [.int (nI (nC f)), .ref (a 0)]) C dX2_giveLesson_105 (c_X3_at (gX.l X) G (a 5) (a 6) 12 120 (c_fallRi (upd (upd ri (60 + r) (ri (60 + r) + 1)) (108 + r) f) r) 0 r r (by omega) (by omega) (by omega) (by omega) (by omega)) ml_X2_58 im_X3_at sl_X3_at in_X3 cd_X3_at hd_X3_at 0 rfl rfl rfl rfl (Nat.le_of_ble_eq_true rfl) ⟨Nat.le_of_ble_eq_true rfl, Nat.le_of_ble_eq_true rfl⟩ (List.take 5 (wS G a ti se (c_fallHo (upd ho (60 + (nC f)) (ho (60 + (nC f)) + 1)) (nC f)) (c_fallRi (upd (upd ri (60 + r) (ri (60 + r) + 1)) (108 + r) f) r) bo bc (c_fallFs fs fc ti r (nC f)) (fc + 1))) (List.drop 7 (wS G a ti se (c_fallHo (upd ho (60 + (nC f)) (ho (60 + (nC f)) + 1)) (nC f)) (c_fallRi (upd (upd ri (60 + r) (ri (60 + r) + 1)) (108 + r) f) r) bo bc (c_fallFs fs fc ti r (nC f)) (fc + 1))) rfl (ws' := (wS G a ti se (c_fallHo (upd ho (60 + (nC f)) (ho (60 + (nC f)) + 1)) (nC f)) (c_fallRi (upd (upd ri (60 + r) (ri (60 + r) + 1)) (108 + r) f) r) bo bc (c_fallFs fs fc ti r (nC f)) (fc + 1))) rfl (st' := [.int ((c_fallRi (upd (upd ri (60 + r) (ri (60 + r) + 1)) (108 + r) f) r) r), .int (nI (nC f)), .ref (a 0)]) rfl ⟨rfl, rfl⟩ ⟨Nat.le_of_ble_eq_true rfl, Nat.le_of_ble_eq_true rfl⟩ ?_
      refine x_callVd (As := [.int (nI (nC f)), .int ((c_fallRi (upd (upd ri (60 + r) (ri (60 + r) + 1)) (108 + r) f) r) r)]) (rest := []) C dX2_giveLesson_108 (c_X2_strain (gX.l X) G a ti se (c_fallHo (upd ho (60 + (nC f)) (ho (60 + (nC f)) + 1)) (nC f)) (c_fallRi (upd (upd ri (60 + r) (ri (60 + r) + 1)) (108 + r) f) r) bo bc (c_fallFs fs fc ti r (nC f)) (fc + 1) (nC f) ((c_fallRi (upd (upd ri (60 + r) (ri (60 + r) + 1)) (108 + r) f) r) r) (by omega)) ml_X2_136 im_X2_strain sl_X2_strain in_X2 cd_X2_strain hd_X2_strain 0 rfl rfl rfl rfl (Nat.le_of_ble_eq_true rfl) ⟨Nat.le_of_ble_eq_true rfl, Nat.le_of_ble_eq_true rfl⟩ (List.take 0 (wS G a ti se (c_fallHo (upd ho (60 + (nC f)) (ho (60 + (nC f)) + 1)) (nC f)) (c_fallRi (upd (upd ri (60 + r) (ri (60 + r) + 1)) (108 + r) f) r) bo bc (c_fallFs fs fc ti r (nC f)) (fc + 1))) (List.drop 11 (wS G a ti se (c_fallHo (upd ho (60 + (nC f)) (ho (60 + (nC f)) + 1)) (nC f)) (c_fallRi (upd (upd ri (60 + r) (ri (60 + r) + 1)) (108 + r) f) r) bo bc (c_fallFs fs fc ti r (nC f)) (fc + 1))) rfl (ws' := (wS G a ti se (c_strain se (c_fallHo (upd ho (60 + (nC f)) (ho (60 + (nC f)) + 1)) (nC f)) (nC f) ((c_fallRi (upd (upd ri (60 + r) (ri (60 + r) + 1)) (108 + r) f) r) r)) (c_fallRi (upd (upd ri (60 + r) (ri (60 + r) + 1)) (108 + r) f) r) bo bc (c_fallFs fs fc ti r (nC f)) (fc + 1))) rfl (st' := []) rfl ⟨rfl, rfl⟩ ⟨Nat.le_of_ble_eq_true rfl, Nat.le_of_ble_eq_true rfl⟩ ?_
      refine x_iconst (v := (nI 1)) C dX2_giveLesson_111 (by decide) ?_
      refine x_iload C 0 rfl dX2_giveLesson_112 ?_
      refine x_ishl (x := 1) (y := f) C dX2_giveLesson_114 ?_
      exact x_iret C hr E dX2_giveLesson_115 (fun _ => 0) (by rw [← f_e, c_giveT, if_neg (by assumption)]) (by rw [← f_e, c_give, if_neg (by assumption), c_ride]; first | rw [if_pos (by assumption)]; rfl | rw [if_neg (by assumption)]; rfl)
  · refine x_aload_n C 1 rfl dX2_giveLesson_16 rfl ?_
    refine x_get (k := 3) (v := .ref (a 5)) C dX2_giveLesson_17 layX2 fl_X2_23 0 rfl rfl (by decide) rfl ?_
    refine x_bipush (v := (nI 7)) C dX2_giveLesson_20 (by decide) ?_
    refine x_iload_n C 2 rfl dX2_giveLesson_22 rfl ?_
    refine x_iconst (v := (nI 1)) C dX2_giveLesson_23 (by decide) ?_
    refine x_callVd (As := [.int (nI 7), .int (nI r), .int (nI 1)]) (rest := []) C dX2_giveLesson_24 (c_X3_add (gX.l X) G (a 5) (a 6) 12 120 ri 7 r (84 + r) 1 (by omega) (by omega) (by omega) (by omega) (by omega)) ml_X2_117 im_X3_add sl_X3_add in_X3 cd_X3_add hd_X3_add 0 rfl rfl rfl rfl (Nat.le_of_ble_eq_true rfl) ⟨Nat.le_of_ble_eq_true rfl, Nat.le_of_ble_eq_true rfl⟩ (List.take 5 (wS G a ti se ho ri bo bc fs fc)) (List.drop 7 (wS G a ti se ho ri bo bc fs fc)) rfl (ws' := (wS G a ti se ho (upd ri (84 + r) (ri (84 + r) + 1)) bo bc fs fc)) rfl (st' := []) rfl ⟨rfl, rfl⟩ ⟨Nat.le_of_ble_eq_true rfl, Nat.le_of_ble_eq_true rfl⟩ ?_
    refine x_iconst (v := (nI 0)) C dX2_giveLesson_27 (by decide) ?_
    exact x_iret C hr E dX2_giveLesson_28 (fun _ => 0) (by rw [← f_e, c_giveT, if_pos (by assumption)]; rfl) (by rw [← f_e, c_give, if_pos (by assumption)])
