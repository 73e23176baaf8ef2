abbrev k_out (x lo hi : Int32) : Prop := x < lo ∨ hi < x
/-- the answer, now, the history and its place and size -/
abbrev k_R : Type := Int32 × c_S × (Nat → c_S) × Nat × Nat
def k_act (now q : c_S) (hs : Nat → c_S) (nx sz : Nat) (r : Int32) : k_R := (r, q, hup hs nx now, (nx + 1) % 4, min (sz + 1) 4)
def k_no (now : c_S) (hs : Nat → c_S) (nx sz : Nat) (r : Int32) : k_R := (r, now, hs, nx, sz)
def kX_setHorse (now : c_S) (hs : Nat → c_S) (nx sz : Nat) (h st te : Int32) : k_R := if k_out h 0 9 then k_no now hs nx sz (-1) else if k_out st 20 150 then k_no now hs nx sz (-2) else if k_out te 0 9 then k_no now hs nx sz (-2) else if q_ho now (nC h) = st then (if q_ho now (10 + nC h) = te then k_no now hs nx sz (-5) else k_act now (k_changeHorse now (nC h) st te) hs nx sz (q_ho now (nC h))) else k_act now (k_changeHorse now (nC h) st te) hs nx sz (q_ho now (nC h))
def kX_setRider (now : c_S) (hs : Nat → c_S) (nx sz : Nat) (r w k : Int32) : k_R := if k_out r 0 11 then k_no now hs nx sz (-1) else if k_out w 20 150 then k_no now hs nx sz (-2) else if k_out k 0 9 then k_no now hs nx sz (-2) else k_act now (k_changeRider now (nC r) w k) hs nx sz (c_ofRid (q_ri now) (q_bo now) (q_bc now) (nC r) 0)
def kX_set (now : c_S) (hs : Nat → c_S) (nx sz : Nat) (w v : Int32) : k_R := if k_out w 0 4 then k_no now hs nx sz (-1) else if k_out v (sT 1 (nC w)) (sT 2 (nC w)) then k_no now hs nx sz (-2) else if q_se now (nC w) = v then k_no now hs nx sz (-5) else k_act now (k_changeSetting now (nC w) v) hs nx sz (q_se now (nC w))
def k_err (q : c_S) (h g r : Nat) : Int32 := c_bErr (q_bo q) (q_bc q) (nI (q_ti q + h)) g r
def kX_book (now : c_S) (hs : Nat → c_S) (nx sz : Nat) (h g r : Int32) : k_R := if k_out g 0 2 then k_no now hs nx sz (-1) else if k_out r 0 11 then k_no now hs nx sz (-1) else if k_out h 0 99 then k_no now hs nx sz (-2) else if k_err now (nC h) (nC g) (nC r) = 0 then k_act now (k_addBooking now (nC h) g r) hs nx sz (c_bf (q_bo (k_addBooking now (nC h) g r)) (nI (q_ti (k_addBooking now (nC h) g r) + nC h)) (nI (nC g)) (q_bc (k_addBooking now (nC h) g r))) else k_no now hs nx sz (k_err now (nC h) (nC g) (nC r))
theorem k_err_lt {bo : Nat → Int32} {bc : Nat} {tm : Int32} {g r : Nat} (h : c_bErr bo bc tm g r = 0) : bc < 40 := by
  unfold c_bErr at h
  split at h
  · split at h
    · split at h
      · assumption
      · exact absurd h (by decide)
    · exact absurd h (by decide)
  · exact absurd h (by decide)
def k_find (q : c_S) (h r : Nat) : Int32 := c_find (q_bo q) (q_bc q) (nI (q_ti q + h)) (nI r)
def kX_cancel (now : c_S) (hs : Nat → c_S) (nx sz : Nat) (h r : Int32) : k_R := if k_out r 0 11 then k_no now hs nx sz (-1) else if k_out h 0 99 then k_no now hs nx sz (-2) else if k_find now (nC h) (nC r) = -5 then k_no now hs nx sz (-5) else k_act now (k_removeBooking now (nC (k_find now (nC h) (nC r)))) hs nx sz (q_bo now (40 + nC (k_find now (nC h) (nC r))))
theorem c_findR_ok (bo : Nat → Int32) (tm r : Int32) : ∀ n i, i + n ≤ 40 → c_findR bo tm r n i = -5 ∨ (nC (c_findR bo tm r n i) < i + n ∧ c_findR bo tm r n i = nI (nC (c_findR bo tm r n i)))
  | 0, _, _ => Or.inl rfl
  | n + 1, i, h => by
    have ih := c_findR_ok bo tm r n (i + 1) (by omega)
    rw [show i + 1 + n = i + (n + 1) by omega] at ih
    simp only [c_findR]
    split
    · split
      · exact Or.inr ⟨by rw [nC_nI (by omega)]; omega, by rw [nC_nI (by omega)]⟩
      · exact ih
    · exact ih
theorem k_find_ok (q : c_S) (h r : Nat) (hb : q_bc q ≤ 40) : k_find q h r = -5 ∨ (nC (k_find q h r) < q_bc q ∧ k_find q h r = nI (nC (k_find q h r))) := by
  have := c_findR_ok (q_bo q) (nI (q_ti q + h)) (nI r) (q_bc q) 0 (by omega)
  rw [Nat.zero_add] at this
  exact this
theorem c_gLL_inv {se ho ri fs bo : Nat → Int32} {fa : Int32} {t fc bc : Nat} (hb : bc ≤ 40) (hr : ∀ j, j < bc → okR (bo (80 + j))) : ∀ i, i ≤ bc → (c_gLL se fa t (ho, ri, fs, fc, bo, 0, 0) i).2.2.2.2.2.2 ≤ i ∧ (c_gLL se fa t (ho, ri, fs, fc, bo, 0, 0) i).2.2.2.1 ≤ fc + i ∧ (∀ j, i ≤ j → j < bc → okR ((c_gLL se fa t (ho, ri, fs, fc, bo, 0, 0) i).2.2.2.2.1 (80 + j))) ∧ (∀ j, j < (c_gLL se fa t (ho, ri, fs, fc, bo, 0, 0) i).2.2.2.2.2.2 → okR ((c_gLL se fa t (ho, ri, fs, fc, bo, 0, 0) i).2.2.2.2.1 (80 + j)))
  | 0, _ => ⟨Nat.le_refl _, Nat.le_refl _, fun j _ h => hr j h, fun j h => absurd h (Nat.not_lt_zero j)⟩
  | i + 1, hi => by
    obtain ⟨h1, h2, h3, h4⟩ := c_gLL_inv (se := se) (ho := ho) (ri := ri) (fs := fs) (fa := fa) (t := t) (fc := fc) hb hr i (by omega)
    have hri := h3 i (Nat.le_refl _) (by omega)
    show (c_gLS se fa t i (c_gLL se fa t (ho, ri, fs, fc, bo, 0, 0) i)).2.2.2.2.2.2 ≤ i + 1 ∧ (c_gLS se fa t i (c_gLL se fa t (ho, ri, fs, fc, bo, 0, 0) i)).2.2.2.1 ≤ fc + (i + 1) ∧ (∀ j, i + 1 ≤ j → j < bc → okR ((c_gLS se fa t i (c_gLL se fa t (ho, ri, fs, fc, bo, 0, 0) i)).2.2.2.2.1 (80 + j))) ∧ (∀ j, j < (c_gLS se fa t i (c_gLL se fa t (ho, ri, fs, fc, bo, 0, 0) i)).2.2.2.2.2.2 → okR ((c_gLS se fa t i (c_gLL se fa t (ho, ri, fs, fc, bo, 0, 0) i)).2.2.2.2.1 (80 + j)))
    generalize c_gLL se fa t (ho, ri, fs, fc, bo, 0, 0) i = p at h1 h2 h3 h4 hri ⊢
    unfold c_gLS
    split
    · refine ⟨Nat.le_succ_of_le h1, ?_, fun j g1 g2 => h3 j (by omega) g2, fun j g1 => h4 j g1⟩
      have := c_give_fc se p.1 p.2.1 p.2.2.1 p.2.2.2.1 t (nC (p.2.2.2.2.1 (80 + i))) (c_best se p.1 p.2.1 (nC (p.2.2.2.2.1 (80 + i))) fa p.2.2.2.2.2.1)
      show (c_gLG se fa t i p).2.2.2 ≤ fc + (i + 1)
      unfold c_gLG
      omega
    · refine ⟨Nat.succ_le_succ h1, by show p.2.2.2.1 ≤ fc + (i + 1); omega, fun j g1 g2 => ?_, fun j g1 => ?_⟩
      · show okR ((if p.2.2.2.2.2.2 < i then mvC p.2.2.2.2.1 40 i p.2.2.2.2.2.2 3 else p.2.2.2.2.1) (80 + j))
        split
        · rw [mvC_r (by omega) (by omega)]; exact h3 j (by omega) g2
        · exact h3 j (by omega) g2
      · show okR ((if p.2.2.2.2.2.2 < i then mvC p.2.2.2.2.1 40 i p.2.2.2.2.2.2 3 else p.2.2.2.2.1) (80 + j))
        have g1 : j < p.2.2.2.2.2.2 + 1 := g1
        split
        · show okR (upd (upd (upd p.2.2.2.2.1 (0 * 40 + p.2.2.2.2.2.2) _) (1 * 40 + p.2.2.2.2.2.2) _) (2 * 40 + p.2.2.2.2.2.2) ((upd (upd p.2.2.2.2.1 (0 * 40 + p.2.2.2.2.2.2) _) (1 * 40 + p.2.2.2.2.2.2) _) (2 * 40 + i)) (80 + j))
          by_cases e : j = p.2.2.2.2.2.2
          · subst e
            rw [show 80 + p.2.2.2.2.2.2 = 2 * 40 + p.2.2.2.2.2.2 by omega, pk_us, pk_un (by omega), pk_un (by omega)]
            exact hri
          · rw [pk_un (by omega), pk_un (by omega), pk_un (by omega)]; exact h4 j (by omega)
        · by_cases e : j = p.2.2.2.2.2.2
          · have : j = i := by omega
            rw [this]; exact hri
          · exact h4 j (by omega)
theorem okS_hr {B : Nat} {q : c_S} (h : okS B q) : okS (B + 1) (k_passHour1 q) := by
  obtain ⟨h1, h2, h3, h4⟩ := h
  obtain ⟨g1, g2, g3, g4⟩ := c_gLL_inv (se := q_se q) (ho := q_ho q) (ri := q_ri q) (fs := q_fs q) (fa := c_far (q_se q) (q_ho q) (q_ti q)) (t := q_ti q) (fc := q_fc q) h1 h2 (q_bc q) (Nat.le_refl _)
  refine ⟨Nat.le_trans g1 h1, g4, by show q_ti q + 1 ≤ B + 1; omega, ?_⟩
  show (c_hrL (q_se q) (q_ho q) (q_ri q) (q_bo q) (q_bc q) (q_fs q) (q_fc q) (q_ti q)).2.2.2.1 ≤ 40 * (q_ti q + 1)
  have g2 : (c_hrL (q_se q) (q_ho q) (q_ri q) (q_bo q) (q_bc q) (q_fs q) (q_fc q) (q_ti q)).2.2.2.1 ≤ q_fc q + q_bc q := g2
  omega
def k_pL (q : c_S) : Nat → c_S
  | 0 => q
  | n + 1 => k_passHour1 (k_pL q n)
def kX_pass (now : c_S) (hs : Nat → c_S) (nx sz : Nat) (h : Int32) : k_R := if k_out h 1 99 then k_no now hs nx sz (-2) else if 9999 - nC h < q_ti now then k_no now hs nx sz (-3) else k_act now (k_pL now (nC h)) hs nx sz (sumF (q_ho (k_pL now (nC h))) 60 10 - sumF (q_ho now) 60 10)
def kX_undo (now : c_S) (hs : Nat → c_S) (nx sz : Nat) : k_R := if sz = 0 then (-5, now, hs, nx, sz) else (nI (sz - 1), hs ((nx + 3) % 4), hs, (nx + 3) % 4, sz - 1)
def kX_restore (now snap : c_S) (has : Int32) (hs : Nat → c_S) (nx sz : Nat) : k_R := if has = 0 then k_no now hs nx sz (-5) else k_act now snap hs nx sz (nI (q_ti snap))
def kX_horse (now : c_S) (h w : Int32) : Int32 := if k_out h 0 9 then -1 else if k_out w 0 8 then -2 else q_ho now (nC w * 10 + nC h)
def kX_rider (now : c_S) (r w : Int32) : Int32 := if k_out r 0 11 then -1 else if k_out w 0 9 then -2 else c_ofRid (q_ri now) (q_bo now) (q_bc now) (nC r) (nC w)
def kX_lesson (now : c_S) (h g w : Int32) : Int32 := if k_out g 0 2 then -1 else if k_out h 0 99 then -2 else if k_out w 0 2 then -2 else if w = 2 then c_set (q_bo now) (nI (q_ti now + nC h)) (nI (nC g)) (q_bc now) else if w = 0 then c_bf (q_bo now) (nI (q_ti now + nC h)) (nI (nC g)) (q_bc now) else sT 0 (nC g) - c_bf (q_bo now) (nI (q_ti now + nC h)) (nI (nC g)) (q_bc now)
def kX_fall (now : c_S) (k w : Int32) : Int32 := if k < 0 then -2 else if k_out w 0 2 then -2 else c_ofFall (q_fs now) (q_fc now) (nC k) (nC w)
def k_hin (q : c_S) (h r : Nat) : Int32 := c_hind (q_se q) (q_ho q) (q_ri q) h r (c_far (q_se q) (q_ho q) (q_ti q))
def kX_reason (now : c_S) (h r : Int32) : Int32 := if k_out h 0 9 then -1 else if k_out r 0 11 then -1 else k_hin now (nC h) (nC r)
def kX_best (now : c_S) (r : Int32) : Int32 := if k_out r 0 11 then -1 else c_best (q_se now) (q_ho now) (q_ri now) (nC r) (c_far (q_se now) (q_ho now) (q_ti now)) 0
def k_tkR (h r : Nat) : Nat → Nat → c_S → Int32 × c_S
  | 0, _, q => (-5, q)
  | f + 1, n, q => if k_hin q h r = 0 then (nI n, q) else k_tkR h r f (n + 1) (k_passHour0 q)
def kX_takenIn (now ahead : c_S) (h r : Int32) : Int32 × c_S := if k_out h 0 9 then (-1, ahead) else if k_out r 0 11 then (-1, ahead) else if q_ho now (nC h) < c_ofRid (q_ri now) (q_bo now) (q_bc now) (nC r) 0 then (-5, ahead) else k_tkR (nC h) (nC r) 201 0 now
def kX_ifPassed (now ahead : c_S) (h w : Int32) : Int32 × c_S := if k_out h 1 99 then (-2, ahead) else if k_out w 0 3 then (-2, ahead) else ((if w = 0 then sumF (q_ho (k_pL now (nC h))) 60 10 - sumF (q_ho now) 60 10 else if w = 1 then sumF (q_ri (k_pL now (nC h))) 84 12 - sumF (q_ri now) 84 12 else if w = 2 then nI (q_fc (k_pL now (nC h))) - nI (q_fc now) else c_lame (q_ho (k_pL now (nC h))) 10), k_pL now (nC h))
def k_busL (q : c_S) : Nat → Int32 × Int32
  | 0 => (0, -5)
  | h + 1 => if (k_busL q h).1 < c_ball (q_bo q) (nI (q_ti q + h)) (q_bc q) then (c_ball (q_bo q) (nI (q_ti q + h)) (q_bc q), nI h) else k_busL q h
def k_cntN (q : c_S) (sz en k : Nat) : Int32 := if k = 0 then nI (q_ti q) else if k = 1 then nI (q_ti q / 10) else if k = 2 then nI (q_ti q % 10) else if k = 3 then nI (q_bc q) else if k = 4 then sumF (q_ho q) 60 10 else if k = 5 then nI (q_fc q) else if k = 6 then sumF (q_ri q) 84 12 else if k = 7 then c_lame (q_ho q) 10 else if k = 8 then sumF (q_ho q) 80 10 else if k = 9 then sumF (q_ho q) 20 10 else if k = 10 then bI (c_there (q_se q) (q_ti q)) else if k = 11 then c_far (q_se q) (q_ho q) (q_ti q) else if k < 17 then q_se q (k - 12) else if k = 17 then nI sz else if k = 18 then nI en else -2
def kX_count (q : c_S) (sz en : Nat) (w : Int32) : Int32 := if w.toInt < 0 ∨ 19 ≤ w.toInt then -2 else k_cntN q sz en (nC w)
def kX_type (tc : Nat → Int32) (en : Nat) (c : Int32) : Int32 := if en < 60 then nI (if en < 60 then en + 1 else en) else -3
def rm_X5_isNoHorse : Room := { frames := 1, cells := 0, slots := 0, locals := 22 }
set_option maxRecDepth 100000 in
set_option maxHeartbeats 600000 in
theorem c_X5_isNoHorse (l : Launch) (G : gG) (v : Int32)  : CT l yX5_isNoHorse cX5_isNoHorse 1 (some .boolean) rm_X5_isNoHorse G [.int v] [] (some (.int (bI ((v < 0) ∨ (9 < v))))) (fun _ => []) := by
  refine gMet (by decide) (Nat.le_of_ble_eq_true rfl) (fun X hX C hr hin E => ?_)
  clear hX
  refine (show gW G X [] 0 0 0 [(0, .int v)] [] from ?_)
  refine x_iload_n C 0 rfl dX5_isNoHorse_0 rfl ?_
  refine x_iconst (v := (nI 0)) C dX5_isNoHorse_1 (by decide) ?_
  refine x_bipush (v := (nI 9)) C dX5_isNoHorse_2 (by decide) ?_
  refine x_callSd (As := [.int v, .int (nI 0), .int (nI 9)]) (rest := []) C dX5_isNoHorse_4 (c_X5_isOutside (gX.l X) G v 0 9 ) ml_X5_47 st_X5_isOutside in_X5 cd_X5_isOutside hd_X5_isOutside rfl rfl (Nat.le_of_ble_eq_true rfl) ⟨Nat.le_of_ble_eq_true rfl, Nat.le_of_ble_eq_true rfl⟩ [] [] rfl (ws' := []) rfl (st' := [.int (bI ((v < 0) ∨ (9 < v)))]) rfl ⟨rfl, rfl⟩ ⟨Nat.le_of_ble_eq_true rfl, Nat.le_of_ble_eq_true rfl⟩ ?_
  exact x_zret C hr bI_nar E dX5_isNoHorse_7 (fun _ => 0) rfl rfl
def rm_X5_isNoRider : Room := { frames := 1, cells := 0, slots := 0, locals := 22 }
set_option maxRecDepth 100000 in
set_option maxHeartbeats 600000 in
theorem c_X5_isNoRider (l : Launch) (G : gG) (v : Int32)  : CT l yX5_isNoRider cX5_isNoRider 1 (some .boolean) rm_X5_isNoRider G [.int v] [] (some (.int (bI ((v < 0) ∨ (11 < v))))) (fun _ => []) := by
  refine gMet (by decide) (Nat.le_of_ble_eq_true rfl) (fun X hX C hr hin E => ?_)
  clear hX
  refine (show gW G X [] 0 0 0 [(0, .int v)] [] from ?_)
  refine x_iload_n C 0 rfl dX5_isNoRider_0 rfl ?_
  refine x_iconst (v := (nI 0)) C dX5_isNoRider_1 (by decide) ?_
  refine x_bipush (v := (nI 11)) C dX5_isNoRider_2 (by decide) ?_
  refine x_callSd (As := [.int v, .int (nI 0), .int (nI 11)]) (rest := []) C dX5_isNoRider_4 (c_X5_isOutside (gX.l X) G v 0 11 ) ml_X5_47 st_X5_isOutside in_X5 cd_X5_isOutside hd_X5_isOutside rfl rfl (Nat.le_of_ble_eq_true rfl) ⟨Nat.le_of_ble_eq_true rfl, Nat.le_of_ble_eq_true rfl⟩ [] [] rfl (ws' := []) rfl (st' := [.int (bI ((v < 0) ∨ (11 < v)))]) rfl ⟨rfl, rfl⟩ ⟨Nat.le_of_ble_eq_true rfl, Nat.le_of_ble_eq_true rfl⟩ ?_
  exact x_zret C hr bI_nar E dX5_isNoRider_7 (fun _ => 0) rfl rfl
def rm_X5_isNoRing : Room := { frames := 1, cells := 0, slots := 0, locals := 22 }
set_option maxRecDepth 100000 in
set_option maxHeartbeats 600000 in
theorem c_X5_isNoRing (l : Launch) (G : gG) (v : Int32)  : CT l yX5_isNoRing cX5_isNoRing 1 (some .boolean) rm_X5_isNoRing G [.int v] [] (some (.int (bI ((v < 0) ∨ (2 < v))))) (fun _ => []) := by
  refine gMet (by decide) (Nat.le_of_ble_eq_true rfl) (fun X hX C hr hin E => ?_)
  clear hX
  refine (show gW G X [] 0 0 0 [(0, .int v)] [] from ?_)
  refine x_iload_n C 0 rfl dX5_isNoRing_0 rfl ?_
  refine x_iconst (v := (nI 0)) C dX5_isNoRing_1 (by decide) ?_
  refine x_iconst (v := (nI 2)) C dX5_isNoRing_2 (by decide) ?_
  refine x_callSd (As := [.int v, .int (nI 0), .int (nI 2)]) (rest := []) C dX5_isNoRing_3 (c_X5_isOutside (gX.l X) G v 0 2 ) ml_X5_47 st_X5_isOutside in_X5 cd_X5_isOutside hd_X5_isOutside rfl rfl (Nat.le_of_ble_eq_true rfl) ⟨Nat.le_of_ble_eq_true rfl, Nat.le_of_ble_eq_true rfl⟩ [] [] rfl (ws' := []) rfl (st' := [.int (bI ((v < 0) ∨ (2 < v)))]) rfl ⟨rfl, rfl⟩ ⟨Nat.le_of_ble_eq_true rfl, Nat.le_of_ble_eq_true rfl⟩ ?_
  exact x_zret C hr bI_nar E dX5_isNoRing_6 (fun _ => 0) rfl rfl
def rm_X5_setHorse : Room := { frames := 4, cells := 0, slots := 0, locals := 104 }
set_option maxRecDepth 100000 in
set_option maxHeartbeats 600000 in
theorem c_X5_setHorse (l : Launch) (G : gG) (x : Nat) (n m o e : Nat → Nat) (b : Nat → Nat → Nat) (t p : Nat → Nat) (now : c_S) (nx sz : Nat) (hs : Nat → c_S) (ahead snap : c_S) (has : Int32) (tc : Nat → Int32) (en pz pp : Nat) (pn ph pr : Int32) (pe : Nat → Int32) (h st te : Int32)  (hS : okS 10000 now) (hnx : nx < 4) (hsz : sz ≤ 4) : CT l yX5_setHorse cX5_setHorse 5 (some .int) rm_X5_setHorse G [.ref x, .int h, .int st, .int te] ([(x, .inr (5, [.ref (n 0), .ref (m 0), .ref (o 0), .int has, .ref (e 0), .ref (t 0), .ref (p 0)]))] ++ ((wQ G n now) ++ ((wH G e b nx sz hs) ++ ((wQ G m ahead) ++ ((wQ G o snap) ++ ((wX4 G t tc en) ++ ((wX1 G p pz pp pn ph pr pe) ++ []))))))) (some (.int ((kX_setHorse now hs nx sz h st te).1))) (fun _ => ([(x, .inr (5, [.ref (n 0), .ref (m 0), .ref (o 0), .int has, .ref (e 0), .ref (t 0), .ref (p 0)]))] ++ ((wQ G n ((kX_setHorse now hs nx sz h st te).2.1)) ++ ((wH G e b ((kX_setHorse now hs nx sz h st te).2.2.2.1) ((kX_setHorse now hs nx sz h st te).2.2.2.2) ((kX_setHorse now hs nx sz h st te).2.2.1)) ++ ((wQ G m ahead) ++ ((wQ G o snap) ++ ((wX4 G t tc en) ++ ((wX1 G p pz pp pn ph pr pe) ++ [])))))))) := by
  refine gMet (by decide) (Nat.le_of_ble_eq_true rfl) (fun X hX C hr hin E => ?_)
  clear hX
  refine (show gW G X ([(x, .inr (5, [.ref (n 0), .ref (m 0), .ref (o 0), .int has, .ref (e 0), .ref (t 0), .ref (p 0)]))] ++ ((wQ G n now) ++ ((wH G e b nx sz hs) ++ ((wQ G m ahead) ++ ((wQ G o snap) ++ ((wX4 G t tc en) ++ ((wX1 G p pz pp pn ph pr pe) ++ []))))))) 0 0 0 [(0, .ref x), (1, .int h), (2, .int st), (3, .int te)] [] from ?_)
  have hS1 := hS.1
  have hS2 := hS.2.1
  have hS3 := hS.2.2.1
  have hS4 := hS.2.2.2
  refine x_iload_n C 1 rfl dX5_setHorse_0 rfl ?_
  refine x_callSd (As := [.int h]) (rest := []) C dX5_setHorse_1 (c_X5_isNoHorse (gX.l X) G h ) ml_X5_43 st_X5_isNoHorse in_X5 cd_X5_isNoHorse hd_X5_isNoHorse rfl rfl (Nat.le_of_ble_eq_true rfl) ⟨Nat.le_of_ble_eq_true rfl, Nat.le_of_ble_eq_true rfl⟩ [] ([(x, .inr (5, [.ref (n 0), .ref (m 0), .ref (o 0), .int has, .ref (e 0), .ref (t 0), .ref (p 0)]))] ++ ((wQ G n now) ++ ((wH G e b nx sz hs) ++ ((wQ G m ahead) ++ ((wQ G o snap) ++ ((wX4 G t tc en) ++ ((wX1 G p pz pp pn ph pr pe) ++ []))))))) rfl (ws' := ([(x, .inr (5, [.ref (n 0), .ref (m 0), .ref (o 0), .int has, .ref (e 0), .ref (t 0), .ref (p 0)]))] ++ ((wQ G n now) ++ ((wH G e b nx sz hs) ++ ((wQ G m ahead) ++ ((wQ G o snap) ++ ((wX4 G t tc en) ++ ((wX1 G p pz pp pn ph pr pe) ++ [])))))))) rfl (st' := [.int (bI ((h < 0) ∨ (9 < h)))]) rfl ⟨rfl, rfl⟩ ⟨Nat.le_of_ble_eq_true rfl, Nat.le_of_ble_eq_true rfl⟩ ?_
  refine x_if_eqB (P := (h < 0) ∨ (9 < h)) (tgt := 9) C dX5_setHorse_4 (by decide) (fun c1 => ?_) (fun c1 => ?_)
  · refine x_iload_n C 2 rfl dX5_setHorse_9 rfl ?_
    refine x_bipush (v := (nI 20)) C dX5_setHorse_10 (by decide) ?_
    refine x_sipush (v := (nI 150)) C dX5_setHorse_12 (by decide) ?_
    refine x_callSd (As := [.int st, .int (nI 20), .int (nI 150)]) (rest := []) C dX5_setHorse_15 (c_X5_isOutside (gX.l X) G st 20 150 ) ml_X5_47 st_X5_isOutside in_X5 cd_X5_isOutside hd_X5_isOutside rfl rfl (Nat.le_of_ble_eq_true rfl) ⟨Nat.le_of_ble_eq_true rfl, Nat.le_of_ble_eq_true rfl⟩ [] ([(x, .inr (5, [.ref (n 0), .ref (m 0), .ref (o 0), .int has, .ref (e 0), .ref (t 0), .ref (p 0)]))] ++ ((wQ G n now) ++ ((wH G e b nx sz hs) ++ ((wQ G m ahead) ++ ((wQ G o snap) ++ ((wX4 G t tc en) ++ ((wX1 G p pz pp pn ph pr pe) ++ []))))))) rfl (ws' := ([(x, .inr (5, [.ref (n 0), .ref (m 0), .ref (o 0), .int has, .ref (e 0), .ref (t 0), .ref (p 0)]))] ++ ((wQ G n now) ++ ((wH G e b nx sz hs) ++ ((wQ G m ahead) ++ ((wQ G o snap) ++ ((wX4 G t tc en) ++ ((wX1 G p pz pp pn ph pr pe) ++ [])))))))) rfl (st' := [.int (bI ((st < 20) ∨ (150 < st)))]) rfl ⟨rfl, rfl⟩ ⟨Nat.le_of_ble_eq_true rfl, Nat.le_of_ble_eq_true rfl⟩ ?_
    refine x_if_neB (P := (st < 20) ∨ (150 < st)) (tgt := 31) C dX5_setHorse_18 (by decide) (fun c2 => ?_) (fun c2 => ?_)
    · refine x_bipush (v := (-2)) C dX5_setHorse_31 (by decide) ?_
      exact x_iret C hr E dX5_setHorse_33 (fun _ => 0) (by simp (config := {decide := true}) only [kX_setHorse, k_out, k_act, k_no, c1, c2,  if_true, if_false, ite_true, ite_false, and_true, true_and, and_false, false_and, or_true, true_or, or_false, false_or, not_true_eq_false, not_false_eq_true, and_self, or_self] <;> rfl) (by simp (config := {decide := true}) only [kX_setHorse, k_out, k_act, k_no, c1, c2,  if_true, if_false, ite_true, ite_false, and_true, true_and, and_false, false_and, or_true, true_or, or_false, false_or, not_true_eq_false, not_false_eq_true, and_self, or_self])
    · refine x_iload_n C 3 rfl dX5_setHorse_21 rfl ?_
      refine x_iconst (v := (nI 0)) C dX5_setHorse_22 (by decide) ?_
      refine x_bipush (v := (nI 9)) C dX5_setHorse_23 (by decide) ?_
      refine x_callSd (As := [.int te, .int (nI 0), .int (nI 9)]) (rest := []) C dX5_setHorse_25 (c_X5_isOutside (gX.l X) G te 0 9 ) ml_X5_47 st_X5_isOutside in_X5 cd_X5_isOutside hd_X5_isOutside rfl rfl (Nat.le_of_ble_eq_true rfl) ⟨Nat.le_of_ble_eq_true rfl, Nat.le_of_ble_eq_true rfl⟩ [] ([(x, .inr (5, [.ref (n 0), .ref (m 0), .ref (o 0), .int has, .ref (e 0), .ref (t 0), .ref (p 0)]))] ++ ((wQ G n now) ++ ((wH G e b nx sz hs) ++ ((wQ G m ahead) ++ ((wQ G o snap) ++ ((wX4 G t tc en) ++ ((wX1 G p pz pp pn ph pr pe) ++ []))))))) rfl (ws' := ([(x, .inr (5, [.ref (n 0), .ref (m 0), .ref (o 0), .int has, .ref (e 0), .ref (t 0), .ref (p 0)]))] ++ ((wQ G n now) ++ ((wH G e b nx sz hs) ++ ((wQ G m ahead) ++ ((wQ G o snap) ++ ((wX4 G t tc en) ++ ((wX1 G p pz pp pn ph pr pe) ++ [])))))))) rfl (st' := [.int (bI ((te < 0) ∨ (9 < te)))]) rfl ⟨rfl, rfl⟩ ⟨Nat.le_of_ble_eq_true rfl, Nat.le_of_ble_eq_true rfl⟩ ?_
      refine x_if_eqB (P := (te < 0) ∨ (9 < te)) (tgt := 34) C dX5_setHorse_28 (by decide) (fun c3 => ?_) (fun c3 => ?_)
      · have hN := g_out (x := h) (n := 9) (by decide) (by assumption)
        refine x_aload_n C 0 rfl dX5_setHorse_34 rfl ?_
        refine x_get (k := 0) (v := .ref (n 0)) C dX5_setHorse_35 layX5 fl_X5_10 0 rfl rfl (by decide) rfl ?_
        refine x_iload_n C 1 rfl dX5_setHorse_38 rfl ?_
        refine x_top (y := (nI (nC h))) hN.2 ?_
        refine x_iconst (v := (nI 0)) C dX5_setHorse_39 (by decide) ?_
        refine x_callVd (As := [.int (nI (nC h)), .int (nI 0)]) (rest := []) C dX5_setHorse_40 (c_Q_ofHorse (gX.l X) G n now (nC h) 0 (nC h) (by omega) (by omega) (by omega)) ml_X5_51 im_X2_ofHorse sl_X2_ofHorse in_X2 cd_X2_ofHorse hd_X2_ofHorse 0 rfl rfl rfl rfl (Nat.le_of_ble_eq_true rfl) ⟨Nat.le_of_ble_eq_true rfl, Nat.le_of_ble_eq_true rfl⟩ [(x, .inr (5, [.ref (n 0), .ref (m 0), .ref (o 0), .int has, .ref (e 0), .ref (t 0), .ref (p 0)]))] ((wH G e b nx sz hs) ++ ((wQ G m ahead) ++ ((wQ G o snap) ++ ((wX4 G t tc en) ++ ((wX1 G p pz pp pn ph pr pe) ++ []))))) (by simp only [List.append_assoc, List.nil_append, List.cons_append]) (ws' := ([(x, .inr (5, [.ref (n 0), .ref (m 0), .ref (o 0), .int has, .ref (e 0), .ref (t 0), .ref (p 0)]))] ++ ((wQ G n now) ++ ((wH G e b nx sz hs) ++ ((wQ G m ahead) ++ ((wQ G o snap) ++ ((wX4 G t tc en) ++ ((wX1 G p pz pp pn ph pr pe) ++ [])))))))) (by simp only [List.append_assoc, List.nil_append, List.cons_append]) (st' := [.int ((q_ho now) (nC h))]) rfl ⟨rfl, rfl⟩ ⟨Nat.le_of_ble_eq_true rfl, Nat.le_of_ble_eq_true rfl⟩ ?_
        refine x_istore (lv' := [(4, .int ((q_ho now) (nC h))), (0, .ref x), (1, .int h), (2, .int st), (3, .int te)]) C dX5_setHorse_43 (by decide) rfl ?_
        refine x_iload C 0 rfl dX5_setHorse_45 ?_
        refine x_iload_n C 3 rfl dX5_setHorse_47 rfl ?_
        refine x_icmp_ne (x := ((q_ho now) (nC h))) (y := st) (tgt := 67) C dX5_setHorse_48 (by decide) (fun c4 => ?_) (fun c4 => ?_)
        · refine x_aload_n C 1 rfl dX5_setHorse_67 rfl ?_
          refine x_get (k := 4) (v := .ref (e 0)) C dX5_setHorse_68 layX5 fl_X5_25 0 rfl rfl (by decide) rfl ?_
          refine x_aload_n C 1 rfl dX5_setHorse_71 rfl ?_
          refine x_get (k := 0) (v := .ref (n 0)) C dX5_setHorse_72 layX5 fl_X5_10 0 rfl rfl (by decide) rfl ?_
          refine x_call2A (As := [.ref (n 0)]) (rest := []) C dX5_setHorse_75 (c_H_record (gX.l X) G n now e b nx sz hs (by omega) (by omega)) ml_X5_55 im_X0_record sl_X0_record in_X0 cd_X0_record hd_X0_record 11 rfl rfl rfl rfl (Nat.le_of_ble_eq_true rfl) ⟨Nat.le_of_ble_eq_true rfl, Nat.le_of_ble_eq_true rfl⟩ [(x, .inr (5, [.ref (n 0), .ref (m 0), .ref (o 0), .int has, .ref (e 0), .ref (t 0), .ref (p 0)]))] [] ((wQ G m ahead) ++ ((wQ G o snap) ++ ((wX4 G t tc en) ++ ((wX1 G p pz pp pn ph pr pe) ++ [])))) (by simp only [List.append_assoc, List.nil_append, List.cons_append]) (ws' := ([(x, .inr (5, [.ref (n 0), .ref (m 0), .ref (o 0), .int has, .ref (e 0), .ref (t 0), .ref (p 0)]))] ++ ((wQ G n now) ++ ((wH G e b ((nx + 1) % 4) (min (sz + 1) 4) (hup hs nx now)) ++ ((wQ G m ahead) ++ ((wQ G o snap) ++ ((wX4 G t tc en) ++ ((wX1 G p pz pp pn ph pr pe) ++ [])))))))) (by simp only [List.append_assoc, List.nil_append, List.cons_append]) (st' := []) rfl ⟨rfl, rfl⟩ ⟨Nat.le_of_ble_eq_true rfl, Nat.le_of_ble_eq_true rfl⟩ ?_
          refine x_aload_n C 1 rfl dX5_setHorse_78 rfl ?_
          refine x_get (k := 0) (v := .ref (n 0)) C dX5_setHorse_79 layX5 fl_X5_10 0 rfl rfl (by decide) rfl ?_
          refine x_iload_n C 2 rfl dX5_setHorse_82 rfl ?_
          refine x_top (y := (nI (nC h))) hN.2 ?_
          refine x_iload_n C 3 rfl dX5_setHorse_83 rfl ?_
          refine x_iload_n C 4 rfl dX5_setHorse_84 rfl ?_
          refine x_callVd (As := [.int (nI (nC h)), .int st, .int te]) (rest := []) C dX5_setHorse_85 (c_Q_changeHorse (gX.l X) G n now (nC h) st te (by omega)) ml_X5_59 im_X2_changeHorse sl_X2_changeHorse in_X2 cd_X2_changeHorse hd_X2_changeHorse 0 rfl rfl rfl rfl (Nat.le_of_ble_eq_true rfl) ⟨Nat.le_of_ble_eq_true rfl, Nat.le_of_ble_eq_true rfl⟩ [(x, .inr (5, [.ref (n 0), .ref (m 0), .ref (o 0), .int has, .ref (e 0), .ref (t 0), .ref (p 0)]))] ((wH G e b ((nx + 1) % 4) (min (sz + 1) 4) (hup hs nx now)) ++ ((wQ G m ahead) ++ ((wQ G o snap) ++ ((wX4 G t tc en) ++ ((wX1 G p pz pp pn ph pr pe) ++ []))))) (by simp only [List.append_assoc, List.nil_append, List.cons_append]) (ws' := ([(x, .inr (5, [.ref (n 0), .ref (m 0), .ref (o 0), .int has, .ref (e 0), .ref (t 0), .ref (p 0)]))] ++ ((wQ G n (k_changeHorse now (nC h) st te)) ++ ((wH G e b ((nx + 1) % 4) (min (sz + 1) 4) (hup hs nx now)) ++ ((wQ G m ahead) ++ ((wQ G o snap) ++ ((wX4 G t tc en) ++ ((wX1 G p pz pp pn ph pr pe) ++ [])))))))) (by simp only [List.append_assoc, List.nil_append, List.cons_append]) (st' := []) rfl ⟨rfl, rfl⟩ ⟨Nat.le_of_ble_eq_true rfl, Nat.le_of_ble_eq_true rfl⟩ ?_
          refine x_iload C 0 rfl dX5_setHorse_88 ?_
          exact x_iret C hr E dX5_setHorse_90 (fun _ => 0) (by simp (config := {decide := true}) only [kX_setHorse, k_out, k_act, k_no, c1, c2, c3, c4,  if_true, if_false, ite_true, ite_false, and_true, true_and, and_false, false_and, or_true, true_or, or_false, false_or, not_true_eq_false, not_false_eq_true, and_self, or_self] <;> rfl) (by simp (config := {decide := true}) only [kX_setHorse, k_out, k_act, k_no, c1, c2, c3, c4,  if_true, if_false, ite_true, ite_false, and_true, true_and, and_false, false_and, or_true, true_or, or_false, false_or, not_true_eq_false, not_false_eq_true, and_self, or_self])
        · refine x_aload_n C 1 rfl dX5_setHorse_51 rfl ?_
          refine x_get (k := 0) (v := .ref (n 0)) C dX5_setHorse_52 layX5 fl_X5_10 0 rfl rfl (by decide) rfl ?_
          refine x_iload_n C 2 rfl dX5_setHorse_55 rfl ?_
          refine x_top (y := (nI (nC h))) hN.2 ?_
          refine x_iconst (v := (nI 1)) C dX5_setHorse_56 (by decide) ?_
          refine x_callVd (As := [.int (nI (nC h)), .int (nI 1)]) (rest := []) C dX5_setHorse_57 (c_Q_ofHorse (gX.l X) G n now (nC h) 1 (10 + (nC h)) (by omega) (by omega) (by omega)) ml_X5_51 im_X2_ofHorse sl_X2_ofHorse in_X2 cd_X2_ofHorse hd_X2_ofHorse 0 rfl rfl rfl rfl (Nat.le_of_ble_eq_true rfl) ⟨Nat.le_of_ble_eq_true rfl, Nat.le_of_ble_eq_true rfl⟩ [(x, .inr (5, [.ref (n 0), .ref (m 0), .ref (o 0), .int has, .ref (e 0), .ref (t 0), .ref (p 0)]))] ((wH G e b nx sz hs) ++ ((wQ G m ahead) ++ ((wQ G o snap) ++ ((wX4 G t tc en) ++ ((wX1 G p pz pp pn ph pr pe) ++ []))))) (by simp only [List.append_assoc, List.nil_append, List.cons_append]) (ws' := ([(x, .inr (5, [.ref (n 0), .ref (m 0), .ref (o 0), .int has, .ref (e 0), .ref (t 0), .ref (p 0)]))] ++ ((wQ G n now) ++ ((wH G e b nx sz hs) ++ ((wQ G m ahead) ++ ((wQ G o snap) ++ ((wX4 G t tc en) ++ ((wX1 G p pz pp pn ph pr pe) ++ [])))))))) (by simp only [List.append_assoc, List.nil_append, List.cons_append]) (st' := [.int ((q_ho now) (10 + (nC h)))]) rfl ⟨rfl, rfl⟩ ⟨Nat.le_of_ble_eq_true rfl, Nat.le_of_ble_eq_true rfl⟩ ?_
          refine x_iload_n C 4 rfl dX5_setHorse_60 rfl ?_
          refine x_icmp_ne (x := ((q_ho now) (10 + (nC h)))) (y := te) (tgt := 67) C dX5_setHorse_61 (by decide) (fun c5 => ?_) (fun c5 => ?_)
          · refine x_aload_n C 1 rfl dX5_setHorse_67 rfl ?_
            refine x_get (k := 4) (v := .ref (e 0)) C dX5_setHorse_68 layX5 fl_X5_25 0 rfl rfl (by decide) rfl ?_
            refine x_aload_n C 1 rfl dX5_setHorse_71 rfl ?_
            refine x_get (k := 0) (v := .ref (n 0)) C dX5_setHorse_72 layX5 fl_X5_10 0 rfl rfl (by decide) rfl ?_
            refine x_call2A (As := [.ref (n 0)]) (rest := []) C dX5_setHorse_75 (c_H_record (gX.l X) G n now e b nx sz hs (by omega) (by omega)) ml_X5_55 im_X0_record sl_X0_record in_X0 cd_X0_record hd_X0_record 11 rfl rfl rfl rfl (Nat.le_of_ble_eq_true rfl) ⟨Nat.le_of_ble_eq_true rfl, Nat.le_of_ble_eq_true rfl⟩ [(x, .inr (5, [.ref (n 0), .ref (m 0), .ref (o 0), .int has, .ref (e 0), .ref (t 0), .ref (p 0)]))] [] ((wQ G m ahead) ++ ((wQ G o snap) ++ ((wX4 G t tc en) ++ ((wX1 G p pz pp pn ph pr pe) ++ [])))) (by simp only [List.append_assoc, List.nil_append, List.cons_append]) (ws' := ([(x, .inr (5, [.ref (n 0), .ref (m 0), .ref (o 0), .int has, .ref (e 0), .ref (t 0), .ref (p 0)]))] ++ ((wQ G n now) ++ ((wH G e b ((nx + 1) % 4) (min (sz + 1) 4) (hup hs nx now)) ++ ((wQ G m ahead) ++ ((wQ G o snap) ++ ((wX4 G t tc en) ++ ((wX1 G p pz pp pn ph pr pe) ++ [])))))))) (by simp only [List.append_assoc, List.nil_append, List.cons_append]) (st' := []) rfl ⟨rfl, rfl⟩ ⟨Nat.le_of_ble_eq_true rfl, Nat.le_of_ble_eq_true rfl⟩ ?_
            refine x_aload_n C 1 rfl dX5_setHorse_78 rfl ?_
            refine x_get (k := 0) (v := .ref (n 0)) C dX5_setHorse_79 layX5 fl_X5_10 0 rfl rfl (by decide) rfl ?_
            refine x_iload_n C 2 rfl dX5_setHorse_82 rfl ?_
            refine x_top (y := (nI (nC h))) hN.2 ?_
            refine x_iload_n C 3 rfl dX5_setHorse_83 rfl ?_
            refine x_iload_n C 4 rfl dX5_setHorse_84 rfl ?_
            refine x_callVd (As := [.int (nI (nC h)), .int st, .int te]) (rest := []) C dX5_setHorse_85 (c_Q_changeHorse (gX.l X) G n now (nC h) st te (by omega)) ml_X5_59 im_X2_changeHorse sl_X2_changeHorse in_X2 cd_X2_changeHorse hd_X2_changeHorse 0 rfl rfl rfl rfl (Nat.le_of_ble_eq_true rfl) ⟨Nat.le_of_ble_eq_true rfl, Nat.le_of_ble_eq_true rfl⟩ [(x, .inr (5, [.ref (n 0), .ref (m 0), .ref (o 0), .int has, .ref (e 0), .ref (t 0), .ref (p 0)]))] ((wH G e b ((nx + 1) % 4) (min (sz + 1) 4) (hup hs nx now)) ++ ((wQ G m ahead) ++ ((wQ G o snap) ++ ((wX4 G t tc en) ++ ((wX1 G p pz pp pn ph pr pe) ++ []))))) (by simp only [List.append_assoc, List.nil_append, List.cons_append]) (ws' := ([(x, .inr (5, [.ref (n 0), .ref (m 0), .ref (o 0), .int has, .ref (e 0), .ref (t 0), .ref (p 0)]))] ++ ((wQ G n (k_changeHorse now (nC h) st te)) ++ ((wH G e b ((nx + 1) % 4) (min (sz + 1) 4) (hup hs nx now)) ++ ((wQ G m ahead) ++ ((wQ G o snap) ++ ((wX4 G t tc en) ++ ((wX1 G p pz pp pn ph pr pe) ++ [])))))))) (by simp only [List.append_assoc, List.nil_append, List.cons_append]) (st' := []) rfl ⟨rfl, rfl⟩ ⟨Nat.le_of_ble_eq_true rfl, Nat.le_of_ble_eq_true rfl⟩ ?_
            refine x_iload C 0 rfl dX5_setHorse_88 ?_
            exact x_iret C hr E dX5_setHorse_90 (fun _ => 0) (by simp (config := {decide := true}) only [kX_setHorse, k_out, k_act, k_no, c1, c2, c3, c4, c5,  if_true, if_false, ite_true, ite_false, and_true, true_and, and_false, false_and, or_true, true_or, or_false, false_or, not_true_eq_false, not_false_eq_true, and_self, or_self] <;> rfl) (by simp (config := {decide := true}) only [kX_setHorse, k_out, k_act, k_no, c1, c2, c3, c4, c5,  if_true, if_false, ite_true, ite_false, and_true, true_and, and_false, false_and, or_true, true_or, or_false, false_or, not_true_eq_false, not_false_eq_true, and_self, or_self])
          · refine x_bipush (v := (-5)) C dX5_setHorse_64 (by decide) ?_
            exact x_iret C hr E dX5_setHorse_66 (fun _ => 0) (by simp (config := {decide := true}) only [kX_setHorse, k_out, k_act, k_no, c1, c2, c3, c4, c5,  if_true, if_false, ite_true, ite_false, and_true, true_and, and_false, false_and, or_true, true_or, or_false, false_or, not_true_eq_false, not_false_eq_true, and_self, or_self] <;> rfl) (by simp (config := {decide := true}) only [kX_setHorse, k_out, k_act, k_no, c1, c2, c3, c4, c5,  if_true, if_false, ite_true, ite_false, and_true, true_and, and_false, false_and, or_true, true_or, or_false, false_or, not_true_eq_false, not_false_eq_true, and_self, or_self])
      · refine x_bipush (v := (-2)) C dX5_setHorse_31 (by decide) ?_
        exact x_iret C hr E dX5_setHorse_33 (fun _ => 0) (by simp (config := {decide := true}) only [kX_setHorse, k_out, k_act, k_no, c1, c2, c3,  if_true, if_false, ite_true, ite_false, and_true, true_and, and_false, false_and, or_true, true_or, or_false, false_or, not_true_eq_false, not_false_eq_true, and_self, or_self] <;> rfl) (by simp (config := {decide := true}) only [kX_setHorse, k_out, k_act, k_no, c1, c2, c3,  if_true, if_false, ite_true, ite_false, and_true, true_and, and_false, false_and, or_true, true_or, or_false, false_or, not_true_eq_false, not_false_eq_true, and_self, or_self])
  · refine x_iconst (v := (-1)) C dX5_setHorse_7 (by decide) ?_
    exact x_iret C hr E dX5_setHorse_8 (fun _ => 0) (by simp (config := {decide := true}) only [kX_setHorse, k_out, k_act, k_no, c1,  if_true, if_false, ite_true, ite_false, and_true, true_and, and_false, false_and, or_true, true_or, or_false, false_or, not_true_eq_false, not_false_eq_true, and_self, or_self] <;> rfl) (by simp (config := {decide := true}) only [kX_setHorse, k_out, k_act, k_no, c1,  if_true, if_false, ite_true, ite_false, and_true, true_and, and_false, false_and, or_true, true_or, or_false, false_or, not_true_eq_false, not_false_eq_true, and_self, or_self])
