/-- a plan that is read: how many riders, the place, the number, hours, ring, the entries -/
abbrev c_P : Type := Nat × Nat × Int32 × Int32 × Int32 × (Nat → Int32)
def p_addE (P : c_P) : c_P := (P.1 + 1, P.2.1, P.2.2.1, P.2.2.2.1, P.2.2.2.2.1, upd (upd (upd P.2.2.2.2.2 P.1 P.2.2.2.1) (60 + P.1) P.2.2.2.2.1) (120 + P.1) P.2.2.1)
def p_val (pn d : Int32) : Int32 := if pn = -1 then d else pn * 10 + d
def p_digit (P : c_P) (d : Int32) : Int32 × c_P := if P.2.2.1 = 0 then (0, P) else if sT 4 P.2.1 < p_val P.2.2.1 d then (0, P) else (1, (P.1, P.2.1, p_val P.2.2.1 d, P.2.2.2.1, P.2.2.2.2.1, P.2.2.2.2.2))
def p_start (P : c_P) : Int32 × c_P := if P.2.1 = 0 then (1, (P.1, 1, -1, P.2.2.2.1, P.2.2.2.2.1, P.2.2.2.2.2)) else (0, P)
def p_rid (P : c_P) (k : Nat) : Int32 × c_P := (1, ((p_addE P).1, k, -1, P.2.2.2.1, P.2.2.2.2.1, (p_addE P).2.2.2.2.2))
def p_sg3 (P : c_P) (c : Int32) : Int32 × c_P := if P.2.1 = 3 then (if c = 44 then p_rid P 3 else if c = 59 then p_rid P 0 else (0, P)) else (0, P)
def p_sg2 (P : c_P) (c : Int32) : Int32 × c_P := if P.2.1 = 2 then (if c = 58 then (1, (P.1, 3, -1, P.2.2.2.1, P.2.2.1, P.2.2.2.2.2)) else p_sg3 P c) else p_sg3 P c
def p_sign (P : c_P) (c : Int32) : Int32 × c_P := if P.2.1 = 1 then (if c = 47 then (1, (P.1, 2, -1, P.2.2.1, P.2.2.2.2.1, P.2.2.2.2.2)) else p_sg2 P c) else p_sg2 P c
def p_acc2 (P : c_P) (c : Int32) : Int32 × c_P := if c = 43 then p_start P else if P.2.2.1 = -1 then (0, P) else if (p_sign P c).1 = 0 then (0, (p_sign P c).2) else (1, (p_sign P c).2)
def p_acc (P : c_P) (c : Int32) : Int32 × c_P := if c < 48 then p_acc2 P c else if 57 < c then p_acc2 P c else p_digit P (c - 48)
theorem p_nar {x : Int32} (h : x = 0 ∨ x = 1) : narrow .boolean (.int x) = .int x := by rcases h with rfl | rfl <;> rfl
theorem p_digit_01 (P : c_P) (d : Int32) : (p_digit P d).1 = 0 ∨ (p_digit P d).1 = 1 := by
  unfold p_digit; repeat' split
  all_goals first | exact Or.inl rfl | exact Or.inr rfl
theorem p_start_01 (P : c_P) : (p_start P).1 = 0 ∨ (p_start P).1 = 1 := by
  unfold p_start; split
  · exact Or.inr rfl
  · exact Or.inl rfl
theorem p_sign_01 (P : c_P) (c : Int32) : (p_sign P c).1 = 0 ∨ (p_sign P c).1 = 1 := by
  unfold p_sign p_sg2 p_sg3 p_rid; repeat' split
  all_goals first | exact Or.inl rfl | exact Or.inr rfl
theorem p_acc2_01 (P : c_P) (c : Int32) : (p_acc2 P c).1 = 0 ∨ (p_acc2 P c).1 = 1 := by
  unfold p_acc2
  split
  · exact p_start_01 P
  · repeat' split
    all_goals first | exact Or.inl rfl | exact Or.inr rfl
theorem p_acc_01 (P : c_P) (c : Int32) : (p_acc P c).1 = 0 ∨ (p_acc P c).1 = 1 := by
  unfold p_acc
  split
  · exact p_acc2_01 P c
  · split
    · exact p_acc2_01 P c
    · exact p_digit_01 P _
def okP (P : c_P) (i : Nat) : Prop := P.1 ≤ i ∧ (¬ P.2.2.1 = -1 → P.1 + 1 ≤ i) ∧ P.2.1 < 4
theorem okP_digit {P : c_P} {i : Nat} {d : Int32} (h : okP P i) : okP (p_digit P d).2 (i + 1) := by
  obtain ⟨h1, h2, h3⟩ := h
  unfold p_digit; repeat' split
  all_goals exact ⟨by show P.1 ≤ i + 1; omega, fun _ => by show P.1 + 1 ≤ i + 1; omega, h3⟩
theorem okP_start {P : c_P} {i : Nat} (h : okP P i) : okP (p_start P).2 (i + 1) := by
  obtain ⟨h1, h2, h3⟩ := h
  unfold p_start; split
  · exact ⟨by show P.1 ≤ i + 1; omega, fun _ => by show P.1 + 1 ≤ i + 1; omega, by show 1 < 4; omega⟩
  · exact ⟨by show P.1 ≤ i + 1; omega, fun _ => by show P.1 + 1 ≤ i + 1; omega, h3⟩
theorem okP_sign {P : c_P} {i : Nat} {c : Int32} (h : okP P i) : okP (p_sign P c).2 (i + 1) := by
  obtain ⟨h1, h2, h3⟩ := h
  have e0 : okP P (i + 1) := ⟨by omega, fun _ => by omega, h3⟩
  have e3 : ∀ k, k < 4 → okP (p_rid P k).2 (i + 1) := fun k hk => ⟨by show P.1 + 1 ≤ i + 1; omega, fun hn => absurd rfl hn, hk⟩
  unfold p_sign p_sg2 p_sg3; repeat' split
  all_goals first | exact e0 | exact e3 _ (by decide) | exact ⟨by show P.1 ≤ i + 1; omega, fun hn => absurd rfl hn, by first | exact (by decide : 2 < 4) | exact (by decide : 3 < 4)⟩
theorem okP_acc2 {P : c_P} {i : Nat} {c : Int32} (h : okP P i) : okP (p_acc2 P c).2 (i + 1) := by
  have e0 : okP P (i + 1) := ⟨by have := h.1; omega, fun _ => by have := h.1; omega, h.2.2⟩
  unfold p_acc2; repeat' split
  all_goals first | exact okP_start h | exact okP_sign h | exact e0
theorem okP_acc {P : c_P} {i : Nat} {c : Int32} (h : okP P i) : okP (p_acc P c).2 (i + 1) := by
  unfold p_acc; repeat' split
  all_goals first | exact okP_acc2 h | exact okP_digit h
def p_end (P : c_P) (n : Nat) : Int32 × c_P := if P.2.1 = 3 then (if P.2.2.1 = -1 then (nI n, P) else (-5, p_addE P)) else (nI n, P)
def p_readR (tc : Nat → Int32) (en : Nat) : Nat → Nat → c_P → Int32 × c_P
  | 0, _, P => p_end P en
  | f + 1, i, P => if (p_acc P (tc i)).1 = 0 then (nI i, (p_acc P (tc i)).2) else p_readR tc en f (i + 1) (p_acc P (tc i)).2
def p_read (tc : Nat → Int32) (en : Nat) (ph pr : Int32) (pe : Nat → Int32) : Int32 × c_P := p_readR tc en en 0 (0, 0, -1, ph, pr, pe)
def rm_X1_size : Room := { frames := 0, cells := 0, slots := 0, locals := 0 }
set_option maxRecDepth 100000 in
set_option maxHeartbeats 600000 in
theorem c_X1_size (l : Launch) (G : gG) (p : Nat → Nat) (pz pp : Nat) (pn ph pr : Int32) (pe : Nat → Int32)  : CT l yX1_size cX1_size 1 (some .int) rm_X1_size G [.ref (p 0)] (wX1 G p pz pp pn ph pr pe) (some (.int (nI pz))) (fun _ => (wX1 G p pz pp pn ph pr pe)) := by
  refine gMet (by decide) (Nat.le_of_ble_eq_true rfl) (fun X hX C hr hin E => ?_)
  clear hX
  refine (show gW G X (wX1 G p pz pp pn ph pr pe) 0 0 0 [(0, .ref (p 0))] [] from ?_)
  refine x_aload_n C 0 rfl dX1_size_0 rfl ?_
  refine x_get (k := 1) (v := .int (nI pz)) C dX1_size_1 layX1 fl_X1_20 0 rfl rfl (by decide) rfl ?_
  exact x_iret C hr E dX1_size_4 (fun _ => 0) rfl rfl
def rm_X1_hoursAt : Room := { frames := 1, cells := 0, slots := 0, locals := 23 }
set_option maxRecDepth 100000 in
set_option maxHeartbeats 600000 in
theorem c_X1_hoursAt (l : Launch) (G : gG) (p : Nat → Nat) (pz pp : Nat) (pn ph pr : Int32) (pe : Nat → Int32) (i : Nat)  (hi : i < 60) : CT l yX1_hoursAt cX1_hoursAt 2 (some .int) rm_X1_hoursAt G [.ref (p 0), .int (nI i)] (wX1 G p pz pp pn ph pr pe) (some (.int (pe i))) (fun _ => (wX1 G p pz pp pn ph pr pe)) := by
  refine gMet (by decide) (Nat.le_of_ble_eq_true rfl) (fun X hX C hr hin E => ?_)
  clear hX
  refine (show gW G X (wX1 G p pz pp pn ph pr pe) 0 0 0 [(0, .ref (p 0)), (1, .int (nI i))] [] from ?_)
  refine x_aload_n C 0 rfl dX1_hoursAt_0 rfl ?_
  refine x_get (k := 0) (v := .ref (p 1)) C dX1_hoursAt_1 layX1 fl_X1_16 0 rfl rfl (by decide) rfl ?_
  refine x_iconst (v := (nI 0)) C dX1_hoursAt_4 (by decide) ?_
  refine x_iload_n C 1 rfl dX1_hoursAt_5 rfl ?_
  refine x_callVd (As := [.int (nI 0), .int (nI i)]) (rest := []) C dX1_hoursAt_6 (c_X3_at (gX.l X) G (p 1) (p 2) 60 180 pe 0 i i (by omega) (by omega) (by omega) (by omega) (by omega)) ml_X1_24 im_X3_at sl_X3_at in_X3 cd_X3_at hd_X3_at 0 rfl rfl rfl rfl (Nat.le_of_ble_eq_true rfl) ⟨Nat.le_of_ble_eq_true rfl, Nat.le_of_ble_eq_true rfl⟩ (List.take 1 (wX1 G p pz pp pn ph pr pe)) (List.drop 3 (wX1 G p pz pp pn ph pr pe)) rfl (ws' := (wX1 G p pz pp pn ph pr pe)) rfl (st' := [.int (pe i)]) rfl ⟨rfl, rfl⟩ ⟨Nat.le_of_ble_eq_true rfl, Nat.le_of_ble_eq_true rfl⟩ ?_
  exact x_iret C hr E dX1_hoursAt_9 (fun _ => 0) rfl rfl
def rm_X1_ringAt : Room := { frames := 1, cells := 0, slots := 0, locals := 23 }
set_option maxRecDepth 100000 in
set_option maxHeartbeats 600000 in
theorem c_X1_ringAt (l : Launch) (G : gG) (p : Nat → Nat) (pz pp : Nat) (pn ph pr : Int32) (pe : Nat → Int32) (i : Nat)  (hi : i < 60) : CT l yX1_ringAt cX1_ringAt 2 (some .int) rm_X1_ringAt G [.ref (p 0), .int (nI i)] (wX1 G p pz pp pn ph pr pe) (some (.int (pe (60 + i)))) (fun _ => (wX1 G p pz pp pn ph pr pe)) := by
  refine gMet (by decide) (Nat.le_of_ble_eq_true rfl) (fun X hX C hr hin E => ?_)
  clear hX
  refine (show gW G X (wX1 G p pz pp pn ph pr pe) 0 0 0 [(0, .ref (p 0)), (1, .int (nI i))] [] from ?_)
  refine x_aload_n C 0 rfl dX1_ringAt_0 rfl ?_
  refine x_get (k := 0) (v := .ref (p 1)) C dX1_ringAt_1 layX1 fl_X1_16 0 rfl rfl (by decide) rfl ?_
  refine x_iconst (v := (nI 1)) C dX1_ringAt_4 (by decide) ?_
  refine x_iload_n C 1 rfl dX1_ringAt_5 rfl ?_
  refine x_callVd (As := [.int (nI 1), .int (nI i)]) (rest := []) C dX1_ringAt_6 (c_X3_at (gX.l X) G (p 1) (p 2) 60 180 pe 1 i (60 + i) (by omega) (by omega) (by omega) (by omega) (by omega)) ml_X1_24 im_X3_at sl_X3_at in_X3 cd_X3_at hd_X3_at 0 rfl rfl rfl rfl (Nat.le_of_ble_eq_true rfl) ⟨Nat.le_of_ble_eq_true rfl, Nat.le_of_ble_eq_true rfl⟩ (List.take 1 (wX1 G p pz pp pn ph pr pe)) (List.drop 3 (wX1 G p pz pp pn ph pr pe)) rfl (ws' := (wX1 G p pz pp pn ph pr pe)) rfl (st' := [.int (pe (60 + i))]) rfl ⟨rfl, rfl⟩ ⟨Nat.le_of_ble_eq_true rfl, Nat.le_of_ble_eq_true rfl⟩ ?_
  exact x_iret C hr E dX1_ringAt_9 (fun _ => 0) rfl rfl
def rm_X1_riderAt : Room := { frames := 1, cells := 0, slots := 0, locals := 23 }
set_option maxRecDepth 100000 in
set_option maxHeartbeats 600000 in
theorem c_X1_riderAt (l : Launch) (G : gG) (p : Nat → Nat) (pz pp : Nat) (pn ph pr : Int32) (pe : Nat → Int32) (i : Nat)  (hi : i < 60) : CT l yX1_riderAt cX1_riderAt 2 (some .int) rm_X1_riderAt G [.ref (p 0), .int (nI i)] (wX1 G p pz pp pn ph pr pe) (some (.int (pe (120 + i)))) (fun _ => (wX1 G p pz pp pn ph pr pe)) := by
  refine gMet (by decide) (Nat.le_of_ble_eq_true rfl) (fun X hX C hr hin E => ?_)
  clear hX
  refine (show gW G X (wX1 G p pz pp pn ph pr pe) 0 0 0 [(0, .ref (p 0)), (1, .int (nI i))] [] from ?_)
  refine x_aload_n C 0 rfl dX1_riderAt_0 rfl ?_
  refine x_get (k := 0) (v := .ref (p 1)) C dX1_riderAt_1 layX1 fl_X1_16 0 rfl rfl (by decide) rfl ?_
  refine x_iconst (v := (nI 2)) C dX1_riderAt_4 (by decide) ?_
  refine x_iload_n C 1 rfl dX1_riderAt_5 rfl ?_
  refine x_callVd (As := [.int (nI 2), .int (nI i)]) (rest := []) C dX1_riderAt_6 (c_X3_at (gX.l X) G (p 1) (p 2) 60 180 pe 2 i (120 + i) (by omega) (by omega) (by omega) (by omega) (by omega)) ml_X1_24 im_X3_at sl_X3_at in_X3 cd_X3_at hd_X3_at 0 rfl rfl rfl rfl (Nat.le_of_ble_eq_true rfl) ⟨Nat.le_of_ble_eq_true rfl, Nat.le_of_ble_eq_true rfl⟩ (List.take 1 (wX1 G p pz pp pn ph pr pe)) (List.drop 3 (wX1 G p pz pp pn ph pr pe)) rfl (ws' := (wX1 G p pz pp pn ph pr pe)) rfl (st' := [.int (pe (120 + i))]) rfl ⟨rfl, rfl⟩ ⟨Nat.le_of_ble_eq_true rfl, Nat.le_of_ble_eq_true rfl⟩ ?_
  exact x_iret C hr E dX1_riderAt_9 (fun _ => 0) rfl rfl
def rm_X1_moveTo : Room := { frames := 0, cells := 0, slots := 0, locals := 0 }
set_option maxRecDepth 100000 in
set_option maxHeartbeats 600000 in
theorem c_X1_moveTo (l : Launch) (G : gG) (p : Nat → Nat) (pz pp : Nat) (pn ph pr : Int32) (pe : Nat → Int32) (k : Nat)  : CT l yX1_moveTo cX1_moveTo 2 none rm_X1_moveTo G [.ref (p 0), .int (nI k)] (wX1 G p pz pp pn ph pr pe) none (fun _ => (wX1 G p pz k (-1) ph pr pe)) := by
  refine gMet (by decide) (Nat.le_of_ble_eq_true rfl) (fun X hX C hr hin E => ?_)
  clear hX
  refine (show gW G X (wX1 G p pz pp pn ph pr pe) 0 0 0 [(0, .ref (p 0)), (1, .int (nI k))] [] from ?_)
  refine x_aload_n C 0 rfl dX1_moveTo_0 rfl ?_
  refine x_iload_n C 1 rfl dX1_moveTo_1 rfl ?_
  refine x_put (k := 2) (ws' := (wX1 G p pz k pn ph pr pe)) C dX1_moveTo_2 layX1 tyX1 tyX1_ok nmX1 fl_X1_46 0 rfl rfl (by decide) rfl rfl rfl rfl (Nat.le_of_ble_eq_true rfl) rfl ?_
  refine x_aload_n C 0 rfl dX1_moveTo_5 rfl ?_
  refine x_iconst (v := (-1)) C dX1_moveTo_6 (by decide) ?_
  refine x_put (k := 3) (ws' := (wX1 G p pz k (-1) ph pr pe)) C dX1_moveTo_7 layX1 tyX1 tyX1_ok nmX1 fl_X1_49 0 rfl rfl (by decide) rfl rfl rfl rfl (Nat.le_of_ble_eq_true rfl) rfl ?_
  exact x_vret C hr E dX1_moveTo_10 (fun _ => 0) rfl
def rm_X1_addEntry : Room := { frames := 1, cells := 0, slots := 0, locals := 24 }
set_option maxRecDepth 100000 in
set_option maxHeartbeats 600000 in
theorem c_X1_addEntry (l : Launch) (G : gG) (p : Nat → Nat) (pz pp : Nat) (pn ph pr : Int32) (pe : Nat → Int32)  (hpz : pz < 60) : CT l yX1_addEntry cX1_addEntry 1 none rm_X1_addEntry G [.ref (p 0)] (wX1 G p pz pp pn ph pr pe) none (fun _ => (wX1 G p (pz + 1) pp pn ph pr (upd (upd (upd pe pz ph) (60 + pz) pr) (120 + pz) pn))) := by
  refine gMet (by decide) (Nat.le_of_ble_eq_true rfl) (fun X hX C hr hin E => ?_)
  clear hX
  refine (show gW G X (wX1 G p pz pp pn ph pr pe) 0 0 0 [(0, .ref (p 0))] [] from ?_)
  refine x_aload_n C 0 rfl dX1_addEntry_0 rfl ?_
  refine x_get (k := 0) (v := .ref (p 1)) C dX1_addEntry_1 layX1 fl_X1_16 0 rfl rfl (by decide) rfl ?_
  refine x_iconst (v := (nI 0)) C dX1_addEntry_4 (by decide) ?_
  refine x_aload_n C 0 rfl dX1_addEntry_5 rfl ?_
  refine x_get (k := 1) (v := .int (nI pz)) C dX1_addEntry_6 layX1 fl_X1_20 0 rfl rfl (by decide) rfl ?_
  refine x_aload_n C 0 rfl dX1_addEntry_9 rfl ?_
  refine x_get (k := 4) (v := .int ph) C dX1_addEntry_10 layX1 fl_X1_55 0 rfl rfl (by decide) rfl ?_
  refine x_callVd (As := [.int (nI 0), .int (nI pz), .int ph]) (rest := []) C dX1_addEntry_13 (c_X3_put (gX.l X) G (p 1) (p 2) 60 180 pe 0 pz pz ph (by omega) (by omega) (by omega) (by omega) (by omega)) ml_X1_58 im_X3_put sl_X3_put in_X3 cd_X3_put hd_X3_put 0 rfl rfl rfl rfl (Nat.le_of_ble_eq_true rfl) ⟨Nat.le_of_ble_eq_true rfl, Nat.le_of_ble_eq_true rfl⟩ (List.take 1 (wX1 G p pz pp pn ph pr pe)) (List.drop 3 (wX1 G p pz pp pn ph pr pe)) rfl (ws' := (wX1 G p pz pp pn ph pr (upd pe pz ph))) rfl (st' := []) rfl ⟨rfl, rfl⟩ ⟨Nat.le_of_ble_eq_true rfl, Nat.le_of_ble_eq_true rfl⟩ ?_
  refine x_aload_n C 0 rfl dX1_addEntry_16 rfl ?_
  refine x_get (k := 0) (v := .ref (p 1)) C dX1_addEntry_17 layX1 fl_X1_16 0 rfl rfl (by decide) rfl ?_
  refine x_iconst (v := (nI 1)) C dX1_addEntry_20 (by decide) ?_
  refine x_aload_n C 0 rfl dX1_addEntry_21 rfl ?_
  refine x_get (k := 1) (v := .int (nI pz)) C dX1_addEntry_22 layX1 fl_X1_20 0 rfl rfl (by decide) rfl ?_
  refine x_aload_n C 0 rfl dX1_addEntry_25 rfl ?_
  refine x_get (k := 5) (v := .int pr) C dX1_addEntry_26 layX1 fl_X1_62 0 rfl rfl (by decide) rfl ?_
  refine x_callVd (As := [.int (nI 1), .int (nI pz), .int pr]) (rest := []) C dX1_addEntry_29 (c_X3_put (gX.l X) G (p 1) (p 2) 60 180 (upd pe pz ph) 1 pz (60 + pz) pr (by omega) (by omega) (by omega) (by omega) (by omega)) ml_X1_58 im_X3_put sl_X3_put in_X3 cd_X3_put hd_X3_put 0 rfl rfl rfl rfl (Nat.le_of_ble_eq_true rfl) ⟨Nat.le_of_ble_eq_true rfl, Nat.le_of_ble_eq_true rfl⟩ (List.take 1 (wX1 G p pz pp pn ph pr (upd pe pz ph))) (List.drop 3 (wX1 G p pz pp pn ph pr (upd pe pz ph))) rfl (ws' := (wX1 G p pz pp pn ph pr (upd (upd pe pz ph) (60 + pz) pr))) rfl (st' := []) rfl ⟨rfl, rfl⟩ ⟨Nat.le_of_ble_eq_true rfl, Nat.le_of_ble_eq_true rfl⟩ ?_
  refine x_aload_n C 0 rfl dX1_addEntry_32 rfl ?_
  refine x_get (k := 0) (v := .ref (p 1)) C dX1_addEntry_33 layX1 fl_X1_16 0 rfl rfl (by decide) rfl ?_
  refine x_iconst (v := (nI 2)) C dX1_addEntry_36 (by decide) ?_
  refine x_aload_n C 0 rfl dX1_addEntry_37 rfl ?_
  refine x_get (k := 1) (v := .int (nI pz)) C dX1_addEntry_38 layX1 fl_X1_20 0 rfl rfl (by decide) rfl ?_
  refine x_aload_n C 0 rfl dX1_addEntry_41 rfl ?_
  refine x_get (k := 3) (v := .int pn) C dX1_addEntry_42 layX1 fl_X1_49 0 rfl rfl (by decide) rfl ?_
  refine x_callVd (As := [.int (nI 2), .int (nI pz), .int pn]) (rest := []) C dX1_addEntry_45 (c_X3_put (gX.l X) G (p 1) (p 2) 60 180 (upd (upd pe pz ph) (60 + pz) pr) 2 pz (120 + pz) pn (by omega) (by omega) (by omega) (by omega) (by omega)) ml_X1_58 im_X3_put sl_X3_put in_X3 cd_X3_put hd_X3_put 0 rfl rfl rfl rfl (Nat.le_of_ble_eq_true rfl) ⟨Nat.le_of_ble_eq_true rfl, Nat.le_of_ble_eq_true rfl⟩ (List.take 1 (wX1 G p pz pp pn ph pr (upd (upd pe pz ph) (60 + pz) pr))) (List.drop 3 (wX1 G p pz pp pn ph pr (upd (upd pe pz ph) (60 + pz) pr))) rfl (ws' := (wX1 G p pz pp pn ph pr (upd (upd (upd pe pz ph) (60 + pz) pr) (120 + pz) pn))) rfl (st' := []) rfl ⟨rfl, rfl⟩ ⟨Nat.le_of_ble_eq_true rfl, Nat.le_of_ble_eq_true rfl⟩ ?_
  refine x_aload_n C 0 rfl dX1_addEntry_48 rfl ?_
  refine x_aload_n C 0 rfl dX1_addEntry_49 rfl ?_
  refine x_get (k := 1) (v := .int (nI pz)) C dX1_addEntry_50 layX1 fl_X1_20 0 rfl rfl (by decide) rfl ?_
  refine x_iconst (v := (nI 1)) C dX1_addEntry_53 (by decide) ?_
  refine x_iaddN C dX1_addEntry_54 ?_
  refine x_bipush (v := (nI 60)) C dX1_addEntry_55 (by decide) ?_
  refine x_min (x := (nI (pz + 1))) (y := 60) C dX1_addEntry_57 ml_X1_65 st_J9_min_7cf53 in_J9 cd_J9_min_7cf53 (Nat.le_of_ble_eq_true rfl) ⟨Nat.le_of_ble_eq_true rfl, Nat.le_of_ble_eq_true rfl⟩ ⟨Nat.le_of_ble_eq_true rfl, Nat.le_of_ble_eq_true rfl⟩ ?_
  refine x_top (y := (nI (pz + 1))) (by rw [show (60 : Int32) = nI 60 from rfl, mnI_nI (by omega) (by omega), Nat.min_eq_left (by omega)]) ?_
  refine x_put (k := 1) (ws' := (wX1 G p (pz + 1) pp pn ph pr (upd (upd (upd pe pz ph) (60 + pz) pr) (120 + pz) pn))) C dX1_addEntry_60 layX1 tyX1 tyX1_ok nmX1 fl_X1_20 0 rfl rfl (by decide) rfl rfl rfl rfl (Nat.le_of_ble_eq_true rfl) rfl ?_
  exact x_vret C hr E dX1_addEntry_63 (fun _ => 0) rfl
def rm_X1_acceptsDigit : Room := { frames := 1, cells := 0, slots := 0, locals := 21 }
set_option maxRecDepth 100000 in
set_option maxHeartbeats 600000 in
theorem c_X1_acceptsDigit (l : Launch) (G : gG) (p : Nat → Nat) (pz pp : Nat) (pn ph pr : Int32) (pe : Nat → Int32) (d : Int32)  (hpp : pp < 4) : CT l yX1_acceptsDigit cX1_acceptsDigit 3 (some .boolean) rm_X1_acceptsDigit G [.ref (p 0), .int d] (wX1 G p pz pp pn ph pr pe) (some (.int ((p_digit (pz, pp, pn, ph, pr, pe) d).1))) (fun _ => (wX1 G p ((p_digit (pz, pp, pn, ph, pr, pe) d).2.1) ((p_digit (pz, pp, pn, ph, pr, pe) d).2.2.1) ((p_digit (pz, pp, pn, ph, pr, pe) d).2.2.2.1) ((p_digit (pz, pp, pn, ph, pr, pe) d).2.2.2.2.1) ((p_digit (pz, pp, pn, ph, pr, pe) d).2.2.2.2.2.1) ((p_digit (pz, pp, pn, ph, pr, pe) d).2.2.2.2.2.2))) := by
  refine gMet (by decide) (Nat.le_of_ble_eq_true rfl) (fun X hX C hr hin E => ?_)
  clear hX
  refine (show gW G X (wX1 G p pz pp pn ph pr pe) 0 0 0 [(0, .ref (p 0)), (1, .int d)] [] from ?_)
  refine x_aload_n C 0 rfl dX1_acceptsDigit_0 rfl ?_
  refine x_get (k := 3) (v := .int pn) C dX1_acceptsDigit_1 layX1 fl_X1_49 0 rfl rfl (by decide) rfl ?_
  refine x_if_ne (x := pn) (tgt := 9) C dX1_acceptsDigit_4 (by decide) (fun c1 => ?_) (fun c1 => ?_)
  · refine x_aload_n C 0 rfl dX1_acceptsDigit_9 rfl ?_
    refine x_get (k := 3) (v := .int pn) C dX1_acceptsDigit_10 layX1 fl_X1_49 0 rfl rfl (by decide) rfl ?_
    refine x_iconst (v := (-1)) C dX1_acceptsDigit_13 (by decide) ?_
    refine x_icmp_ne (x := pn) (y := (-1)) (tgt := 21) C dX1_acceptsDigit_14 (by decide) (fun c2 => ?_) (fun c2 => ?_)
    · refine x_aload_n C 0 rfl dX1_acceptsDigit_21 rfl ?_
      refine x_get (k := 3) (v := .int pn) C dX1_acceptsDigit_22 layX1 fl_X1_49 0 rfl rfl (by decide) rfl ?_
      refine x_bipush (v := (nI 10)) C dX1_acceptsDigit_25 (by decide) ?_
      refine x_imul (x := pn) (y := 10) C dX1_acceptsDigit_27 ?_
      refine x_iload_n C 1 rfl dX1_acceptsDigit_28 rfl ?_
      refine x_iadd (x := (pn * 10)) (y := d) C dX1_acceptsDigit_29 ?_
      refine x_istore_n (lv' := [(2, .int ((pn * 10) + d)), (0, .ref (p 0)), (1, .int d)]) C dX1_acceptsDigit_30 rfl (by decide) rfl ?_
      refine x_iload_n C 0 rfl dX1_acceptsDigit_31 rfl ?_
      refine x_gets4 C dX1_acceptsDigit_32 fl_X1_81 ?_
      refine x_aload_n C 1 rfl dX1_acceptsDigit_35 rfl ?_
      refine x_get (k := 2) (v := .int (nI pp)) C dX1_acceptsDigit_36 layX1 fl_X1_46 0 rfl rfl (by decide) rfl ?_
      refine x_callSNd (As := [.ref (G.2.2 4), .int (nI pp)]) (rest := [.int ((pn * 10) + d)]) C dX1_acceptsDigit_39 (c_X5_entry4 (gX.l X) G pp (by omega)) C.2.2.2.2.2.2.1.2.2.2.2.2.2.1 st_X5_entry in_X5 cd_X5_entry hd_X5_entry rfl rfl (Nat.le_of_ble_eq_true rfl) ⟨Nat.le_of_ble_eq_true rfl, Nat.le_of_ble_eq_true rfl⟩ [] (wX1 G p pz pp pn ph pr pe) rfl (ws' := (wX1 G p pz pp pn ph pr pe)) rfl (st' := [.int (sT 4 pp), .int ((pn * 10) + d)]) rfl ⟨rfl, rfl⟩ ⟨Nat.le_of_ble_eq_true rfl, Nat.le_of_ble_eq_true rfl⟩ ?_
      refine x_icmp_le (x := ((pn * 10) + d)) (y := (sT 4 pp)) (tgt := 47) C dX1_acceptsDigit_42 (by decide) (fun c3 => ?_) (fun c3 => ?_)
      · refine x_aload_n C 1 rfl dX1_acceptsDigit_47 rfl ?_
        refine x_iload_n C 0 rfl dX1_acceptsDigit_48 rfl ?_
        refine x_put (k := 3) (ws' := (wX1 G p pz pp ((pn * 10) + d) ph pr pe)) C dX1_acceptsDigit_49 layX1 tyX1 tyX1_ok nmX1 fl_X1_49 0 rfl rfl (by decide) rfl rfl rfl rfl (Nat.le_of_ble_eq_true rfl) rfl ?_
        refine x_iconst (v := (nI 1)) C dX1_acceptsDigit_52 (by decide) ?_
        exact x_zret C hr (by exact p_nar (p_digit_01 _ _)) E dX1_acceptsDigit_53 (fun _ => 0) (by simp (config := {decide := true}) only [p_digit, p_val, c1, c2, c3,  if_true, if_false, ite_true, ite_false, and_true, true_and, and_false, false_and, or_true, true_or, or_false, false_or, not_true_eq_false, not_false_eq_true, and_self, or_self] <;> rfl) (by simp (config := {decide := true}) only [p_digit, p_val, c1, c2, c3,  if_true, if_false, ite_true, ite_false, and_true, true_and, and_false, false_and, or_true, true_or, or_false, false_or, not_true_eq_false, not_false_eq_true, and_self, or_self])
      · refine x_iconst (v := (nI 0)) C dX1_acceptsDigit_45 (by decide) ?_
        exact x_zret C hr (by exact p_nar (p_digit_01 _ _)) E dX1_acceptsDigit_46 (fun _ => 0) (by simp (config := {decide := true}) only [p_digit, p_val, c1, c2, c3,  if_true, if_false, ite_true, ite_false, and_true, true_and, and_false, false_and, or_true, true_or, or_false, false_or, not_true_eq_false, not_false_eq_true, and_self, or_self] <;> rfl) (by simp (config := {decide := true}) only [p_digit, p_val, c1, c2, c3,  if_true, if_false, ite_true, ite_false, and_true, true_and, and_false, false_and, or_true, true_or, or_false, false_or, not_true_eq_false, not_false_eq_true, and_self, or_self])
    · refine x_iload_n C 1 rfl dX1_acceptsDigit_17 rfl ?_
      refine x_goto (tgt := 30) C dX1_acceptsDigit_18 (by decide) ?_
      refine x_istore_n (lv' := [(2, .int d), (0, .ref (p 0)), (1, .int d)]) C dX1_acceptsDigit_30 rfl (by decide) rfl ?_
      refine x_iload_n C 0 rfl dX1_acceptsDigit_31 rfl ?_
      refine x_gets4 C dX1_acceptsDigit_32 fl_X1_81 ?_
      refine x_aload_n C 1 rfl dX1_acceptsDigit_35 rfl ?_
      refine x_get (k := 2) (v := .int (nI pp)) C dX1_acceptsDigit_36 layX1 fl_X1_46 0 rfl rfl (by decide) rfl ?_
      refine x_callSNd (As := [.ref (G.2.2 4), .int (nI pp)]) (rest := [.int d]) C dX1_acceptsDigit_39 (c_X5_entry4 (gX.l X) G pp (by omega)) C.2.2.2.2.2.2.1.2.2.2.2.2.2.1 st_X5_entry in_X5 cd_X5_entry hd_X5_entry rfl rfl (Nat.le_of_ble_eq_true rfl) ⟨Nat.le_of_ble_eq_true rfl, Nat.le_of_ble_eq_true rfl⟩ [] (wX1 G p pz pp pn ph pr pe) rfl (ws' := (wX1 G p pz pp pn ph pr pe)) rfl (st' := [.int (sT 4 pp), .int d]) rfl ⟨rfl, rfl⟩ ⟨Nat.le_of_ble_eq_true rfl, Nat.le_of_ble_eq_true rfl⟩ ?_
      refine x_icmp_le (x := d) (y := (sT 4 pp)) (tgt := 47) C dX1_acceptsDigit_42 (by decide) (fun c4 => ?_) (fun c4 => ?_)
      · refine x_aload_n C 1 rfl dX1_acceptsDigit_47 rfl ?_
        refine x_iload_n C 0 rfl dX1_acceptsDigit_48 rfl ?_
        refine x_put (k := 3) (ws' := (wX1 G p pz pp d ph pr pe)) C dX1_acceptsDigit_49 layX1 tyX1 tyX1_ok nmX1 fl_X1_49 0 rfl rfl (by decide) rfl rfl rfl rfl (Nat.le_of_ble_eq_true rfl) rfl ?_
        refine x_iconst (v := (nI 1)) C dX1_acceptsDigit_52 (by decide) ?_
        exact x_zret C hr (by exact p_nar (p_digit_01 _ _)) E dX1_acceptsDigit_53 (fun _ => 0) (by simp (config := {decide := true}) only [p_digit, p_val, c1, c2, c4,  if_true, if_false, ite_true, ite_false, and_true, true_and, and_false, false_and, or_true, true_or, or_false, false_or, not_true_eq_false, not_false_eq_true, and_self, or_self] <;> rfl) (by simp (config := {decide := true}) only [p_digit, p_val, c1, c2, c4,  if_true, if_false, ite_true, ite_false, and_true, true_and, and_false, false_and, or_true, true_or, or_false, false_or, not_true_eq_false, not_false_eq_true, and_self, or_self])
      · refine x_iconst (v := (nI 0)) C dX1_acceptsDigit_45 (by decide) ?_
        exact x_zret C hr (by exact p_nar (p_digit_01 _ _)) E dX1_acceptsDigit_46 (fun _ => 0) (by simp (config := {decide := true}) only [p_digit, p_val, c1, c2, c4,  if_true, if_false, ite_true, ite_false, and_true, true_and, and_false, false_and, or_true, true_or, or_false, false_or, not_true_eq_false, not_false_eq_true, and_self, or_self] <;> rfl) (by simp (config := {decide := true}) only [p_digit, p_val, c1, c2, c4,  if_true, if_false, ite_true, ite_false, and_true, true_and, and_false, false_and, or_true, true_or, or_false, false_or, not_true_eq_false, not_false_eq_true, and_self, or_self])
  · refine x_iconst (v := (nI 0)) C dX1_acceptsDigit_7 (by decide) ?_
    exact x_zret C hr (by exact p_nar (p_digit_01 _ _)) E dX1_acceptsDigit_8 (fun _ => 0) (by simp (config := {decide := true}) only [p_digit, p_val, c1,  if_true, if_false, ite_true, ite_false, and_true, true_and, and_false, false_and, or_true, true_or, or_false, false_or, not_true_eq_false, not_false_eq_true, and_self, or_self] <;> rfl) (by simp (config := {decide := true}) only [p_digit, p_val, c1,  if_true, if_false, ite_true, ite_false, and_true, true_and, and_false, false_and, or_true, true_or, or_false, false_or, not_true_eq_false, not_false_eq_true, and_self, or_self])
def rm_X1_acceptsStart : Room := { frames := 1, cells := 0, slots := 0, locals := 21 }
set_option maxRecDepth 100000 in
set_option maxHeartbeats 600000 in
theorem c_X1_acceptsStart (l : Launch) (G : gG) (p : Nat → Nat) (pz pp : Nat) (pn ph pr : Int32) (pe : Nat → Int32)  (hpp : pp < 4) : CT l yX1_acceptsStart cX1_acceptsStart 1 (some .boolean) rm_X1_acceptsStart G [.ref (p 0)] (wX1 G p pz pp pn ph pr pe) (some (.int ((p_start (pz, pp, pn, ph, pr, pe)).1))) (fun _ => (wX1 G p ((p_start (pz, pp, pn, ph, pr, pe)).2.1) ((p_start (pz, pp, pn, ph, pr, pe)).2.2.1) ((p_start (pz, pp, pn, ph, pr, pe)).2.2.2.1) ((p_start (pz, pp, pn, ph, pr, pe)).2.2.2.2.1) ((p_start (pz, pp, pn, ph, pr, pe)).2.2.2.2.2.1) ((p_start (pz, pp, pn, ph, pr, pe)).2.2.2.2.2.2))) := by
  refine gMet (by decide) (Nat.le_of_ble_eq_true rfl) (fun X hX C hr hin E => ?_)
  clear hX
  refine (show gW G X (wX1 G p pz pp pn ph pr pe) 0 0 0 [(0, .ref (p 0))] [] from ?_)
  refine x_aload_n C 0 rfl dX1_acceptsStart_0 rfl ?_
  refine x_get (k := 2) (v := .int (nI pp)) C dX1_acceptsStart_1 layX1 fl_X1_46 0 rfl rfl (by decide) rfl ?_
  refine x_if_eqN (a := pp) (tgt := 9) C dX1_acceptsStart_4 (by decide) (by omega) (fun c1 => ?_) (fun c1 => ?_)
  · refine x_aload_n C 0 rfl dX1_acceptsStart_9 rfl ?_
    refine x_iconst (v := (nI 1)) C dX1_acceptsStart_10 (by decide) ?_
    refine x_callVd (As := [.int (nI 1)]) (rest := []) C dX1_acceptsStart_11 (c_X1_moveTo (gX.l X) G p pz pp pn ph pr pe 1 ) ml_X1_28 im_X1_moveTo sl_X1_moveTo in_X1 cd_X1_moveTo hd_X1_moveTo 0 rfl rfl rfl rfl (Nat.le_of_ble_eq_true rfl) ⟨Nat.le_of_ble_eq_true rfl, Nat.le_of_ble_eq_true rfl⟩ (List.take 0 (wX1 G p pz pp pn ph pr pe)) (List.drop 3 (wX1 G p pz pp pn ph pr pe)) rfl (ws' := (wX1 G p pz 1 (-1) ph pr pe)) rfl (st' := []) rfl ⟨rfl, rfl⟩ ⟨Nat.le_of_ble_eq_true rfl, Nat.le_of_ble_eq_true rfl⟩ ?_
    refine x_iconst (v := (nI 1)) C dX1_acceptsStart_14 (by decide) ?_
    exact x_zret C hr (by exact p_nar (p_start_01 _)) E dX1_acceptsStart_15 (fun _ => 0) (by simp (config := {decide := true}) only [p_start, c1,  if_true, if_false, ite_true, ite_false, and_true, true_and, and_false, false_and, or_true, true_or, or_false, false_or, not_true_eq_false, not_false_eq_true, and_self, or_self] <;> rfl) (by simp (config := {decide := true}) only [p_start, c1,  if_true, if_false, ite_true, ite_false, and_true, true_and, and_false, false_and, or_true, true_or, or_false, false_or, not_true_eq_false, not_false_eq_true, and_self, or_self])
  · refine x_iconst (v := (nI 0)) C dX1_acceptsStart_7 (by decide) ?_
    exact x_zret C hr (by exact p_nar (p_start_01 _)) E dX1_acceptsStart_8 (fun _ => 0) (by simp (config := {decide := true}) only [p_start, c1,  if_true, if_false, ite_true, ite_false, and_true, true_and, and_false, false_and, or_true, true_or, or_false, false_or, not_true_eq_false, not_false_eq_true, and_self, or_self] <;> rfl) (by simp (config := {decide := true}) only [p_start, c1,  if_true, if_false, ite_true, ite_false, and_true, true_and, and_false, false_and, or_true, true_or, or_false, false_or, not_true_eq_false, not_false_eq_true, and_self, or_self])
def rm_X1_acceptsSignBehindNumber : Room := { frames := 2, cells := 0, slots := 0, locals := 44 }
set_option maxRecDepth 100000 in
set_option maxHeartbeats 600000 in
theorem c_X1_acceptsSignBehindNumber (l : Launch) (G : gG) (p : Nat → Nat) (pz pp : Nat) (pn ph pr : Int32) (pe : Nat → Int32) (c : Int32)  (hpp : pp < 4) (hpz : pz < 60) : CT l yX1_acceptsSignBehindNumber cX1_acceptsSignBehindNumber 2 (some .boolean) rm_X1_acceptsSignBehindNumber G [.ref (p 0), .int c] (wX1 G p pz pp pn ph pr pe) (some (.int ((p_sign (pz, pp, pn, ph, pr, pe) c).1))) (fun _ => (wX1 G p ((p_sign (pz, pp, pn, ph, pr, pe) c).2.1) ((p_sign (pz, pp, pn, ph, pr, pe) c).2.2.1) ((p_sign (pz, pp, pn, ph, pr, pe) c).2.2.2.1) ((p_sign (pz, pp, pn, ph, pr, pe) c).2.2.2.2.1) ((p_sign (pz, pp, pn, ph, pr, pe) c).2.2.2.2.2.1) ((p_sign (pz, pp, pn, ph, pr, pe) c).2.2.2.2.2.2))) := by
  refine gMet (by decide) (Nat.le_of_ble_eq_true rfl) (fun X hX C hr hin E => ?_)
  clear hX
  refine (show gW G X (wX1 G p pz pp pn ph pr pe) 0 0 0 [(0, .ref (p 0)), (1, .int c)] [] from ?_)
  refine x_aload_n C 0 rfl dX1_acceptsSignBehindNumber_0 rfl ?_
  refine x_get (k := 2) (v := .int (nI pp)) C dX1_acceptsSignBehindNumber_1 layX1 fl_X1_46 0 rfl rfl (by decide) rfl ?_
  refine x_iconst (v := (nI 1)) C dX1_acceptsSignBehindNumber_4 (by decide) ?_
  refine x_icmp_neN (a := pp) (b := 1) (tgt := 29) C dX1_acceptsSignBehindNumber_5 (by decide) (by omega) (by omega) (fun c1 => ?_) (fun c1 => ?_)
  · refine x_aload_n C 0 rfl dX1_acceptsSignBehindNumber_29 rfl ?_
    refine x_get (k := 2) (v := .int (nI pp)) C dX1_acceptsSignBehindNumber_30 layX1 fl_X1_46 0 rfl rfl (by decide) rfl ?_
    refine x_iconst (v := (nI 2)) C dX1_acceptsSignBehindNumber_33 (by decide) ?_
    refine x_icmp_neN (a := pp) (b := 2) (tgt := 58) C dX1_acceptsSignBehindNumber_34 (by decide) (by omega) (by omega) (fun c2 => ?_) (fun c2 => ?_)
    · refine x_aload_n C 0 rfl dX1_acceptsSignBehindNumber_58 rfl ?_
      refine x_get (k := 2) (v := .int (nI pp)) C dX1_acceptsSignBehindNumber_59 layX1 fl_X1_46 0 rfl rfl (by decide) rfl ?_
      refine x_iconst (v := (nI 3)) C dX1_acceptsSignBehindNumber_62 (by decide) ?_
      refine x_icmp_neN (a := pp) (b := 3) (tgt := 99) C dX1_acceptsSignBehindNumber_63 (by decide) (by omega) (by omega) (fun c3 => ?_) (fun c3 => ?_)
      · refine x_iconst (v := (nI 0)) C dX1_acceptsSignBehindNumber_99 (by decide) ?_
        exact x_zret C hr (by exact p_nar (p_sign_01 _ _)) E dX1_acceptsSignBehindNumber_100 (fun _ => 0) (by simp (config := {decide := true}) only [p_sign, p_sg2, p_sg3, p_rid, p_addE, c1, c2, c3,  if_true, if_false, ite_true, ite_false, and_true, true_and, and_false, false_and, or_true, true_or, or_false, false_or, not_true_eq_false, not_false_eq_true, and_self, or_self] <;> rfl) (by simp (config := {decide := true}) only [p_sign, p_sg2, p_sg3, p_rid, p_addE, c1, c2, c3,  if_true, if_false, ite_true, ite_false, and_true, true_and, and_false, false_and, or_true, true_or, or_false, false_or, not_true_eq_false, not_false_eq_true, and_self, or_self])
      · refine x_iload_n C 1 rfl dX1_acceptsSignBehindNumber_66 rfl ?_
        refine x_bipush (v := (nI 44)) C dX1_acceptsSignBehindNumber_67 (by decide) ?_
        refine x_icmp_eq (x := c) (y := 44) (tgt := 78) C dX1_acceptsSignBehindNumber_69 (by decide) (fun c4 => ?_) (fun c4 => ?_)
        · refine x_aload_n C 0 rfl dX1_acceptsSignBehindNumber_78 rfl ?_
          refine x_callVd (As := []) (rest := []) C dX1_acceptsSignBehindNumber_79 (c_X1_addEntry (gX.l X) G p pz pp pn ph pr pe (by omega)) ml_X1_52 im_X1_addEntry sl_X1_addEntry in_X1 cd_X1_addEntry hd_X1_addEntry 0 rfl rfl rfl rfl (Nat.le_of_ble_eq_true rfl) ⟨Nat.le_of_ble_eq_true rfl, Nat.le_of_ble_eq_true rfl⟩ (List.take 0 (wX1 G p pz pp pn ph pr pe)) (List.drop 3 (wX1 G p pz pp pn ph pr pe)) rfl (ws' := (wX1 G p (pz + 1) pp pn ph pr (upd (upd (upd pe pz ph) (60 + pz) pr) (120 + pz) pn))) rfl (st' := []) rfl ⟨rfl, rfl⟩ ⟨Nat.le_of_ble_eq_true rfl, Nat.le_of_ble_eq_true rfl⟩ ?_
          refine x_aload_n C 0 rfl dX1_acceptsSignBehindNumber_82 rfl ?_
          refine x_iload_n C 1 rfl dX1_acceptsSignBehindNumber_83 rfl ?_
          refine x_bipush (v := (nI 44)) C dX1_acceptsSignBehindNumber_84 (by decide) ?_
          refine x_icmp_ne (x := c) (y := 44) (tgt := 93) C dX1_acceptsSignBehindNumber_86 (by decide) (fun c5 => False.elim (c5 c4)) (fun c5 => ?_)
          refine x_iconst (v := (nI 3)) C dX1_acceptsSignBehindNumber_89 (by decide) ?_
          refine x_goto (tgt := 94) C dX1_acceptsSignBehindNumber_90 (by decide) ?_
          refine x_callVd (As := [.int (nI 3)]) (rest := []) C dX1_acceptsSignBehindNumber_94 (c_X1_moveTo (gX.l X) G p (pz + 1) pp pn ph pr (upd (upd (upd pe pz ph) (60 + pz) pr) (120 + pz) pn) 3 ) ml_X1_28 im_X1_moveTo sl_X1_moveTo in_X1 cd_X1_moveTo hd_X1_moveTo 0 rfl rfl rfl rfl (Nat.le_of_ble_eq_true rfl) ⟨Nat.le_of_ble_eq_true rfl, Nat.le_of_ble_eq_true rfl⟩ (List.take 0 (wX1 G p (pz + 1) pp pn ph pr (upd (upd (upd pe pz ph) (60 + pz) pr) (120 + pz) pn))) (List.drop 3 (wX1 G p (pz + 1) pp pn ph pr (upd (upd (upd pe pz ph) (60 + pz) pr) (120 + pz) pn))) rfl (ws' := (wX1 G p (pz + 1) 3 (-1) ph pr (upd (upd (upd pe pz ph) (60 + pz) pr) (120 + pz) pn))) rfl (st' := []) rfl ⟨rfl, rfl⟩ ⟨Nat.le_of_ble_eq_true rfl, Nat.le_of_ble_eq_true rfl⟩ ?_
          refine x_iconst (v := (nI 1)) C dX1_acceptsSignBehindNumber_97 (by decide) ?_
          exact x_zret C hr (by exact p_nar (p_sign_01 _ _)) E dX1_acceptsSignBehindNumber_98 (fun _ => 0) (by simp (config := {decide := true}) only [p_sign, p_sg2, p_sg3, p_rid, p_addE, c1, c2, c3, c4,  if_true, if_false, ite_true, ite_false, and_true, true_and, and_false, false_and, or_true, true_or, or_false, false_or, not_true_eq_false, not_false_eq_true, and_self, or_self] <;> rfl) (by simp (config := {decide := true}) only [p_sign, p_sg2, p_sg3, p_rid, p_addE, c1, c2, c3, c4,  if_true, if_false, ite_true, ite_false, and_true, true_and, and_false, false_and, or_true, true_or, or_false, false_or, not_true_eq_false, not_false_eq_true, and_self, or_self])
        · refine x_iload_n C 1 rfl dX1_acceptsSignBehindNumber_72 rfl ?_
          refine x_bipush (v := (nI 59)) C dX1_acceptsSignBehindNumber_73 (by decide) ?_
          refine x_icmp_ne (x := c) (y := 59) (tgt := 99) C dX1_acceptsSignBehindNumber_75 (by decide) (fun c6 => ?_) (fun c6 => ?_)
          · refine x_iconst (v := (nI 0)) C dX1_acceptsSignBehindNumber_99 (by decide) ?_
            exact x_zret C hr (by exact p_nar (p_sign_01 _ _)) E dX1_acceptsSignBehindNumber_100 (fun _ => 0) (by simp (config := {decide := true}) only [p_sign, p_sg2, p_sg3, p_rid, p_addE, c1, c2, c3, c4, c6,  if_true, if_false, ite_true, ite_false, and_true, true_and, and_false, false_and, or_true, true_or, or_false, false_or, not_true_eq_false, not_false_eq_true, and_self, or_self] <;> rfl) (by simp (config := {decide := true}) only [p_sign, p_sg2, p_sg3, p_rid, p_addE, c1, c2, c3, c4, c6,  if_true, if_false, ite_true, ite_false, and_true, true_and, and_false, false_and, or_true, true_or, or_false, false_or, not_true_eq_false, not_false_eq_true, and_self, or_self])
          · refine x_aload_n C 0 rfl dX1_acceptsSignBehindNumber_78 rfl ?_
            refine x_callVd (As := []) (rest := []) C dX1_acceptsSignBehindNumber_79 (c_X1_addEntry (gX.l X) G p pz pp pn ph pr pe (by omega)) ml_X1_52 im_X1_addEntry sl_X1_addEntry in_X1 cd_X1_addEntry hd_X1_addEntry 0 rfl rfl rfl rfl (Nat.le_of_ble_eq_true rfl) ⟨Nat.le_of_ble_eq_true rfl, Nat.le_of_ble_eq_true rfl⟩ (List.take 0 (wX1 G p pz pp pn ph pr pe)) (List.drop 3 (wX1 G p pz pp pn ph pr pe)) rfl (ws' := (wX1 G p (pz + 1) pp pn ph pr (upd (upd (upd pe pz ph) (60 + pz) pr) (120 + pz) pn))) rfl (st' := []) rfl ⟨rfl, rfl⟩ ⟨Nat.le_of_ble_eq_true rfl, Nat.le_of_ble_eq_true rfl⟩ ?_
            refine x_aload_n C 0 rfl dX1_acceptsSignBehindNumber_82 rfl ?_
            refine x_iload_n C 1 rfl dX1_acceptsSignBehindNumber_83 rfl ?_
            refine x_bipush (v := (nI 44)) C dX1_acceptsSignBehindNumber_84 (by decide) ?_
            refine x_icmp_ne (x := c) (y := 44) (tgt := 93) C dX1_acceptsSignBehindNumber_86 (by decide) (fun c7 => ?_) (fun c7 => False.elim (c4 c7))
            refine x_iconst (v := (nI 0)) C dX1_acceptsSignBehindNumber_93 (by decide) ?_
            refine x_callVd (As := [.int (nI 0)]) (rest := []) C dX1_acceptsSignBehindNumber_94 (c_X1_moveTo (gX.l X) G p (pz + 1) pp pn ph pr (upd (upd (upd pe pz ph) (60 + pz) pr) (120 + pz) pn) 0 ) ml_X1_28 im_X1_moveTo sl_X1_moveTo in_X1 cd_X1_moveTo hd_X1_moveTo 0 rfl rfl rfl rfl (Nat.le_of_ble_eq_true rfl) ⟨Nat.le_of_ble_eq_true rfl, Nat.le_of_ble_eq_true rfl⟩ (List.take 0 (wX1 G p (pz + 1) pp pn ph pr (upd (upd (upd pe pz ph) (60 + pz) pr) (120 + pz) pn))) (List.drop 3 (wX1 G p (pz + 1) pp pn ph pr (upd (upd (upd pe pz ph) (60 + pz) pr) (120 + pz) pn))) rfl (ws' := (wX1 G p (pz + 1) 0 (-1) ph pr (upd (upd (upd pe pz ph) (60 + pz) pr) (120 + pz) pn))) rfl (st' := []) rfl ⟨rfl, rfl⟩ ⟨Nat.le_of_ble_eq_true rfl, Nat.le_of_ble_eq_true rfl⟩ ?_
            refine x_iconst (v := (nI 1)) C dX1_acceptsSignBehindNumber_97 (by decide) ?_
            exact x_zret C hr (by exact p_nar (p_sign_01 _ _)) E dX1_acceptsSignBehindNumber_98 (fun _ => 0) (by simp (config := {decide := true}) only [p_sign, p_sg2, p_sg3, p_rid, p_addE, c1, c2, c3, c4, c6,  if_true, if_false, ite_true, ite_false, and_true, true_and, and_false, false_and, or_true, true_or, or_false, false_or, not_true_eq_false, not_false_eq_true, and_self, or_self] <;> rfl) (by simp (config := {decide := true}) only [p_sign, p_sg2, p_sg3, p_rid, p_addE, c1, c2, c3, c4, c6,  if_true, if_false, ite_true, ite_false, and_true, true_and, and_false, false_and, or_true, true_or, or_false, false_or, not_true_eq_false, not_false_eq_true, and_self, or_self])
    · refine x_iload_n C 1 rfl dX1_acceptsSignBehindNumber_37 rfl ?_
      refine x_bipush (v := (nI 58)) C dX1_acceptsSignBehindNumber_38 (by decide) ?_
      refine x_icmp_ne (x := c) (y := 58) (tgt := 58) C dX1_acceptsSignBehindNumber_40 (by decide) (fun c8 => ?_) (fun c8 => ?_)
      · refine x_aload_n C 0 rfl dX1_acceptsSignBehindNumber_58 rfl ?_
        refine x_get (k := 2) (v := .int (nI pp)) C dX1_acceptsSignBehindNumber_59 layX1 fl_X1_46 0 rfl rfl (by decide) rfl ?_
        refine x_iconst (v := (nI 3)) C dX1_acceptsSignBehindNumber_62 (by decide) ?_
        refine x_icmp_neN (a := pp) (b := 3) (tgt := 99) C dX1_acceptsSignBehindNumber_63 (by decide) (by omega) (by omega) (fun c9 => ?_) (fun c9 => False.elim (by omega))
        refine x_iconst (v := (nI 0)) C dX1_acceptsSignBehindNumber_99 (by decide) ?_
        exact x_zret C hr (by exact p_nar (p_sign_01 _ _)) E dX1_acceptsSignBehindNumber_100 (fun _ => 0) (by simp (config := {decide := true}) only [p_sign, p_sg2, p_sg3, p_rid, p_addE, c1, c2, c8, c9,  if_true, if_false, ite_true, ite_false, and_true, true_and, and_false, false_and, or_true, true_or, or_false, false_or, not_true_eq_false, not_false_eq_true, and_self, or_self] <;> rfl) (by simp (config := {decide := true}) only [p_sign, p_sg2, p_sg3, p_rid, p_addE, c1, c2, c8, c9,  if_true, if_false, ite_true, ite_false, and_true, true_and, and_false, false_and, or_true, true_or, or_false, false_or, not_true_eq_false, not_false_eq_true, and_self, or_self])
      · refine x_aload_n C 0 rfl dX1_acceptsSignBehindNumber_43 rfl ?_
        refine x_aload_n C 0 rfl dX1_acceptsSignBehindNumber_44 rfl ?_
        refine x_get (k := 3) (v := .int pn) C dX1_acceptsSignBehindNumber_45 layX1 fl_X1_49 0 rfl rfl (by decide) rfl ?_
        refine x_put (k := 5) (ws' := (wX1 G p pz pp pn ph pn pe)) C dX1_acceptsSignBehindNumber_48 layX1 tyX1 tyX1_ok nmX1 fl_X1_62 0 rfl rfl (by decide) rfl rfl rfl rfl (Nat.le_of_ble_eq_true rfl) rfl ?_
        refine x_aload_n C 0 rfl dX1_acceptsSignBehindNumber_51 rfl ?_
        refine x_iconst (v := (nI 3)) C dX1_acceptsSignBehindNumber_52 (by decide) ?_
        refine x_callVd (As := [.int (nI 3)]) (rest := []) C dX1_acceptsSignBehindNumber_53 (c_X1_moveTo (gX.l X) G p pz pp pn ph pn pe 3 ) ml_X1_28 im_X1_moveTo sl_X1_moveTo in_X1 cd_X1_moveTo hd_X1_moveTo 0 rfl rfl rfl rfl (Nat.le_of_ble_eq_true rfl) ⟨Nat.le_of_ble_eq_true rfl, Nat.le_of_ble_eq_true rfl⟩ (List.take 0 (wX1 G p pz pp pn ph pn pe)) (List.drop 3 (wX1 G p pz pp pn ph pn pe)) rfl (ws' := (wX1 G p pz 3 (-1) ph pn pe)) rfl (st' := []) rfl ⟨rfl, rfl⟩ ⟨Nat.le_of_ble_eq_true rfl, Nat.le_of_ble_eq_true rfl⟩ ?_
        refine x_iconst (v := (nI 1)) C dX1_acceptsSignBehindNumber_56 (by decide) ?_
        exact x_zret C hr (by exact p_nar (p_sign_01 _ _)) E dX1_acceptsSignBehindNumber_57 (fun _ => 0) (by simp (config := {decide := true}) only [p_sign, p_sg2, p_sg3, p_rid, p_addE, c1, c2, c8,  if_true, if_false, ite_true, ite_false, and_true, true_and, and_false, false_and, or_true, true_or, or_false, false_or, not_true_eq_false, not_false_eq_true, and_self, or_self] <;> rfl) (by simp (config := {decide := true}) only [p_sign, p_sg2, p_sg3, p_rid, p_addE, c1, c2, c8,  if_true, if_false, ite_true, ite_false, and_true, true_and, and_false, false_and, or_true, true_or, or_false, false_or, not_true_eq_false, not_false_eq_true, and_self, or_self])
  · refine x_iload_n C 1 rfl dX1_acceptsSignBehindNumber_8 rfl ?_
    refine x_bipush (v := (nI 47)) C dX1_acceptsSignBehindNumber_9 (by decide) ?_
    refine x_icmp_ne (x := c) (y := 47) (tgt := 29) C dX1_acceptsSignBehindNumber_11 (by decide) (fun c10 => ?_) (fun c10 => ?_)
    · refine x_aload_n C 0 rfl dX1_acceptsSignBehindNumber_29 rfl ?_
      refine x_get (k := 2) (v := .int (nI pp)) C dX1_acceptsSignBehindNumber_30 layX1 fl_X1_46 0 rfl rfl (by decide) rfl ?_
      refine x_iconst (v := (nI 2)) C dX1_acceptsSignBehindNumber_33 (by decide) ?_
      refine x_icmp_neN (a := pp) (b := 2) (tgt := 58) C dX1_acceptsSignBehindNumber_34 (by decide) (by omega) (by omega) (fun c11 => ?_) (fun c11 => False.elim (by omega))
      refine x_aload_n C 0 rfl dX1_acceptsSignBehindNumber_58 rfl ?_
      refine x_get (k := 2) (v := .int (nI pp)) C dX1_acceptsSignBehindNumber_59 layX1 fl_X1_46 0 rfl rfl (by decide) rfl ?_
      refine x_iconst (v := (nI 3)) C dX1_acceptsSignBehindNumber_62 (by decide) ?_
      refine x_icmp_neN (a := pp) (b := 3) (tgt := 99) C dX1_acceptsSignBehindNumber_63 (by decide) (by omega) (by omega) (fun c12 => ?_) (fun c12 => False.elim (by omega))
      refine x_iconst (v := (nI 0)) C dX1_acceptsSignBehindNumber_99 (by decide) ?_
      exact x_zret C hr (by exact p_nar (p_sign_01 _ _)) E dX1_acceptsSignBehindNumber_100 (fun _ => 0) (by simp (config := {decide := true}) only [p_sign, p_sg2, p_sg3, p_rid, p_addE, c1, c10, c11, c12,  if_true, if_false, ite_true, ite_false, and_true, true_and, and_false, false_and, or_true, true_or, or_false, false_or, not_true_eq_false, not_false_eq_true, and_self, or_self] <;> rfl) (by simp (config := {decide := true}) only [p_sign, p_sg2, p_sg3, p_rid, p_addE, c1, c10, c11, c12,  if_true, if_false, ite_true, ite_false, and_true, true_and, and_false, false_and, or_true, true_or, or_false, false_or, not_true_eq_false, not_false_eq_true, and_self, or_self])
    · refine x_aload_n C 0 rfl dX1_acceptsSignBehindNumber_14 rfl ?_
      refine x_aload_n C 0 rfl dX1_acceptsSignBehindNumber_15 rfl ?_
      refine x_get (k := 3) (v := .int pn) C dX1_acceptsSignBehindNumber_16 layX1 fl_X1_49 0 rfl rfl (by decide) rfl ?_
      refine x_put (k := 4) (ws' := (wX1 G p pz pp pn pn pr pe)) C dX1_acceptsSignBehindNumber_19 layX1 tyX1 tyX1_ok nmX1 fl_X1_55 0 rfl rfl (by decide) rfl rfl rfl rfl (Nat.le_of_ble_eq_true rfl) rfl ?_
      refine x_aload_n C 0 rfl dX1_acceptsSignBehindNumber_22 rfl ?_
      refine x_iconst (v := (nI 2)) C dX1_acceptsSignBehindNumber_23 (by decide) ?_
      refine x_callVd (As := [.int (nI 2)]) (rest := []) C dX1_acceptsSignBehindNumber_24 (c_X1_moveTo (gX.l X) G p pz pp pn pn pr pe 2 ) ml_X1_28 im_X1_moveTo sl_X1_moveTo in_X1 cd_X1_moveTo hd_X1_moveTo 0 rfl rfl rfl rfl (Nat.le_of_ble_eq_true rfl) ⟨Nat.le_of_ble_eq_true rfl, Nat.le_of_ble_eq_true rfl⟩ (List.take 0 (wX1 G p pz pp pn pn pr pe)) (List.drop 3 (wX1 G p pz pp pn pn pr pe)) rfl (ws' := (wX1 G p pz 2 (-1) pn pr pe)) rfl (st' := []) rfl ⟨rfl, rfl⟩ ⟨Nat.le_of_ble_eq_true rfl, Nat.le_of_ble_eq_true rfl⟩ ?_
      refine x_iconst (v := (nI 1)) C dX1_acceptsSignBehindNumber_27 (by decide) ?_
      exact x_zret C hr (by exact p_nar (p_sign_01 _ _)) E dX1_acceptsSignBehindNumber_28 (fun _ => 0) (by simp (config := {decide := true}) only [p_sign, p_sg2, p_sg3, p_rid, p_addE, c1, c10,  if_true, if_false, ite_true, ite_false, and_true, true_and, and_false, false_and, or_true, true_or, or_false, false_or, not_true_eq_false, not_false_eq_true, and_self, or_self] <;> rfl) (by simp (config := {decide := true}) only [p_sign, p_sg2, p_sg3, p_rid, p_addE, c1, c10,  if_true, if_false, ite_true, ite_false, and_true, true_and, and_false, false_and, or_true, true_or, or_false, false_or, not_true_eq_false, not_false_eq_true, and_self, or_self])
def rm_X1_accepts : Room := { frames := 3, cells := 0, slots := 0, locals := 65 }
set_option maxRecDepth 100000 in
set_option maxHeartbeats 600000 in
theorem c_X1_accepts (l : Launch) (G : gG) (p : Nat → Nat) (pz pp : Nat) (pn ph pr : Int32) (pe : Nat → Int32) (c : Int32)  (hpp : pp < 4) (hpz : pz < 60) : CT l yX1_accepts cX1_accepts 2 (some .boolean) rm_X1_accepts G [.ref (p 0), .int c] (wX1 G p pz pp pn ph pr pe) (some (.int ((p_acc (pz, pp, pn, ph, pr, pe) c).1))) (fun _ => (wX1 G p ((p_acc (pz, pp, pn, ph, pr, pe) c).2.1) ((p_acc (pz, pp, pn, ph, pr, pe) c).2.2.1) ((p_acc (pz, pp, pn, ph, pr, pe) c).2.2.2.1) ((p_acc (pz, pp, pn, ph, pr, pe) c).2.2.2.2.1) ((p_acc (pz, pp, pn, ph, pr, pe) c).2.2.2.2.2.1) ((p_acc (pz, pp, pn, ph, pr, pe) c).2.2.2.2.2.2))) := by
  refine gMet (by decide) (Nat.le_of_ble_eq_true rfl) (fun X hX C hr hin E => ?_)
  clear hX
  refine (show gW G X (wX1 G p pz pp pn ph pr pe) 0 0 0 [(0, .ref (p 0)), (1, .int c)] [] from ?_)
  refine x_iload_n C 1 rfl dX1_accepts_0 rfl ?_
  refine x_bipush (v := (nI 48)) C dX1_accepts_1 (by decide) ?_
  refine x_icmp_lt (x := c) (y := 48) (tgt := 21) C dX1_accepts_3 (by decide) (fun c1 => ?_) (fun c1 => ?_)
  · refine x_iload_n C 1 rfl dX1_accepts_21 rfl ?_
    refine x_bipush (v := (nI 43)) C dX1_accepts_22 (by decide) ?_
    refine x_icmp_ne (x := c) (y := 43) (tgt := 32) C dX1_accepts_24 (by decide) (fun c2 => ?_) (fun c2 => ?_)
    · refine x_aload_n C 0 rfl dX1_accepts_32 rfl ?_
      refine x_get (k := 3) (v := .int pn) C dX1_accepts_33 layX1 fl_X1_49 0 rfl rfl (by decide) rfl ?_
      refine x_iconst (v := (-1)) C dX1_accepts_36 (by decide) ?_
      refine x_icmp_eq (x := pn) (y := (-1)) (tgt := 52) C dX1_accepts_37 (by decide) (fun c3 => ?_) (fun c3 => ?_)
      · refine x_iconst (v := (nI 0)) C dX1_accepts_52 (by decide) ?_
        exact x_zret C hr (by exact p_nar (p_acc_01 _ _)) E dX1_accepts_53 (fun _ => 0) (by simp (config := {decide := true}) only [p_acc, p_acc2, c1, c2, c3,  if_true, if_false, ite_true, ite_false, and_true, true_and, and_false, false_and, or_true, true_or, or_false, false_or, not_true_eq_false, not_false_eq_true, and_self, or_self] <;> rfl) (by simp (config := {decide := true}) only [p_acc, p_acc2, c1, c2, c3,  if_true, if_false, ite_true, ite_false, and_true, true_and, and_false, false_and, or_true, true_or, or_false, false_or, not_true_eq_false, not_false_eq_true, and_self, or_self])
      · refine x_aload_n C 0 rfl dX1_accepts_40 rfl ?_
        refine x_iload_n C 1 rfl dX1_accepts_41 rfl ?_
        refine x_callVd (As := [.int c]) (rest := []) C dX1_accepts_42 (c_X1_acceptsSignBehindNumber (gX.l X) G p pz pp pn ph pr pe c (by omega) (by omega)) ml_X1_78 im_X1_acceptsSignBehindNumber sl_X1_acceptsSignBehindNumber in_X1 cd_X1_acceptsSignBehindNumber hd_X1_acceptsSignBehindNumber 0 rfl rfl rfl rfl (Nat.le_of_ble_eq_true rfl) ⟨Nat.le_of_ble_eq_true rfl, Nat.le_of_ble_eq_true rfl⟩ (List.take 0 (wX1 G p pz pp pn ph pr pe)) (List.drop 3 (wX1 G p pz pp pn ph pr pe)) rfl (ws' := (wX1 G p ((p_sign (pz, pp, pn, ph, pr, pe) c).2.1) ((p_sign (pz, pp, pn, ph, pr, pe) c).2.2.1) ((p_sign (pz, pp, pn, ph, pr, pe) c).2.2.2.1) ((p_sign (pz, pp, pn, ph, pr, pe) c).2.2.2.2.1) ((p_sign (pz, pp, pn, ph, pr, pe) c).2.2.2.2.2.1) ((p_sign (pz, pp, pn, ph, pr, pe) c).2.2.2.2.2.2))) rfl (st' := [.int ((p_sign (pz, pp, pn, ph, pr, pe) c).1)]) rfl ⟨rfl, rfl⟩ ⟨Nat.le_of_ble_eq_true rfl, Nat.le_of_ble_eq_true rfl⟩ ?_
        refine x_if_eq (x := ((p_sign (pz, pp, pn, ph, pr, pe) c).1)) (tgt := 52) C dX1_accepts_45 (by decide) (fun c4 => ?_) (fun c4 => ?_)
        · refine x_iconst (v := (nI 0)) C dX1_accepts_52 (by decide) ?_
          exact x_zret C hr (by exact p_nar (p_acc_01 _ _)) E dX1_accepts_53 (fun _ => 0) (by simp (config := {decide := true}) only [p_acc, p_acc2, c1, c2, c3, c4,  if_true, if_false, ite_true, ite_false, and_true, true_and, and_false, false_and, or_true, true_or, or_false, false_or, not_true_eq_false, not_false_eq_true, and_self, or_self] <;> rfl) (by simp (config := {decide := true}) only [p_acc, p_acc2, c1, c2, c3, c4,  if_true, if_false, ite_true, ite_false, and_true, true_and, and_false, false_and, or_true, true_or, or_false, false_or, not_true_eq_false, not_false_eq_true, and_self, or_self])
        · refine x_iconst (v := (nI 1)) C dX1_accepts_48 (by decide) ?_
          refine x_goto (tgt := 53) C dX1_accepts_49 (by decide) ?_
          exact x_zret C hr (by exact p_nar (p_acc_01 _ _)) E dX1_accepts_53 (fun _ => 0) (by simp (config := {decide := true}) only [p_acc, p_acc2, c1, c2, c3, c4,  if_true, if_false, ite_true, ite_false, and_true, true_and, and_false, false_and, or_true, true_or, or_false, false_or, not_true_eq_false, not_false_eq_true, and_self, or_self] <;> rfl) (by simp (config := {decide := true}) only [p_acc, p_acc2, c1, c2, c3, c4,  if_true, if_false, ite_true, ite_false, and_true, true_and, and_false, false_and, or_true, true_or, or_false, false_or, not_true_eq_false, not_false_eq_true, and_self, or_self])
    · refine x_aload_n C 0 rfl dX1_accepts_27 rfl ?_
      refine x_callVd (As := []) (rest := []) C dX1_accepts_28 (c_X1_acceptsStart (gX.l X) G p pz pp pn ph pr pe (by omega)) ml_X1_74 im_X1_acceptsStart sl_X1_acceptsStart in_X1 cd_X1_acceptsStart hd_X1_acceptsStart 0 rfl rfl rfl rfl (Nat.le_of_ble_eq_true rfl) ⟨Nat.le_of_ble_eq_true rfl, Nat.le_of_ble_eq_true rfl⟩ (List.take 0 (wX1 G p pz pp pn ph pr pe)) (List.drop 3 (wX1 G p pz pp pn ph pr pe)) rfl (ws' := (wX1 G p ((p_start (pz, pp, pn, ph, pr, pe)).2.1) ((p_start (pz, pp, pn, ph, pr, pe)).2.2.1) ((p_start (pz, pp, pn, ph, pr, pe)).2.2.2.1) ((p_start (pz, pp, pn, ph, pr, pe)).2.2.2.2.1) ((p_start (pz, pp, pn, ph, pr, pe)).2.2.2.2.2.1) ((p_start (pz, pp, pn, ph, pr, pe)).2.2.2.2.2.2))) rfl (st' := [.int ((p_start (pz, pp, pn, ph, pr, pe)).1)]) rfl ⟨rfl, rfl⟩ ⟨Nat.le_of_ble_eq_true rfl, Nat.le_of_ble_eq_true rfl⟩ ?_
      exact x_zret C hr (by exact p_nar (p_acc_01 _ _)) E dX1_accepts_31 (fun _ => 0) (by simp (config := {decide := true}) only [p_acc, p_acc2, c1, c2,  if_true, if_false, ite_true, ite_false, and_true, true_and, and_false, false_and, or_true, true_or, or_false, false_or, not_true_eq_false, not_false_eq_true, and_self, or_self] <;> rfl) (by simp (config := {decide := true}) only [p_acc, p_acc2, c1, c2,  if_true, if_false, ite_true, ite_false, and_true, true_and, and_false, false_and, or_true, true_or, or_false, false_or, not_true_eq_false, not_false_eq_true, and_self, or_self])
  · refine x_iload_n C 1 rfl dX1_accepts_6 rfl ?_
    refine x_bipush (v := (nI 57)) C dX1_accepts_7 (by decide) ?_
    refine x_icmp_gt (x := c) (y := 57) (tgt := 21) C dX1_accepts_9 (by decide) (fun c5 => ?_) (fun c5 => ?_)
    · refine x_iload_n C 1 rfl dX1_accepts_21 rfl ?_
      refine x_bipush (v := (nI 43)) C dX1_accepts_22 (by decide) ?_
      refine x_icmp_ne (x := c) (y := 43) (tgt := 32) C dX1_accepts_24 (by decide) (fun c6 => ?_) (fun c6 => ?_)
      · refine x_aload_n C 0 rfl dX1_accepts_32 rfl ?_
        refine x_get (k := 3) (v := .int pn) C dX1_accepts_33 layX1 fl_X1_49 0 rfl rfl (by decide) rfl ?_
        refine x_iconst (v := (-1)) C dX1_accepts_36 (by decide) ?_
        refine x_icmp_eq (x := pn) (y := (-1)) (tgt := 52) C dX1_accepts_37 (by decide) (fun c7 => ?_) (fun c7 => ?_)
        · refine x_iconst (v := (nI 0)) C dX1_accepts_52 (by decide) ?_
          exact x_zret C hr (by exact p_nar (p_acc_01 _ _)) E dX1_accepts_53 (fun _ => 0) (by simp (config := {decide := true}) only [p_acc, p_acc2, c1, c5, c6, c7,  if_true, if_false, ite_true, ite_false, and_true, true_and, and_false, false_and, or_true, true_or, or_false, false_or, not_true_eq_false, not_false_eq_true, and_self, or_self] <;> rfl) (by simp (config := {decide := true}) only [p_acc, p_acc2, c1, c5, c6, c7,  if_true, if_false, ite_true, ite_false, and_true, true_and, and_false, false_and, or_true, true_or, or_false, false_or, not_true_eq_false, not_false_eq_true, and_self, or_self])
        · refine x_aload_n C 0 rfl dX1_accepts_40 rfl ?_
          refine x_iload_n C 1 rfl dX1_accepts_41 rfl ?_
          refine x_callVd (As := [.int c]) (rest := []) C dX1_accepts_42 (c_X1_acceptsSignBehindNumber (gX.l X) G p pz pp pn ph pr pe c (by omega) (by omega)) ml_X1_78 im_X1_acceptsSignBehindNumber sl_X1_acceptsSignBehindNumber in_X1 cd_X1_acceptsSignBehindNumber hd_X1_acceptsSignBehindNumber 0 rfl rfl rfl rfl (Nat.le_of_ble_eq_true rfl) ⟨Nat.le_of_ble_eq_true rfl, Nat.le_of_ble_eq_true rfl⟩ (List.take 0 (wX1 G p pz pp pn ph pr pe)) (List.drop 3 (wX1 G p pz pp pn ph pr pe)) rfl (ws' := (wX1 G p ((p_sign (pz, pp, pn, ph, pr, pe) c).2.1) ((p_sign (pz, pp, pn, ph, pr, pe) c).2.2.1) ((p_sign (pz, pp, pn, ph, pr, pe) c).2.2.2.1) ((p_sign (pz, pp, pn, ph, pr, pe) c).2.2.2.2.1) ((p_sign (pz, pp, pn, ph, pr, pe) c).2.2.2.2.2.1) ((p_sign (pz, pp, pn, ph, pr, pe) c).2.2.2.2.2.2))) rfl (st' := [.int ((p_sign (pz, pp, pn, ph, pr, pe) c).1)]) rfl ⟨rfl, rfl⟩ ⟨Nat.le_of_ble_eq_true rfl, Nat.le_of_ble_eq_true rfl⟩ ?_
          refine x_if_eq (x := ((p_sign (pz, pp, pn, ph, pr, pe) c).1)) (tgt := 52) C dX1_accepts_45 (by decide) (fun c8 => ?_) (fun c8 => ?_)
          · refine x_iconst (v := (nI 0)) C dX1_accepts_52 (by decide) ?_
            exact x_zret C hr (by exact p_nar (p_acc_01 _ _)) E dX1_accepts_53 (fun _ => 0) (by simp (config := {decide := true}) only [p_acc, p_acc2, c1, c5, c6, c7, c8,  if_true, if_false, ite_true, ite_false, and_true, true_and, and_false, false_and, or_true, true_or, or_false, false_or, not_true_eq_false, not_false_eq_true, and_self, or_self] <;> rfl) (by simp (config := {decide := true}) only [p_acc, p_acc2, c1, c5, c6, c7, c8,  if_true, if_false, ite_true, ite_false, and_true, true_and, and_false, false_and, or_true, true_or, or_false, false_or, not_true_eq_false, not_false_eq_true, and_self, or_self])
          · refine x_iconst (v := (nI 1)) C dX1_accepts_48 (by decide) ?_
            refine x_goto (tgt := 53) C dX1_accepts_49 (by decide) ?_
            exact x_zret C hr (by exact p_nar (p_acc_01 _ _)) E dX1_accepts_53 (fun _ => 0) (by simp (config := {decide := true}) only [p_acc, p_acc2, c1, c5, c6, c7, c8,  if_true, if_false, ite_true, ite_false, and_true, true_and, and_false, false_and, or_true, true_or, or_false, false_or, not_true_eq_false, not_false_eq_true, and_self, or_self] <;> rfl) (by simp (config := {decide := true}) only [p_acc, p_acc2, c1, c5, c6, c7, c8,  if_true, if_false, ite_true, ite_false, and_true, true_and, and_false, false_and, or_true, true_or, or_false, false_or, not_true_eq_false, not_false_eq_true, and_self, or_self])
      · refine x_aload_n C 0 rfl dX1_accepts_27 rfl ?_
        refine x_callVd (As := []) (rest := []) C dX1_accepts_28 (c_X1_acceptsStart (gX.l X) G p pz pp pn ph pr pe (by omega)) ml_X1_74 im_X1_acceptsStart sl_X1_acceptsStart in_X1 cd_X1_acceptsStart hd_X1_acceptsStart 0 rfl rfl rfl rfl (Nat.le_of_ble_eq_true rfl) ⟨Nat.le_of_ble_eq_true rfl, Nat.le_of_ble_eq_true rfl⟩ (List.take 0 (wX1 G p pz pp pn ph pr pe)) (List.drop 3 (wX1 G p pz pp pn ph pr pe)) rfl (ws' := (wX1 G p ((p_start (pz, pp, pn, ph, pr, pe)).2.1) ((p_start (pz, pp, pn, ph, pr, pe)).2.2.1) ((p_start (pz, pp, pn, ph, pr, pe)).2.2.2.1) ((p_start (pz, pp, pn, ph, pr, pe)).2.2.2.2.1) ((p_start (pz, pp, pn, ph, pr, pe)).2.2.2.2.2.1) ((p_start (pz, pp, pn, ph, pr, pe)).2.2.2.2.2.2))) rfl (st' := [.int ((p_start (pz, pp, pn, ph, pr, pe)).1)]) rfl ⟨rfl, rfl⟩ ⟨Nat.le_of_ble_eq_true rfl, Nat.le_of_ble_eq_true rfl⟩ ?_
        exact x_zret C hr (by exact p_nar (p_acc_01 _ _)) E dX1_accepts_31 (fun _ => 0) (by simp (config := {decide := true}) only [p_acc, p_acc2, c1, c5, c6,  if_true, if_false, ite_true, ite_false, and_true, true_and, and_false, false_and, or_true, true_or, or_false, false_or, not_true_eq_false, not_false_eq_true, and_self, or_self] <;> rfl) (by simp (config := {decide := true}) only [p_acc, p_acc2, c1, c5, c6,  if_true, if_false, ite_true, ite_false, and_true, true_and, and_false, false_and, or_true, true_or, or_false, false_or, not_true_eq_false, not_false_eq_true, and_self, or_self])
    · refine x_aload_n C 0 rfl dX1_accepts_12 rfl ?_
      refine x_iload_n C 1 rfl dX1_accepts_13 rfl ?_
      refine x_bipush (v := (nI 48)) C dX1_accepts_14 (by decide) ?_
      refine x_isub (x := c) (y := 48) C dX1_accepts_16 ?_
      refine x_callVd (As := [.int (c - 48)]) (rest := []) C dX1_accepts_17 (c_X1_acceptsDigit (gX.l X) G p pz pp pn ph pr pe (c - 48) (by omega)) ml_X1_70 im_X1_acceptsDigit sl_X1_acceptsDigit in_X1 cd_X1_acceptsDigit hd_X1_acceptsDigit 0 rfl rfl rfl rfl (Nat.le_of_ble_eq_true rfl) ⟨Nat.le_of_ble_eq_true rfl, Nat.le_of_ble_eq_true rfl⟩ (List.take 0 (wX1 G p pz pp pn ph pr pe)) (List.drop 3 (wX1 G p pz pp pn ph pr pe)) rfl (ws' := (wX1 G p ((p_digit (pz, pp, pn, ph, pr, pe) (c - 48)).2.1) ((p_digit (pz, pp, pn, ph, pr, pe) (c - 48)).2.2.1) ((p_digit (pz, pp, pn, ph, pr, pe) (c - 48)).2.2.2.1) ((p_digit (pz, pp, pn, ph, pr, pe) (c - 48)).2.2.2.2.1) ((p_digit (pz, pp, pn, ph, pr, pe) (c - 48)).2.2.2.2.2.1) ((p_digit (pz, pp, pn, ph, pr, pe) (c - 48)).2.2.2.2.2.2))) rfl (st' := [.int ((p_digit (pz, pp, pn, ph, pr, pe) (c - 48)).1)]) rfl ⟨rfl, rfl⟩ ⟨Nat.le_of_ble_eq_true rfl, Nat.le_of_ble_eq_true rfl⟩ ?_
      exact x_zret C hr (by exact p_nar (p_acc_01 _ _)) E dX1_accepts_20 (fun _ => 0) (by simp (config := {decide := true}) only [p_acc, p_acc2, c1, c5,  if_true, if_false, ite_true, ite_false, and_true, true_and, and_false, false_and, or_true, true_or, or_false, false_or, not_true_eq_false, not_false_eq_true, and_self, or_self] <;> rfl) (by simp (config := {decide := true}) only [p_acc, p_acc2, c1, c5,  if_true, if_false, ite_true, ite_false, and_true, true_and, and_false, false_and, or_true, true_or, or_false, false_or, not_true_eq_false, not_false_eq_true, and_self, or_self])
