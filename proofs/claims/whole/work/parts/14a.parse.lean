abbrev m_nx (iw : Int32) (sp ln : Nat) (tx : Nat → Int32) (lo hi : Int32) : Prop := (iw = 0) ∧ ((sp < ln) ∧ (¬ (tx sp < lo) ∧ ¬ (hi < tx sp)))
theorem m_nx_lt {iw : Int32} {sp ln : Nat} {tx : Nat → Int32} {lo hi : Int32} (h : m_nx iw sp ln tx lo hi) : sp < ln := h.2.1
/-- place, wrong or not -/
def m_need (ln : Nat) (tx : Nat → Int32) (p : Nat × Int32) (c : Int32) : Nat × Int32 := if m_nx p.2 p.1 ln tx c c then (p.1 + 1, 0) else (p.1, 1)
def m_numR (ln : Nat) (tx : Nat → Int32) (most : Int32) : Nat → Int32 → Nat → Int32 × Nat
  | 0, v, sp => (v, sp)
  | f + 1, v, sp => if 0 < v then (if m_nx 0 sp ln tx 48 57 then (if most < 10 * v + tx sp - 48 then (v, sp) else m_numR ln tx most f (10 * v + tx sp - 48) (sp + 1)) else (v, sp)) else (v, sp)
/-- the number, the place, wrong or not -/
def m_num (ln : Nat) (tx : Nat → Int32) (p : Nat × Int32) (most : Int32) : Int32 × Nat × Int32 := if p.2 = 0 then (if m_nx p.2 p.1 ln tx 48 57 then (if most < tx p.1 - 48 then (tx p.1 - 48, p.1, 1) else ((m_numR ln tx most 61 (tx p.1 - 48) (p.1 + 1)).1, (m_numR ln tx most 61 (tx p.1 - 48) (p.1 + 1)).2, 0)) else (0, p.1, 1)) else (0, p.1, 1)
theorem m_need_le {ln : Nat} {tx : Nat → Int32} {p : Nat × Int32} {c : Int32} (h : p.1 ≤ ln) : (m_need ln tx p c).1 ≤ ln ∧ p.1 ≤ (m_need ln tx p c).1 := by
  unfold m_need
  split
  · rename_i q
    have := q.2.1
    exact ⟨by show p.1 + 1 ≤ ln; omega, by show p.1 ≤ p.1 + 1; omega⟩
  · exact ⟨h, Nat.le_refl _⟩
theorem m_numR_le {ln : Nat} {tx : Nat → Int32} {most : Int32} : ∀ (f : Nat) (v : Int32) (sp : Nat), sp ≤ ln → (m_numR ln tx most f v sp).2 ≤ ln ∧ sp ≤ (m_numR ln tx most f v sp).2
  | 0, _, sp, h => ⟨h, Nat.le_refl _⟩
  | f + 1, v, sp, h => by
    simp only [m_numR]
    split
    · split
      · rename_i q
        have q1 := q.2.1
        split
        · exact ⟨h, Nat.le_refl _⟩
        · have := m_numR_le (ln := ln) (tx := tx) (most := most) f (10 * v + tx sp - 48) (sp + 1) (by omega)
          exact ⟨this.1, by omega⟩
      · exact ⟨h, Nat.le_refl _⟩
    · exact ⟨h, Nat.le_refl _⟩
theorem m_num_le {ln : Nat} {tx : Nat → Int32} {p : Nat × Int32} {most : Int32} (h : p.1 ≤ ln) : (m_num ln tx p most).2.1 ≤ ln ∧ p.1 ≤ (m_num ln tx p most).2.1 := by
  unfold m_num
  split
  · split
    · rename_i q
      have q1 := q.2.1
      split
      · exact ⟨h, Nat.le_refl _⟩
      · have := m_numR_le (ln := ln) (tx := tx) (most := most) 61 (tx p.1 - 48) (p.1 + 1) (by omega)
        exact ⟨this.1, by show p.1 ≤ (m_numR ln tx most 61 (tx p.1 - 48) (p.1 + 1)).2; omega⟩
    · exact ⟨h, Nat.le_refl _⟩
  · exact ⟨h, Nat.le_refl _⟩
/-- place, wrong or not, riders, error, row -/
abbrev m_Z : Type := Nat × Int32 × Nat × Int32 × (Nat → Int32)
def m_rd0 (ln : Nat) (tx : Nat → Int32) (z : m_Z) : m_Z := ((m_num ln tx (z.1, z.2.1) 11).2.1, (m_num ln tx (z.1, z.2.1) 11).2.2, z.2.2.1 + 1, z.2.2.2.1, z.2.2.2.2)
def m_rdB (ln : Nat) (tx : Nat → Int32) (h g : Int32) (z : m_Z) : Int32 × (Nat → Int32) := mX_books z.2.2.2.2 h g (m_num ln tx (z.1, z.2.1) 11).1
def m_rd1z (ln : Nat) (tx : Nat → Int32) (h g : Int32) (z : m_Z) : m_Z := if z.2.2.2.1 = 0 then ((m_num ln tx (z.1, z.2.1) 11).2.1, (m_num ln tx (z.1, z.2.1) 11).2.2, z.2.2.1 + 1, (if (m_rdB ln tx h g z).1 < 0 then (m_rdB ln tx h g z).1 else 0), (m_rdB ln tx h g z).2) else m_rd0 ln tx z
def m_rdz (d : Nat) (ln : Nat) (tx : Nat → Int32) (h g : Int32) (z : m_Z) : m_Z := if d = 0 then m_rd0 ln tx z else m_rd1z ln tx h g z
theorem m_rdz_le {d ln : Nat} {tx : Nat → Int32} {h g : Int32} {z : m_Z} (hz : z.1 ≤ ln) : (m_rdz d ln tx h g z).1 ≤ ln ∧ z.1 ≤ (m_rdz d ln tx h g z).1 := by
  have := m_num_le (ln := ln) (tx := tx) (p := (z.1, z.2.1)) (most := 11) hz
  unfold m_rdz m_rd1z m_rd0
  repeat' split
  all_goals exact this
theorem mX_books_B {s : Nat → Int32} {h g r : Int32} (hB : okB (s 192)) : okB ((mX_books s h g r).2 192) := by
  unfold mX_books
  repeat' split
  all_goals first | exact hB | skip
  unfold m_inc
  dsimp only
  have h1 := hB.1
  rw [pk_us, pk_un (by omega), pk_un (by omega), pk_un (by omega), hB.2, show (1 : Int32) = nI 1 from rfl, nI_add]
  exact okB_nI (by omega)
theorem m_rdz_B {d ln : Nat} {tx : Nat → Int32} {h g : Int32} {z : m_Z} (hB : okB (z.2.2.2.2 192)) : okB ((m_rdz d ln tx h g z).2.2.2.2 192) := by
  unfold m_rdz m_rd1z m_rd0 m_rdB
  repeat' split
  all_goals first | exact hB | exact mX_books_B hB
def m_rbR (d ln : Nat) (tx : Nat → Int32) (h g : Int32) : Nat → m_Z → m_Z
  | 0, z => z
  | f + 1, z => if m_nx z.2.1 z.1 ln tx 44 44 then m_rbR d ln tx h g f (m_rdz d ln tx h g (z.1 + 1, z.2)) else z
def m_rb1 (ln : Nat) (tx : Nat → Int32) (p : Nat × Int32) : Nat × Int32 := m_need ln tx p 43
def m_rbH (ln : Nat) (tx : Nat → Int32) (p : Nat × Int32) : Int32 × Nat × Int32 := m_num ln tx (m_need ln tx p 43) 99
def m_rb3 (ln : Nat) (tx : Nat → Int32) (p : Nat × Int32) : Nat × Int32 := m_need ln tx (m_rbH ln tx p).2 47
def m_rbG (ln : Nat) (tx : Nat → Int32) (p : Nat × Int32) : Int32 × Nat × Int32 := m_num ln tx (m_rb3 ln tx p) 2
def m_rb5 (ln : Nat) (tx : Nat → Int32) (p : Nat × Int32) : Nat × Int32 := m_need ln tx (m_rbG ln tx p).2 58
def m_rb (d ln : Nat) (tx : Nat → Int32) (z : m_Z) : m_Z := m_rbR d ln tx (m_rbH ln tx (z.1, z.2.1)).1 (m_rbG ln tx (z.1, z.2.1)).1 61 (m_rdz d ln tx (m_rbH ln tx (z.1, z.2.1)).1 (m_rbG ln tx (z.1, z.2.1)).1 ((m_rb5 ln tx (z.1, z.2.1)).1, (m_rb5 ln tx (z.1, z.2.1)).2, z.2.2.1, z.2.2.2.1, z.2.2.2.2))
theorem m_rbR_le {d ln : Nat} {tx : Nat → Int32} {h g : Int32} : ∀ (f : Nat) (z : m_Z), z.1 ≤ ln → okB (z.2.2.2.2 192) → (m_rbR d ln tx h g f z).1 ≤ ln ∧ z.1 ≤ (m_rbR d ln tx h g f z).1 ∧ okB ((m_rbR d ln tx h g f z).2.2.2.2 192)
  | 0, z, h1, h2 => ⟨h1, Nat.le_refl _, h2⟩
  | f + 1, z, h1, h2 => by
    simp only [m_rbR]
    split
    · rename_i q
      have q1 := q.2.1
      have a1 := m_rdz_le (d := d) (tx := tx) (h := h) (g := g) (z := (z.1 + 1, z.2)) (show z.1 + 1 ≤ ln by omega)
      have a2 : okB ((m_rdz d ln tx h g (z.1 + 1, z.2)).2.2.2.2 192) := m_rdz_B h2
      obtain ⟨b1, b2, b3⟩ := m_rbR_le (d := d) (tx := tx) (h := h) (g := g) f _ a1.1 a2
      have a3 : z.1 + 1 ≤ (m_rdz d ln tx h g (z.1 + 1, z.2)).1 := a1.2
      exact ⟨b1, by omega, b3⟩
    · exact ⟨h1, Nat.le_refl _, h2⟩
theorem m_rb_le {d ln : Nat} {tx : Nat → Int32} {z : m_Z} (h1 : z.1 ≤ ln) (h2 : okB (z.2.2.2.2 192)) : (m_rb d ln tx z).1 ≤ ln ∧ z.1 ≤ (m_rb d ln tx z).1 ∧ okB ((m_rb d ln tx z).2.2.2.2 192) := by
  have a1 := m_need_le (tx := tx) (p := (z.1, z.2.1)) (c := 43) h1
  have a2 := m_num_le (tx := tx) (most := 99) a1.1
  have a3 := m_need_le (tx := tx) (p := (m_rbH ln tx (z.1, z.2.1)).2) (c := 47) a2.1
  have a4 := m_num_le (tx := tx) (most := 2) a3.1
  have a5 := m_need_le (tx := tx) (p := (m_rbG ln tx (z.1, z.2.1)).2) (c := 58) a4.1
  have a6 := m_rdz_le (d := d) (tx := tx) (h := (m_rbH ln tx (z.1, z.2.1)).1) (g := (m_rbG ln tx (z.1, z.2.1)).1) (z := ((m_rb5 ln tx (z.1, z.2.1)).1, (m_rb5 ln tx (z.1, z.2.1)).2, z.2.2.1, z.2.2.2.1, z.2.2.2.2)) a5.1
  have b := m_rbR_le (d := d) (tx := tx) (h := (m_rbH ln tx (z.1, z.2.1)).1) (g := (m_rbG ln tx (z.1, z.2.1)).1) 61 _ a6.1 (m_rdz_B (d := d) (ln := ln) (tx := tx) (h := (m_rbH ln tx (z.1, z.2.1)).1) (g := (m_rbG ln tx (z.1, z.2.1)).1) (z := ((m_rb5 ln tx (z.1, z.2.1)).1, (m_rb5 ln tx (z.1, z.2.1)).2, z.2.2.1, z.2.2.2.1, z.2.2.2.2)) h2)
  have e1 : z.1 ≤ (m_need ln tx (z.1, z.2.1) 43).1 := a1.2
  have e2 : (m_need ln tx (z.1, z.2.1) 43).1 ≤ (m_rbH ln tx (z.1, z.2.1)).2.1 := a2.2
  have e3 : (m_rbH ln tx (z.1, z.2.1)).2.1 ≤ (m_rb3 ln tx (z.1, z.2.1)).1 := a3.2
  have e4 : (m_rb3 ln tx (z.1, z.2.1)).1 ≤ (m_rbG ln tx (z.1, z.2.1)).2.1 := a4.2
  have e5 : (m_rbG ln tx (z.1, z.2.1)).2.1 ≤ (m_rb5 ln tx (z.1, z.2.1)).1 := a5.2
  have e6 := a6.2
  exact ⟨b.1, Nat.le_trans (Nat.le_trans e1 (Nat.le_trans e2 (Nat.le_trans e3 (Nat.le_trans e4 e5)))) (Nat.le_trans e6 b.2.1), b.2.2⟩
theorem m_etaZ {α : Type} (f : m_Z → α) (z : m_Z) : f (z.1, z.2.1, z.2.2.1, z.2.2.2.1, z.2.2.2.2) = f z := rfl
theorem g_step {z fu w : Nat} (h : 61 ≤ z + (fu + 1)) (h2 : z + 1 ≤ w) : 61 ≤ w + fu := by omega
def rm_X6_isNext : Room := { frames := 1, cells := 0, slots := 0, locals := 22 }
set_option maxRecDepth 100000 in
set_option maxHeartbeats 600000 in
theorem c_X6_isNext (l : Launch) (G : gG) (a : Nat → Nat) (s as_ hi : Nat → Int32) (kn : Nat) (sn : Nat → Int32) (ik : Int32) (tx : Nat → Int32) (ln : Nat) (it wl : Nat → Int32) (sp : Nat) (iw : Int32) (rs : Nat) (er : Int32) (lo hi9 : Int32)  (hln : ln ≤ 60) (hsp : sp ≤ ln) : CT l yX6_isNext cX6_isNext 3 (some .boolean) rm_X6_isNext G [.ref (a 0), .int lo, .int hi9] (wM G a s as_ hi kn sn ik tx ln it wl sp iw rs er) (some (.int (bI (m_nx iw sp ln tx lo hi9)))) (fun _ => (wM G a s as_ hi kn sn ik tx ln it wl sp iw rs er)) := by
  refine gMet (by decide) (Nat.le_of_ble_eq_true rfl) (fun X hX C hr hin E => ?_)
  clear hX
  refine (show gW G X (wM G a s as_ hi kn sn ik tx ln it wl sp iw rs er) 0 0 0 [(0, .ref (a 0)), (1, .int lo), (2, .int hi9)] [] from ?_)
  refine x_aload_n C 0 rfl dX6_isNext_0 rfl ?_
  refine x_get (k := 11) (v := .int iw) C dX6_isNext_1 layX6 fl_X6_139 0 rfl rfl (by decide) rfl ?_
  have J4 : ∀ (y5 : Int32) , y5 = bI ((iw = 0) ∧ ((sp < ln) ∧ (¬ ((tx sp) < lo) ∧ ¬ (hi9 < (tx sp))))) → gW G X (wM G a s as_ hi kn sn ik tx ln it wl sp iw rs er) 0 0 40 [(0, .ref (a 0)), (1, .int lo), (2, .int hi9)] [.int y5] := by
    intro y5 ey5
    subst ey5
    exact x_zret C hr bI_nar E dX6_isNext_40 (fun _ => 0) (bI_iff Iff.rfl) rfl
  refine x_if_ne (x := iw) (tgt := 39) C dX6_isNext_4 (by decide) (fun c1 => ?_) (fun c1 => ?_)
  · refine x_iconst (v := (nI 0)) C dX6_isNext_39 (by decide) ?_
    exact J4 (nI 0) (bI_f (by simp only [c1, if_true, if_false, ite_true, ite_false, and_true, true_and, and_false, false_and, or_true, true_or, or_false, false_or, not_true_eq_false, not_false_eq_true, and_self, or_self] <;> decide)).symm
  · refine x_aload_n C 0 rfl dX6_isNext_7 rfl ?_
    refine x_get (k := 10) (v := .int (nI sp)) C dX6_isNext_8 layX6 fl_X6_143 0 rfl rfl (by decide) rfl ?_
    refine x_aload_n C 0 rfl dX6_isNext_11 rfl ?_
    refine x_get (k := 7) (v := .int (nI ln)) C dX6_isNext_12 layX6 fl_X6_136 0 rfl rfl (by decide) rfl ?_
    refine x_icmp_geN (a := sp) (b := ln) (tgt := 39) C dX6_isNext_15 (by decide) (by omega) (by omega) (fun c2 => ?_) (fun c2 => ?_)
    · refine x_iconst (v := (nI 0)) C dX6_isNext_39 (by decide) ?_
      exact J4 (nI 0) (bI_f (by simp only [c1, c2, if_true, if_false, ite_true, ite_false, and_true, true_and, and_false, false_and, or_true, true_or, or_false, false_or, not_true_eq_false, not_false_eq_true, and_self, or_self] <;> decide)).symm
    · refine x_aload_n C 0 rfl dX6_isNext_18 rfl ?_
      refine x_get (k := 6) (v := .ref (a 5)) C dX6_isNext_19 layX6 fl_X6_22 0 rfl rfl (by decide) rfl ?_
      refine x_aload_n C 0 rfl dX6_isNext_22 rfl ?_
      refine x_get (k := 10) (v := .int (nI sp)) C dX6_isNext_23 layX6 fl_X6_143 0 rfl rfl (by decide) rfl ?_
      refine x_iald (j := sp) C dX6_isNext_26 5 rfl rfl (by omega) (by omega) ?_
      refine x_iload_n C 1 rfl dX6_isNext_27 rfl ?_
      refine x_iload_n C 2 rfl dX6_isNext_28 rfl ?_
      refine x_callSd (As := [.int (tx sp), .int lo, .int hi9]) (rest := []) C dX6_isNext_29 (c_X6_in (gX.l X) G (tx sp) lo hi9 ) ml_X6_38 st_X6_in in_X6 cd_X6_in hd_X6_in rfl rfl (Nat.le_of_ble_eq_true rfl) ⟨Nat.le_of_ble_eq_true rfl, Nat.le_of_ble_eq_true rfl⟩ [] (wM G a s as_ hi kn sn ik tx ln it wl sp iw rs er) rfl (ws' := (wM G a s as_ hi kn sn ik tx ln it wl sp iw rs er)) rfl (st' := [.int (bI (¬ ((tx sp) < lo) ∧ ¬ (hi9 < (tx sp))))]) rfl ⟨rfl, rfl⟩ ⟨Nat.le_of_ble_eq_true rfl, Nat.le_of_ble_eq_true rfl⟩ ?_
      refine x_if_eqB (P := ¬ ((tx sp) < lo) ∧ ¬ (hi9 < (tx sp))) (tgt := 39) C dX6_isNext_32 (by decide) (fun c3 => ?_) (fun c3 => ?_)
      · refine x_iconst (v := (nI 0)) C dX6_isNext_39 (by decide) ?_
        exact J4 (nI 0) (bI_f (by simp only [c1, c2, c3, if_true, if_false, ite_true, ite_false, and_true, true_and, and_false, false_and, or_true, true_or, or_false, false_or, not_true_eq_false, not_false_eq_true, and_self, or_self] <;> decide)).symm
      · refine x_iconst (v := (nI 1)) C dX6_isNext_35 (by decide) ?_
        refine x_goto (tgt := 40) C dX6_isNext_36 (by decide) ?_
        exact J4 (nI 1) (bI_t (by simp only [c1, c2, c3, if_true, if_false, ite_true, ite_false, and_true, true_and, and_false, false_and, or_true, true_or, or_false, false_or, not_true_eq_false, not_false_eq_true, and_self, or_self] <;> decide)).symm
def rm_X6_needs : Room := { frames := 2, cells := 0, slots := 0, locals := 44 }
set_option maxRecDepth 100000 in
set_option maxHeartbeats 600000 in
theorem c_X6_needs (l : Launch) (G : gG) (a : Nat → Nat) (s as_ hi : Nat → Int32) (kn : Nat) (sn : Nat → Int32) (ik : Int32) (tx : Nat → Int32) (ln : Nat) (it wl : Nat → Int32) (sp : Nat) (iw : Int32) (rs : Nat) (er : Int32) (c : Int32)  (hln : ln ≤ 60) (hsp : sp ≤ ln) : CT l yX6_needs cX6_needs 3 none rm_X6_needs G [.ref (a 0), .int c] (wM G a s as_ hi kn sn ik tx ln it wl sp iw rs er) none (fun _ => (wM G a s as_ hi kn sn ik tx ln it wl ((m_need ln tx (sp, iw) c).1) ((m_need ln tx (sp, iw) c).2) rs er)) := by
  refine gMet (by decide) (Nat.le_of_ble_eq_true rfl) (fun X hX C hr hin E => ?_)
  clear hX
  refine (show gW G X (wM G a s as_ hi kn sn ik tx ln it wl sp iw rs er) 0 0 0 [(0, .ref (a 0)), (1, .int c)] [] from ?_)
  refine x_aload_n C 0 rfl dX6_needs_0 rfl ?_
  refine x_iload_n C 1 rfl dX6_needs_1 rfl ?_
  refine x_iload_n C 1 rfl dX6_needs_2 rfl ?_
  refine x_callVd (As := [.int c, .int c]) (rest := []) C dX6_needs_3 (c_X6_isNext (gX.l X) G a s as_ hi kn sn ik tx ln it wl sp iw rs er c c (by omega) (by omega)) ml_X6_146 im_X6_isNext sl_X6_isNext in_X6 cd_X6_isNext hd_X6_isNext 0 rfl rfl rfl rfl (Nat.le_of_ble_eq_true rfl) ⟨Nat.le_of_ble_eq_true rfl, Nat.le_of_ble_eq_true rfl⟩ (List.take 0 (wM G a s as_ hi kn sn ik tx ln it wl sp iw rs er)) (List.drop 8 (wM G a s as_ hi kn sn ik tx ln it wl sp iw rs er)) rfl (ws' := (wM G a s as_ hi kn sn ik tx ln it wl sp iw rs er)) rfl (st' := [.int (bI (m_nx iw sp ln tx c c))]) rfl ⟨rfl, rfl⟩ ⟨Nat.le_of_ble_eq_true rfl, Nat.le_of_ble_eq_true rfl⟩ ?_
  refine x_istore_n (lv' := [(2, .int (bI (m_nx iw sp ln tx c c))), (0, .ref (a 0)), (1, .int c)]) C dX6_needs_6 rfl (by decide) rfl ?_
  refine x_aload_n C 1 rfl dX6_needs_7 rfl ?_
  refine x_dup C rfl dX6_needs_8 ?_
  refine x_get (k := 10) (v := .int (nI sp)) C dX6_needs_9 layX6 fl_X6_143 0 rfl rfl (by decide) rfl ?_
  refine x_iload_n C 0 rfl dX6_needs_12 rfl ?_
  refine x_if_eqB (P := m_nx iw sp ln tx c c) (tgt := 20) C dX6_needs_13 (by decide) (fun c1 => ?_) (fun c1 => ?_)
  · refine x_iconst (v := (nI 0)) C dX6_needs_20 (by decide) ?_
    refine x_iaddN C dX6_needs_21 ?_
    refine x_put (k := 10) (ws' := (wM G a s as_ hi kn sn ik tx ln it wl sp iw rs er)) C dX6_needs_22 layX6 tyX6 tyX6_ok nmX6 fl_X6_143 0 rfl rfl (by decide) rfl rfl rfl rfl (Nat.le_of_ble_eq_true rfl) rfl ?_
    refine x_aload_n C 1 rfl dX6_needs_25 rfl ?_
    refine x_aload_n C 1 rfl dX6_needs_26 rfl ?_
    refine x_get (k := 11) (v := .int iw) C dX6_needs_27 layX6 fl_X6_139 0 rfl rfl (by decide) rfl ?_
    refine x_if_ne (x := iw) (tgt := 37) C dX6_needs_30 (by decide) (fun c2 => ?_) (fun c2 => ?_)
    · refine x_iconst (v := (nI 1)) C dX6_needs_37 (by decide) ?_
      refine x_goto (tgt := 42) C dX6_needs_38 (by decide) ?_
      refine x_put (k := 11) (ws' := (wM G a s as_ hi kn sn ik tx ln it wl sp 1 rs er)) C dX6_needs_42 layX6 tyX6 tyX6_ok nmX6 fl_X6_139 0 rfl rfl (by decide) rfl rfl rfl rfl (Nat.le_of_ble_eq_true rfl) rfl ?_
      exact x_vret C hr E dX6_needs_45 (fun _ => 0) (by first | exact absurd (And.left c1) c2 | (rw [m_need, if_pos c1] <;> rfl) | (rw [m_need, if_neg c1] <;> rfl))
    · refine x_iload_n C 0 rfl dX6_needs_33 rfl ?_
      refine x_if_neB (P := m_nx iw sp ln tx c c) (tgt := 41) C dX6_needs_34 (by decide) (fun c3 => False.elim (c1 c3)) (fun c3 => ?_)
      refine x_iconst (v := (nI 1)) C dX6_needs_37 (by decide) ?_
      refine x_goto (tgt := 42) C dX6_needs_38 (by decide) ?_
      refine x_put (k := 11) (ws' := (wM G a s as_ hi kn sn ik tx ln it wl sp 1 rs er)) C dX6_needs_42 layX6 tyX6 tyX6_ok nmX6 fl_X6_139 0 rfl rfl (by decide) rfl rfl rfl rfl (Nat.le_of_ble_eq_true rfl) rfl ?_
      exact x_vret C hr E dX6_needs_45 (fun _ => 0) (by first | exact absurd (And.left c1) c2 | (rw [m_need, if_pos c1] <;> rfl) | (rw [m_need, if_neg c1] <;> rfl))
  · refine x_iconst (v := (nI 1)) C dX6_needs_16 (by decide) ?_
    refine x_goto (tgt := 21) C dX6_needs_17 (by decide) ?_
    refine x_iaddN C dX6_needs_21 ?_
    refine x_put (k := 10) (ws' := (wM G a s as_ hi kn sn ik tx ln it wl (sp + 1) iw rs er)) C dX6_needs_22 layX6 tyX6 tyX6_ok nmX6 fl_X6_143 0 rfl rfl (by decide) rfl rfl rfl rfl (Nat.le_of_ble_eq_true rfl) rfl ?_
    refine x_aload_n C 1 rfl dX6_needs_25 rfl ?_
    refine x_aload_n C 1 rfl dX6_needs_26 rfl ?_
    refine x_get (k := 11) (v := .int iw) C dX6_needs_27 layX6 fl_X6_139 0 rfl rfl (by decide) rfl ?_
    refine x_if_ne (x := iw) (tgt := 37) C dX6_needs_30 (by decide) (fun c4 => ?_) (fun c4 => ?_)
    · refine x_iconst (v := (nI 1)) C dX6_needs_37 (by decide) ?_
      refine x_goto (tgt := 42) C dX6_needs_38 (by decide) ?_
      refine x_put (k := 11) (ws' := (wM G a s as_ hi kn sn ik tx ln it wl (sp + 1) 1 rs er)) C dX6_needs_42 layX6 tyX6 tyX6_ok nmX6 fl_X6_139 0 rfl rfl (by decide) rfl rfl rfl rfl (Nat.le_of_ble_eq_true rfl) rfl ?_
      exact x_vret C hr E dX6_needs_45 (fun _ => 0) (by first | exact absurd (And.left c1) c4 | (rw [m_need, if_pos c1] <;> rfl) | (rw [m_need, if_neg c1] <;> rfl))
    · refine x_iload_n C 0 rfl dX6_needs_33 rfl ?_
      refine x_if_neB (P := m_nx iw sp ln tx c c) (tgt := 41) C dX6_needs_34 (by decide) (fun c5 => ?_) (fun c5 => False.elim (c5 c1))
      refine x_iconst (v := (nI 0)) C dX6_needs_41 (by decide) ?_
      refine x_put (k := 11) (ws' := (wM G a s as_ hi kn sn ik tx ln it wl (sp + 1) 0 rs er)) C dX6_needs_42 layX6 tyX6 tyX6_ok nmX6 fl_X6_139 0 rfl rfl (by decide) rfl rfl rfl rfl (Nat.le_of_ble_eq_true rfl) rfl ?_
      exact x_vret C hr E dX6_needs_45 (fun _ => 0) (by first | exact absurd (And.left c1) c4 | (rw [m_need, if_pos c1] <;> rfl) | (rw [m_need, if_neg c1] <;> rfl))
def rm_X6_number : Room := { frames := 2, cells := 0, slots := 0, locals := 44 }
set_option maxRecDepth 100000 in
set_option maxHeartbeats 600000 in
theorem c_X6_number (l : Launch) (G : gG) (a : Nat → Nat) (s as_ hi : Nat → Int32) (kn : Nat) (sn : Nat → Int32) (ik : Int32) (tx : Nat → Int32) (ln : Nat) (it wl : Nat → Int32) (sp : Nat) (iw : Int32) (rs : Nat) (er : Int32) (k : Int32)  (hln : ln ≤ 60) (hsp : sp ≤ ln) : CT l yX6_number cX6_number 3 (some .int) rm_X6_number G [.ref (a 0), .int k] (wM G a s as_ hi kn sn ik tx ln it wl sp iw rs er) (some (.int ((m_num ln tx (sp, iw) k).1))) (fun _ => (wM G a s as_ hi kn sn ik tx ln it wl ((m_num ln tx (sp, iw) k).2.1) ((m_num ln tx (sp, iw) k).2.2) rs er)) := by
  refine gMet (by decide) (Nat.le_of_ble_eq_true rfl) (fun X hX C hr hin E => ?_)
  clear hX
  refine (show gW G X (wM G a s as_ hi kn sn ik tx ln it wl sp iw rs er) 0 0 0 [(0, .ref (a 0)), (1, .int k)] [] from ?_)
  refine x_aload_n C 0 rfl dX6_number_0 rfl ?_
  refine x_aload_n C 0 rfl dX6_number_1 rfl ?_
  refine x_get (k := 11) (v := .int iw) C dX6_number_2 layX6 fl_X6_139 0 rfl rfl (by decide) rfl ?_
  refine x_if_ne (x := iw) (tgt := 19) C dX6_number_5 (by decide) (fun c1 => ?_) (fun c1 => ?_)
  · refine x_iconst (v := (nI 1)) C dX6_number_19 (by decide) ?_
    refine x_goto (tgt := 24) C dX6_number_20 (by decide) ?_
    refine x_put (k := 11) (ws' := (wM G a s as_ hi kn sn ik tx ln it wl sp 1 rs er)) C dX6_number_24 layX6 tyX6 tyX6_ok nmX6 fl_X6_139 0 rfl rfl (by decide) rfl rfl rfl rfl (Nat.le_of_ble_eq_true rfl) rfl ?_
    refine x_aload_n C 0 rfl dX6_number_27 rfl ?_
    refine x_get (k := 11) (v := .int 1) C dX6_number_28 layX6 fl_X6_139 0 rfl rfl (by decide) rfl ?_
    refine x_if_eq (x := 1) (tgt := 38) C dX6_number_31 (by decide) (fun c2 => False.elim (by revert c2; decide)) (fun c2 => ?_)
    refine x_iconst (v := (nI 0)) C dX6_number_34 (by decide) ?_
    refine x_goto (tgt := 50) C dX6_number_35 (by decide) ?_
    refine x_istore_n (lv' := [(2, .int (nI 0)), (0, .ref (a 0)), (1, .int k)]) C dX6_number_50 rfl (by decide) rfl ?_
    refine x_aload_n C 1 rfl dX6_number_51 rfl ?_
    refine x_aload_n C 1 rfl dX6_number_52 rfl ?_
    refine x_get (k := 11) (v := .int 1) C dX6_number_53 layX6 fl_X6_139 0 rfl rfl (by decide) rfl ?_
    refine x_if_ne (x := 1) (tgt := 64) C dX6_number_56 (by decide) (fun c3 => ?_) (fun c3 => False.elim (by revert c3; decide))
    refine x_iconst (v := (nI 1)) C dX6_number_64 (by decide) ?_
    refine x_goto (tgt := 69) C dX6_number_65 (by decide) ?_
    refine x_put (k := 11) (ws' := (wM G a s as_ hi kn sn ik tx ln it wl sp 1 rs er)) C dX6_number_69 layX6 tyX6 tyX6_ok nmX6 fl_X6_139 0 rfl rfl (by decide) rfl rfl rfl rfl (Nat.le_of_ble_eq_true rfl) rfl ?_
    refine x_aload_n C 1 rfl dX6_number_72 rfl ?_
    refine x_dup C rfl dX6_number_73 ?_
    refine x_get (k := 10) (v := .int (nI sp)) C dX6_number_74 layX6 fl_X6_143 0 rfl rfl (by decide) rfl ?_
    refine x_aload_n C 1 rfl dX6_number_77 rfl ?_
    refine x_get (k := 11) (v := .int 1) C dX6_number_78 layX6 fl_X6_139 0 rfl rfl (by decide) rfl ?_
    refine x_if_eq (x := 1) (tgt := 88) C dX6_number_81 (by decide) (fun c4 => False.elim (by revert c4; decide)) (fun c4 => ?_)
    refine x_iconst (v := (nI 0)) C dX6_number_84 (by decide) ?_
    refine x_goto (tgt := 89) C dX6_number_85 (by decide) ?_
    refine x_iaddN C dX6_number_89 ?_
    refine x_put (k := 10) (ws' := (wM G a s as_ hi kn sn ik tx ln it wl sp 1 rs er)) C dX6_number_90 layX6 tyX6 tyX6_ok nmX6 fl_X6_143 0 rfl rfl (by decide) rfl rfl rfl rfl (Nat.le_of_ble_eq_true rfl) rfl ?_
    refine x_iload_n C 0 rfl dX6_number_93 rfl ?_
    refine x_if_leN (a := 0) (tgt := 160) C dX6_number_94 (by decide) (by omega) (fun c5 => ?_) (fun c5 => False.elim (by omega))
    refine x_iload_n C 0 rfl dX6_number_160 rfl ?_
    exact x_iret C hr E dX6_number_161 (fun _ => 0) (by rw [m_num, if_neg c1] <;> rfl) (by rw [m_num, if_neg c1] <;> rfl)
  · refine x_aload_n C 0 rfl dX6_number_8 rfl ?_
    refine x_bipush (v := (nI 48)) C dX6_number_9 (by decide) ?_
    refine x_bipush (v := (nI 57)) C dX6_number_11 (by decide) ?_
    refine x_callVd (As := [.int (nI 48), .int (nI 57)]) (rest := [.ref (a 0)]) C dX6_number_13 (c_X6_isNext (gX.l X) G a s as_ hi kn sn ik tx ln it wl sp iw rs er 48 57 (by omega) (by omega)) ml_X6_146 im_X6_isNext sl_X6_isNext in_X6 cd_X6_isNext hd_X6_isNext 0 rfl rfl rfl rfl (Nat.le_of_ble_eq_true rfl) ⟨Nat.le_of_ble_eq_true rfl, Nat.le_of_ble_eq_true rfl⟩ (List.take 0 (wM G a s as_ hi kn sn ik tx ln it wl sp iw rs er)) (List.drop 8 (wM G a s as_ hi kn sn ik tx ln it wl sp iw rs er)) rfl (ws' := (wM G a s as_ hi kn sn ik tx ln it wl sp iw rs er)) rfl (st' := [.int (bI (m_nx iw sp ln tx 48 57)), .ref (a 0)]) rfl ⟨rfl, rfl⟩ ⟨Nat.le_of_ble_eq_true rfl, Nat.le_of_ble_eq_true rfl⟩ ?_
    refine x_if_neB (P := m_nx iw sp ln tx 48 57) (tgt := 23) C dX6_number_16 (by decide) (fun c6 => ?_) (fun c6 => ?_)
    · refine x_iconst (v := (nI 0)) C dX6_number_23 (by decide) ?_
      refine x_put (k := 11) (ws' := (wM G a s as_ hi kn sn ik tx ln it wl sp 0 rs er)) C dX6_number_24 layX6 tyX6 tyX6_ok nmX6 fl_X6_139 0 rfl rfl (by decide) rfl rfl rfl rfl (Nat.le_of_ble_eq_true rfl) rfl ?_
      refine x_aload_n C 0 rfl dX6_number_27 rfl ?_
      refine x_get (k := 11) (v := .int 0) C dX6_number_28 layX6 fl_X6_139 0 rfl rfl (by decide) rfl ?_
      refine x_if_eq (x := 0) (tgt := 38) C dX6_number_31 (by decide) (fun c7 => ?_) (fun c7 => False.elim (by revert c7; decide))
      have hsl : sp < ln := m_nx_lt (iw := iw) (tx := tx) (lo := 48) (hi := 57) (by assumption)
      refine x_aload_n C 0 rfl dX6_number_38 rfl ?_
      refine x_get (k := 6) (v := .ref (a 5)) C dX6_number_39 layX6 fl_X6_22 0 rfl rfl (by decide) rfl ?_
      refine x_aload_n C 0 rfl dX6_number_42 rfl ?_
      refine x_get (k := 10) (v := .int (nI sp)) C dX6_number_43 layX6 fl_X6_143 0 rfl rfl (by decide) rfl ?_
      refine x_iald (j := sp) C dX6_number_46 5 rfl rfl (by omega) (by omega) ?_
      refine x_bipush (v := (nI 48)) C dX6_number_47 (by decide) ?_
      refine x_isub (x := (tx sp)) (y := 48) C dX6_number_49 ?_
      refine x_istore_n (lv' := [(2, .int ((tx sp) - 48)), (0, .ref (a 0)), (1, .int k)]) C dX6_number_50 rfl (by decide) rfl ?_
      refine x_aload_n C 1 rfl dX6_number_51 rfl ?_
      refine x_aload_n C 1 rfl dX6_number_52 rfl ?_
      refine x_get (k := 11) (v := .int 0) C dX6_number_53 layX6 fl_X6_139 0 rfl rfl (by decide) rfl ?_
      refine x_if_ne (x := 0) (tgt := 64) C dX6_number_56 (by decide) (fun c8 => False.elim (by revert c8; decide)) (fun c8 => ?_)
      refine x_iload_n C 0 rfl dX6_number_59 rfl ?_
      refine x_iload_n C 2 rfl dX6_number_60 rfl ?_
      refine x_icmp_le (x := ((tx sp) - 48)) (y := k) (tgt := 68) C dX6_number_61 (by decide) (fun c9 => ?_) (fun c9 => ?_)
      · refine x_iconst (v := (nI 0)) C dX6_number_68 (by decide) ?_
        refine x_put (k := 11) (ws' := (wM G a s as_ hi kn sn ik tx ln it wl sp 0 rs er)) C dX6_number_69 layX6 tyX6 tyX6_ok nmX6 fl_X6_139 0 rfl rfl (by decide) rfl rfl rfl rfl (Nat.le_of_ble_eq_true rfl) rfl ?_
        refine x_aload_n C 1 rfl dX6_number_72 rfl ?_
        refine x_dup C rfl dX6_number_73 ?_
        refine x_get (k := 10) (v := .int (nI sp)) C dX6_number_74 layX6 fl_X6_143 0 rfl rfl (by decide) rfl ?_
        refine x_aload_n C 1 rfl dX6_number_77 rfl ?_
        refine x_get (k := 11) (v := .int 0) C dX6_number_78 layX6 fl_X6_139 0 rfl rfl (by decide) rfl ?_
        refine x_if_eq (x := 0) (tgt := 88) C dX6_number_81 (by decide) (fun c10 => ?_) (fun c10 => False.elim (by revert c10; decide))
        refine x_iconst (v := (nI 1)) C dX6_number_88 (by decide) ?_
        refine x_iaddN C dX6_number_89 ?_
        refine x_put (k := 10) (ws' := (wM G a s as_ hi kn sn ik tx ln it wl (sp + 1) 0 rs er)) C dX6_number_90 layX6 tyX6 tyX6_ok nmX6 fl_X6_143 0 rfl rfl (by decide) rfl rfl rfl rfl (Nat.le_of_ble_eq_true rfl) rfl ?_
        have L11 : ∀ (fu : Nat) (v : Int32) (q : Nat), 61 ≤ q + fu → (m_numR ln tx k fu v q = m_numR ln tx k 61 (tx sp - 48) (sp + 1)) → (q ≤ ln) → gW G X (wM G a s as_ hi kn sn ik tx ln it wl q 0 rs er) 0 0 93 [(2, .int v), (0, .ref (a 0)), (1, .int k)] [] := by
          intro fu
          induction fu with
          | zero =>
            intro v q hn hr9 hq
            exact False.elim (by omega)
          | succ fu ih =>
            intro v q hn hr9 hq
            refine x_iload_n C 0 rfl dX6_number_93 rfl ?_
            refine x_if_le (x := v) (tgt := 160) C dX6_number_94 (by decide) (fun c12 => ?_) (fun c12 => ?_)
            · refine x_iload_n C 0 rfl dX6_number_160 rfl ?_
              exact x_iret C hr E dX6_number_161 (fun _ => 0) (by rw [m_num, if_pos c1, if_pos c6, if_neg c9, ← hr9, m_numR, if_neg c12]) (by rw [m_num, if_pos c1, if_pos c6, if_neg c9, ← hr9, m_numR, if_neg c12])
            · refine x_aload_n C 1 rfl dX6_number_97 rfl ?_
              refine x_bipush (v := (nI 48)) C dX6_number_98 (by decide) ?_
              refine x_bipush (v := (nI 57)) C dX6_number_100 (by decide) ?_
              refine x_callVd (As := [.int (nI 48), .int (nI 57)]) (rest := []) C dX6_number_102 (c_X6_isNext (gX.l X) G a s as_ hi kn sn ik tx ln it wl q 0 rs er 48 57 (by omega) (by omega)) ml_X6_146 im_X6_isNext sl_X6_isNext in_X6 cd_X6_isNext hd_X6_isNext 0 rfl rfl rfl rfl (Nat.le_of_ble_eq_true rfl) ⟨Nat.le_of_ble_eq_true rfl, Nat.le_of_ble_eq_true rfl⟩ (List.take 0 (wM G a s as_ hi kn sn ik tx ln it wl q 0 rs er)) (List.drop 8 (wM G a s as_ hi kn sn ik tx ln it wl q 0 rs er)) rfl (ws' := (wM G a s as_ hi kn sn ik tx ln it wl q 0 rs er)) rfl (st' := [.int (bI (m_nx 0 q ln tx 48 57))]) rfl ⟨rfl, rfl⟩ ⟨Nat.le_of_ble_eq_true rfl, Nat.le_of_ble_eq_true rfl⟩ ?_
              refine x_if_eqB (P := m_nx 0 q ln tx 48 57) (tgt := 160) C dX6_number_105 (by decide) (fun c13 => ?_) (fun c13 => ?_)
              · refine x_iload_n C 0 rfl dX6_number_160 rfl ?_
                exact x_iret C hr E dX6_number_161 (fun _ => 0) (by rw [m_num, if_pos c1, if_pos c6, if_neg c9, ← hr9, m_numR, if_pos c12, if_neg c13]) (by rw [m_num, if_pos c1, if_pos c6, if_neg c9, ← hr9, m_numR, if_pos c12, if_neg c13])
              · have hq9 : q < ln := m_nx_lt (iw := 0) (tx := tx) (lo := 48) (hi := 57) (by assumption)
                refine x_bipush (v := (nI 10)) C dX6_number_108 (by decide) ?_
                refine x_iload_n C 0 rfl dX6_number_110 rfl ?_
                refine x_imul (x := 10) (y := v) C dX6_number_111 ?_
                refine x_aload_n C 1 rfl dX6_number_112 rfl ?_
                refine x_get (k := 6) (v := .ref (a 5)) C dX6_number_113 layX6 fl_X6_22 0 rfl rfl (by decide) rfl ?_
                refine x_aload_n C 1 rfl dX6_number_116 rfl ?_
                refine x_get (k := 10) (v := .int (nI q)) C dX6_number_117 layX6 fl_X6_143 0 rfl rfl (by decide) rfl ?_
                refine x_iald (j := q) C dX6_number_120 5 rfl rfl (by omega) (by omega) ?_
                refine x_iadd (x := (10 * v)) (y := (tx q)) C dX6_number_121 ?_
                refine x_bipush (v := (nI 48)) C dX6_number_122 (by decide) ?_
                refine x_isub (x := ((10 * v) + (tx q))) (y := 48) C dX6_number_124 ?_
                refine x_iload_n C 2 rfl dX6_number_125 rfl ?_
                refine x_icmp_gt (x := (((10 * v) + (tx q)) - 48)) (y := k) (tgt := 160) C dX6_number_126 (by decide) (fun c14 => ?_) (fun c14 => ?_)
                · refine x_iload_n C 0 rfl dX6_number_160 rfl ?_
                  exact x_iret C hr E dX6_number_161 (fun _ => 0) (by rw [m_num, if_pos c1, if_pos c6, if_neg c9, ← hr9, m_numR, if_pos c12, if_pos c13, if_pos c14]) (by rw [m_num, if_pos c1, if_pos c6, if_neg c9, ← hr9, m_numR, if_pos c12, if_pos c13, if_pos c14])
                · refine x_bipush (v := (nI 10)) C dX6_number_129 (by decide) ?_
                  refine x_iload_n C 0 rfl dX6_number_131 rfl ?_
                  refine x_imul (x := 10) (y := v) C dX6_number_132 ?_
                  refine x_aload_n C 1 rfl dX6_number_133 rfl ?_
                  refine x_get (k := 6) (v := .ref (a 5)) C dX6_number_134 layX6 fl_X6_22 0 rfl rfl (by decide) rfl ?_
                  refine x_aload_n C 1 rfl dX6_number_137 rfl ?_
                  refine x_get (k := 10) (v := .int (nI q)) C dX6_number_138 layX6 fl_X6_143 0 rfl rfl (by decide) rfl ?_
                  refine x_iald (j := q) C dX6_number_141 5 rfl rfl (by omega) (by omega) ?_
                  refine x_iadd (x := (10 * v)) (y := (tx q)) C dX6_number_142 ?_
                  refine x_bipush (v := (nI 48)) C dX6_number_143 (by decide) ?_
                  refine x_isub (x := ((10 * v) + (tx q))) (y := 48) C dX6_number_145 ?_
                  refine x_istore_n (lv' := [(2, .int (((10 * v) + (tx q)) - 48)), (0, .ref (a 0)), (1, .int k)]) C dX6_number_146 rfl (by decide) rfl ?_
                  refine x_aload_n C 1 rfl dX6_number_147 rfl ?_
                  refine x_dup C rfl dX6_number_148 ?_
                  refine x_get (k := 10) (v := .int (nI q)) C dX6_number_149 layX6 fl_X6_143 0 rfl rfl (by decide) rfl ?_
                  refine x_iconst (v := (nI 1)) C dX6_number_152 (by decide) ?_
                  refine x_iaddN C dX6_number_153 ?_
                  refine x_put (k := 10) (ws' := (wM G a s as_ hi kn sn ik tx ln it wl (q + 1) 0 rs er)) C dX6_number_154 layX6 tyX6 tyX6_ok nmX6 fl_X6_143 0 rfl rfl (by decide) rfl rfl rfl rfl (Nat.le_of_ble_eq_true rfl) rfl ?_
                  refine x_goto (tgt := 93) C dX6_number_157 (by decide) ?_
                  exact ih (((10 * v) + (tx q)) - 48) (q + 1) (by omega) (by rw [← hr9, m_numR, if_pos c12, if_pos c13, if_neg c14]) (by omega)
        exact L11 61 ((tx sp) - 48) (sp + 1) (by omega) (by rfl) (by omega)
      · refine x_iconst (v := (nI 1)) C dX6_number_64 (by decide) ?_
        refine x_goto (tgt := 69) C dX6_number_65 (by decide) ?_
        refine x_put (k := 11) (ws' := (wM G a s as_ hi kn sn ik tx ln it wl sp 1 rs er)) C dX6_number_69 layX6 tyX6 tyX6_ok nmX6 fl_X6_139 0 rfl rfl (by decide) rfl rfl rfl rfl (Nat.le_of_ble_eq_true rfl) rfl ?_
        refine x_aload_n C 1 rfl dX6_number_72 rfl ?_
        refine x_dup C rfl dX6_number_73 ?_
        refine x_get (k := 10) (v := .int (nI sp)) C dX6_number_74 layX6 fl_X6_143 0 rfl rfl (by decide) rfl ?_
        refine x_aload_n C 1 rfl dX6_number_77 rfl ?_
        refine x_get (k := 11) (v := .int 1) C dX6_number_78 layX6 fl_X6_139 0 rfl rfl (by decide) rfl ?_
        refine x_if_eq (x := 1) (tgt := 88) C dX6_number_81 (by decide) (fun c15 => False.elim (by revert c15; decide)) (fun c15 => ?_)
        refine x_iconst (v := (nI 0)) C dX6_number_84 (by decide) ?_
        refine x_goto (tgt := 89) C dX6_number_85 (by decide) ?_
        refine x_iaddN C dX6_number_89 ?_
        refine x_put (k := 10) (ws' := (wM G a s as_ hi kn sn ik tx ln it wl sp 1 rs er)) C dX6_number_90 layX6 tyX6 tyX6_ok nmX6 fl_X6_143 0 rfl rfl (by decide) rfl rfl rfl rfl (Nat.le_of_ble_eq_true rfl) rfl ?_
        refine x_iload_n C 0 rfl dX6_number_93 rfl ?_
        refine x_if_le (x := ((tx sp) - 48)) (tgt := 160) C dX6_number_94 (by decide) (fun c16 => ?_) (fun c16 => ?_)
        · refine x_iload_n C 0 rfl dX6_number_160 rfl ?_
          exact x_iret C hr E dX6_number_161 (fun _ => 0) (by rw [m_num, if_pos c1, if_pos c6, if_pos c9] <;> rfl) (by rw [m_num, if_pos c1, if_pos c6, if_pos c9] <;> rfl)
        · refine x_aload_n C 1 rfl dX6_number_97 rfl ?_
          refine x_bipush (v := (nI 48)) C dX6_number_98 (by decide) ?_
          refine x_bipush (v := (nI 57)) C dX6_number_100 (by decide) ?_
          refine x_callVd (As := [.int (nI 48), .int (nI 57)]) (rest := []) C dX6_number_102 (c_X6_isNext (gX.l X) G a s as_ hi kn sn ik tx ln it wl sp 1 rs er 48 57 (by omega) (by omega)) ml_X6_146 im_X6_isNext sl_X6_isNext in_X6 cd_X6_isNext hd_X6_isNext 0 rfl rfl rfl rfl (Nat.le_of_ble_eq_true rfl) ⟨Nat.le_of_ble_eq_true rfl, Nat.le_of_ble_eq_true rfl⟩ (List.take 0 (wM G a s as_ hi kn sn ik tx ln it wl sp 1 rs er)) (List.drop 8 (wM G a s as_ hi kn sn ik tx ln it wl sp 1 rs er)) rfl (ws' := (wM G a s as_ hi kn sn ik tx ln it wl sp 1 rs er)) rfl (st' := [.int (bI (m_nx 1 sp ln tx 48 57))]) rfl ⟨rfl, rfl⟩ ⟨Nat.le_of_ble_eq_true rfl, Nat.le_of_ble_eq_true rfl⟩ ?_
          refine x_if_eqB (P := m_nx 1 sp ln tx 48 57) (tgt := 160) C dX6_number_105 (by decide) (fun c17 => ?_) (fun c17 => False.elim (by exact absurd (And.left c17) (by decide)))
          refine x_iload_n C 0 rfl dX6_number_160 rfl ?_
          exact x_iret C hr E dX6_number_161 (fun _ => 0) (by rw [m_num, if_pos c1, if_pos c6, if_pos c9] <;> rfl) (by rw [m_num, if_pos c1, if_pos c6, if_pos c9] <;> rfl)
    · refine x_iconst (v := (nI 1)) C dX6_number_19 (by decide) ?_
      refine x_goto (tgt := 24) C dX6_number_20 (by decide) ?_
      refine x_put (k := 11) (ws' := (wM G a s as_ hi kn sn ik tx ln it wl sp 1 rs er)) C dX6_number_24 layX6 tyX6 tyX6_ok nmX6 fl_X6_139 0 rfl rfl (by decide) rfl rfl rfl rfl (Nat.le_of_ble_eq_true rfl) rfl ?_
      refine x_aload_n C 0 rfl dX6_number_27 rfl ?_
      refine x_get (k := 11) (v := .int 1) C dX6_number_28 layX6 fl_X6_139 0 rfl rfl (by decide) rfl ?_
      refine x_if_eq (x := 1) (tgt := 38) C dX6_number_31 (by decide) (fun c18 => False.elim (by revert c18; decide)) (fun c18 => ?_)
      refine x_iconst (v := (nI 0)) C dX6_number_34 (by decide) ?_
      refine x_goto (tgt := 50) C dX6_number_35 (by decide) ?_
      refine x_istore_n (lv' := [(2, .int (nI 0)), (0, .ref (a 0)), (1, .int k)]) C dX6_number_50 rfl (by decide) rfl ?_
      refine x_aload_n C 1 rfl dX6_number_51 rfl ?_
      refine x_aload_n C 1 rfl dX6_number_52 rfl ?_
      refine x_get (k := 11) (v := .int 1) C dX6_number_53 layX6 fl_X6_139 0 rfl rfl (by decide) rfl ?_
      refine x_if_ne (x := 1) (tgt := 64) C dX6_number_56 (by decide) (fun c19 => ?_) (fun c19 => False.elim (by revert c19; decide))
      refine x_iconst (v := (nI 1)) C dX6_number_64 (by decide) ?_
      refine x_goto (tgt := 69) C dX6_number_65 (by decide) ?_
      refine x_put (k := 11) (ws' := (wM G a s as_ hi kn sn ik tx ln it wl sp 1 rs er)) C dX6_number_69 layX6 tyX6 tyX6_ok nmX6 fl_X6_139 0 rfl rfl (by decide) rfl rfl rfl rfl (Nat.le_of_ble_eq_true rfl) rfl ?_
      refine x_aload_n C 1 rfl dX6_number_72 rfl ?_
      refine x_dup C rfl dX6_number_73 ?_
      refine x_get (k := 10) (v := .int (nI sp)) C dX6_number_74 layX6 fl_X6_143 0 rfl rfl (by decide) rfl ?_
      refine x_aload_n C 1 rfl dX6_number_77 rfl ?_
      refine x_get (k := 11) (v := .int 1) C dX6_number_78 layX6 fl_X6_139 0 rfl rfl (by decide) rfl ?_
      refine x_if_eq (x := 1) (tgt := 88) C dX6_number_81 (by decide) (fun c20 => False.elim (by revert c20; decide)) (fun c20 => ?_)
      refine x_iconst (v := (nI 0)) C dX6_number_84 (by decide) ?_
      refine x_goto (tgt := 89) C dX6_number_85 (by decide) ?_
      refine x_iaddN C dX6_number_89 ?_
      refine x_put (k := 10) (ws' := (wM G a s as_ hi kn sn ik tx ln it wl sp 1 rs er)) C dX6_number_90 layX6 tyX6 tyX6_ok nmX6 fl_X6_143 0 rfl rfl (by decide) rfl rfl rfl rfl (Nat.le_of_ble_eq_true rfl) rfl ?_
      refine x_iload_n C 0 rfl dX6_number_93 rfl ?_
      refine x_if_leN (a := 0) (tgt := 160) C dX6_number_94 (by decide) (by omega) (fun c21 => ?_) (fun c21 => False.elim (by omega))
      refine x_iload_n C 0 rfl dX6_number_160 rfl ?_
      exact x_iret C hr E dX6_number_161 (fun _ => 0) (by rw [m_num, if_pos c1, if_neg c6] <;> rfl) (by rw [m_num, if_pos c1, if_neg c6] <;> rfl)
