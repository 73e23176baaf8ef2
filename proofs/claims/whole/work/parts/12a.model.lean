/-- what the reference's row must hold for its methods to run -/
def okM (s : Nat → Int32) : Prop := ¬ s 191 = 0 ∧ okB (s 192) ∧ okF (s 317) ∧ ∀ j, j < nC (s 192) → okR (s (3 * j + 195))
theorem m_gLL_inv {s it : Nat → Int32} {fa : Int32} (h : okM s) : ∀ i, i ≤ nC (s 192) → (m_gLL fa (s, it, 0, 0) i).2.2.2 ≤ i ∧ okF ((m_gLL fa (s, it, 0, 0) i).1 317) ∧ (∀ j, i ≤ j → j < nC (s 192) → okR ((m_gLL fa (s, it, 0, 0) i).1 (3 * j + 195))) ∧ (∀ j, j < (m_gLL fa (s, it, 0, 0) i).2.2.2 → okR ((m_gLL fa (s, it, 0, 0) i).1 (3 * j + 195))) ∧ (m_gLL fa (s, it, 0, 0) i).1 191 = s 191
  | 0, _ => ⟨Nat.le_refl _, h.2.2.1, fun j _ hj => h.2.2.2 j hj, fun j hj => absurd hj (Nat.not_lt_zero j), rfl⟩
  | i + 1, hi => by
    obtain ⟨h1, h2, h3, h4, h5⟩ := m_gLL_inv (it := it) (fa := fa) h i (by omega)
    have hb := h.2.1.1
    have hri := h3 i (Nat.le_refl _) (by omega)
    show (m_gLS fa i (m_gLL fa (s, it, 0, 0) i)).2.2.2 ≤ i + 1 ∧ okF ((m_gLS fa i (m_gLL fa (s, it, 0, 0) i)).1 317) ∧ (∀ j, i + 1 ≤ j → j < nC (s 192) → okR ((m_gLS fa i (m_gLL fa (s, it, 0, 0) i)).1 (3 * j + 195))) ∧ (∀ j, j < (m_gLS fa i (m_gLL fa (s, it, 0, 0) i)).2.2.2 → okR ((m_gLS fa i (m_gLL fa (s, it, 0, 0) i)).1 (3 * j + 195))) ∧ (m_gLS fa i (m_gLL fa (s, it, 0, 0) i)).1 191 = s 191
    generalize m_gLL fa (s, it, 0, 0) i = p at h1 h2 h3 h4 h5 hri ⊢
    unfold m_gLS
    have hb2 := m_best_ok p.1 p.2.1 (m_gR p i) fa
    have hgr : m_gR p i < 12 := hri.1
    split
    · refine ⟨Nat.le_succ_of_le h1, m_rideS_F hgr hb2 h2, fun j g1 g2 => ?_, fun j g1 => ?_, ?_⟩
      · show okR (m_rideS p.1 (m_gR p i) _ (3 * j + 195))
        rw [m_rideS_out hgr hb2 (by omega)]; exact h3 j (by omega) g2
      · show okR (m_rideS p.1 (m_gR p i) _ (3 * j + 195))
        have g1 : j < p.2.2.2 := g1
        rw [m_rideS_out hgr hb2 (by omega)]; exact h4 j g1
      · show m_rideS p.1 (m_gR p i) _ 191 = s 191
        rw [m_rideS_out hgr hb2 (by omega)]; exact h5
    · refine ⟨by show p.2.2.2 + 1 ≤ i + 1; omega, ?_, fun j g1 g2 => ?_, fun j g1 => ?_, ?_⟩
      · show okF (m_cp3 p.1 i p.2.2.2 317)
        rw [m_cp3_out h1 (by omega) (by omega)]; exact h2
      · show okR (m_cp3 p.1 i p.2.2.2 (3 * j + 195))
        rw [m_cp3_out h1 (by omega) (by omega)]; exact h3 j (by omega) g2
      · show okR (m_cp3 p.1 i p.2.2.2 (3 * j + 195))
        have g1 : j < p.2.2.2 + 1 := g1
        by_cases e : j = p.2.2.2
        · subst e
          unfold m_cp3
          rw [pk_us]
          by_cases e2 : p.2.2.2 = i
          · rw [e2]
            rw [pk_un (by omega), pk_un (by omega)]; exact hri
          · rw [pk_un (by omega), pk_un (by omega)]; exact hri
        · unfold m_cp3
          rw [pk_un (by omega), pk_un (by omega), pk_un (by omega)]; exact h4 j (by omega)
      · show m_cp3 p.1 i p.2.2.2 191 = s 191
        rw [m_cp3_out h1 (by omega) (by omega)]; exact h5
theorem m_rests_out {s it wl : Nat → Int32} {h q : Nat} {fa : Int32} (hh : h < 10) (hq : 187 ≤ q ∧ q < 316 ∨ 316 < q) : m_rests s it wl h fa q = s q := by
  unfold m_rests m_rs1 m_inc
  split <;> repeat rw [pk_un (by omega)]
theorem m_rsL_out {s it wl : Nat → Int32} {q : Nat} {fa : Int32} (hq : 187 ≤ q ∧ q < 316 ∨ 316 < q) : ∀ h, h ≤ 10 → m_rsL s it wl fa h q = s q
  | 0, _ => rfl
  | h + 1, hh => by
    show m_rests (m_rsL s it wl fa h) it wl h fa q = s q
    rw [m_rests_out (by omega) hq]; exact m_rsL_out hq h (by omega)
theorem okB_nI {n : Nat} (h : n ≤ 40) : okB (nI n) := by
  unfold okB; rw [nC_nI (by omega)]; exact ⟨h, rfl⟩
theorem okM_h1 {s it wl : Nat → Int32} (h : okM s) : okM (m_h1S s it wl) := by
  obtain ⟨h1, h2, h3, h4, h5⟩ := m_gLL_inv (it := zeL it 10) (fa := m_shod s) h (nC (s 192)) (Nat.le_refl _)
  have hb := h.2.1.1
  have e : ∀ q, 187 ≤ q ∧ q < 316 ∨ 316 < q → m_h1S s it wl q = upd (m_h1G s it).1 192 (nI (m_h1G s it).2.2.2) q := fun q hq => by
    unfold m_h1S m_inc
    rw [pk_un (by omega), m_rsL_out hq 10 (Nat.le_refl _)]
  have e192 : m_h1S s it wl 192 = nI (m_h1G s it).2.2.2 := by rw [e 192 (by omega), pk_us]
  have hle : (m_h1G s it).2.2.2 ≤ 40 := Nat.le_trans h1 hb
  refine ⟨?_, ?_, ?_, fun j hj => ?_⟩
  · rw [e 191 (by omega), pk_un (by omega)]; show ¬ (m_h1G s it).1 191 = 0; rw [show (m_h1G s it).1 191 = s 191 from h5]; exact h.1
  · rw [e192]; exact okB_nI hle
  · rw [e 317 (by omega), pk_un (by omega)]; exact h2
  · rw [e192, nC_nI (by omega)] at hj
    rw [e _ (by omega), pk_un (by omega)]; exact h4 j hj
theorem okM_h0 {s it wl : Nat → Int32} (h : okM s) : okM (m_h0S s it wl) := by
  have hb := h.2.1.1
  have e : ∀ q, 187 ≤ q ∧ q < 316 ∨ 316 < q → m_h0S s it wl q = s q := fun q hq => by
    unfold m_h0S m_inc
    rw [pk_un (by omega), m_rsL_out hq 10 (Nat.le_refl _)]
  refine ⟨?_, ?_, ?_, fun j hj => ?_⟩
  · rw [e 191 (by omega)]; exact h.1
  · rw [e 192 (by omega)]; exact h.2.1
  · rw [e 317 (by omega)]; exact h.2.2.1
  · rw [e 192 (by omega)] at hj
    rw [e _ (by omega)]; exact h.2.2.2 j hj
theorem m_recK_le {kn : Nat} (h : kn ≤ 4) : 1 ≤ m_recK kn ∧ m_recK kn ≤ 4 := by
  unfold m_recK; split <;> omega
/-- row, who is taken, who was lame, how many rode -/
abbrev m_P4 : Type := (Nat → Int32) × (Nat → Int32) × (Nat → Int32) × Int32
def m_pS (q : m_P4) : m_P4 := (m_h1S q.1 q.2.1 q.2.2.1, (m_h1G q.1 q.2.1).2.1, m_wlL q.1 q.2.2.1 10, q.2.2.2 + (m_h1G q.1 q.2.1).2.2.1)
def m_pL (p : m_P4) : Nat → m_P4
  | 0 => p
  | n + 1 => m_pS (m_pL p n)
abbrev m_in (x lo hi : Int32) : Prop := ¬ x < lo ∧ ¬ hi < x
abbrev m_R4 : Type := Int32 × (Nat → Int32) × (Nat → Int32) × Nat
def mX_setHorse (s hi : Nat → Int32) (kn : Nat) (h st te : Int32) : m_R4 := if m_in h 0 9 then (if m_in st 20 150 then (if m_in te 0 9 then (if s (9 * nC h + 1) = st then (if s (9 * nC h + 2) = te then (-5, s, hi, kn) else (s (9 * nC h + 1), upd (upd s (9 * nC h + 1) st) (9 * nC h + 2) te, m_recH s hi kn, m_recK kn)) else (s (9 * nC h + 1), upd (upd s (9 * nC h + 1) st) (9 * nC h + 2) te, m_recH s hi kn, m_recK kn)) else (-2, s, hi, kn)) else (-2, s, hi, kn)) else (-1, s, hi, kn)
def mX_setRider (s hi : Nat → Int32) (kn : Nat) (r w k : Int32) : m_R4 := if m_in r 0 11 then (if m_in w 20 150 then (if m_in k 0 9 then (s (8 * nC r + 91), upd (upd (upd (upd s (8 * nC r + 91) w) (8 * nC r + 92) k) (8 * nC r + 93) 0) (8 * nC r + 94) 0, m_recH s hi kn, m_recK kn) else (-2, s, hi, kn)) else (-2, s, hi, kn)) else (-1, s, hi, kn)
def m_least (w : Nat) : Int32 := if w = 2 then 0 else 1
def m_most (w : Nat) : Int32 := if w = 0 then 9 else if w = 4 then 9 else if w = 2 then 50 else 99
def mX_set (s hi : Nat → Int32) (kn : Nat) (w v : Int32) : m_R4 := if m_in w 0 4 then (if m_in v (m_least (nC w)) (m_most (nC w)) then (if s (187 + nC w) = v then (-5, s, hi, kn) else (s (187 + nC w), upd s (187 + nC w) v, m_recH s hi kn, m_recK kn)) else (-2, s, hi, kn)) else (-1, s, hi, kn)
def mX_books (s : Nat → Int32) (h g r : Int32) : Int32 × (Nat → Int32) := if m_in g 0 2 then (if m_in r 0 11 then (if m_in h 0 99 then (if m_bk s (s 0 + h) r (nC (s 192)) = -5 then (if m_bf s (s 0 + h) g (nC (s 192)) = 4 - g then (-3, s) else if nC (s 192) = 40 then (-3, s) else (m_bf s (s 0 + h) g (nC (s 192)) + 1, m_inc (upd (upd (upd s (3 * nC (s 192) + 193) (s 0 + h)) (3 * nC (s 192) + 194) g) (3 * nC (s 192) + 195) r) 192)) else (-4, s)) else (-2, s)) else (-1, s)) else (-1, s)
def m_recA (s as_ hi : Nat → Int32) (kn : Nat) : Nat → Int32 := cpL as_ (m_recH s hi kn) 0 (378 * (m_recK kn - 1)) 378
def mX_book (s as_ hi : Nat → Int32) (kn : Nat) (h g r : Int32) : m_R4 := if 0 < (mX_books s h g r).1 then ((mX_books s h g r).1, (mX_books s h g r).2, m_recA (mX_books s h g r).2 (cpL s as_ 0 0 378) hi kn, m_recK kn) else ((mX_books s h g r).1, (mX_books s h g r).2, hi, kn)
def m_shf : Nat → Nat → (Nat → Int32) → Nat → Int32
  | 0, _, f => f
  | n + 1, k, f => m_shf n (k + 1) (upd f k (f (k + 3)))
def m_can1 (s : Nat → Int32) (b : Nat) : Nat → Int32 := upd (m_shf (310 - (3 * b + 193)) (3 * b + 193) s) 192 (m_shf (310 - (3 * b + 193)) (3 * b + 193) s 192 - 1)
def mX_cancel (s hi : Nat → Int32) (kn : Nat) (h r : Int32) : m_R4 := if m_in r 0 11 then (if m_in h 0 99 then (if m_bk s (s 0 + h) r (nC (s 192)) = -5 then (-5, s, hi, kn) else (s (3 * nC (m_bk s (s 0 + h) r (nC (s 192))) + 194), m_can1 s (nC (m_bk s (s 0 + h) r (nC (s 192)))), m_recH s hi kn, m_recK kn)) else (-2, s, hi, kn)) else (-1, s, hi, kn)
abbrev m_R6 : Type := Int32 × (Nat → Int32) × (Nat → Int32) × Nat × (Nat → Int32) × (Nat → Int32)
def mX_pass (s hi : Nat → Int32) (kn : Nat) (it wl : Nat → Int32) (h : Int32) : m_R6 := if m_in h 1 99 then (if 9999 < s 0 + h then (-3, s, hi, kn, it, wl) else ((m_pL (s, it, wl, 0) (nC h)).2.2.2, (m_pL (s, it, wl, 0) (nC h)).1, m_recH s hi kn, m_recK kn, (m_pL (s, it, wl, 0) (nC h)).2.1, (m_pL (s, it, wl, 0) (nC h)).2.2.1)) else (-2, s, hi, kn, it, wl)
def mX_horse (s : Nat → Int32) (h w : Int32) : Int32 := if m_in h 0 9 then (if m_in w 0 8 then s (9 * nC h + 1 + nC w) else -2) else -1
def mX_lesson (s : Nat → Int32) (h g w : Int32) : Int32 := if m_in g 0 2 then (if m_in h 0 99 then (if m_in w 0 2 then (if w = 0 then m_bf s (s 0 + h) g (nC (s 192)) else if w = 1 then 4 - g - m_bf s (s 0 + h) g (nC (s 192)) else m_rfor s (s 0 + h) g (nC (s 192))) else -2) else -2) else -1
def mX_fall (s : Nat → Int32) (k w : Int32) : Int32 := if k < 0 then -2 else if m_in w 0 2 then (if nC k < nC (s 317) then s (318 + 3 * nC k + nC w) else -5) else -2
def mX_reason (s : Nat → Int32) (h r : Int32) : Int32 := if m_in h 0 9 then (if m_in r 0 11 then m_hind s (nC h) (nC r) (m_shod s) else -1) else -1
def mX_best (s it : Nat → Int32) (r : Int32) : Int32 := if m_in r 0 11 then m_best s (zeL it 10) (nC r) (m_shod s) else -1
abbrev m_T3 : Type := (Nat → Int32) × (Nat → Int32) × (Nat → Int32)
def m_tS (q : m_T3) : m_T3 := (m_h0S q.1 q.2.1 q.2.2, zeL q.2.1 10, m_wlL q.1 q.2.2 10)
def m_tkR (h r : Nat) : Nat → Nat → m_T3 → Nat × m_T3
  | 0, n, p => (n, p)
  | f + 1, n, p => if m_hind p.1 h r (m_shod p.1) = 0 then (n, p) else m_tkR h r f (n + 1) (m_tS p)
def m_tk (s it wl : Nat → Int32) (h r : Int32) : Nat × m_T3 := m_tkR (nC h) (nC r) 201 0 (s, it, wl)
abbrev m_okHR (h r : Int32) : Prop := m_in h 0 9 ∧ m_in r 0 11
def mX_takenIn (s as_ it wl : Nat → Int32) (h r : Int32) : Int32 × (Nat → Int32) × (Nat → Int32) × (Nat → Int32) × (Nat → Int32) := if m_in h 0 9 then (if m_in r 0 11 then ((if 200 < (m_tk s it wl h r).1 then -5 else nI (m_tk s it wl h r).1), cpL (cpL s as_ 0 0 378) (m_tk s it wl h r).2.1 0 0 378, cpL s as_ 0 0 378, (m_tk s it wl h r).2.2.1, (m_tk s it wl h r).2.2.2) else (-1, s, as_, it, wl)) else (-1, s, as_, it, wl)
def m_if (s it wl : Nat → Int32) (h : Int32) : m_P4 := m_pL (s, it, wl, 0) (nC h)
def mX_ifPassed (s as_ it wl : Nat → Int32) (h w : Int32) : Int32 × (Nat → Int32) × (Nat → Int32) × (Nat → Int32) × (Nat → Int32) := if m_in h 1 99 then (if m_in w 0 3 then ((if w = 0 then (m_if s it wl h).2.2.2 else if w = 1 then (m_if s it wl h).1 315 - (cpL s as_ 0 0 378) 315 else if w = 2 then (m_if s it wl h).1 314 - (cpL s as_ 0 0 378) 314 else m_lame (m_if s it wl h).1 10), cpL (cpL s as_ 0 0 378) (m_if s it wl h).1 0 0 378, cpL s as_ 0 0 378, (m_if s it wl h).2.1, (m_if s it wl h).2.2.1) else (-2, s, as_, it, wl)) else (-2, s, as_, it, wl)
def m_its (s : Nat → Int32) (h : Nat) : Int32 := m_bf s (s 0 + nI h) 0 (nC (s 192)) + m_bf s (s 0 + nI h) 1 (nC (s 192)) + m_bf s (s 0 + nI h) 2 (nC (s 192))
def m_busL (s : Nat → Int32) : Nat → Int32 × Int32
  | 0 => (-5, 0)
  | h + 1 => if (m_busL s h).2 < m_its s h then (nI h, m_its s h) else m_busL s h
theorem c_X6_record (l : Launch) (G : gG) (a : Nat → Nat) (s as_ hi : Nat → Int32) (kn : Nat) (sn : Nat → Int32) (ik : Int32) (tx : Nat → Int32) (ln : Nat) (it wl : Nat → Int32) (sp : Nat) (iw : Int32) (rs : Nat) (er : Int32) (hk : kn ≤ 4) : CT l yX6_record cX6_record 2 none rm_X6_record G [.ref (a 0)] (wM G a s as_ hi kn sn ik tx ln it wl sp iw rs er) none (fun _ => (wM G a s as_ (m_recH s hi kn) (m_recK kn) sn ik tx ln it wl sp iw rs er)) := by
  rcases (show kn = 0 ∨ kn = 1 ∨ kn = 2 ∨ kn = 3 ∨ kn = 4 by omega) with rfl | rfl | rfl | rfl | rfl
  · exact c_X6_record0 l G a s as_ hi sn ik tx ln it wl sp iw rs er
  · exact c_X6_record1 l G a s as_ hi sn ik tx ln it wl sp iw rs er
  · exact c_X6_record2 l G a s as_ hi sn ik tx ln it wl sp iw rs er
  · exact c_X6_record3 l G a s as_ hi sn ik tx ln it wl sp iw rs er
  · exact c_X6_record4 l G a s as_ hi sn ik tx ln it wl sp iw rs er
def rm_X6_isHorse : Room := { frames := 1, cells := 0, slots := 0, locals := 22 }
set_option maxRecDepth 100000 in
set_option maxHeartbeats 600000 in
theorem c_X6_isHorse (l : Launch) (G : gG) (v : Int32)  : CT l yX6_isHorse cX6_isHorse 1 (some .boolean) rm_X6_isHorse G [.int v] [] (some (.int (bI (¬ (v < 0) ∧ ¬ (9 < v))))) (fun _ => []) := by
  refine gMet (by decide) (Nat.le_of_ble_eq_true rfl) (fun X hX C hr hin E => ?_)
  clear hX
  refine (show gW G X [] 0 0 0 [(0, .int v)] [] from ?_)
  refine x_iload_n C 0 rfl dX6_isHorse_0 rfl ?_
  refine x_iconst (v := (nI 0)) C dX6_isHorse_1 (by decide) ?_
  refine x_bipush (v := (nI 9)) C dX6_isHorse_2 (by decide) ?_
  refine x_callSd (As := [.int v, .int (nI 0), .int (nI 9)]) (rest := []) C dX6_isHorse_4 (c_X6_in (gX.l X) G v 0 9 ) ml_X6_38 st_X6_in in_X6 cd_X6_in hd_X6_in rfl rfl (Nat.le_of_ble_eq_true rfl) ⟨Nat.le_of_ble_eq_true rfl, Nat.le_of_ble_eq_true rfl⟩ [] [] rfl (ws' := []) rfl (st' := [.int (bI (¬ (v < 0) ∧ ¬ (9 < v)))]) rfl ⟨rfl, rfl⟩ ⟨Nat.le_of_ble_eq_true rfl, Nat.le_of_ble_eq_true rfl⟩ ?_
  exact x_zret C hr bI_nar E dX6_isHorse_7 (fun _ => 0) rfl rfl
def rm_X6_isRider : Room := { frames := 1, cells := 0, slots := 0, locals := 22 }
set_option maxRecDepth 100000 in
set_option maxHeartbeats 600000 in
theorem c_X6_isRider (l : Launch) (G : gG) (v : Int32)  : CT l yX6_isRider cX6_isRider 1 (some .boolean) rm_X6_isRider G [.int v] [] (some (.int (bI (¬ (v < 0) ∧ ¬ (11 < v))))) (fun _ => []) := by
  refine gMet (by decide) (Nat.le_of_ble_eq_true rfl) (fun X hX C hr hin E => ?_)
  clear hX
  refine (show gW G X [] 0 0 0 [(0, .int v)] [] from ?_)
  refine x_iload_n C 0 rfl dX6_isRider_0 rfl ?_
  refine x_iconst (v := (nI 0)) C dX6_isRider_1 (by decide) ?_
  refine x_bipush (v := (nI 11)) C dX6_isRider_2 (by decide) ?_
  refine x_callSd (As := [.int v, .int (nI 0), .int (nI 11)]) (rest := []) C dX6_isRider_4 (c_X6_in (gX.l X) G v 0 11 ) ml_X6_38 st_X6_in in_X6 cd_X6_in hd_X6_in rfl rfl (Nat.le_of_ble_eq_true rfl) ⟨Nat.le_of_ble_eq_true rfl, Nat.le_of_ble_eq_true rfl⟩ [] [] rfl (ws' := []) rfl (st' := [.int (bI (¬ (v < 0) ∧ ¬ (11 < v)))]) rfl ⟨rfl, rfl⟩ ⟨Nat.le_of_ble_eq_true rfl, Nat.le_of_ble_eq_true rfl⟩ ?_
  exact x_zret C hr bI_nar E dX6_isRider_7 (fun _ => 0) rfl rfl
def rm_X6_isRing : Room := { frames := 1, cells := 0, slots := 0, locals := 22 }
set_option maxRecDepth 100000 in
set_option maxHeartbeats 600000 in
theorem c_X6_isRing (l : Launch) (G : gG) (v : Int32)  : CT l yX6_isRing cX6_isRing 1 (some .boolean) rm_X6_isRing G [.int v] [] (some (.int (bI (¬ (v < 0) ∧ ¬ (2 < v))))) (fun _ => []) := by
  refine gMet (by decide) (Nat.le_of_ble_eq_true rfl) (fun X hX C hr hin E => ?_)
  clear hX
  refine (show gW G X [] 0 0 0 [(0, .int v)] [] from ?_)
  refine x_iload_n C 0 rfl dX6_isRing_0 rfl ?_
  refine x_iconst (v := (nI 0)) C dX6_isRing_1 (by decide) ?_
  refine x_iconst (v := (nI 2)) C dX6_isRing_2 (by decide) ?_
  refine x_callSd (As := [.int v, .int (nI 0), .int (nI 2)]) (rest := []) C dX6_isRing_3 (c_X6_in (gX.l X) G v 0 2 ) ml_X6_38 st_X6_in in_X6 cd_X6_in hd_X6_in rfl rfl (Nat.le_of_ble_eq_true rfl) ⟨Nat.le_of_ble_eq_true rfl, Nat.le_of_ble_eq_true rfl⟩ [] [] rfl (ws' := []) rfl (st' := [.int (bI (¬ (v < 0) ∧ ¬ (2 < v)))]) rfl ⟨rfl, rfl⟩ ⟨Nat.le_of_ble_eq_true rfl, Nat.le_of_ble_eq_true rfl⟩ ?_
  exact x_zret C hr bI_nar E dX6_isRing_6 (fun _ => 0) rfl rfl
def rm_X6_isAhead : Room := { frames := 1, cells := 0, slots := 0, locals := 22 }
set_option maxRecDepth 100000 in
set_option maxHeartbeats 600000 in
theorem c_X6_isAhead (l : Launch) (G : gG) (v : Int32)  : CT l yX6_isAhead cX6_isAhead 1 (some .boolean) rm_X6_isAhead G [.int v] [] (some (.int (bI (¬ (v < 0) ∧ ¬ (99 < v))))) (fun _ => []) := by
  refine gMet (by decide) (Nat.le_of_ble_eq_true rfl) (fun X hX C hr hin E => ?_)
  clear hX
  refine (show gW G X [] 0 0 0 [(0, .int v)] [] from ?_)
  refine x_iload_n C 0 rfl dX6_isAhead_0 rfl ?_
  refine x_iconst (v := (nI 0)) C dX6_isAhead_1 (by decide) ?_
  refine x_bipush (v := (nI 99)) C dX6_isAhead_2 (by decide) ?_
  refine x_callSd (As := [.int v, .int (nI 0), .int (nI 99)]) (rest := []) C dX6_isAhead_4 (c_X6_in (gX.l X) G v 0 99 ) ml_X6_38 st_X6_in in_X6 cd_X6_in hd_X6_in rfl rfl (Nat.le_of_ble_eq_true rfl) ⟨Nat.le_of_ble_eq_true rfl, Nat.le_of_ble_eq_true rfl⟩ [] [] rfl (ws' := []) rfl (st' := [.int (bI (¬ (v < 0) ∧ ¬ (99 < v)))]) rfl ⟨rfl, rfl⟩ ⟨Nat.le_of_ble_eq_true rfl, Nat.le_of_ble_eq_true rfl⟩ ?_
  exact x_zret C hr bI_nar E dX6_isAhead_7 (fun _ => 0) rfl rfl
def rm_X6_setHorse : Room := { frames := 2, cells := 0, slots := 0, locals := 42 }
set_option maxRecDepth 100000 in
set_option maxHeartbeats 600000 in
theorem c_X6_setHorse (l : Launch) (G : gG) (a : Nat → Nat) (s as_ hi : Nat → Int32) (kn : Nat) (sn : Nat → Int32) (ik : Int32) (tx : Nat → Int32) (ln : Nat) (it wl : Nat → Int32) (sp : Nat) (iw : Int32) (rs : Nat) (er : Int32) (h st te : Int32)  (hk : kn ≤ 4) : CT l yX6_setHorse cX6_setHorse 5 (some .int) rm_X6_setHorse G [.ref (a 0), .int h, .int st, .int te] (wM G a s as_ hi kn sn ik tx ln it wl sp iw rs er) (some (.int ((mX_setHorse s hi kn h st te).1))) (fun _ => (wM G a ((mX_setHorse s hi kn h st te).2.1) as_ ((mX_setHorse s hi kn h st te).2.2.1) ((mX_setHorse s hi kn h st te).2.2.2) sn ik tx ln it wl sp iw rs er)) := by
  refine gMet (by decide) (Nat.le_of_ble_eq_true rfl) (fun X hX C hr hin E => ?_)
  clear hX
  refine (show gW G X (wM G a s as_ hi kn sn ik tx ln it wl sp iw rs er) 0 0 0 [(0, .ref (a 0)), (1, .int h), (2, .int st), (3, .int te)] [] from ?_)
  refine x_iload_n C 1 rfl dX6_setHorse_0 rfl ?_
  refine x_callSd (As := [.int h]) (rest := []) C dX6_setHorse_1 (c_X6_isHorse (gX.l X) G h ) ml_X6_95 st_X6_isHorse in_X6 cd_X6_isHorse hd_X6_isHorse rfl rfl (Nat.le_of_ble_eq_true rfl) ⟨Nat.le_of_ble_eq_true rfl, Nat.le_of_ble_eq_true rfl⟩ [] (wM G a s as_ hi kn sn ik tx ln it wl sp iw rs er) rfl (ws' := (wM G a s as_ hi kn sn ik tx ln it wl sp iw rs er)) rfl (st' := [.int (bI (¬ (h < 0) ∧ ¬ (9 < h)))]) rfl ⟨rfl, rfl⟩ ⟨Nat.le_of_ble_eq_true rfl, Nat.le_of_ble_eq_true rfl⟩ ?_
  refine x_if_neB (P := ¬ (h < 0) ∧ ¬ (9 < h)) (tgt := 9) C dX6_setHorse_4 (by decide) (fun c1 => ?_) (fun c1 => ?_)
  · refine x_iload_n C 2 rfl dX6_setHorse_9 rfl ?_
    refine x_bipush (v := (nI 20)) C dX6_setHorse_10 (by decide) ?_
    refine x_sipush (v := (nI 150)) C dX6_setHorse_12 (by decide) ?_
    refine x_callSd (As := [.int st, .int (nI 20), .int (nI 150)]) (rest := []) C dX6_setHorse_15 (c_X6_in (gX.l X) G st 20 150 ) ml_X6_38 st_X6_in in_X6 cd_X6_in hd_X6_in rfl rfl (Nat.le_of_ble_eq_true rfl) ⟨Nat.le_of_ble_eq_true rfl, Nat.le_of_ble_eq_true rfl⟩ [] (wM G a s as_ hi kn sn ik tx ln it wl sp iw rs er) rfl (ws' := (wM G a s as_ hi kn sn ik tx ln it wl sp iw rs er)) rfl (st' := [.int (bI (¬ (st < 20) ∧ ¬ (150 < st)))]) rfl ⟨rfl, rfl⟩ ⟨Nat.le_of_ble_eq_true rfl, Nat.le_of_ble_eq_true rfl⟩ ?_
    refine x_if_eqB (P := ¬ (st < 20) ∧ ¬ (150 < st)) (tgt := 31) C dX6_setHorse_18 (by decide) (fun c2 => ?_) (fun c2 => ?_)
    · refine x_bipush (v := (-2)) C dX6_setHorse_31 (by decide) ?_
      exact x_iret C hr E dX6_setHorse_33 (fun _ => 0) (by simp only [mX_setHorse, m_in, c1, c2,  if_true, if_false, ite_true, ite_false, and_true, true_and, and_false, false_and, or_true, true_or, or_false, false_or, not_true_eq_false, not_false_eq_true, and_self, or_self] <;> rfl) (by simp only [mX_setHorse, m_in, c1, c2,  if_true, if_false, ite_true, ite_false, and_true, true_and, and_false, false_and, or_true, true_or, or_false, false_or, not_true_eq_false, not_false_eq_true, and_self, or_self])
    · refine x_iload_n C 3 rfl dX6_setHorse_21 rfl ?_
      refine x_iconst (v := (nI 0)) C dX6_setHorse_22 (by decide) ?_
      refine x_bipush (v := (nI 9)) C dX6_setHorse_23 (by decide) ?_
      refine x_callSd (As := [.int te, .int (nI 0), .int (nI 9)]) (rest := []) C dX6_setHorse_25 (c_X6_in (gX.l X) G te 0 9 ) ml_X6_38 st_X6_in in_X6 cd_X6_in hd_X6_in rfl rfl (Nat.le_of_ble_eq_true rfl) ⟨Nat.le_of_ble_eq_true rfl, Nat.le_of_ble_eq_true rfl⟩ [] (wM G a s as_ hi kn sn ik tx ln it wl sp iw rs er) rfl (ws' := (wM G a s as_ hi kn sn ik tx ln it wl sp iw rs er)) rfl (st' := [.int (bI (¬ (te < 0) ∧ ¬ (9 < te)))]) rfl ⟨rfl, rfl⟩ ⟨Nat.le_of_ble_eq_true rfl, Nat.le_of_ble_eq_true rfl⟩ ?_
      refine x_if_neB (P := ¬ (te < 0) ∧ ¬ (9 < te)) (tgt := 34) C dX6_setHorse_28 (by decide) (fun c3 => ?_) (fun c3 => ?_)
      · have hN := g_in (x := h) (n := 9) (by decide) (by assumption)
        refine x_aload_n C 0 rfl dX6_setHorse_34 rfl ?_
        refine x_get (k := 0) (v := .ref (a 1)) C dX6_setHorse_35 layX6 fl_X6_7 0 rfl rfl (by decide) rfl ?_
        refine x_iload_n C 1 rfl dX6_setHorse_38 rfl ?_
        refine x_top (y := (nI (nC h))) hN.2 ?_
        refine x_iconst (v := (nI 0)) C dX6_setHorse_39 (by decide) ?_
        refine x_callSd (As := [.int (nI (nC h)), .int (nI 0)]) (rest := [.ref (a 1)]) C dX6_setHorse_40 (c_X6_of (gX.l X) G (nC h) 0 (9 * (nC h) + 1) (by omega)) ml_X6_31 st_X6_of in_X6 cd_X6_of hd_X6_of rfl rfl (Nat.le_of_ble_eq_true rfl) ⟨Nat.le_of_ble_eq_true rfl, Nat.le_of_ble_eq_true rfl⟩ [] (wM G a s as_ hi kn sn ik tx ln it wl sp iw rs er) rfl (ws' := (wM G a s as_ hi kn sn ik tx ln it wl sp iw rs er)) rfl (st' := [.int (nI (9 * (nC h) + 1)), .ref (a 1)]) rfl ⟨rfl, rfl⟩ ⟨Nat.le_of_ble_eq_true rfl, Nat.le_of_ble_eq_true rfl⟩ ?_
        refine x_iald (j := (9 * (nC h) + 1)) C dX6_setHorse_43 1 rfl rfl (by omega) (by omega) ?_
        refine x_istore (lv' := [(4, .int (s (9 * (nC h) + 1))), (0, .ref (a 0)), (1, .int h), (2, .int st), (3, .int te)]) C dX6_setHorse_44 (by decide) rfl ?_
        refine x_iload C 0 rfl dX6_setHorse_46 ?_
        refine x_iload_n C 3 rfl dX6_setHorse_48 rfl ?_
        refine x_icmp_ne (x := (s (9 * (nC h) + 1))) (y := st) (tgt := 69) C dX6_setHorse_49 (by decide) (fun c4 => ?_) (fun c4 => ?_)
        · refine x_aload_n C 1 rfl dX6_setHorse_69 rfl ?_
          refine x_callVd (As := []) (rest := []) C dX6_setHorse_70 (c_X6_record (gX.l X) G a s as_ hi kn sn ik tx ln it wl sp iw rs er (by omega)) ml_X6_99 im_X6_record sl_X6_record in_X6 cd_X6_record hd_X6_record 0 rfl rfl rfl rfl (Nat.le_of_ble_eq_true rfl) ⟨Nat.le_of_ble_eq_true rfl, Nat.le_of_ble_eq_true rfl⟩ (List.take 0 (wM G a s as_ hi kn sn ik tx ln it wl sp iw rs er)) (List.drop 8 (wM G a s as_ hi kn sn ik tx ln it wl sp iw rs er)) rfl (ws' := (wM G a s as_ (m_recH s hi kn) (m_recK kn) sn ik tx ln it wl sp iw rs er)) rfl (st' := []) rfl ⟨rfl, rfl⟩ ⟨Nat.le_of_ble_eq_true rfl, Nat.le_of_ble_eq_true rfl⟩ ?_
          refine x_aload_n C 1 rfl dX6_setHorse_73 rfl ?_
          refine x_get (k := 0) (v := .ref (a 1)) C dX6_setHorse_74 layX6 fl_X6_7 0 rfl rfl (by decide) rfl ?_
          refine x_iload_n C 2 rfl dX6_setHorse_77 rfl ?_
          refine x_top (y := (nI (nC h))) hN.2 ?_
          refine x_iconst (v := (nI 0)) C dX6_setHorse_78 (by decide) ?_
          refine x_callSd (As := [.int (nI (nC h)), .int (nI 0)]) (rest := [.ref (a 1)]) C dX6_setHorse_79 (c_X6_of (gX.l X) G (nC h) 0 (9 * (nC h) + 1) (by omega)) ml_X6_31 st_X6_of in_X6 cd_X6_of hd_X6_of rfl rfl (Nat.le_of_ble_eq_true rfl) ⟨Nat.le_of_ble_eq_true rfl, Nat.le_of_ble_eq_true rfl⟩ [] (wM G a s as_ (m_recH s hi kn) (m_recK kn) sn ik tx ln it wl sp iw rs er) rfl (ws' := (wM G a s as_ (m_recH s hi kn) (m_recK kn) sn ik tx ln it wl sp iw rs er)) rfl (st' := [.int (nI (9 * (nC h) + 1)), .ref (a 1)]) rfl ⟨rfl, rfl⟩ ⟨Nat.le_of_ble_eq_true rfl, Nat.le_of_ble_eq_true rfl⟩ ?_
          refine x_iload_n C 3 rfl dX6_setHorse_82 rfl ?_
          refine x_iast (j := (9 * (nC h) + 1)) (x := st) (ws' := (wM G a (upd s (9 * (nC h) + 1) st) as_ (m_recH s hi kn) (m_recK kn) sn ik tx ln it wl sp iw rs er)) C dX6_setHorse_83 1 rfl rfl (by omega) (by omega) rfl ?_
          refine x_aload_n C 1 rfl dX6_setHorse_84 rfl ?_
          refine x_get (k := 0) (v := .ref (a 1)) C dX6_setHorse_85 layX6 fl_X6_7 0 rfl rfl (by decide) rfl ?_
          refine x_iload_n C 2 rfl dX6_setHorse_88 rfl ?_
          refine x_top (y := (nI (nC h))) hN.2 ?_
          refine x_iconst (v := (nI 1)) C dX6_setHorse_89 (by decide) ?_
          refine x_callSd (As := [.int (nI (nC h)), .int (nI 1)]) (rest := [.ref (a 1)]) C dX6_setHorse_90 (c_X6_of (gX.l X) G (nC h) 1 (9 * (nC h) + 2) (by omega)) ml_X6_31 st_X6_of in_X6 cd_X6_of hd_X6_of rfl rfl (Nat.le_of_ble_eq_true rfl) ⟨Nat.le_of_ble_eq_true rfl, Nat.le_of_ble_eq_true rfl⟩ [] (wM G a (upd s (9 * (nC h) + 1) st) as_ (m_recH s hi kn) (m_recK kn) sn ik tx ln it wl sp iw rs er) rfl (ws' := (wM G a (upd s (9 * (nC h) + 1) st) as_ (m_recH s hi kn) (m_recK kn) sn ik tx ln it wl sp iw rs er)) rfl (st' := [.int (nI (9 * (nC h) + 2)), .ref (a 1)]) rfl ⟨rfl, rfl⟩ ⟨Nat.le_of_ble_eq_true rfl, Nat.le_of_ble_eq_true rfl⟩ ?_
          refine x_iload_n C 4 rfl dX6_setHorse_93 rfl ?_
          refine x_iast (j := (9 * (nC h) + 2)) (x := te) (ws' := (wM G a (upd (upd s (9 * (nC h) + 1) st) (9 * (nC h) + 2) te) as_ (m_recH s hi kn) (m_recK kn) sn ik tx ln it wl sp iw rs er)) C dX6_setHorse_94 1 rfl rfl (by omega) (by omega) rfl ?_
          refine x_iload C 0 rfl dX6_setHorse_95 ?_
          exact x_iret C hr E dX6_setHorse_97 (fun _ => 0) (by simp only [mX_setHorse, m_in, c1, c2, c3, c4,  if_true, if_false, ite_true, ite_false, and_true, true_and, and_false, false_and, or_true, true_or, or_false, false_or, not_true_eq_false, not_false_eq_true, and_self, or_self] <;> rfl) (by simp only [mX_setHorse, m_in, c1, c2, c3, c4,  if_true, if_false, ite_true, ite_false, and_true, true_and, and_false, false_and, or_true, true_or, or_false, false_or, not_true_eq_false, not_false_eq_true, and_self, or_self])
        · refine x_aload_n C 1 rfl dX6_setHorse_52 rfl ?_
          refine x_get (k := 0) (v := .ref (a 1)) C dX6_setHorse_53 layX6 fl_X6_7 0 rfl rfl (by decide) rfl ?_
          refine x_iload_n C 2 rfl dX6_setHorse_56 rfl ?_
          refine x_top (y := (nI (nC h))) hN.2 ?_
          refine x_iconst (v := (nI 1)) C dX6_setHorse_57 (by decide) ?_
          refine x_callSd (As := [.int (nI (nC h)), .int (nI 1)]) (rest := [.ref (a 1)]) C dX6_setHorse_58 (c_X6_of (gX.l X) G (nC h) 1 (9 * (nC h) + 2) (by omega)) ml_X6_31 st_X6_of in_X6 cd_X6_of hd_X6_of rfl rfl (Nat.le_of_ble_eq_true rfl) ⟨Nat.le_of_ble_eq_true rfl, Nat.le_of_ble_eq_true rfl⟩ [] (wM G a s as_ hi kn sn ik tx ln it wl sp iw rs er) rfl (ws' := (wM G a s as_ hi kn sn ik tx ln it wl sp iw rs er)) rfl (st' := [.int (nI (9 * (nC h) + 2)), .ref (a 1)]) rfl ⟨rfl, rfl⟩ ⟨Nat.le_of_ble_eq_true rfl, Nat.le_of_ble_eq_true rfl⟩ ?_
          refine x_iald (j := (9 * (nC h) + 2)) C dX6_setHorse_61 1 rfl rfl (by omega) (by omega) ?_
          refine x_iload_n C 4 rfl dX6_setHorse_62 rfl ?_
          refine x_icmp_ne (x := (s (9 * (nC h) + 2))) (y := te) (tgt := 69) C dX6_setHorse_63 (by decide) (fun c5 => ?_) (fun c5 => ?_)
          · refine x_aload_n C 1 rfl dX6_setHorse_69 rfl ?_
            refine x_callVd (As := []) (rest := []) C dX6_setHorse_70 (c_X6_record (gX.l X) G a s as_ hi kn sn ik tx ln it wl sp iw rs er (by omega)) ml_X6_99 im_X6_record sl_X6_record in_X6 cd_X6_record hd_X6_record 0 rfl rfl rfl rfl (Nat.le_of_ble_eq_true rfl) ⟨Nat.le_of_ble_eq_true rfl, Nat.le_of_ble_eq_true rfl⟩ (List.take 0 (wM G a s as_ hi kn sn ik tx ln it wl sp iw rs er)) (List.drop 8 (wM G a s as_ hi kn sn ik tx ln it wl sp iw rs er)) rfl (ws' := (wM G a s as_ (m_recH s hi kn) (m_recK kn) sn ik tx ln it wl sp iw rs er)) rfl (st' := []) rfl ⟨rfl, rfl⟩ ⟨Nat.le_of_ble_eq_true rfl, Nat.le_of_ble_eq_true rfl⟩ ?_
            refine x_aload_n C 1 rfl dX6_setHorse_73 rfl ?_
            refine x_get (k := 0) (v := .ref (a 1)) C dX6_setHorse_74 layX6 fl_X6_7 0 rfl rfl (by decide) rfl ?_
            refine x_iload_n C 2 rfl dX6_setHorse_77 rfl ?_
            refine x_top (y := (nI (nC h))) hN.2 ?_
            refine x_iconst (v := (nI 0)) C dX6_setHorse_78 (by decide) ?_
            refine x_callSd (As := [.int (nI (nC h)), .int (nI 0)]) (rest := [.ref (a 1)]) C dX6_setHorse_79 (c_X6_of (gX.l X) G (nC h) 0 (9 * (nC h) + 1) (by omega)) ml_X6_31 st_X6_of in_X6 cd_X6_of hd_X6_of rfl rfl (Nat.le_of_ble_eq_true rfl) ⟨Nat.le_of_ble_eq_true rfl, Nat.le_of_ble_eq_true rfl⟩ [] (wM G a s as_ (m_recH s hi kn) (m_recK kn) sn ik tx ln it wl sp iw rs er) rfl (ws' := (wM G a s as_ (m_recH s hi kn) (m_recK kn) sn ik tx ln it wl sp iw rs er)) rfl (st' := [.int (nI (9 * (nC h) + 1)), .ref (a 1)]) rfl ⟨rfl, rfl⟩ ⟨Nat.le_of_ble_eq_true rfl, Nat.le_of_ble_eq_true rfl⟩ ?_
            refine x_iload_n C 3 rfl dX6_setHorse_82 rfl ?_
            refine x_iast (j := (9 * (nC h) + 1)) (x := st) (ws' := (wM G a (upd s (9 * (nC h) + 1) st) as_ (m_recH s hi kn) (m_recK kn) sn ik tx ln it wl sp iw rs er)) C dX6_setHorse_83 1 rfl rfl (by omega) (by omega) rfl ?_
            refine x_aload_n C 1 rfl dX6_setHorse_84 rfl ?_
            refine x_get (k := 0) (v := .ref (a 1)) C dX6_setHorse_85 layX6 fl_X6_7 0 rfl rfl (by decide) rfl ?_
            refine x_iload_n C 2 rfl dX6_setHorse_88 rfl ?_
            refine x_top (y := (nI (nC h))) hN.2 ?_
            refine x_iconst (v := (nI 1)) C dX6_setHorse_89 (by decide) ?_
            refine x_callSd (As := [.int (nI (nC h)), .int (nI 1)]) (rest := [.ref (a 1)]) C dX6_setHorse_90 (c_X6_of (gX.l X) G (nC h) 1 (9 * (nC h) + 2) (by omega)) ml_X6_31 st_X6_of in_X6 cd_X6_of hd_X6_of rfl rfl (Nat.le_of_ble_eq_true rfl) ⟨Nat.le_of_ble_eq_true rfl, Nat.le_of_ble_eq_true rfl⟩ [] (wM G a (upd s (9 * (nC h) + 1) st) as_ (m_recH s hi kn) (m_recK kn) sn ik tx ln it wl sp iw rs er) rfl (ws' := (wM G a (upd s (9 * (nC h) + 1) st) as_ (m_recH s hi kn) (m_recK kn) sn ik tx ln it wl sp iw rs er)) rfl (st' := [.int (nI (9 * (nC h) + 2)), .ref (a 1)]) rfl ⟨rfl, rfl⟩ ⟨Nat.le_of_ble_eq_true rfl, Nat.le_of_ble_eq_true rfl⟩ ?_
            refine x_iload_n C 4 rfl dX6_setHorse_93 rfl ?_
            refine x_iast (j := (9 * (nC h) + 2)) (x := te) (ws' := (wM G a (upd (upd s (9 * (nC h) + 1) st) (9 * (nC h) + 2) te) as_ (m_recH s hi kn) (m_recK kn) sn ik tx ln it wl sp iw rs er)) C dX6_setHorse_94 1 rfl rfl (by omega) (by omega) rfl ?_
            refine x_iload C 0 rfl dX6_setHorse_95 ?_
            exact x_iret C hr E dX6_setHorse_97 (fun _ => 0) (by simp only [mX_setHorse, m_in, c1, c2, c3, c4, c5,  if_true, if_false, ite_true, ite_false, and_true, true_and, and_false, false_and, or_true, true_or, or_false, false_or, not_true_eq_false, not_false_eq_true, and_self, or_self] <;> rfl) (by simp only [mX_setHorse, m_in, c1, c2, c3, c4, c5,  if_true, if_false, ite_true, ite_false, and_true, true_and, and_false, false_and, or_true, true_or, or_false, false_or, not_true_eq_false, not_false_eq_true, and_self, or_self])
          · refine x_bipush (v := (-5)) C dX6_setHorse_66 (by decide) ?_
            exact x_iret C hr E dX6_setHorse_68 (fun _ => 0) (by simp only [mX_setHorse, m_in, c1, c2, c3, c4, c5,  if_true, if_false, ite_true, ite_false, and_true, true_and, and_false, false_and, or_true, true_or, or_false, false_or, not_true_eq_false, not_false_eq_true, and_self, or_self] <;> rfl) (by simp only [mX_setHorse, m_in, c1, c2, c3, c4, c5,  if_true, if_false, ite_true, ite_false, and_true, true_and, and_false, false_and, or_true, true_or, or_false, false_or, not_true_eq_false, not_false_eq_true, and_self, or_self])
      · refine x_bipush (v := (-2)) C dX6_setHorse_31 (by decide) ?_
        exact x_iret C hr E dX6_setHorse_33 (fun _ => 0) (by simp only [mX_setHorse, m_in, c1, c2, c3,  if_true, if_false, ite_true, ite_false, and_true, true_and, and_false, false_and, or_true, true_or, or_false, false_or, not_true_eq_false, not_false_eq_true, and_self, or_self] <;> rfl) (by simp only [mX_setHorse, m_in, c1, c2, c3,  if_true, if_false, ite_true, ite_false, and_true, true_and, and_false, false_and, or_true, true_or, or_false, false_or, not_true_eq_false, not_false_eq_true, and_self, or_self])
  · refine x_iconst (v := (-1)) C dX6_setHorse_7 (by decide) ?_
    exact x_iret C hr E dX6_setHorse_8 (fun _ => 0) (by simp only [mX_setHorse, m_in, c1,  if_true, if_false, ite_true, ite_false, and_true, true_and, and_false, false_and, or_true, true_or, or_false, false_or, not_true_eq_false, not_false_eq_true, and_self, or_self] <;> rfl) (by simp only [mX_setHorse, m_in, c1,  if_true, if_false, ite_true, ite_false, and_true, true_and, and_false, false_and, or_true, true_or, or_false, false_or, not_true_eq_false, not_false_eq_true, and_self, or_self])
def rm_X6_setRider : Room := { frames := 2, cells := 0, slots := 0, locals := 42 }
set_option maxRecDepth 100000 in
set_option maxHeartbeats 600000 in
theorem c_X6_setRider (l : Launch) (G : gG) (a : Nat → Nat) (s as_ hi : Nat → Int32) (kn : Nat) (sn : Nat → Int32) (ik : Int32) (tx : Nat → Int32) (ln : Nat) (it wl : Nat → Int32) (sp : Nat) (iw : Int32) (rs : Nat) (er : Int32) (r w k : Int32)  (hk : kn ≤ 4) : CT l yX6_setRider cX6_setRider 5 (some .int) rm_X6_setRider G [.ref (a 0), .int r, .int w, .int k] (wM G a s as_ hi kn sn ik tx ln it wl sp iw rs er) (some (.int ((mX_setRider s hi kn r w k).1))) (fun _ => (wM G a ((mX_setRider s hi kn r w k).2.1) as_ ((mX_setRider s hi kn r w k).2.2.1) ((mX_setRider s hi kn r w k).2.2.2) sn ik tx ln it wl sp iw rs er)) := by
  refine gMet (by decide) (Nat.le_of_ble_eq_true rfl) (fun X hX C hr hin E => ?_)
  clear hX
  refine (show gW G X (wM G a s as_ hi kn sn ik tx ln it wl sp iw rs er) 0 0 0 [(0, .ref (a 0)), (1, .int r), (2, .int w), (3, .int k)] [] from ?_)
  refine x_iload_n C 1 rfl dX6_setRider_0 rfl ?_
  refine x_callSd (As := [.int r]) (rest := []) C dX6_setRider_1 (c_X6_isRider (gX.l X) G r ) ml_X6_102 st_X6_isRider in_X6 cd_X6_isRider hd_X6_isRider rfl rfl (Nat.le_of_ble_eq_true rfl) ⟨Nat.le_of_ble_eq_true rfl, Nat.le_of_ble_eq_true rfl⟩ [] (wM G a s as_ hi kn sn ik tx ln it wl sp iw rs er) rfl (ws' := (wM G a s as_ hi kn sn ik tx ln it wl sp iw rs er)) rfl (st' := [.int (bI (¬ (r < 0) ∧ ¬ (11 < r)))]) rfl ⟨rfl, rfl⟩ ⟨Nat.le_of_ble_eq_true rfl, Nat.le_of_ble_eq_true rfl⟩ ?_
  refine x_if_neB (P := ¬ (r < 0) ∧ ¬ (11 < r)) (tgt := 9) C dX6_setRider_4 (by decide) (fun c1 => ?_) (fun c1 => ?_)
  · refine x_iload_n C 2 rfl dX6_setRider_9 rfl ?_
    refine x_bipush (v := (nI 20)) C dX6_setRider_10 (by decide) ?_
    refine x_sipush (v := (nI 150)) C dX6_setRider_12 (by decide) ?_
    refine x_callSd (As := [.int w, .int (nI 20), .int (nI 150)]) (rest := []) C dX6_setRider_15 (c_X6_in (gX.l X) G w 20 150 ) ml_X6_38 st_X6_in in_X6 cd_X6_in hd_X6_in rfl rfl (Nat.le_of_ble_eq_true rfl) ⟨Nat.le_of_ble_eq_true rfl, Nat.le_of_ble_eq_true rfl⟩ [] (wM G a s as_ hi kn sn ik tx ln it wl sp iw rs er) rfl (ws' := (wM G a s as_ hi kn sn ik tx ln it wl sp iw rs er)) rfl (st' := [.int (bI (¬ (w < 20) ∧ ¬ (150 < w)))]) rfl ⟨rfl, rfl⟩ ⟨Nat.le_of_ble_eq_true rfl, Nat.le_of_ble_eq_true rfl⟩ ?_
    refine x_if_eqB (P := ¬ (w < 20) ∧ ¬ (150 < w)) (tgt := 31) C dX6_setRider_18 (by decide) (fun c2 => ?_) (fun c2 => ?_)
    · refine x_bipush (v := (-2)) C dX6_setRider_31 (by decide) ?_
      exact x_iret C hr E dX6_setRider_33 (fun _ => 0) (by simp only [mX_setRider, m_in, c1, c2,  if_true, if_false, ite_true, ite_false, and_true, true_and, and_false, false_and, or_true, true_or, or_false, false_or, not_true_eq_false, not_false_eq_true, and_self, or_self] <;> rfl) (by simp only [mX_setRider, m_in, c1, c2,  if_true, if_false, ite_true, ite_false, and_true, true_and, and_false, false_and, or_true, true_or, or_false, false_or, not_true_eq_false, not_false_eq_true, and_self, or_self])
    · refine x_iload_n C 3 rfl dX6_setRider_21 rfl ?_
      refine x_iconst (v := (nI 0)) C dX6_setRider_22 (by decide) ?_
      refine x_bipush (v := (nI 9)) C dX6_setRider_23 (by decide) ?_
      refine x_callSd (As := [.int k, .int (nI 0), .int (nI 9)]) (rest := []) C dX6_setRider_25 (c_X6_in (gX.l X) G k 0 9 ) ml_X6_38 st_X6_in in_X6 cd_X6_in hd_X6_in rfl rfl (Nat.le_of_ble_eq_true rfl) ⟨Nat.le_of_ble_eq_true rfl, Nat.le_of_ble_eq_true rfl⟩ [] (wM G a s as_ hi kn sn ik tx ln it wl sp iw rs er) rfl (ws' := (wM G a s as_ hi kn sn ik tx ln it wl sp iw rs er)) rfl (st' := [.int (bI (¬ (k < 0) ∧ ¬ (9 < k)))]) rfl ⟨rfl, rfl⟩ ⟨Nat.le_of_ble_eq_true rfl, Nat.le_of_ble_eq_true rfl⟩ ?_
      refine x_if_neB (P := ¬ (k < 0) ∧ ¬ (9 < k)) (tgt := 34) C dX6_setRider_28 (by decide) (fun c3 => ?_) (fun c3 => ?_)
      · have hN := g_in (x := r) (n := 11) (by decide) (by assumption)
        refine x_aload_n C 0 rfl dX6_setRider_34 rfl ?_
        refine x_callVd (As := []) (rest := []) C dX6_setRider_35 (c_X6_record (gX.l X) G a s as_ hi kn sn ik tx ln it wl sp iw rs er (by omega)) ml_X6_99 im_X6_record sl_X6_record in_X6 cd_X6_record hd_X6_record 0 rfl rfl rfl rfl (Nat.le_of_ble_eq_true rfl) ⟨Nat.le_of_ble_eq_true rfl, Nat.le_of_ble_eq_true rfl⟩ (List.take 0 (wM G a s as_ hi kn sn ik tx ln it wl sp iw rs er)) (List.drop 8 (wM G a s as_ hi kn sn ik tx ln it wl sp iw rs er)) rfl (ws' := (wM G a s as_ (m_recH s hi kn) (m_recK kn) sn ik tx ln it wl sp iw rs er)) rfl (st' := []) rfl ⟨rfl, rfl⟩ ⟨Nat.le_of_ble_eq_true rfl, Nat.le_of_ble_eq_true rfl⟩ ?_
        refine x_aload_n C 0 rfl dX6_setRider_38 rfl ?_
        refine x_get (k := 0) (v := .ref (a 1)) C dX6_setRider_39 layX6 fl_X6_7 0 rfl rfl (by decide) rfl ?_
        refine x_iload_n C 1 rfl dX6_setRider_42 rfl ?_
        refine x_top (y := (nI (nC r))) hN.2 ?_
        refine x_iconst (v := (nI 0)) C dX6_setRider_43 (by decide) ?_
        refine x_callSd (As := [.int (nI (nC r)), .int (nI 0)]) (rest := [.ref (a 1)]) C dX6_setRider_44 (c_X6_ofRider (gX.l X) G (nC r) 0 (8 * (nC r) + 91) (by omega)) ml_X6_35 st_X6_ofRider in_X6 cd_X6_ofRider hd_X6_ofRider rfl rfl (Nat.le_of_ble_eq_true rfl) ⟨Nat.le_of_ble_eq_true rfl, Nat.le_of_ble_eq_true rfl⟩ [] (wM G a s as_ (m_recH s hi kn) (m_recK kn) sn ik tx ln it wl sp iw rs er) rfl (ws' := (wM G a s as_ (m_recH s hi kn) (m_recK kn) sn ik tx ln it wl sp iw rs er)) rfl (st' := [.int (nI (8 * (nC r) + 91)), .ref (a 1)]) rfl ⟨rfl, rfl⟩ ⟨Nat.le_of_ble_eq_true rfl, Nat.le_of_ble_eq_true rfl⟩ ?_
        refine x_iald (j := (8 * (nC r) + 91)) C dX6_setRider_47 1 rfl rfl (by omega) (by omega) ?_
        refine x_istore (lv' := [(4, .int (s (8 * (nC r) + 91))), (0, .ref (a 0)), (1, .int r), (2, .int w), (3, .int k)]) C dX6_setRider_48 (by decide) rfl ?_
        refine x_aload_n C 1 rfl dX6_setRider_50 rfl ?_
        refine x_get (k := 0) (v := .ref (a 1)) C dX6_setRider_51 layX6 fl_X6_7 0 rfl rfl (by decide) rfl ?_
        refine x_iload_n C 2 rfl dX6_setRider_54 rfl ?_
        refine x_top (y := (nI (nC r))) hN.2 ?_
        refine x_iconst (v := (nI 0)) C dX6_setRider_55 (by decide) ?_
        refine x_callSd (As := [.int (nI (nC r)), .int (nI 0)]) (rest := [.ref (a 1)]) C dX6_setRider_56 (c_X6_ofRider (gX.l X) G (nC r) 0 (8 * (nC r) + 91) (by omega)) ml_X6_35 st_X6_ofRider in_X6 cd_X6_ofRider hd_X6_ofRider rfl rfl (Nat.le_of_ble_eq_true rfl) ⟨Nat.le_of_ble_eq_true rfl, Nat.le_of_ble_eq_true rfl⟩ [] (wM G a s as_ (m_recH s hi kn) (m_recK kn) sn ik tx ln it wl sp iw rs er) rfl (ws' := (wM G a s as_ (m_recH s hi kn) (m_recK kn) sn ik tx ln it wl sp iw rs er)) rfl (st' := [.int (nI (8 * (nC r) + 91)), .ref (a 1)]) rfl ⟨rfl, rfl⟩ ⟨Nat.le_of_ble_eq_true rfl, Nat.le_of_ble_eq_true rfl⟩ ?_
        refine x_iload_n C 3 rfl dX6_setRider_59 rfl ?_
        refine x_iast (j := (8 * (nC r) + 91)) (x := w) (ws' := (wM G a (upd s (8 * (nC r) + 91) w) as_ (m_recH s hi kn) (m_recK kn) sn ik tx ln it wl sp iw rs er)) C dX6_setRider_60 1 rfl rfl (by omega) (by omega) rfl ?_
        refine x_aload_n C 1 rfl dX6_setRider_61 rfl ?_
        refine x_get (k := 0) (v := .ref (a 1)) C dX6_setRider_62 layX6 fl_X6_7 0 rfl rfl (by decide) rfl ?_
        refine x_iload_n C 2 rfl dX6_setRider_65 rfl ?_
        refine x_top (y := (nI (nC r))) hN.2 ?_
        refine x_iconst (v := (nI 1)) C dX6_setRider_66 (by decide) ?_
        refine x_callSd (As := [.int (nI (nC r)), .int (nI 1)]) (rest := [.ref (a 1)]) C dX6_setRider_67 (c_X6_ofRider (gX.l X) G (nC r) 1 (8 * (nC r) + 92) (by omega)) ml_X6_35 st_X6_ofRider in_X6 cd_X6_ofRider hd_X6_ofRider rfl rfl (Nat.le_of_ble_eq_true rfl) ⟨Nat.le_of_ble_eq_true rfl, Nat.le_of_ble_eq_true rfl⟩ [] (wM G a (upd s (8 * (nC r) + 91) w) as_ (m_recH s hi kn) (m_recK kn) sn ik tx ln it wl sp iw rs er) rfl (ws' := (wM G a (upd s (8 * (nC r) + 91) w) as_ (m_recH s hi kn) (m_recK kn) sn ik tx ln it wl sp iw rs er)) rfl (st' := [.int (nI (8 * (nC r) + 92)), .ref (a 1)]) rfl ⟨rfl, rfl⟩ ⟨Nat.le_of_ble_eq_true rfl, Nat.le_of_ble_eq_true rfl⟩ ?_
        refine x_iload_n C 4 rfl dX6_setRider_70 rfl ?_
        refine x_iast (j := (8 * (nC r) + 92)) (x := k) (ws' := (wM G a (upd (upd s (8 * (nC r) + 91) w) (8 * (nC r) + 92) k) as_ (m_recH s hi kn) (m_recK kn) sn ik tx ln it wl sp iw rs er)) C dX6_setRider_71 1 rfl rfl (by omega) (by omega) rfl ?_
        refine x_aload_n C 1 rfl dX6_setRider_72 rfl ?_
        refine x_get (k := 0) (v := .ref (a 1)) C dX6_setRider_73 layX6 fl_X6_7 0 rfl rfl (by decide) rfl ?_
        refine x_iload_n C 2 rfl dX6_setRider_76 rfl ?_
        refine x_top (y := (nI (nC r))) hN.2 ?_
        refine x_iconst (v := (nI 2)) C dX6_setRider_77 (by decide) ?_
        refine x_callSd (As := [.int (nI (nC r)), .int (nI 2)]) (rest := [.ref (a 1)]) C dX6_setRider_78 (c_X6_ofRider (gX.l X) G (nC r) 2 (8 * (nC r) + 93) (by omega)) ml_X6_35 st_X6_ofRider in_X6 cd_X6_ofRider hd_X6_ofRider rfl rfl (Nat.le_of_ble_eq_true rfl) ⟨Nat.le_of_ble_eq_true rfl, Nat.le_of_ble_eq_true rfl⟩ [] (wM G a (upd (upd s (8 * (nC r) + 91) w) (8 * (nC r) + 92) k) as_ (m_recH s hi kn) (m_recK kn) sn ik tx ln it wl sp iw rs er) rfl (ws' := (wM G a (upd (upd s (8 * (nC r) + 91) w) (8 * (nC r) + 92) k) as_ (m_recH s hi kn) (m_recK kn) sn ik tx ln it wl sp iw rs er)) rfl (st' := [.int (nI (8 * (nC r) + 93)), .ref (a 1)]) rfl ⟨rfl, rfl⟩ ⟨Nat.le_of_ble_eq_true rfl, Nat.le_of_ble_eq_true rfl⟩ ?_
        refine x_iconst (v := (nI 0)) C dX6_setRider_81 (by decide) ?_
        refine x_iast (j := (8 * (nC r) + 93)) (x := 0) (ws' := (wM G a (upd (upd (upd s (8 * (nC r) + 91) w) (8 * (nC r) + 92) k) (8 * (nC r) + 93) 0) as_ (m_recH s hi kn) (m_recK kn) sn ik tx ln it wl sp iw rs er)) C dX6_setRider_82 1 rfl rfl (by omega) (by omega) rfl ?_
        refine x_aload_n C 1 rfl dX6_setRider_83 rfl ?_
        refine x_get (k := 0) (v := .ref (a 1)) C dX6_setRider_84 layX6 fl_X6_7 0 rfl rfl (by decide) rfl ?_
        refine x_iload_n C 2 rfl dX6_setRider_87 rfl ?_
        refine x_top (y := (nI (nC r))) hN.2 ?_
        refine x_iconst (v := (nI 3)) C dX6_setRider_88 (by decide) ?_
        refine x_callSd (As := [.int (nI (nC r)), .int (nI 3)]) (rest := [.ref (a 1)]) C dX6_setRider_89 (c_X6_ofRider (gX.l X) G (nC r) 3 (8 * (nC r) + 94) (by omega)) ml_X6_35 st_X6_ofRider in_X6 cd_X6_ofRider hd_X6_ofRider rfl rfl (Nat.le_of_ble_eq_true rfl) ⟨Nat.le_of_ble_eq_true rfl, Nat.le_of_ble_eq_true rfl⟩ [] (wM G a (upd (upd (upd s (8 * (nC r) + 91) w) (8 * (nC r) + 92) k) (8 * (nC r) + 93) 0) as_ (m_recH s hi kn) (m_recK kn) sn ik tx ln it wl sp iw rs er) rfl (ws' := (wM G a (upd (upd (upd s (8 * (nC r) + 91) w) (8 * (nC r) + 92) k) (8 * (nC r) + 93) 0) as_ (m_recH s hi kn) (m_recK kn) sn ik tx ln it wl sp iw rs er)) rfl (st' := [.int (nI (8 * (nC r) + 94)), .ref (a 1)]) rfl ⟨rfl, rfl⟩ ⟨Nat.le_of_ble_eq_true rfl, Nat.le_of_ble_eq_true rfl⟩ ?_
        refine x_iconst (v := (nI 0)) C dX6_setRider_92 (by decide) ?_
        refine x_iast (j := (8 * (nC r) + 94)) (x := 0) (ws' := (wM G a (upd (upd (upd (upd s (8 * (nC r) + 91) w) (8 * (nC r) + 92) k) (8 * (nC r) + 93) 0) (8 * (nC r) + 94) 0) as_ (m_recH s hi kn) (m_recK kn) sn ik tx ln it wl sp iw rs er)) C dX6_setRider_93 1 rfl rfl (by omega) (by omega) rfl ?_
        refine x_iload C 0 rfl dX6_setRider_94 ?_
        exact x_iret C hr E dX6_setRider_96 (fun _ => 0) (by simp only [mX_setRider, m_in, c1, c2, c3,  if_true, if_false, ite_true, ite_false, and_true, true_and, and_false, false_and, or_true, true_or, or_false, false_or, not_true_eq_false, not_false_eq_true, and_self, or_self] <;> rfl) (by simp only [mX_setRider, m_in, c1, c2, c3,  if_true, if_false, ite_true, ite_false, and_true, true_and, and_false, false_and, or_true, true_or, or_false, false_or, not_true_eq_false, not_false_eq_true, and_self, or_self])
      · refine x_bipush (v := (-2)) C dX6_setRider_31 (by decide) ?_
        exact x_iret C hr E dX6_setRider_33 (fun _ => 0) (by simp only [mX_setRider, m_in, c1, c2, c3,  if_true, if_false, ite_true, ite_false, and_true, true_and, and_false, false_and, or_true, true_or, or_false, false_or, not_true_eq_false, not_false_eq_true, and_self, or_self] <;> rfl) (by simp only [mX_setRider, m_in, c1, c2, c3,  if_true, if_false, ite_true, ite_false, and_true, true_and, and_false, false_and, or_true, true_or, or_false, false_or, not_true_eq_false, not_false_eq_true, and_self, or_self])
  · refine x_iconst (v := (-1)) C dX6_setRider_7 (by decide) ?_
    exact x_iret C hr E dX6_setRider_8 (fun _ => 0) (by simp only [mX_setRider, m_in, c1,  if_true, if_false, ite_true, ite_false, and_true, true_and, and_false, false_and, or_true, true_or, or_false, false_or, not_true_eq_false, not_false_eq_true, and_self, or_self] <;> rfl) (by simp only [mX_setRider, m_in, c1,  if_true, if_false, ite_true, ite_false, and_true, true_and, and_false, false_and, or_true, true_or, or_false, false_or, not_true_eq_false, not_false_eq_true, and_self, or_self])
def rm_X6_least : Room := { frames := 0, cells := 0, slots := 0, locals := 0 }
set_option maxRecDepth 100000 in
set_option maxHeartbeats 600000 in
theorem c_X6_least (l : Launch) (G : gG) (w : Nat)  (hw : w < 2 ^ 31) : CT l yX6_least cX6_least 1 (some .int) rm_X6_least G [.int (nI w)] [] (some (.int (m_least w))) (fun _ => []) := by
  refine gMet (by decide) (Nat.le_of_ble_eq_true rfl) (fun X hX C hr hin E => ?_)
  clear hX
  refine (show gW G X [] 0 0 0 [(0, .int (nI w))] [] from ?_)
  refine x_iload_n C 0 rfl dX6_least_0 rfl ?_
  refine x_iconst (v := (nI 2)) C dX6_least_1 (by decide) ?_
  refine x_icmp_neN (a := w) (b := 2) (tgt := 9) C dX6_least_2 (by decide) (by omega) (by omega) (fun c1 => ?_) (fun c1 => ?_)
  · refine x_iconst (v := (nI 1)) C dX6_least_9 (by decide) ?_
    exact x_iret C hr E dX6_least_10 (fun _ => 0) (by simp only [m_least, c1,  if_true, if_false, ite_true, ite_false, and_true, true_and, and_false, false_and, or_true, true_or, or_false, false_or, not_true_eq_false, not_false_eq_true, and_self, or_self] <;> rfl) rfl
  · refine x_iconst (v := (nI 0)) C dX6_least_5 (by decide) ?_
    refine x_goto (tgt := 10) C dX6_least_6 (by decide) ?_
    exact x_iret C hr E dX6_least_10 (fun _ => 0) (by simp only [m_least, c1,  if_true, if_false, ite_true, ite_false, and_true, true_and, and_false, false_and, or_true, true_or, or_false, false_or, not_true_eq_false, not_false_eq_true, and_self, or_self] <;> rfl) rfl
def rm_X6_most : Room := { frames := 0, cells := 0, slots := 0, locals := 0 }
set_option maxRecDepth 100000 in
set_option maxHeartbeats 600000 in
theorem c_X6_most (l : Launch) (G : gG) (w : Nat)  (hw : w < 2 ^ 31) : CT l yX6_most cX6_most 1 (some .int) rm_X6_most G [.int (nI w)] [] (some (.int (m_most w))) (fun _ => []) := by
  refine gMet (by decide) (Nat.le_of_ble_eq_true rfl) (fun X hX C hr hin E => ?_)
  clear hX
  refine (show gW G X [] 0 0 0 [(0, .int (nI w))] [] from ?_)
  refine x_iload_n C 0 rfl dX6_most_0 rfl ?_
  refine x_if_eqN (a := w) (tgt := 9) C dX6_most_1 (by decide) (by omega) (fun c1 => ?_) (fun c1 => ?_)
  · refine x_bipush (v := (nI 9)) C dX6_most_9 (by decide) ?_
    refine x_goto (tgt := 26) C dX6_most_11 (by decide) ?_
    exact x_iret C hr E dX6_most_26 (fun _ => 0) (by simp only [m_most, c1,  if_true, if_false, ite_true, ite_false, and_true, true_and, and_false, false_and, or_true, true_or, or_false, false_or, not_true_eq_false, not_false_eq_true, and_self, or_self] <;> rfl) rfl
  · refine x_iload_n C 0 rfl dX6_most_4 rfl ?_
    refine x_iconst (v := (nI 4)) C dX6_most_5 (by decide) ?_
    refine x_icmp_neN (a := w) (b := 4) (tgt := 14) C dX6_most_6 (by decide) (by omega) (by omega) (fun c2 => ?_) (fun c2 => ?_)
    · refine x_iload_n C 0 rfl dX6_most_14 rfl ?_
      refine x_iconst (v := (nI 2)) C dX6_most_15 (by decide) ?_
      refine x_icmp_neN (a := w) (b := 2) (tgt := 24) C dX6_most_16 (by decide) (by omega) (by omega) (fun c3 => ?_) (fun c3 => ?_)
      · refine x_bipush (v := (nI 99)) C dX6_most_24 (by decide) ?_
        exact x_iret C hr E dX6_most_26 (fun _ => 0) (by simp only [m_most, c1, c2, c3,  if_true, if_false, ite_true, ite_false, and_true, true_and, and_false, false_and, or_true, true_or, or_false, false_or, not_true_eq_false, not_false_eq_true, and_self, or_self] <;> rfl) rfl
      · refine x_bipush (v := (nI 50)) C dX6_most_19 (by decide) ?_
        refine x_goto (tgt := 26) C dX6_most_21 (by decide) ?_
        exact x_iret C hr E dX6_most_26 (fun _ => 0) (by simp only [m_most, c1, c2, c3,  if_true, if_false, ite_true, ite_false, and_true, true_and, and_false, false_and, or_true, true_or, or_false, false_or, not_true_eq_false, not_false_eq_true, and_self, or_self] <;> rfl) rfl
    · refine x_bipush (v := (nI 9)) C dX6_most_9 (by decide) ?_
      refine x_goto (tgt := 26) C dX6_most_11 (by decide) ?_
      exact x_iret C hr E dX6_most_26 (fun _ => 0) (by simp only [m_most, c1, c2,  if_true, if_false, ite_true, ite_false, and_true, true_and, and_false, false_and, or_true, true_or, or_false, false_or, not_true_eq_false, not_false_eq_true, and_self, or_self] <;> rfl) rfl
def rm_X6_set : Room := { frames := 1, cells := 0, slots := 0, locals := 22 }
set_option maxRecDepth 100000 in
set_option maxHeartbeats 600000 in
theorem c_X6_set (l : Launch) (G : gG) (a : Nat → Nat) (s as_ hi : Nat → Int32) (kn : Nat) (sn : Nat → Int32) (ik : Int32) (tx : Nat → Int32) (ln : Nat) (it wl : Nat → Int32) (sp : Nat) (iw : Int32) (rs : Nat) (er : Int32) (w v : Int32)  (hk : kn ≤ 4) : CT l yX6_set cX6_set 4 (some .int) rm_X6_set G [.ref (a 0), .int w, .int v] (wM G a s as_ hi kn sn ik tx ln it wl sp iw rs er) (some (.int ((mX_set s hi kn w v).1))) (fun _ => (wM G a ((mX_set s hi kn w v).2.1) as_ ((mX_set s hi kn w v).2.2.1) ((mX_set s hi kn w v).2.2.2) sn ik tx ln it wl sp iw rs er)) := by
  refine gMet (by decide) (Nat.le_of_ble_eq_true rfl) (fun X hX C hr hin E => ?_)
  clear hX
  refine (show gW G X (wM G a s as_ hi kn sn ik tx ln it wl sp iw rs er) 0 0 0 [(0, .ref (a 0)), (1, .int w), (2, .int v)] [] from ?_)
  refine x_iload_n C 1 rfl dX6_set_0 rfl ?_
  refine x_iconst (v := (nI 0)) C dX6_set_1 (by decide) ?_
  refine x_iconst (v := (nI 4)) C dX6_set_2 (by decide) ?_
  refine x_callSd (As := [.int w, .int (nI 0), .int (nI 4)]) (rest := []) C dX6_set_3 (c_X6_in (gX.l X) G w 0 4 ) ml_X6_38 st_X6_in in_X6 cd_X6_in hd_X6_in rfl rfl (Nat.le_of_ble_eq_true rfl) ⟨Nat.le_of_ble_eq_true rfl, Nat.le_of_ble_eq_true rfl⟩ [] (wM G a s as_ hi kn sn ik tx ln it wl sp iw rs er) rfl (ws' := (wM G a s as_ hi kn sn ik tx ln it wl sp iw rs er)) rfl (st' := [.int (bI (¬ (w < 0) ∧ ¬ (4 < w)))]) rfl ⟨rfl, rfl⟩ ⟨Nat.le_of_ble_eq_true rfl, Nat.le_of_ble_eq_true rfl⟩ ?_
  refine x_if_neB (P := ¬ (w < 0) ∧ ¬ (4 < w)) (tgt := 11) C dX6_set_6 (by decide) (fun c1 => ?_) (fun c1 => ?_)
  · have hN := g_in (x := w) (n := 4) (by decide) (by assumption)
    refine x_iload_n C 2 rfl dX6_set_11 rfl ?_
    refine x_iload_n C 1 rfl dX6_set_12 rfl ?_
    refine x_top (y := (nI (nC w))) hN.2 ?_
    refine x_callSd (As := [.int (nI (nC w))]) (rest := [.int v]) C dX6_set_13 (c_X6_least (gX.l X) G (nC w) (by omega)) ml_X6_105 st_X6_least in_X6 cd_X6_least hd_X6_least rfl rfl (Nat.le_of_ble_eq_true rfl) ⟨Nat.le_of_ble_eq_true rfl, Nat.le_of_ble_eq_true rfl⟩ [] (wM G a s as_ hi kn sn ik tx ln it wl sp iw rs er) rfl (ws' := (wM G a s as_ hi kn sn ik tx ln it wl sp iw rs er)) rfl (st' := [.int (m_least (nC w)), .int v]) rfl ⟨rfl, rfl⟩ ⟨Nat.le_of_ble_eq_true rfl, Nat.le_of_ble_eq_true rfl⟩ ?_
    refine x_iload_n C 1 rfl dX6_set_16 rfl ?_
    refine x_top (y := (nI (nC w))) hN.2 ?_
    refine x_callSd (As := [.int (nI (nC w))]) (rest := [.int (m_least (nC w)), .int v]) C dX6_set_17 (c_X6_most (gX.l X) G (nC w) (by omega)) ml_X6_108 st_X6_most in_X6 cd_X6_most hd_X6_most rfl rfl (Nat.le_of_ble_eq_true rfl) ⟨Nat.le_of_ble_eq_true rfl, Nat.le_of_ble_eq_true rfl⟩ [] (wM G a s as_ hi kn sn ik tx ln it wl sp iw rs er) rfl (ws' := (wM G a s as_ hi kn sn ik tx ln it wl sp iw rs er)) rfl (st' := [.int (m_most (nC w)), .int (m_least (nC w)), .int v]) rfl ⟨rfl, rfl⟩ ⟨Nat.le_of_ble_eq_true rfl, Nat.le_of_ble_eq_true rfl⟩ ?_
    refine x_callSd (As := [.int v, .int (m_least (nC w)), .int (m_most (nC w))]) (rest := []) C dX6_set_20 (c_X6_in (gX.l X) G v (m_least (nC w)) (m_most (nC w)) ) ml_X6_38 st_X6_in in_X6 cd_X6_in hd_X6_in rfl rfl (Nat.le_of_ble_eq_true rfl) ⟨Nat.le_of_ble_eq_true rfl, Nat.le_of_ble_eq_true rfl⟩ [] (wM G a s as_ hi kn sn ik tx ln it wl sp iw rs er) rfl (ws' := (wM G a s as_ hi kn sn ik tx ln it wl sp iw rs er)) rfl (st' := [.int (bI (¬ (v < (m_least (nC w))) ∧ ¬ ((m_most (nC w)) < v)))]) rfl ⟨rfl, rfl⟩ ⟨Nat.le_of_ble_eq_true rfl, Nat.le_of_ble_eq_true rfl⟩ ?_
    refine x_if_neB (P := ¬ (v < (m_least (nC w))) ∧ ¬ ((m_most (nC w)) < v)) (tgt := 29) C dX6_set_23 (by decide) (fun c2 => ?_) (fun c2 => ?_)
    · refine x_aload_n C 0 rfl dX6_set_29 rfl ?_
      refine x_get (k := 0) (v := .ref (a 1)) C dX6_set_30 layX6 fl_X6_7 0 rfl rfl (by decide) rfl ?_
      refine x_sipush (v := (nI 187)) C dX6_set_33 (by decide) ?_
      refine x_iload_n C 1 rfl dX6_set_36 rfl ?_
      refine x_top (y := (nI (nC w))) hN.2 ?_
      refine x_iaddN C dX6_set_37 ?_
      refine x_iald (j := (187 + (nC w))) C dX6_set_38 1 rfl rfl (by omega) (by omega) ?_
      refine x_istore_n (lv' := [(3, .int (s (187 + (nC w)))), (0, .ref (a 0)), (1, .int w), (2, .int v)]) C dX6_set_39 rfl (by decide) rfl ?_
      refine x_iload_n C 0 rfl dX6_set_40 rfl ?_
      refine x_iload_n C 3 rfl dX6_set_41 rfl ?_
      refine x_icmp_ne (x := (s (187 + (nC w)))) (y := v) (tgt := 48) C dX6_set_42 (by decide) (fun c3 => ?_) (fun c3 => ?_)
      · refine x_aload_n C 1 rfl dX6_set_48 rfl ?_
        refine x_callVd (As := []) (rest := []) C dX6_set_49 (c_X6_record (gX.l X) G a s as_ hi kn sn ik tx ln it wl sp iw rs er (by omega)) ml_X6_99 im_X6_record sl_X6_record in_X6 cd_X6_record hd_X6_record 0 rfl rfl rfl rfl (Nat.le_of_ble_eq_true rfl) ⟨Nat.le_of_ble_eq_true rfl, Nat.le_of_ble_eq_true rfl⟩ (List.take 0 (wM G a s as_ hi kn sn ik tx ln it wl sp iw rs er)) (List.drop 8 (wM G a s as_ hi kn sn ik tx ln it wl sp iw rs er)) rfl (ws' := (wM G a s as_ (m_recH s hi kn) (m_recK kn) sn ik tx ln it wl sp iw rs er)) rfl (st' := []) rfl ⟨rfl, rfl⟩ ⟨Nat.le_of_ble_eq_true rfl, Nat.le_of_ble_eq_true rfl⟩ ?_
        refine x_aload_n C 1 rfl dX6_set_52 rfl ?_
        refine x_get (k := 0) (v := .ref (a 1)) C dX6_set_53 layX6 fl_X6_7 0 rfl rfl (by decide) rfl ?_
        refine x_sipush (v := (nI 187)) C dX6_set_56 (by decide) ?_
        refine x_iload_n C 2 rfl dX6_set_59 rfl ?_
        refine x_top (y := (nI (nC w))) hN.2 ?_
        refine x_iaddN C dX6_set_60 ?_
        refine x_iload_n C 3 rfl dX6_set_61 rfl ?_
        refine x_iast (j := (187 + (nC w))) (x := v) (ws' := (wM G a (upd s (187 + (nC w)) v) as_ (m_recH s hi kn) (m_recK kn) sn ik tx ln it wl sp iw rs er)) C dX6_set_62 1 rfl rfl (by omega) (by omega) rfl ?_
        refine x_iload_n C 0 rfl dX6_set_63 rfl ?_
        exact x_iret C hr E dX6_set_64 (fun _ => 0) (by simp only [mX_set, m_in, c1, c2, c3,  if_true, if_false, ite_true, ite_false, and_true, true_and, and_false, false_and, or_true, true_or, or_false, false_or, not_true_eq_false, not_false_eq_true, and_self, or_self] <;> rfl) (by simp only [mX_set, m_in, c1, c2, c3,  if_true, if_false, ite_true, ite_false, and_true, true_and, and_false, false_and, or_true, true_or, or_false, false_or, not_true_eq_false, not_false_eq_true, and_self, or_self])
      · refine x_bipush (v := (-5)) C dX6_set_45 (by decide) ?_
        exact x_iret C hr E dX6_set_47 (fun _ => 0) (by simp only [mX_set, m_in, c1, c2, c3,  if_true, if_false, ite_true, ite_false, and_true, true_and, and_false, false_and, or_true, true_or, or_false, false_or, not_true_eq_false, not_false_eq_true, and_self, or_self] <;> rfl) (by simp only [mX_set, m_in, c1, c2, c3,  if_true, if_false, ite_true, ite_false, and_true, true_and, and_false, false_and, or_true, true_or, or_false, false_or, not_true_eq_false, not_false_eq_true, and_self, or_self])
    · refine x_bipush (v := (-2)) C dX6_set_26 (by decide) ?_
      exact x_iret C hr E dX6_set_28 (fun _ => 0) (by simp only [mX_set, m_in, c1, c2,  if_true, if_false, ite_true, ite_false, and_true, true_and, and_false, false_and, or_true, true_or, or_false, false_or, not_true_eq_false, not_false_eq_true, and_self, or_self] <;> rfl) (by simp only [mX_set, m_in, c1, c2,  if_true, if_false, ite_true, ite_false, and_true, true_and, and_false, false_and, or_true, true_or, or_false, false_or, not_true_eq_false, not_false_eq_true, and_self, or_self])
  · refine x_iconst (v := (-1)) C dX6_set_9 (by decide) ?_
    exact x_iret C hr E dX6_set_10 (fun _ => 0) (by simp only [mX_set, m_in, c1,  if_true, if_false, ite_true, ite_false, and_true, true_and, and_false, false_and, or_true, true_or, or_false, false_or, not_true_eq_false, not_false_eq_true, and_self, or_self] <;> rfl) (by simp only [mX_set, m_in, c1,  if_true, if_false, ite_true, ite_false, and_true, true_and, and_false, false_and, or_true, true_or, or_false, false_or, not_true_eq_false, not_false_eq_true, and_self, or_self])
def rm_X6_books : Room := { frames := 2, cells := 0, slots := 0, locals := 46 }
set_option maxRecDepth 100000 in
set_option maxHeartbeats 600000 in
theorem c_X6_books (l : Launch) (G : gG) (a : Nat → Nat) (s as_ hi : Nat → Int32) (kn : Nat) (sn : Nat → Int32) (ik : Int32) (tx : Nat → Int32) (ln : Nat) (it wl : Nat → Int32) (sp : Nat) (iw : Int32) (rs : Nat) (er : Int32) (h g r : Int32)  (hB : okB (s 192)) : CT l yX6_books cX6_books 6 (some .int) rm_X6_books G [.ref (a 0), .int h, .int g, .int r] (wM G a s as_ hi kn sn ik tx ln it wl sp iw rs er) (some (.int ((mX_books s h g r).1))) (fun _ => (wM G a ((mX_books s h g r).2) as_ hi kn sn ik tx ln it wl sp iw rs er)) := by
  refine gMet (by decide) (Nat.le_of_ble_eq_true rfl) (fun X hX C hr hin E => ?_)
  clear hX
  refine (show gW G X (wM G a s as_ hi kn sn ik tx ln it wl sp iw rs er) 0 0 0 [(0, .ref (a 0)), (1, .int h), (2, .int g), (3, .int r)] [] from ?_)
  have hB1 := hB.1
  refine x_iload_n C 2 rfl dX6_books_0 rfl ?_
  refine x_callSd (As := [.int g]) (rest := []) C dX6_books_1 (c_X6_isRing (gX.l X) G g ) ml_X6_111 st_X6_isRing in_X6 cd_X6_isRing hd_X6_isRing rfl rfl (Nat.le_of_ble_eq_true rfl) ⟨Nat.le_of_ble_eq_true rfl, Nat.le_of_ble_eq_true rfl⟩ [] (wM G a s as_ hi kn sn ik tx ln it wl sp iw rs er) rfl (ws' := (wM G a s as_ hi kn sn ik tx ln it wl sp iw rs er)) rfl (st' := [.int (bI (¬ (g < 0) ∧ ¬ (2 < g)))]) rfl ⟨rfl, rfl⟩ ⟨Nat.le_of_ble_eq_true rfl, Nat.le_of_ble_eq_true rfl⟩ ?_
  refine x_if_eqB (P := ¬ (g < 0) ∧ ¬ (2 < g)) (tgt := 14) C dX6_books_4 (by decide) (fun c1 => ?_) (fun c1 => ?_)
  · refine x_iconst (v := (-1)) C dX6_books_14 (by decide) ?_
    exact x_iret C hr E dX6_books_15 (fun _ => 0) (by simp only [mX_books, m_in, c1,  if_true, if_false, ite_true, ite_false, and_true, true_and, and_false, false_and, or_true, true_or, or_false, false_or, not_true_eq_false, not_false_eq_true, and_self, or_self] <;> rfl) (by simp only [mX_books, m_inc, m_in, c1,  if_true, if_false, ite_true, ite_false, and_true, true_and, and_false, false_and, or_true, true_or, or_false, false_or, not_true_eq_false, not_false_eq_true, and_self, or_self])
  · refine x_iload_n C 3 rfl dX6_books_7 rfl ?_
    refine x_callSd (As := [.int r]) (rest := []) C dX6_books_8 (c_X6_isRider (gX.l X) G r ) ml_X6_102 st_X6_isRider in_X6 cd_X6_isRider hd_X6_isRider rfl rfl (Nat.le_of_ble_eq_true rfl) ⟨Nat.le_of_ble_eq_true rfl, Nat.le_of_ble_eq_true rfl⟩ [] (wM G a s as_ hi kn sn ik tx ln it wl sp iw rs er) rfl (ws' := (wM G a s as_ hi kn sn ik tx ln it wl sp iw rs er)) rfl (st' := [.int (bI (¬ (r < 0) ∧ ¬ (11 < r)))]) rfl ⟨rfl, rfl⟩ ⟨Nat.le_of_ble_eq_true rfl, Nat.le_of_ble_eq_true rfl⟩ ?_
    refine x_if_neB (P := ¬ (r < 0) ∧ ¬ (11 < r)) (tgt := 16) C dX6_books_11 (by decide) (fun c2 => ?_) (fun c2 => ?_)
    · refine x_iload_n C 1 rfl dX6_books_16 rfl ?_
      refine x_callSd (As := [.int h]) (rest := []) C dX6_books_17 (c_X6_isAhead (gX.l X) G h ) ml_X6_114 st_X6_isAhead in_X6 cd_X6_isAhead hd_X6_isAhead rfl rfl (Nat.le_of_ble_eq_true rfl) ⟨Nat.le_of_ble_eq_true rfl, Nat.le_of_ble_eq_true rfl⟩ [] (wM G a s as_ hi kn sn ik tx ln it wl sp iw rs er) rfl (ws' := (wM G a s as_ hi kn sn ik tx ln it wl sp iw rs er)) rfl (st' := [.int (bI (¬ (h < 0) ∧ ¬ (99 < h)))]) rfl ⟨rfl, rfl⟩ ⟨Nat.le_of_ble_eq_true rfl, Nat.le_of_ble_eq_true rfl⟩ ?_
      refine x_if_neB (P := ¬ (h < 0) ∧ ¬ (99 < h)) (tgt := 26) C dX6_books_20 (by decide) (fun c3 => ?_) (fun c3 => ?_)
      · refine x_aload_n C 0 rfl dX6_books_26 rfl ?_
        refine x_get (k := 0) (v := .ref (a 1)) C dX6_books_27 layX6 fl_X6_7 0 rfl rfl (by decide) rfl ?_
        refine x_iconst (v := (nI 0)) C dX6_books_30 (by decide) ?_
        refine x_iald (j := 0) C dX6_books_31 1 rfl rfl (by omega) (by omega) ?_
        refine x_iload_n C 1 rfl dX6_books_32 rfl ?_
        refine x_iadd (x := (s 0)) (y := h) C dX6_books_33 ?_
        refine x_istore (lv' := [(4, .int ((s 0) + h)), (0, .ref (a 0)), (1, .int h), (2, .int g), (3, .int r)]) C dX6_books_34 (by decide) rfl ?_
        refine x_aload_n C 1 rfl dX6_books_36 rfl ?_
        refine x_iload C 0 rfl dX6_books_37 ?_
        refine x_iload_n C 4 rfl dX6_books_39 rfl ?_
        refine x_callVd (As := [.int ((s 0) + h), .int r]) (rest := []) C dX6_books_40 (c_X6_bookingOf (gX.l X) G a s as_ hi kn sn ik tx ln it wl sp iw rs er ((s 0) + h) r hB) ml_X6_117 im_X6_bookingOf sl_X6_bookingOf in_X6 cd_X6_bookingOf hd_X6_bookingOf 0 rfl rfl rfl rfl (Nat.le_of_ble_eq_true rfl) ⟨Nat.le_of_ble_eq_true rfl, Nat.le_of_ble_eq_true rfl⟩ (List.take 0 (wM G a s as_ hi kn sn ik tx ln it wl sp iw rs er)) (List.drop 8 (wM G a s as_ hi kn sn ik tx ln it wl sp iw rs er)) rfl (ws' := (wM G a s as_ hi kn sn ik tx ln it wl sp iw rs er)) rfl (st' := [.int (m_bk s ((s 0) + h) r (nC (s 192)))]) rfl ⟨rfl, rfl⟩ ⟨Nat.le_of_ble_eq_true rfl, Nat.le_of_ble_eq_true rfl⟩ ?_
        refine x_bipush (v := (-5)) C dX6_books_43 (by decide) ?_
        refine x_icmp_eq (x := (m_bk s ((s 0) + h) r (nC (s 192)))) (y := (-5)) (tgt := 51) C dX6_books_45 (by decide) (fun c4 => ?_) (fun c4 => ?_)
        · refine x_aload_n C 1 rfl dX6_books_51 rfl ?_
          refine x_iload C 0 rfl dX6_books_52 ?_
          refine x_iload_n C 3 rfl dX6_books_54 rfl ?_
          refine x_callVd (As := [.int ((s 0) + h), .int g]) (rest := []) C dX6_books_55 (c_X6_bookedFor (gX.l X) G a s as_ hi kn sn ik tx ln it wl sp iw rs er ((s 0) + h) g hB) ml_X6_120 im_X6_bookedFor sl_X6_bookedFor in_X6 cd_X6_bookedFor hd_X6_bookedFor 0 rfl rfl rfl rfl (Nat.le_of_ble_eq_true rfl) ⟨Nat.le_of_ble_eq_true rfl, Nat.le_of_ble_eq_true rfl⟩ (List.take 0 (wM G a s as_ hi kn sn ik tx ln it wl sp iw rs er)) (List.drop 8 (wM G a s as_ hi kn sn ik tx ln it wl sp iw rs er)) rfl (ws' := (wM G a s as_ hi kn sn ik tx ln it wl sp iw rs er)) rfl (st' := [.int (m_bf s ((s 0) + h) g (nC (s 192)))]) rfl ⟨rfl, rfl⟩ ⟨Nat.le_of_ble_eq_true rfl, Nat.le_of_ble_eq_true rfl⟩ ?_
          refine x_istore (lv' := [(5, .int (m_bf s ((s 0) + h) g (nC (s 192)))), (4, .int ((s 0) + h)), (0, .ref (a 0)), (1, .int h), (2, .int g), (3, .int r)]) C dX6_books_58 (by decide) rfl ?_
          refine x_iload C 0 rfl dX6_books_60 ?_
          refine x_iconst (v := (nI 4)) C dX6_books_62 (by decide) ?_
          refine x_iload_n C 4 rfl dX6_books_63 rfl ?_
          refine x_isub (x := 4) (y := g) C dX6_books_64 ?_
          refine x_icmp_eq (x := (m_bf s ((s 0) + h) g (nC (s 192)))) (y := (4 - g)) (tgt := 81) C dX6_books_65 (by decide) (fun c5 => ?_) (fun c5 => ?_)
          · refine x_bipush (v := (-3)) C dX6_books_81 (by decide) ?_
            exact x_iret C hr E dX6_books_83 (fun _ => 0) (by rw [mX_books, if_pos c1, if_pos c2, if_pos c3, if_pos c4]; first | rw [if_pos c5] | rw [if_neg c5, if_pos c6]) (by rw [mX_books, if_pos c1, if_pos c2, if_pos c3, if_pos c4]; first | rw [if_pos c5] | rw [if_neg c5, if_pos c6])
          · refine x_aload_n C 2 rfl dX6_books_68 rfl ?_
            refine x_get (k := 0) (v := .ref (a 1)) C dX6_books_69 layX6 fl_X6_7 0 rfl rfl (by decide) rfl ?_
            refine x_sipush (v := (nI 192)) C dX6_books_72 (by decide) ?_
            refine x_iald (j := 192) C dX6_books_75 1 rfl rfl (by omega) (by omega) ?_
            refine x_top (y := (nI (nC (s 192)))) hB.2 ?_
            refine x_bipush (v := (nI 40)) C dX6_books_76 (by decide) ?_
            refine x_icmp_neN (a := (nC (s 192))) (b := 40) (tgt := 84) C dX6_books_78 (by decide) (by omega) (by omega) (fun c6 => ?_) (fun c6 => ?_)
            · refine x_aload_n C 2 rfl dX6_books_84 rfl ?_
              refine x_get (k := 0) (v := .ref (a 1)) C dX6_books_85 layX6 fl_X6_7 0 rfl rfl (by decide) rfl ?_
              refine x_aload_n C 2 rfl dX6_books_88 rfl ?_
              refine x_get (k := 0) (v := .ref (a 1)) C dX6_books_89 layX6 fl_X6_7 0 rfl rfl (by decide) rfl ?_
              refine x_sipush (v := (nI 192)) C dX6_books_92 (by decide) ?_
              refine x_iald (j := 192) C dX6_books_95 1 rfl rfl (by omega) (by omega) ?_
              refine x_top (y := (nI (nC (s 192)))) hB.2 ?_
              refine x_iconst (v := (nI 0)) C dX6_books_96 (by decide) ?_
              refine x_callSd (As := [.int (nI (nC (s 192))), .int (nI 0)]) (rest := [.ref (a 1)]) C dX6_books_97 (c_X6_ofBooking (gX.l X) G (nC (s 192)) 0 (3 * (nC (s 192)) + 193) (by omega)) ml_X6_75 st_X6_ofBooking in_X6 cd_X6_ofBooking hd_X6_ofBooking rfl rfl (Nat.le_of_ble_eq_true rfl) ⟨Nat.le_of_ble_eq_true rfl, Nat.le_of_ble_eq_true rfl⟩ [] (wM G a s as_ hi kn sn ik tx ln it wl sp iw rs er) rfl (ws' := (wM G a s as_ hi kn sn ik tx ln it wl sp iw rs er)) rfl (st' := [.int (nI (3 * (nC (s 192)) + 193)), .ref (a 1)]) rfl ⟨rfl, rfl⟩ ⟨Nat.le_of_ble_eq_true rfl, Nat.le_of_ble_eq_true rfl⟩ ?_
              refine x_iload C 1 rfl dX6_books_100 ?_
              refine x_iast (j := (3 * (nC (s 192)) + 193)) (x := ((s 0) + h)) (ws' := (wM G a (upd s (3 * (nC (s 192)) + 193) ((s 0) + h)) as_ hi kn sn ik tx ln it wl sp iw rs er)) C dX6_books_102 1 rfl rfl (by omega) (by omega) rfl ?_
              refine x_aload_n C 2 rfl dX6_books_103 rfl ?_
              refine x_get (k := 0) (v := .ref (a 1)) C dX6_books_104 layX6 fl_X6_7 0 rfl rfl (by decide) rfl ?_
              refine x_aload_n C 2 rfl dX6_books_107 rfl ?_
              refine x_get (k := 0) (v := .ref (a 1)) C dX6_books_108 layX6 fl_X6_7 0 rfl rfl (by decide) rfl ?_
              refine x_sipush (v := (nI 192)) C dX6_books_111 (by decide) ?_
              refine x_iald (j := 192) C dX6_books_114 1 rfl rfl (by omega) (by omega) ?_
              refine x_top (y := (nI (nC (s 192)))) (by rw [pk_un (by omega)]; exact hB.2) ?_
              refine x_iconst (v := (nI 1)) C dX6_books_115 (by decide) ?_
              refine x_callSd (As := [.int (nI (nC (s 192))), .int (nI 1)]) (rest := [.ref (a 1)]) C dX6_books_116 (c_X6_ofBooking (gX.l X) G (nC (s 192)) 1 (3 * (nC (s 192)) + 194) (by omega)) ml_X6_75 st_X6_ofBooking in_X6 cd_X6_ofBooking hd_X6_ofBooking rfl rfl (Nat.le_of_ble_eq_true rfl) ⟨Nat.le_of_ble_eq_true rfl, Nat.le_of_ble_eq_true rfl⟩ [] (wM G a (upd s (3 * (nC (s 192)) + 193) ((s 0) + h)) as_ hi kn sn ik tx ln it wl sp iw rs er) rfl (ws' := (wM G a (upd s (3 * (nC (s 192)) + 193) ((s 0) + h)) as_ hi kn sn ik tx ln it wl sp iw rs er)) rfl (st' := [.int (nI (3 * (nC (s 192)) + 194)), .ref (a 1)]) rfl ⟨rfl, rfl⟩ ⟨Nat.le_of_ble_eq_true rfl, Nat.le_of_ble_eq_true rfl⟩ ?_
              refine x_iload_n C 4 rfl dX6_books_119 rfl ?_
              refine x_iast (j := (3 * (nC (s 192)) + 194)) (x := g) (ws' := (wM G a (upd (upd s (3 * (nC (s 192)) + 193) ((s 0) + h)) (3 * (nC (s 192)) + 194) g) as_ hi kn sn ik tx ln it wl sp iw rs er)) C dX6_books_120 1 rfl rfl (by omega) (by omega) rfl ?_
              refine x_aload_n C 2 rfl dX6_books_121 rfl ?_
              refine x_get (k := 0) (v := .ref (a 1)) C dX6_books_122 layX6 fl_X6_7 0 rfl rfl (by decide) rfl ?_
              refine x_aload_n C 2 rfl dX6_books_125 rfl ?_
              refine x_get (k := 0) (v := .ref (a 1)) C dX6_books_126 layX6 fl_X6_7 0 rfl rfl (by decide) rfl ?_
              refine x_sipush (v := (nI 192)) C dX6_books_129 (by decide) ?_
              refine x_iald (j := 192) C dX6_books_132 1 rfl rfl (by omega) (by omega) ?_
              refine x_top (y := (nI (nC (s 192)))) (by rw [pk_un (by omega), pk_un (by omega)]; exact hB.2) ?_
              refine x_iconst (v := (nI 2)) C dX6_books_133 (by decide) ?_
              refine x_callSd (As := [.int (nI (nC (s 192))), .int (nI 2)]) (rest := [.ref (a 1)]) C dX6_books_134 (c_X6_ofBooking (gX.l X) G (nC (s 192)) 2 (3 * (nC (s 192)) + 195) (by omega)) ml_X6_75 st_X6_ofBooking in_X6 cd_X6_ofBooking hd_X6_ofBooking rfl rfl (Nat.le_of_ble_eq_true rfl) ⟨Nat.le_of_ble_eq_true rfl, Nat.le_of_ble_eq_true rfl⟩ [] (wM G a (upd (upd s (3 * (nC (s 192)) + 193) ((s 0) + h)) (3 * (nC (s 192)) + 194) g) as_ hi kn sn ik tx ln it wl sp iw rs er) rfl (ws' := (wM G a (upd (upd s (3 * (nC (s 192)) + 193) ((s 0) + h)) (3 * (nC (s 192)) + 194) g) as_ hi kn sn ik tx ln it wl sp iw rs er)) rfl (st' := [.int (nI (3 * (nC (s 192)) + 195)), .ref (a 1)]) rfl ⟨rfl, rfl⟩ ⟨Nat.le_of_ble_eq_true rfl, Nat.le_of_ble_eq_true rfl⟩ ?_
              refine x_iload_n C 5 rfl dX6_books_137 rfl ?_
              refine x_iast (j := (3 * (nC (s 192)) + 195)) (x := r) (ws' := (wM G a (upd (upd (upd s (3 * (nC (s 192)) + 193) ((s 0) + h)) (3 * (nC (s 192)) + 194) g) (3 * (nC (s 192)) + 195) r) as_ hi kn sn ik tx ln it wl sp iw rs er)) C dX6_books_138 1 rfl rfl (by omega) (by omega) rfl ?_
              refine x_aload_n C 2 rfl dX6_books_139 rfl ?_
              refine x_get (k := 0) (v := .ref (a 1)) C dX6_books_140 layX6 fl_X6_7 0 rfl rfl (by decide) rfl ?_
              refine x_sipush (v := (nI 192)) C dX6_books_143 (by decide) ?_
              refine x_dup2 C rfl rfl dX6_books_146 ?_
              refine x_iald (j := 192) C dX6_books_147 1 rfl rfl (by omega) (by omega) ?_
              refine x_iconst (v := (nI 1)) C dX6_books_148 (by decide) ?_
              refine x_iadd (x := ((upd (upd (upd s (3 * (nC (s 192)) + 193) ((s 0) + h)) (3 * (nC (s 192)) + 194) g) (3 * (nC (s 192)) + 195) r) 192)) (y := 1) C dX6_books_149 ?_
              refine x_iast (j := 192) (x := (((upd (upd (upd s (3 * (nC (s 192)) + 193) ((s 0) + h)) (3 * (nC (s 192)) + 194) g) (3 * (nC (s 192)) + 195) r) 192) + 1)) (ws' := (wM G a (upd (upd (upd (upd s (3 * (nC (s 192)) + 193) ((s 0) + h)) (3 * (nC (s 192)) + 194) g) (3 * (nC (s 192)) + 195) r) 192 (((upd (upd (upd s (3 * (nC (s 192)) + 193) ((s 0) + h)) (3 * (nC (s 192)) + 194) g) (3 * (nC (s 192)) + 195) r) 192) + 1)) as_ hi kn sn ik tx ln it wl sp iw rs er)) C dX6_books_150 1 rfl rfl (by omega) (by omega) rfl ?_
              refine x_iload C 0 rfl dX6_books_151 ?_
              refine x_iconst (v := (nI 1)) C dX6_books_153 (by decide) ?_
              refine x_iadd (x := (m_bf s ((s 0) + h) g (nC (s 192)))) (y := 1) C dX6_books_154 ?_
              exact x_iret C hr E dX6_books_155 (fun _ => 0) (by simp only [mX_books, m_in, c1, c2, c3, c4, c5, c6,  if_true, if_false, ite_true, ite_false, and_true, true_and, and_false, false_and, or_true, true_or, or_false, false_or, not_true_eq_false, not_false_eq_true, and_self, or_self] <;> rfl) (by simp only [mX_books, m_inc, m_in, c1, c2, c3, c4, c5, c6,  if_true, if_false, ite_true, ite_false, and_true, true_and, and_false, false_and, or_true, true_or, or_false, false_or, not_true_eq_false, not_false_eq_true, and_self, or_self])
            · refine x_bipush (v := (-3)) C dX6_books_81 (by decide) ?_
              exact x_iret C hr E dX6_books_83 (fun _ => 0) (by rw [mX_books, if_pos c1, if_pos c2, if_pos c3, if_pos c4]; first | rw [if_pos c5] | rw [if_neg c5, if_pos c6]) (by rw [mX_books, if_pos c1, if_pos c2, if_pos c3, if_pos c4]; first | rw [if_pos c5] | rw [if_neg c5, if_pos c6])
        · refine x_bipush (v := (-4)) C dX6_books_48 (by decide) ?_
          exact x_iret C hr E dX6_books_50 (fun _ => 0) (by simp only [mX_books, m_in, c1, c2, c3, c4,  if_true, if_false, ite_true, ite_false, and_true, true_and, and_false, false_and, or_true, true_or, or_false, false_or, not_true_eq_false, not_false_eq_true, and_self, or_self] <;> rfl) (by simp only [mX_books, m_inc, m_in, c1, c2, c3, c4,  if_true, if_false, ite_true, ite_false, and_true, true_and, and_false, false_and, or_true, true_or, or_false, false_or, not_true_eq_false, not_false_eq_true, and_self, or_self])
      · refine x_bipush (v := (-2)) C dX6_books_23 (by decide) ?_
        exact x_iret C hr E dX6_books_25 (fun _ => 0) (by simp only [mX_books, m_in, c1, c2, c3,  if_true, if_false, ite_true, ite_false, and_true, true_and, and_false, false_and, or_true, true_or, or_false, false_or, not_true_eq_false, not_false_eq_true, and_self, or_self] <;> rfl) (by simp only [mX_books, m_inc, m_in, c1, c2, c3,  if_true, if_false, ite_true, ite_false, and_true, true_and, and_false, false_and, or_true, true_or, or_false, false_or, not_true_eq_false, not_false_eq_true, and_self, or_self])
    · refine x_iconst (v := (-1)) C dX6_books_14 (by decide) ?_
      exact x_iret C hr E dX6_books_15 (fun _ => 0) (by simp only [mX_books, m_in, c1, c2,  if_true, if_false, ite_true, ite_false, and_true, true_and, and_false, false_and, or_true, true_or, or_false, false_or, not_true_eq_false, not_false_eq_true, and_self, or_self] <;> rfl) (by simp only [mX_books, m_inc, m_in, c1, c2,  if_true, if_false, ite_true, ite_false, and_true, true_and, and_false, false_and, or_true, true_or, or_false, false_or, not_true_eq_false, not_false_eq_true, and_self, or_self])
def rm_X6_recordAside : Room := { frames := 1, cells := 0, slots := 0, locals := 21 }
set_option maxRecDepth 100000 in
set_option maxHeartbeats 600000 in
theorem c_X6_recordAside (l : Launch) (G : gG) (a : Nat → Nat) (s as_ hi : Nat → Int32) (kn : Nat) (sn : Nat → Int32) (ik : Int32) (tx : Nat → Int32) (ln : Nat) (it wl : Nat → Int32) (sp : Nat) (iw : Int32) (rs : Nat) (er : Int32)  (hk : kn ≤ 4) : CT l yX6_recordAside cX6_recordAside 2 none rm_X6_recordAside G [.ref (a 0)] (wM G a s as_ hi kn sn ik tx ln it wl sp iw rs er) none (fun _ => (wM G a s as_ (m_recA s as_ hi kn) (m_recK kn) sn ik tx ln it wl sp iw rs er)) := by
  refine gMet (by decide) (Nat.le_of_ble_eq_true rfl) (fun X hX C hr hin E => ?_)
  clear hX
  refine (show gW G X (wM G a s as_ hi kn sn ik tx ln it wl sp iw rs er) 0 0 0 [(0, .ref (a 0))] [] from ?_)
  have hrk := m_recK_le hk
  refine x_aload_n C 0 rfl dX6_recordAside_0 rfl ?_
  refine x_callVd (As := []) (rest := []) C dX6_recordAside_1 (c_X6_record (gX.l X) G a s as_ hi kn sn ik tx ln it wl sp iw rs er (by omega)) ml_X6_99 im_X6_record sl_X6_record in_X6 cd_X6_record hd_X6_record 0 rfl rfl rfl rfl (Nat.le_of_ble_eq_true rfl) ⟨Nat.le_of_ble_eq_true rfl, Nat.le_of_ble_eq_true rfl⟩ (List.take 0 (wM G a s as_ hi kn sn ik tx ln it wl sp iw rs er)) (List.drop 8 (wM G a s as_ hi kn sn ik tx ln it wl sp iw rs er)) rfl (ws' := (wM G a s as_ (m_recH s hi kn) (m_recK kn) sn ik tx ln it wl sp iw rs er)) rfl (st' := []) rfl ⟨rfl, rfl⟩ ⟨Nat.le_of_ble_eq_true rfl, Nat.le_of_ble_eq_true rfl⟩ ?_
  refine x_iconst (v := (nI 0)) C dX6_recordAside_4 (by decide) ?_
  refine x_istore_n (lv' := [(1, .int (nI 0)), (0, .ref (a 0))]) C dX6_recordAside_5 rfl (by decide) rfl ?_
  have L1 : ∀ (fu : Nat) (i : Nat) (g : Nat → Int32), i + fu = 378 → (g = cpL as_ (m_recH s hi kn) 0 (378 * (m_recK kn - 1)) i) → gW G X (wM G a s as_ g (m_recK kn) sn ik tx ln it wl sp iw rs er) 0 0 6 [(1, .int (nI i)), (0, .ref (a 0))] [] := by
    intro fu
    induction fu with
    | zero =>
      intro i g hn ha
      have hi9 : i = 378 := by omega
      refine x_iload_n C 0 rfl dX6_recordAside_6 rfl ?_
      refine x_sipush (v := (nI 378)) C dX6_recordAside_7 (by decide) ?_
      refine x_icmp_geN (a := i) (b := 378) (tgt := 42) C dX6_recordAside_10 (by decide) (by omega) (by omega) (fun c2 => ?_) (fun c2 => False.elim (by omega))
      exact x_vret C hr E dX6_recordAside_42 (fun _ => 0) (by rw [ha, hi9]; rfl)
    | succ fu ih =>
      intro i g hn ha
      refine x_iload_n C 0 rfl dX6_recordAside_6 rfl ?_
      refine x_sipush (v := (nI 378)) C dX6_recordAside_7 (by decide) ?_
      refine x_icmp_geN (a := i) (b := 378) (tgt := 42) C dX6_recordAside_10 (by decide) (by omega) (by omega) (fun c3 => False.elim (by omega)) (fun c3 => ?_)
      refine x_aload_n C 1 rfl dX6_recordAside_13 rfl ?_
      refine x_get (k := 2) (v := .ref (a 3)) C dX6_recordAside_14 layX6 fl_X6_16 0 rfl rfl (by decide) rfl ?_
      refine x_sipush (v := (nI 378)) C dX6_recordAside_17 (by decide) ?_
      refine x_aload_n C 1 rfl dX6_recordAside_20 rfl ?_
      refine x_get (k := 3) (v := .int (nI (m_recK kn))) C dX6_recordAside_21 layX6 fl_X6_42 0 rfl rfl (by decide) rfl ?_
      refine x_iconst (v := (nI 1)) C dX6_recordAside_24 (by decide) ?_
      refine x_isubN C dX6_recordAside_25 (by omega) ?_
      refine x_imulN C dX6_recordAside_26 ?_
      refine x_iload_n C 0 rfl dX6_recordAside_27 rfl ?_
      refine x_iaddN C dX6_recordAside_28 ?_
      refine x_aload_n C 1 rfl dX6_recordAside_29 rfl ?_
      refine x_get (k := 1) (v := .ref (a 2)) C dX6_recordAside_30 layX6 fl_X6_13 0 rfl rfl (by decide) rfl ?_
      refine x_iload_n C 0 rfl dX6_recordAside_33 rfl ?_
      refine x_iald (j := i) C dX6_recordAside_34 2 rfl rfl (by omega) (by omega) ?_
      refine x_iast (j := ((378 * ((m_recK kn) - 1)) + i)) (x := (as_ i)) (ws' := (wM G a s as_ (upd g ((378 * ((m_recK kn) - 1)) + i) (as_ i)) (m_recK kn) sn ik tx ln it wl sp iw rs er)) C dX6_recordAside_35 3 rfl rfl (by omega) (by omega) rfl ?_
      refine x_iinc (v := (nI (i + 1))) (lv' := [(1, .int (nI (i + 1))), (0, .ref (a 0))]) C 0 rfl dX6_recordAside_36 (by rw [show Int32.ofInt 1 = nI 1 from rfl]; exact nI_add _ _) (by decide) rfl ?_
      refine x_goto (tgt := 6) C dX6_recordAside_39 (by decide) ?_
      exact ih (i + 1) (upd g ((378 * ((m_recK kn) - 1)) + i) (as_ i)) (by omega) (by rw [ha]; simp only [cpL, Nat.zero_add])
  exact L1 378 0 (m_recH s hi kn) (by omega) (by rfl)
def rm_X6_book : Room := { frames := 3, cells := 0, slots := 0, locals := 71 }
set_option maxRecDepth 100000 in
set_option maxHeartbeats 600000 in
theorem c_X6_book (l : Launch) (G : gG) (a : Nat → Nat) (s as_ hi : Nat → Int32) (kn : Nat) (sn : Nat → Int32) (ik : Int32) (tx : Nat → Int32) (ln : Nat) (it wl : Nat → Int32) (sp : Nat) (iw : Int32) (rs : Nat) (er : Int32) (h g r : Int32)  (hB : okB (s 192)) (hk : kn ≤ 4) : CT l yX6_book cX6_book 5 (some .int) rm_X6_book G [.ref (a 0), .int h, .int g, .int r] (wM G a s as_ hi kn sn ik tx ln it wl sp iw rs er) (some (.int ((mX_book s as_ hi kn h g r).1))) (fun _ => (wM G a ((mX_book s as_ hi kn h g r).2.1) (cpL s as_ 0 0 378) ((mX_book s as_ hi kn h g r).2.2.1) ((mX_book s as_ hi kn h g r).2.2.2) sn ik tx ln it wl sp iw rs er)) := by
  refine gMet (by decide) (Nat.le_of_ble_eq_true rfl) (fun X hX C hr hin E => ?_)
  clear hX
  refine (show gW G X (wM G a s as_ hi kn sn ik tx ln it wl sp iw rs er) 0 0 0 [(0, .ref (a 0)), (1, .int h), (2, .int g), (3, .int r)] [] from ?_)
  refine x_aload_n C 0 rfl dX6_book_0 rfl ?_
  refine x_callVd (As := []) (rest := []) C dX6_book_1 (c_X6_putAside (gX.l X) G a s as_ hi kn sn ik tx ln it wl sp iw rs er ) ml_X6_123 im_X6_putAside sl_X6_putAside in_X6 cd_X6_putAside hd_X6_putAside 0 rfl rfl rfl rfl (Nat.le_of_ble_eq_true rfl) ⟨Nat.le_of_ble_eq_true rfl, Nat.le_of_ble_eq_true rfl⟩ (List.take 0 (wM G a s as_ hi kn sn ik tx ln it wl sp iw rs er)) (List.drop 8 (wM G a s as_ hi kn sn ik tx ln it wl sp iw rs er)) rfl (ws' := (wM G a s (cpL s as_ 0 0 378) hi kn sn ik tx ln it wl sp iw rs er)) rfl (st' := []) rfl ⟨rfl, rfl⟩ ⟨Nat.le_of_ble_eq_true rfl, Nat.le_of_ble_eq_true rfl⟩ ?_
  refine x_aload_n C 0 rfl dX6_book_4 rfl ?_
  refine x_iload_n C 1 rfl dX6_book_5 rfl ?_
  refine x_iload_n C 2 rfl dX6_book_6 rfl ?_
  refine x_iload_n C 3 rfl dX6_book_7 rfl ?_
  refine x_callVd (As := [.int h, .int g, .int r]) (rest := []) C dX6_book_8 (c_X6_books (gX.l X) G a s (cpL s as_ 0 0 378) hi kn sn ik tx ln it wl sp iw rs er h g r hB) ml_X6_126 im_X6_books sl_X6_books in_X6 cd_X6_books hd_X6_books 0 rfl rfl rfl rfl (Nat.le_of_ble_eq_true rfl) ⟨Nat.le_of_ble_eq_true rfl, Nat.le_of_ble_eq_true rfl⟩ (List.take 0 (wM G a s (cpL s as_ 0 0 378) hi kn sn ik tx ln it wl sp iw rs er)) (List.drop 8 (wM G a s (cpL s as_ 0 0 378) hi kn sn ik tx ln it wl sp iw rs er)) rfl (ws' := (wM G a ((mX_books s h g r).2) (cpL s as_ 0 0 378) hi kn sn ik tx ln it wl sp iw rs er)) rfl (st' := [.int ((mX_books s h g r).1)]) rfl ⟨rfl, rfl⟩ ⟨Nat.le_of_ble_eq_true rfl, Nat.le_of_ble_eq_true rfl⟩ ?_
  refine x_istore (lv' := [(4, .int ((mX_books s h g r).1)), (0, .ref (a 0)), (1, .int h), (2, .int g), (3, .int r)]) C dX6_book_11 (by decide) rfl ?_
  refine x_iload C 0 rfl dX6_book_13 ?_
  refine x_if_le (x := ((mX_books s h g r).1)) (tgt := 22) C dX6_book_15 (by decide) (fun c1 => ?_) (fun c1 => ?_)
  · refine x_iload C 0 rfl dX6_book_22 ?_
    exact x_iret C hr E dX6_book_24 (fun _ => 0) (by simp only [mX_book, c1,  if_true, if_false, ite_true, ite_false, and_true, true_and, and_false, false_and, or_true, true_or, or_false, false_or, not_true_eq_false, not_false_eq_true, and_self, or_self]) (by simp only [mX_book, c1,  if_true, if_false, ite_true, ite_false, and_true, true_and, and_false, false_and, or_true, true_or, or_false, false_or, not_true_eq_false, not_false_eq_true, and_self, or_self])
  · refine x_aload_n C 1 rfl dX6_book_18 rfl ?_
    refine x_callVd (As := []) (rest := []) C dX6_book_19 (c_X6_recordAside (gX.l X) G a ((mX_books s h g r).2) (cpL s as_ 0 0 378) hi kn sn ik tx ln it wl sp iw rs er (by omega)) ml_X6_129 im_X6_recordAside sl_X6_recordAside in_X6 cd_X6_recordAside hd_X6_recordAside 0 rfl rfl rfl rfl (Nat.le_of_ble_eq_true rfl) ⟨Nat.le_of_ble_eq_true rfl, Nat.le_of_ble_eq_true rfl⟩ (List.take 0 (wM G a ((mX_books s h g r).2) (cpL s as_ 0 0 378) hi kn sn ik tx ln it wl sp iw rs er)) (List.drop 8 (wM G a ((mX_books s h g r).2) (cpL s as_ 0 0 378) hi kn sn ik tx ln it wl sp iw rs er)) rfl (ws' := (wM G a ((mX_books s h g r).2) (cpL s as_ 0 0 378) (m_recA ((mX_books s h g r).2) (cpL s as_ 0 0 378) hi kn) (m_recK kn) sn ik tx ln it wl sp iw rs er)) rfl (st' := []) rfl ⟨rfl, rfl⟩ ⟨Nat.le_of_ble_eq_true rfl, Nat.le_of_ble_eq_true rfl⟩ ?_
    refine x_iload C 0 rfl dX6_book_22 ?_
    exact x_iret C hr E dX6_book_24 (fun _ => 0) (by simp only [mX_book, c1,  if_true, if_false, ite_true, ite_false, and_true, true_and, and_false, false_and, or_true, true_or, or_false, false_or, not_true_eq_false, not_false_eq_true, and_self, or_self]) (by simp only [mX_book, c1,  if_true, if_false, ite_true, ite_false, and_true, true_and, and_false, false_and, or_true, true_or, or_false, false_or, not_true_eq_false, not_false_eq_true, and_self, or_self])
