/-- the reference's cells -/
def wM (G : gG) (a : Nat → Nat) (s as_ hi : Nat → Int32) (kn : Nat) (sn : Nat → Int32) (ik : Int32) (tx : Nat → Int32) (ln : Nat) (it wl : Nat → Int32) (sp : Nat) (iw : Int32) (rs : Nat) (er : Int32) : va_W := [(a 0, .inr (6, [.ref (a 1), .ref (a 2), .ref (a 3), .int (nI kn), .ref (a 4), .int ik, .ref (a 5), .int (nI ln), .ref (a 6), .ref (a 7), .int (nI sp), .int iw, .int (nI rs), .int er])), (a 1, .inl (G.2.1.1, 378, .inl s)), (a 2, .inl (G.2.1.1, 378, .inl as_)), (a 3, .inl (G.2.1.1, 1512, .inl hi)), (a 4, .inl (G.2.1.1, 378, .inl sn)), (a 5, .inl (G.2.1.1, 60, .inl tx)), (a 6, .inl (G.2.1.1, 10, .inl it)), (a 7, .inl (G.2.1.1, 10, .inl wl))]
abbrev m_there (s : Nat → Int32) : Prop := iR (s 0 / 10) (s 191) = 0
def m_shL (s : Nat → Int32) : Nat → Int32 × Int32
  | 0 => (-5, 0)
  | h + 1 => if (m_shL s h).2 < s (9 * h + 4) then (nI h, s (9 * h + 4)) else m_shL s h
def m_shod (s : Nat → Int32) : Int32 := if m_there s then (m_shL s 10).1 else -5
theorem m_shod_a {s : Nat → Int32} {f g : Int32} {i : Nat} (ha : (f, g) = m_shL s i) (hth : i = 0 ∨ m_there s) (h : ¬ m_there s) : f = m_shod s := by
  rw [m_shod, if_neg h]
  rcases hth with h9 | h9
  · subst h9; exact congrArg Prod.fst ha
  · exact absurd h9 h
theorem m_shod_b {s : Nat → Int32} {f g : Int32} {i : Nat} (ha : (f, g) = m_shL s i) (hth : i = 0 ∨ m_there s) (hi : i = 10) : f = m_shod s := by
  rcases hth with h9 | h9
  · omega
  · subst hi
    rw [m_shod, if_pos h9, ← ha]
def m_hind (s : Nat → Int32) (h r : Nat) (fa : Int32) : Int32 := if 0 < s (9 * h + 6) then 1 else if nI h = fa then 2 else if ¬ s (9 * h + 4) < s 188 then 3 else if ¬ s (9 * h + 3) < s 187 then 4 else if s (9 * h + 1) < s (8 * r + 91) then 5 else 0
def m_can (s : Nat → Int32) (r : Nat) : Int32 := if s (8 * r + 92) - s (8 * r + 93) < 0 then 0 else s (8 * r + 92) - s (8 * r + 93)
def m_by1 (s : Nat → Int32) (x y r : Nat) : Int32 := bI (m_can s r < s (9 * x + 2)) - bI (m_can s r < s (9 * y + 2))
def m_by2 (s : Nat → Int32) (x y r : Nat) : Int32 := if m_by1 s x y r = 0 then s (9 * x + 3) - s (9 * y + 3) else m_by1 s x y r
def m_by3 (s : Nat → Int32) (x y r : Nat) : Int32 := if m_by2 s x y r = 0 then s (9 * x + 1) - s (9 * y + 1) else m_by2 s x y r
def m_bestS (s it : Nat → Int32) (r : Nat) (fa : Int32) (h : Nat) (f : Int32) : Int32 := if it h = 0 then (if m_hind s h r fa = 0 then (if f = -5 then nI h else if m_by3 s h (nC f) r < 0 then nI h else f) else f) else f
def m_bestL (s it : Nat → Int32) (r : Nat) (fa : Int32) : Nat → Int32
  | 0 => -5
  | h + 1 => m_bestS s it r fa h (m_bestL s it r fa h)
def m_best (s it : Nat → Int32) (r : Nat) (fa : Int32) : Int32 := m_bestL s it r fa 10
theorem m_bestL_ok (s it : Nat → Int32) (r : Nat) (fa : Int32) : ∀ h, h ≤ 10 → okH (m_bestL s it r fa h)
  | 0, _ => Or.inl rfl
  | h + 1, hh => by
    have ih := m_bestL_ok s it r fa h (by omega)
    have hn := okH_nI (h := h) (by omega)
    simp only [m_bestL, m_bestS]
    repeat' split
    all_goals first | exact ih | exact hn
theorem m_best_ok (s it : Nat → Int32) (r : Nat) (fa : Int32) : okH (m_best s it r fa) := m_bestL_ok s it r fa 10 (Nat.le_refl _)
/-- n numbers written over others -/
def cpL (f g : Nat → Int32) (p q : Nat) : Nat → Nat → Int32
  | 0 => g
  | i + 1 => upd (cpL f g p q i) (q + i) (f (p + i))
def zeL (g : Nat → Int32) : Nat → Nat → Int32
  | 0 => g
  | i + 1 => upd (zeL g i) i 0
def mvL (g : Nat → Int32) : Nat → Nat → Int32
  | 0 => g
  | i + 1 => upd (mvL g i) i (mvL g i (i + 378))
def m_recH (s hi : Nat → Int32) (kn : Nat) : Nat → Int32 := if kn = 4 then cpL s (mvL hi 1134) 0 (378 * 3) 378 else cpL s hi 0 (378 * kn) 378
def m_recK (kn : Nat) : Nat := if kn = 4 then 4 else kn + 1
theorem m_fmu {x : Int32} {fm : Nat} (h : x = nI fm) (h2 : fm ≤ 20) : x + bI (x < 20) = nI (min (fm + 1) 20) := by
  subst h
  show nI fm + bI (nI fm < nI 20) = _
  by_cases q : fm < 20
  · rw [bI_t ((nI_ltI (b := 20) (by omega) (by omega)).mpr q), Nat.min_eq_left (by omega)]; exact nI_1 fm
  · rw [bI_f (fun h => q ((nI_ltI (b := 20) (by omega) (by omega)).mp h)), Nat.min_eq_right (by omega)]
    obtain rfl : fm = 20 := by omega
    rfl
def m_shR : Nat → Nat → (Nat → Int32) → Nat → Int32
  | 0, _, f => f
  | n + 1, k, f => m_shR n (k - 1) (upd f (318 + k) (f (318 + k - 3)))
def m_inc (f : Nat → Int32) (k : Nat) : Nat → Int32 := upd f k (f k + 1)
def okF (x : Int32) : Prop := nC x ≤ 20 ∧ x = nI (nC x)
def m_falls (s : Nat → Int32) (r h : Nat) : Nat → Int32 :=
  let s1 := m_shR (3 * (min (nC (s 317) + 1) 20) - 3) (3 * (min (nC (s 317) + 1) 20) - 1) (upd s 317 (s 317 + bI (s 317 < 20)))
  let s2 := upd (upd (upd s1 318 (s1 0)) 319 (nI r)) 320 (nI h)
  let s3 := m_inc (m_inc (m_inc s2 314) (9 * h + 8)) (8 * r + 96)
  upd (upd s3 (8 * r + 93) (s3 (8 * r + 93) + bI (s3 (8 * r + 93) < 9))) (8 * r + 94) 0
def m_learns (s : Nat → Int32) (r : Nat) : Nat → Int32 :=
  let s1 := m_inc (upd s (8 * r + 93) (s (8 * r + 93) - bI (0 < s (8 * r + 93)))) (8 * r + 94)
  upd s1 (8 * r + 92) (s1 (8 * r + 92) + bI ((iR (s1 (8 * r + 94)) 3 = 0) ∧ (s1 (8 * r + 92) < 9)))
def m_strains (s : Nat → Int32) (h : Nat) : Nat → Int32 := if m_inc s (9 * h + 5) (9 * h + 5) = 3 then upd (upd (m_inc s (9 * h + 5)) (9 * h + 5) 0) (9 * h + 6) ((upd (m_inc s (9 * h + 5)) (9 * h + 5) 0) 190) else m_inc s (9 * h + 5)
def m_rd1 (s : Nat → Int32) (r : Nat) (f : Int32) : Nat → Int32 := upd (m_inc (m_inc (m_inc s 313) (9 * nC f + 7)) (8 * r + 95)) (8 * r + 98) f
theorem m_rd1_317 {s : Nat → Int32} {r : Nat} {f : Int32} (hr : r < 12) (hf : nC f < 10) : m_rd1 s r f 317 = s 317 := by
  unfold m_rd1 m_inc
  rw [pk_un (by omega), pk_un (by omega), pk_un (by omega), pk_un (by omega)]
def m_rd2 (s : Nat → Int32) (r : Nat) (f : Int32) : Nat → Int32 := if m_can (m_rd1 s r f) r < m_rd1 s r f (9 * nC f + 2) then m_falls (m_rd1 s r f) r (nC f) else m_learns (m_rd1 s r f) r
def m_rideS (s : Nat → Int32) (r : Nat) (f : Int32) : Nat → Int32 := if f = -5 then m_inc (m_inc s 315) (8 * r + 97) else if m_rd2 s r f (9 * nC f + 1) < m_rd2 s r f (8 * r + 91) + m_rd2 s r f 189 then m_strains (m_rd2 s r f) (nC f) else m_rd2 s r f
def m_rideT (it : Nat → Int32) (f : Int32) : Nat → Int32 := if f = -5 then it else upd it (nC f) 1
def rm_X6_in : Room := { frames := 0, cells := 0, slots := 0, locals := 0 }
set_option maxRecDepth 100000 in
set_option maxHeartbeats 4000000 in
theorem c_X6_in (l : Launch) (G : gG) (v lo hi : Int32)  : CT l yX6_in cX6_in 3 (some .boolean) rm_X6_in G [.int v, .int lo, .int hi] [] (some (.int (bI (¬ (v < lo) ∧ ¬ (hi < v))))) (fun _ => []) := by
  refine gMet (by decide) (Nat.le_of_ble_eq_true rfl) (fun X hX C hr hin E => ?_)
  clear hX
  refine (show gW G X [] 0 0 0 [(0, .int v), (1, .int lo), (2, .int hi)] [] from ?_)
  refine x_iload_n C 0 rfl dX6_in_0 rfl ?_
  refine x_iload_n C 1 rfl dX6_in_1 rfl ?_
  have J3 : ∀ (y4 : Int32) , y4 = bI (¬ (v < lo) ∧ (¬ (hi < v))) → gW G X [] 0 0 15 [(0, .int v), (1, .int lo), (2, .int hi)] [.int y4] := by
    intro y4 ey4
    subst ey4
    exact x_zret C hr bI_nar E dX6_in_15 (fun _ => 0) (bI_iff (by simp only [if_true, if_false, ite_true, ite_false, and_true, true_and, and_false, false_and, or_true, true_or, or_false, false_or, not_true_eq_false, not_false_eq_true, and_self, or_self] <;> decide)) rfl
  refine x_icmp_lt (x := v) (y := lo) (tgt := 14) C dX6_in_2 (by decide) (fun c1 => ?_) (fun c1 => ?_)
  · refine x_iconst (v := (nI 0)) C dX6_in_14 (by decide) ?_
    exact J3 (nI 0) (bI_f (by simp only [c1, if_true, if_false, ite_true, ite_false, and_true, true_and, and_false, false_and, or_true, true_or, or_false, false_or, not_true_eq_false, not_false_eq_true, and_self, or_self] <;> decide)).symm
  · refine x_iload_n C 0 rfl dX6_in_5 rfl ?_
    refine x_iload_n C 2 rfl dX6_in_6 rfl ?_
    refine x_icmp_gt (x := v) (y := hi) (tgt := 14) C dX6_in_7 (by decide) (fun c2 => ?_) (fun c2 => ?_)
    · refine x_iconst (v := (nI 0)) C dX6_in_14 (by decide) ?_
      exact J3 (nI 0) (bI_f (by simp only [c1, c2, if_true, if_false, ite_true, ite_false, and_true, true_and, and_false, false_and, or_true, true_or, or_false, false_or, not_true_eq_false, not_false_eq_true, and_self, or_self] <;> decide)).symm
    · refine x_iconst (v := (nI 1)) C dX6_in_10 (by decide) ?_
      refine x_goto (tgt := 15) C dX6_in_11 (by decide) ?_
      exact J3 (nI 1) (bI_t (by simp only [c1, c2, if_true, if_false, ite_true, ite_false, and_true, true_and, and_false, false_and, or_true, true_or, or_false, false_or, not_true_eq_false, not_false_eq_true, and_self, or_self] <;> decide)).symm
def rm_X6_of : Room := { frames := 0, cells := 0, slots := 0, locals := 0 }
set_option maxRecDepth 100000 in
set_option maxHeartbeats 4000000 in
theorem c_X6_of (l : Launch) (G : gG) (h w j : Nat)  (hj : 1 + 9 * h + w = j) : CT l yX6_of cX6_of 2 (some .int) rm_X6_of G [.int (nI h), .int (nI w)] [] (some (.int (nI j))) (fun _ => []) := by
  refine gMet (by decide) (Nat.le_of_ble_eq_true rfl) (fun X hX C hr hin E => ?_)
  clear hX
  refine (show gW G X [] 0 0 0 [(0, .int (nI h)), (1, .int (nI w))] [] from ?_)
  refine x_iconst (v := (nI 1)) C dX6_of_0 (by decide) ?_
  refine x_bipush (v := (nI 9)) C dX6_of_1 (by decide) ?_
  refine x_iload_n C 0 rfl dX6_of_3 rfl ?_
  refine x_imulN C dX6_of_4 ?_
  refine x_iaddN C dX6_of_5 ?_
  refine x_iload_n C 1 rfl dX6_of_6 rfl ?_
  refine x_iaddN C dX6_of_7 ?_
  exact x_iret C hr E dX6_of_8 (fun _ => 0) (congrArg nI hj) rfl
def rm_X6_ofRider : Room := { frames := 0, cells := 0, slots := 0, locals := 0 }
set_option maxRecDepth 100000 in
set_option maxHeartbeats 4000000 in
theorem c_X6_ofRider (l : Launch) (G : gG) (h w j : Nat)  (hj : 91 + 8 * h + w = j) : CT l yX6_ofRider cX6_ofRider 2 (some .int) rm_X6_ofRider G [.int (nI h), .int (nI w)] [] (some (.int (nI j))) (fun _ => []) := by
  refine gMet (by decide) (Nat.le_of_ble_eq_true rfl) (fun X hX C hr hin E => ?_)
  clear hX
  refine (show gW G X [] 0 0 0 [(0, .int (nI h)), (1, .int (nI w))] [] from ?_)
  refine x_bipush (v := (nI 91)) C dX6_ofRider_0 (by decide) ?_
  refine x_bipush (v := (nI 8)) C dX6_ofRider_2 (by decide) ?_
  refine x_iload_n C 0 rfl dX6_ofRider_4 rfl ?_
  refine x_imulN C dX6_ofRider_5 ?_
  refine x_iaddN C dX6_ofRider_6 ?_
  refine x_iload_n C 1 rfl dX6_ofRider_7 rfl ?_
  refine x_iaddN C dX6_ofRider_8 ?_
  exact x_iret C hr E dX6_ofRider_9 (fun _ => 0) (congrArg nI hj) rfl
def rm_X6_ofBooking : Room := { frames := 0, cells := 0, slots := 0, locals := 0 }
set_option maxRecDepth 100000 in
set_option maxHeartbeats 4000000 in
theorem c_X6_ofBooking (l : Launch) (G : gG) (h w j : Nat)  (hj : 193 + 3 * h + w = j) : CT l yX6_ofBooking cX6_ofBooking 2 (some .int) rm_X6_ofBooking G [.int (nI h), .int (nI w)] [] (some (.int (nI j))) (fun _ => []) := by
  refine gMet (by decide) (Nat.le_of_ble_eq_true rfl) (fun X hX C hr hin E => ?_)
  clear hX
  refine (show gW G X [] 0 0 0 [(0, .int (nI h)), (1, .int (nI w))] [] from ?_)
  refine x_sipush (v := (nI 193)) C dX6_ofBooking_0 (by decide) ?_
  refine x_iconst (v := (nI 3)) C dX6_ofBooking_3 (by decide) ?_
  refine x_iload_n C 0 rfl dX6_ofBooking_4 rfl ?_
  refine x_imulN C dX6_ofBooking_5 ?_
  refine x_iaddN C dX6_ofBooking_6 ?_
  refine x_iload_n C 1 rfl dX6_ofBooking_7 rfl ?_
  refine x_iaddN C dX6_ofBooking_8 ?_
  exact x_iret C hr E dX6_ofBooking_9 (fun _ => 0) (congrArg nI hj) rfl
def rm_X6_isFarrierThere : Room := { frames := 0, cells := 0, slots := 0, locals := 0 }
set_option maxRecDepth 100000 in
set_option maxHeartbeats 4000000 in
theorem c_X6_isFarrierThere (l : Launch) (G : gG) (a : Nat → Nat) (s as_ hi : Nat → Int32) (kn : Nat) (sn : Nat → Int32) (ik : Int32) (tx : Nat → Int32) (ln : Nat) (it wl : Nat → Int32) (sp : Nat) (iw : Int32) (rs : Nat) (er : Int32)  (hz : ¬ s 191 = 0) : CT l yX6_isFarrierThere cX6_isFarrierThere 1 (some .boolean) rm_X6_isFarrierThere G [.ref (a 0)] (wM G a s as_ hi kn sn ik tx ln it wl sp iw rs er) (some (.int (bI (m_there s)))) (fun _ => (wM G a s as_ hi kn sn ik tx ln it wl sp iw rs er)) := by
  refine gMet (by decide) (Nat.le_of_ble_eq_true rfl) (fun X hX C hr hin E => ?_)
  clear hX
  refine (show gW G X (wM G a s as_ hi kn sn ik tx ln it wl sp iw rs er) 0 0 0 [(0, .ref (a 0))] [] from ?_)
  refine x_aload_n C 0 rfl dX6_isFarrierThere_0 rfl ?_
  refine x_get (k := 0) (v := .ref (a 1)) C dX6_isFarrierThere_1 layX6 fl_X6_7 0 rfl rfl (by decide) rfl ?_
  refine x_iconst (v := (nI 0)) C dX6_isFarrierThere_4 (by decide) ?_
  refine x_iald (j := 0) C dX6_isFarrierThere_5 1 rfl rfl (by omega) (by omega) ?_
  refine x_bipush (v := (nI 10)) C dX6_isFarrierThere_6 (by decide) ?_
  refine x_idiv (x := (s 0)) (y := 10) C (by decide) dX6_isFarrierThere_8 ?_
  refine x_aload_n C 0 rfl dX6_isFarrierThere_9 rfl ?_
  refine x_get (k := 0) (v := .ref (a 1)) C dX6_isFarrierThere_10 layX6 fl_X6_7 0 rfl rfl (by decide) rfl ?_
  refine x_sipush (v := (nI 191)) C dX6_isFarrierThere_13 (by decide) ?_
  refine x_iald (j := 191) C dX6_isFarrierThere_16 1 rfl rfl (by omega) (by omega) ?_
  refine x_irem (x := ((s 0) / 10)) (y := (s 191)) C hz dX6_isFarrierThere_17 ?_
  have J2 : ∀ (y3 : Int32) , y3 = bI ((iR ((s 0) / 10) (s 191)) = 0) → gW G X (wM G a s as_ hi kn sn ik tx ln it wl sp iw rs er) 0 0 26 [(0, .ref (a 0))] [.int y3] := by
    intro y3 ey3
    subst ey3
    exact x_zret C hr bI_nar E dX6_isFarrierThere_26 (fun _ => 0) (bI_iff Iff.rfl) rfl
  refine x_if_ne (x := (iR ((s 0) / 10) (s 191))) (tgt := 25) C dX6_isFarrierThere_18 (by decide) (fun c1 => ?_) (fun c1 => ?_)
  · refine x_iconst (v := (nI 0)) C dX6_isFarrierThere_25 (by decide) ?_
    exact J2 (nI 0) (bI_f (by simp only [c1, if_true, if_false, ite_true, ite_false, and_true, true_and, and_false, false_and, or_true, true_or, or_false, false_or, not_true_eq_false, not_false_eq_true, and_self, or_self] <;> decide)).symm
  · refine x_iconst (v := (nI 1)) C dX6_isFarrierThere_21 (by decide) ?_
    refine x_goto (tgt := 26) C dX6_isFarrierThere_22 (by decide) ?_
    exact J2 (nI 1) (bI_t (by simp only [c1, if_true, if_false, ite_true, ite_false, and_true, true_and, and_false, false_and, or_true, true_or, or_false, false_or, not_true_eq_false, not_false_eq_true, and_self, or_self] <;> decide)).symm
def rm_X6_shodHorse : Room := { frames := 1, cells := 0, slots := 0, locals := 21 }
set_option maxRecDepth 100000 in
set_option maxHeartbeats 4000000 in
theorem c_X6_shodHorse (l : Launch) (G : gG) (a : Nat → Nat) (s as_ hi : Nat → Int32) (kn : Nat) (sn : Nat → Int32) (ik : Int32) (tx : Nat → Int32) (ln : Nat) (it wl : Nat → Int32) (sp : Nat) (iw : Int32) (rs : Nat) (er : Int32)  (hz : ¬ s 191 = 0) : CT l yX6_shodHorse cX6_shodHorse 4 (some .int) rm_X6_shodHorse G [.ref (a 0)] (wM G a s as_ hi kn sn ik tx ln it wl sp iw rs er) (some (.int (m_shod s))) (fun _ => (wM G a s as_ hi kn sn ik tx ln it wl sp iw rs er)) := by
  refine gMet (by decide) (Nat.le_of_ble_eq_true rfl) (fun X hX C hr hin E => ?_)
  clear hX
  refine (show gW G X (wM G a s as_ hi kn sn ik tx ln it wl sp iw rs er) 0 0 0 [(0, .ref (a 0))] [] from ?_)
  refine x_bipush (v := (-5)) C dX6_shodHorse_0 (by decide) ?_
  refine x_istore_n (lv' := [(1, .int (-5)), (0, .ref (a 0))]) C dX6_shodHorse_2 rfl (by decide) rfl ?_
  refine x_iconst (v := (nI 0)) C dX6_shodHorse_3 (by decide) ?_
  refine x_istore_n (lv' := [(2, .int (nI 0)), (1, .int (-5)), (0, .ref (a 0))]) C dX6_shodHorse_4 rfl (by decide) rfl ?_
  refine x_iconst (v := (nI 0)) C dX6_shodHorse_5 (by decide) ?_
  refine x_istore_n (lv' := [(3, .int (nI 0)), (2, .int (nI 0)), (1, .int (-5)), (0, .ref (a 0))]) C dX6_shodHorse_6 rfl (by decide) rfl ?_
  have L1 : ∀ (fu : Nat) (i : Nat) (f : Int32) (g : Int32), i + fu = 10 → ((f, g) = m_shL s i) → (i = 0 ∨ m_there s) → gW G X (wM G a s as_ hi kn sn ik tx ln it wl sp iw rs er) 0 0 7 [(3, .int (nI i)), (2, .int g), (1, .int f), (0, .ref (a 0))] [] := by
    intro fu
    induction fu with
    | zero =>
      intro i f g hn ha hth
      have hi9 : i = 10 := by omega
      refine x_iload_n C 0 rfl dX6_shodHorse_7 rfl ?_
      refine x_bipush (v := (nI 10)) C dX6_shodHorse_8 (by decide) ?_
      refine x_icmp_geN (a := i) (b := 10) (tgt := 75) C dX6_shodHorse_10 (by decide) (by omega) (by omega) (fun c2 => ?_) (fun c2 => False.elim (by omega))
      refine x_iload_n C 2 rfl dX6_shodHorse_75 rfl ?_
      exact x_iret C hr E dX6_shodHorse_76 (fun _ => 0) (by first | exact m_shod_a ha hth (by assumption) | exact m_shod_b ha hth (by assumption)) rfl
    | succ fu ih =>
      intro i f g hn ha hth
      refine x_iload_n C 0 rfl dX6_shodHorse_7 rfl ?_
      refine x_bipush (v := (nI 10)) C dX6_shodHorse_8 (by decide) ?_
      refine x_icmp_geN (a := i) (b := 10) (tgt := 75) C dX6_shodHorse_10 (by decide) (by omega) (by omega) (fun c3 => False.elim (by omega)) (fun c3 => ?_)
      refine x_aload_n C 3 rfl dX6_shodHorse_13 rfl ?_
      refine x_callVd (As := []) (rest := []) C dX6_shodHorse_14 (c_X6_isFarrierThere (gX.l X) G a s as_ hi kn sn ik tx ln it wl sp iw rs er hz) ml_X6_46 im_X6_isFarrierThere sl_X6_isFarrierThere in_X6 cd_X6_isFarrierThere hd_X6_isFarrierThere 0 rfl rfl rfl rfl (Nat.le_of_ble_eq_true rfl) ⟨Nat.le_of_ble_eq_true rfl, Nat.le_of_ble_eq_true rfl⟩ (List.take 0 (wM G a s as_ hi kn sn ik tx ln it wl sp iw rs er)) (List.drop 8 (wM G a s as_ hi kn sn ik tx ln it wl sp iw rs er)) rfl (ws' := (wM G a s as_ hi kn sn ik tx ln it wl sp iw rs er)) rfl (st' := [.int (bI (m_there s))]) rfl ⟨rfl, rfl⟩ ⟨Nat.le_of_ble_eq_true rfl, Nat.le_of_ble_eq_true rfl⟩ ?_
      refine x_if_eqB (P := m_there s) (tgt := 75) C dX6_shodHorse_17 (by decide) (fun c4 => ?_) (fun c4 => ?_)
      · refine x_iload_n C 2 rfl dX6_shodHorse_75 rfl ?_
        exact x_iret C hr E dX6_shodHorse_76 (fun _ => 0) (by first | exact m_shod_a ha hth (by assumption) | exact m_shod_b ha hth (by assumption)) rfl
      · refine x_aload_n C 3 rfl dX6_shodHorse_20 rfl ?_
        refine x_get (k := 0) (v := .ref (a 1)) C dX6_shodHorse_21 layX6 fl_X6_7 0 rfl rfl (by decide) rfl ?_
        refine x_iload_n C 0 rfl dX6_shodHorse_24 rfl ?_
        refine x_iconst (v := (nI 3)) C dX6_shodHorse_25 (by decide) ?_
        refine x_callSd (As := [.int (nI i), .int (nI 3)]) (rest := [.ref (a 1)]) C dX6_shodHorse_26 (c_X6_of (gX.l X) G i 3 (9 * i + 4) (by omega)) ml_X6_31 st_X6_of in_X6 cd_X6_of hd_X6_of rfl rfl (Nat.le_of_ble_eq_true rfl) ⟨Nat.le_of_ble_eq_true rfl, Nat.le_of_ble_eq_true rfl⟩ [] (wM G a s as_ hi kn sn ik tx ln it wl sp iw rs er) rfl (ws' := (wM G a s as_ hi kn sn ik tx ln it wl sp iw rs er)) rfl (st' := [.int (nI (9 * i + 4)), .ref (a 1)]) rfl ⟨rfl, rfl⟩ ⟨Nat.le_of_ble_eq_true rfl, Nat.le_of_ble_eq_true rfl⟩ ?_
        refine x_iald (j := (9 * i + 4)) C dX6_shodHorse_29 1 rfl rfl (by omega) (by omega) ?_
        refine x_iload_n C 1 rfl dX6_shodHorse_30 rfl ?_
        refine x_icmp_le (x := (s (9 * i + 4))) (y := g) (tgt := 38) C dX6_shodHorse_31 (by decide) (fun c5 => ?_) (fun c5 => ?_)
        · refine x_iload_n C 2 rfl dX6_shodHorse_38 rfl ?_
          refine x_istore_n (lv' := [(1, .int f), (3, .int (nI i)), (2, .int g), (0, .ref (a 0))]) C dX6_shodHorse_39 rfl (by decide) rfl ?_
          refine x_aload_n C 3 rfl dX6_shodHorse_40 rfl ?_
          refine x_get (k := 0) (v := .ref (a 1)) C dX6_shodHorse_41 layX6 fl_X6_7 0 rfl rfl (by decide) rfl ?_
          refine x_iload_n C 1 rfl dX6_shodHorse_44 rfl ?_
          refine x_iconst (v := (nI 3)) C dX6_shodHorse_45 (by decide) ?_
          refine x_callSd (As := [.int (nI i), .int (nI 3)]) (rest := [.ref (a 1)]) C dX6_shodHorse_46 (c_X6_of (gX.l X) G i 3 (9 * i + 4) (by omega)) ml_X6_31 st_X6_of in_X6 cd_X6_of hd_X6_of rfl rfl (Nat.le_of_ble_eq_true rfl) ⟨Nat.le_of_ble_eq_true rfl, Nat.le_of_ble_eq_true rfl⟩ [] (wM G a s as_ hi kn sn ik tx ln it wl sp iw rs er) rfl (ws' := (wM G a s as_ hi kn sn ik tx ln it wl sp iw rs er)) rfl (st' := [.int (nI (9 * i + 4)), .ref (a 1)]) rfl ⟨rfl, rfl⟩ ⟨Nat.le_of_ble_eq_true rfl, Nat.le_of_ble_eq_true rfl⟩ ?_
          refine x_iald (j := (9 * i + 4)) C dX6_shodHorse_49 1 rfl rfl (by omega) (by omega) ?_
          refine x_iload_n C 2 rfl dX6_shodHorse_50 rfl ?_
          refine x_icmp_le (x := (s (9 * i + 4))) (y := g) (tgt := 67) C dX6_shodHorse_51 (by decide) (fun c6 => ?_) (fun c6 => False.elim (c5 c6))
          refine x_iload_n C 2 rfl dX6_shodHorse_67 rfl ?_
          refine x_istore_n (lv' := [(2, .int g), (1, .int f), (3, .int (nI i)), (0, .ref (a 0))]) C dX6_shodHorse_68 rfl (by decide) rfl ?_
          refine x_iinc (v := (nI (i + 1))) (lv' := [(3, .int (nI (i + 1))), (2, .int g), (1, .int f), (0, .ref (a 0))]) C 2 rfl dX6_shodHorse_69 (by rw [show Int32.ofInt 1 = nI 1 from rfl]; exact nI_add _ _) (by decide) rfl ?_
          refine x_goto (tgt := 7) C dX6_shodHorse_72 (by decide) ?_
          exact ih (i + 1) f g (by omega) (by simp only [m_shL, ← ha, c3, c4, c5,  if_true, if_false, ite_true, ite_false, and_true, true_and, and_false, false_and, or_true, true_or, or_false, false_or, not_true_eq_false, not_false_eq_true, and_self, or_self]) (by exact Or.inr (by assumption))
        · refine x_iload_n C 0 rfl dX6_shodHorse_34 rfl ?_
          refine x_goto (tgt := 39) C dX6_shodHorse_35 (by decide) ?_
          refine x_istore_n (lv' := [(1, .int (nI i)), (3, .int (nI i)), (2, .int g), (0, .ref (a 0))]) C dX6_shodHorse_39 rfl (by decide) rfl ?_
          refine x_aload_n C 3 rfl dX6_shodHorse_40 rfl ?_
          refine x_get (k := 0) (v := .ref (a 1)) C dX6_shodHorse_41 layX6 fl_X6_7 0 rfl rfl (by decide) rfl ?_
          refine x_iload_n C 1 rfl dX6_shodHorse_44 rfl ?_
          refine x_iconst (v := (nI 3)) C dX6_shodHorse_45 (by decide) ?_
          refine x_callSd (As := [.int (nI i), .int (nI 3)]) (rest := [.ref (a 1)]) C dX6_shodHorse_46 (c_X6_of (gX.l X) G i 3 (9 * i + 4) (by omega)) ml_X6_31 st_X6_of in_X6 cd_X6_of hd_X6_of rfl rfl (Nat.le_of_ble_eq_true rfl) ⟨Nat.le_of_ble_eq_true rfl, Nat.le_of_ble_eq_true rfl⟩ [] (wM G a s as_ hi kn sn ik tx ln it wl sp iw rs er) rfl (ws' := (wM G a s as_ hi kn sn ik tx ln it wl sp iw rs er)) rfl (st' := [.int (nI (9 * i + 4)), .ref (a 1)]) rfl ⟨rfl, rfl⟩ ⟨Nat.le_of_ble_eq_true rfl, Nat.le_of_ble_eq_true rfl⟩ ?_
          refine x_iald (j := (9 * i + 4)) C dX6_shodHorse_49 1 rfl rfl (by omega) (by omega) ?_
          refine x_iload_n C 2 rfl dX6_shodHorse_50 rfl ?_
          refine x_icmp_le (x := (s (9 * i + 4))) (y := g) (tgt := 67) C dX6_shodHorse_51 (by decide) (fun c7 => False.elim (c7 c5)) (fun c7 => ?_)
          refine x_aload_n C 3 rfl dX6_shodHorse_54 rfl ?_
          refine x_get (k := 0) (v := .ref (a 1)) C dX6_shodHorse_55 layX6 fl_X6_7 0 rfl rfl (by decide) rfl ?_
          refine x_iload_n C 1 rfl dX6_shodHorse_58 rfl ?_
          refine x_iconst (v := (nI 3)) C dX6_shodHorse_59 (by decide) ?_
          refine x_callSd (As := [.int (nI i), .int (nI 3)]) (rest := [.ref (a 1)]) C dX6_shodHorse_60 (c_X6_of (gX.l X) G i 3 (9 * i + 4) (by omega)) ml_X6_31 st_X6_of in_X6 cd_X6_of hd_X6_of rfl rfl (Nat.le_of_ble_eq_true rfl) ⟨Nat.le_of_ble_eq_true rfl, Nat.le_of_ble_eq_true rfl⟩ [] (wM G a s as_ hi kn sn ik tx ln it wl sp iw rs er) rfl (ws' := (wM G a s as_ hi kn sn ik tx ln it wl sp iw rs er)) rfl (st' := [.int (nI (9 * i + 4)), .ref (a 1)]) rfl ⟨rfl, rfl⟩ ⟨Nat.le_of_ble_eq_true rfl, Nat.le_of_ble_eq_true rfl⟩ ?_
          refine x_iald (j := (9 * i + 4)) C dX6_shodHorse_63 1 rfl rfl (by omega) (by omega) ?_
          refine x_goto (tgt := 68) C dX6_shodHorse_64 (by decide) ?_
          refine x_istore_n (lv' := [(2, .int (s (9 * i + 4))), (1, .int (nI i)), (3, .int (nI i)), (0, .ref (a 0))]) C dX6_shodHorse_68 rfl (by decide) rfl ?_
          refine x_iinc (v := (nI (i + 1))) (lv' := [(3, .int (nI (i + 1))), (2, .int (s (9 * i + 4))), (1, .int (nI i)), (0, .ref (a 0))]) C 2 rfl dX6_shodHorse_69 (by rw [show Int32.ofInt 1 = nI 1 from rfl]; exact nI_add _ _) (by decide) rfl ?_
          refine x_goto (tgt := 7) C dX6_shodHorse_72 (by decide) ?_
          exact ih (i + 1) (nI i) (s (9 * i + 4)) (by omega) (by simp only [m_shL, ← ha, c3, c4, c5,  if_true, if_false, ite_true, ite_false, and_true, true_and, and_false, false_and, or_true, true_or, or_false, false_or, not_true_eq_false, not_false_eq_true, and_self, or_self]) (by exact Or.inr (by assumption))
  exact L1 10 0 (-5) 0 (by omega) (by rfl) (by exact Or.inl rfl)
def rm_X6_hindrance : Room := { frames := 1, cells := 0, slots := 0, locals := 21 }
set_option maxRecDepth 100000 in
set_option maxHeartbeats 4000000 in
theorem c_X6_hindrance (l : Launch) (G : gG) (a : Nat → Nat) (s as_ hi : Nat → Int32) (kn : Nat) (sn : Nat → Int32) (ik : Int32) (tx : Nat → Int32) (ln : Nat) (it wl : Nat → Int32) (sp : Nat) (iw : Int32) (rs : Nat) (er : Int32) (h r : Nat) (fa : Int32)  (hh : h < 10) (hr0 : r < 12) : CT l yX6_hindrance cX6_hindrance 4 (some .int) rm_X6_hindrance G [.ref (a 0), .int (nI h), .int (nI r), .int fa] (wM G a s as_ hi kn sn ik tx ln it wl sp iw rs er) (some (.int (m_hind s h r fa))) (fun _ => (wM G a s as_ hi kn sn ik tx ln it wl sp iw rs er)) := by
  refine gMet (by decide) (Nat.le_of_ble_eq_true rfl) (fun X hX C hr hin E => ?_)
  clear hX
  refine (show gW G X (wM G a s as_ hi kn sn ik tx ln it wl sp iw rs er) 0 0 0 [(0, .ref (a 0)), (1, .int (nI h)), (2, .int (nI r)), (3, .int fa)] [] from ?_)
  refine x_aload_n C 0 rfl dX6_hindrance_0 rfl ?_
  refine x_get (k := 0) (v := .ref (a 1)) C dX6_hindrance_1 layX6 fl_X6_7 0 rfl rfl (by decide) rfl ?_
  refine x_iload_n C 1 rfl dX6_hindrance_4 rfl ?_
  refine x_iconst (v := (nI 5)) C dX6_hindrance_5 (by decide) ?_
  refine x_callSd (As := [.int (nI h), .int (nI 5)]) (rest := [.ref (a 1)]) C dX6_hindrance_6 (c_X6_of (gX.l X) G h 5 (9 * h + 6) (by omega)) ml_X6_31 st_X6_of in_X6 cd_X6_of hd_X6_of rfl rfl (Nat.le_of_ble_eq_true rfl) ⟨Nat.le_of_ble_eq_true rfl, Nat.le_of_ble_eq_true rfl⟩ [] (wM G a s as_ hi kn sn ik tx ln it wl sp iw rs er) rfl (ws' := (wM G a s as_ hi kn sn ik tx ln it wl sp iw rs er)) rfl (st' := [.int (nI (9 * h + 6)), .ref (a 1)]) rfl ⟨rfl, rfl⟩ ⟨Nat.le_of_ble_eq_true rfl, Nat.le_of_ble_eq_true rfl⟩ ?_
  refine x_iald (j := (9 * h + 6)) C dX6_hindrance_9 1 rfl rfl (by omega) (by omega) ?_
  refine x_if_gt (x := (s (9 * h + 6))) (tgt := 18) C dX6_hindrance_10 (by decide) (fun c1 => ?_) (fun c1 => ?_)
  · refine x_aload_n C 0 rfl dX6_hindrance_18 rfl ?_
    refine x_get (k := 0) (v := .ref (a 1)) C dX6_hindrance_19 layX6 fl_X6_7 0 rfl rfl (by decide) rfl ?_
    refine x_iload_n C 1 rfl dX6_hindrance_22 rfl ?_
    refine x_iconst (v := (nI 5)) C dX6_hindrance_23 (by decide) ?_
    refine x_callSd (As := [.int (nI h), .int (nI 5)]) (rest := [.ref (a 1)]) C dX6_hindrance_24 (c_X6_of (gX.l X) G h 5 (9 * h + 6) (by omega)) ml_X6_31 st_X6_of in_X6 cd_X6_of hd_X6_of rfl rfl (Nat.le_of_ble_eq_true rfl) ⟨Nat.le_of_ble_eq_true rfl, Nat.le_of_ble_eq_true rfl⟩ [] (wM G a s as_ hi kn sn ik tx ln it wl sp iw rs er) rfl (ws' := (wM G a s as_ hi kn sn ik tx ln it wl sp iw rs er)) rfl (st' := [.int (nI (9 * h + 6)), .ref (a 1)]) rfl ⟨rfl, rfl⟩ ⟨Nat.le_of_ble_eq_true rfl, Nat.le_of_ble_eq_true rfl⟩ ?_
    refine x_iald (j := (9 * h + 6)) C dX6_hindrance_27 1 rfl rfl (by omega) (by omega) ?_
    refine x_if_le (x := (s (9 * h + 6))) (tgt := 35) C dX6_hindrance_28 (by decide) (fun c2 => False.elim (c2 c1)) (fun c2 => ?_)
    refine x_iconst (v := (nI 1)) C dX6_hindrance_31 (by decide) ?_
    refine x_goto (tgt := 36) C dX6_hindrance_32 (by decide) ?_
    exact x_iret C hr E dX6_hindrance_36 (fun _ => 0) (by simp only [m_hind, c1,  if_true, if_false, ite_true, ite_false, and_true, true_and, and_false, false_and, or_true, true_or, or_false, false_or, not_true_eq_false, not_false_eq_true, and_self, or_self] <;> rfl) rfl
  · refine x_iload_n C 1 rfl dX6_hindrance_13 rfl ?_
    refine x_iload_n C 3 rfl dX6_hindrance_14 rfl ?_
    refine x_icmp_ne (x := (nI h)) (y := fa) (tgt := 37) C dX6_hindrance_15 (by decide) (fun c3 => ?_) (fun c3 => ?_)
    · refine x_aload_n C 0 rfl dX6_hindrance_37 rfl ?_
      refine x_get (k := 0) (v := .ref (a 1)) C dX6_hindrance_38 layX6 fl_X6_7 0 rfl rfl (by decide) rfl ?_
      refine x_iload_n C 1 rfl dX6_hindrance_41 rfl ?_
      refine x_iconst (v := (nI 3)) C dX6_hindrance_42 (by decide) ?_
      refine x_callSd (As := [.int (nI h), .int (nI 3)]) (rest := [.ref (a 1)]) C dX6_hindrance_43 (c_X6_of (gX.l X) G h 3 (9 * h + 4) (by omega)) ml_X6_31 st_X6_of in_X6 cd_X6_of hd_X6_of rfl rfl (Nat.le_of_ble_eq_true rfl) ⟨Nat.le_of_ble_eq_true rfl, Nat.le_of_ble_eq_true rfl⟩ [] (wM G a s as_ hi kn sn ik tx ln it wl sp iw rs er) rfl (ws' := (wM G a s as_ hi kn sn ik tx ln it wl sp iw rs er)) rfl (st' := [.int (nI (9 * h + 4)), .ref (a 1)]) rfl ⟨rfl, rfl⟩ ⟨Nat.le_of_ble_eq_true rfl, Nat.le_of_ble_eq_true rfl⟩ ?_
      refine x_iald (j := (9 * h + 4)) C dX6_hindrance_46 1 rfl rfl (by omega) (by omega) ?_
      refine x_aload_n C 0 rfl dX6_hindrance_47 rfl ?_
      refine x_get (k := 0) (v := .ref (a 1)) C dX6_hindrance_48 layX6 fl_X6_7 0 rfl rfl (by decide) rfl ?_
      refine x_sipush (v := (nI 188)) C dX6_hindrance_51 (by decide) ?_
      refine x_iald (j := 188) C dX6_hindrance_54 1 rfl rfl (by omega) (by omega) ?_
      refine x_icmp_ge (x := (s (9 * h + 4))) (y := (s 188)) (tgt := 79) C dX6_hindrance_55 (by decide) (fun c4 => ?_) (fun c4 => ?_)
      · refine x_aload_n C 0 rfl dX6_hindrance_79 rfl ?_
        refine x_get (k := 0) (v := .ref (a 1)) C dX6_hindrance_80 layX6 fl_X6_7 0 rfl rfl (by decide) rfl ?_
        refine x_iload_n C 1 rfl dX6_hindrance_83 rfl ?_
        refine x_iconst (v := (nI 3)) C dX6_hindrance_84 (by decide) ?_
        refine x_callSd (As := [.int (nI h), .int (nI 3)]) (rest := [.ref (a 1)]) C dX6_hindrance_85 (c_X6_of (gX.l X) G h 3 (9 * h + 4) (by omega)) ml_X6_31 st_X6_of in_X6 cd_X6_of hd_X6_of rfl rfl (Nat.le_of_ble_eq_true rfl) ⟨Nat.le_of_ble_eq_true rfl, Nat.le_of_ble_eq_true rfl⟩ [] (wM G a s as_ hi kn sn ik tx ln it wl sp iw rs er) rfl (ws' := (wM G a s as_ hi kn sn ik tx ln it wl sp iw rs er)) rfl (st' := [.int (nI (9 * h + 4)), .ref (a 1)]) rfl ⟨rfl, rfl⟩ ⟨Nat.le_of_ble_eq_true rfl, Nat.le_of_ble_eq_true rfl⟩ ?_
        refine x_iald (j := (9 * h + 4)) C dX6_hindrance_88 1 rfl rfl (by omega) (by omega) ?_
        refine x_aload_n C 0 rfl dX6_hindrance_89 rfl ?_
        refine x_get (k := 0) (v := .ref (a 1)) C dX6_hindrance_90 layX6 fl_X6_7 0 rfl rfl (by decide) rfl ?_
        refine x_sipush (v := (nI 188)) C dX6_hindrance_93 (by decide) ?_
        refine x_iald (j := 188) C dX6_hindrance_96 1 rfl rfl (by omega) (by omega) ?_
        refine x_icmp_lt (x := (s (9 * h + 4))) (y := (s 188)) (tgt := 104) C dX6_hindrance_97 (by decide) (fun c5 => False.elim (c4 c5)) (fun c5 => ?_)
        refine x_iconst (v := (nI 3)) C dX6_hindrance_100 (by decide) ?_
        refine x_goto (tgt := 105) C dX6_hindrance_101 (by decide) ?_
        exact x_iret C hr E dX6_hindrance_105 (fun _ => 0) (by simp only [m_hind, c1, c3, c4,  if_true, if_false, ite_true, ite_false, and_true, true_and, and_false, false_and, or_true, true_or, or_false, false_or, not_true_eq_false, not_false_eq_true, and_self, or_self] <;> rfl) rfl
      · refine x_aload_n C 0 rfl dX6_hindrance_58 rfl ?_
        refine x_get (k := 0) (v := .ref (a 1)) C dX6_hindrance_59 layX6 fl_X6_7 0 rfl rfl (by decide) rfl ?_
        refine x_iload_n C 1 rfl dX6_hindrance_62 rfl ?_
        refine x_iconst (v := (nI 2)) C dX6_hindrance_63 (by decide) ?_
        refine x_callSd (As := [.int (nI h), .int (nI 2)]) (rest := [.ref (a 1)]) C dX6_hindrance_64 (c_X6_of (gX.l X) G h 2 (9 * h + 3) (by omega)) ml_X6_31 st_X6_of in_X6 cd_X6_of hd_X6_of rfl rfl (Nat.le_of_ble_eq_true rfl) ⟨Nat.le_of_ble_eq_true rfl, Nat.le_of_ble_eq_true rfl⟩ [] (wM G a s as_ hi kn sn ik tx ln it wl sp iw rs er) rfl (ws' := (wM G a s as_ hi kn sn ik tx ln it wl sp iw rs er)) rfl (st' := [.int (nI (9 * h + 3)), .ref (a 1)]) rfl ⟨rfl, rfl⟩ ⟨Nat.le_of_ble_eq_true rfl, Nat.le_of_ble_eq_true rfl⟩ ?_
        refine x_iald (j := (9 * h + 3)) C dX6_hindrance_67 1 rfl rfl (by omega) (by omega) ?_
        refine x_aload_n C 0 rfl dX6_hindrance_68 rfl ?_
        refine x_get (k := 0) (v := .ref (a 1)) C dX6_hindrance_69 layX6 fl_X6_7 0 rfl rfl (by decide) rfl ?_
        refine x_sipush (v := (nI 187)) C dX6_hindrance_72 (by decide) ?_
        refine x_iald (j := 187) C dX6_hindrance_75 1 rfl rfl (by omega) (by omega) ?_
        refine x_icmp_lt (x := (s (9 * h + 3))) (y := (s 187)) (tgt := 106) C dX6_hindrance_76 (by decide) (fun c6 => ?_) (fun c6 => ?_)
        · refine x_aload_n C 0 rfl dX6_hindrance_106 rfl ?_
          refine x_get (k := 0) (v := .ref (a 1)) C dX6_hindrance_107 layX6 fl_X6_7 0 rfl rfl (by decide) rfl ?_
          refine x_iload_n C 1 rfl dX6_hindrance_110 rfl ?_
          refine x_iconst (v := (nI 0)) C dX6_hindrance_111 (by decide) ?_
          refine x_callSd (As := [.int (nI h), .int (nI 0)]) (rest := [.ref (a 1)]) C dX6_hindrance_112 (c_X6_of (gX.l X) G h 0 (9 * h + 1) (by omega)) ml_X6_31 st_X6_of in_X6 cd_X6_of hd_X6_of rfl rfl (Nat.le_of_ble_eq_true rfl) ⟨Nat.le_of_ble_eq_true rfl, Nat.le_of_ble_eq_true rfl⟩ [] (wM G a s as_ hi kn sn ik tx ln it wl sp iw rs er) rfl (ws' := (wM G a s as_ hi kn sn ik tx ln it wl sp iw rs er)) rfl (st' := [.int (nI (9 * h + 1)), .ref (a 1)]) rfl ⟨rfl, rfl⟩ ⟨Nat.le_of_ble_eq_true rfl, Nat.le_of_ble_eq_true rfl⟩ ?_
          refine x_iald (j := (9 * h + 1)) C dX6_hindrance_115 1 rfl rfl (by omega) (by omega) ?_
          refine x_aload_n C 0 rfl dX6_hindrance_116 rfl ?_
          refine x_get (k := 0) (v := .ref (a 1)) C dX6_hindrance_117 layX6 fl_X6_7 0 rfl rfl (by decide) rfl ?_
          refine x_iload_n C 2 rfl dX6_hindrance_120 rfl ?_
          refine x_iconst (v := (nI 0)) C dX6_hindrance_121 (by decide) ?_
          refine x_callSd (As := [.int (nI r), .int (nI 0)]) (rest := [.ref (a 1), .int (s (9 * h + 1))]) C dX6_hindrance_122 (c_X6_ofRider (gX.l X) G r 0 (8 * r + 91) (by omega)) ml_X6_35 st_X6_ofRider in_X6 cd_X6_ofRider hd_X6_ofRider rfl rfl (Nat.le_of_ble_eq_true rfl) ⟨Nat.le_of_ble_eq_true rfl, Nat.le_of_ble_eq_true rfl⟩ [] (wM G a s as_ hi kn sn ik tx ln it wl sp iw rs er) rfl (ws' := (wM G a s as_ hi kn sn ik tx ln it wl sp iw rs er)) rfl (st' := [.int (nI (8 * r + 91)), .ref (a 1), .int (s (9 * h + 1))]) rfl ⟨rfl, rfl⟩ ⟨Nat.le_of_ble_eq_true rfl, Nat.le_of_ble_eq_true rfl⟩ ?_
          refine x_iald (j := (8 * r + 91)) C dX6_hindrance_125 1 rfl rfl (by omega) (by omega) ?_
          refine x_icmp_ge (x := (s (9 * h + 1))) (y := (s (8 * r + 91))) (tgt := 133) C dX6_hindrance_126 (by decide) (fun c7 => ?_) (fun c7 => ?_)
          · refine x_iconst (v := (nI 0)) C dX6_hindrance_133 (by decide) ?_
            exact x_iret C hr E dX6_hindrance_134 (fun _ => 0) (by simp only [m_hind, c1, c3, c4, c6, c7,  if_true, if_false, ite_true, ite_false, and_true, true_and, and_false, false_and, or_true, true_or, or_false, false_or, not_true_eq_false, not_false_eq_true, and_self, or_self] <;> rfl) rfl
          · refine x_iconst (v := (nI 5)) C dX6_hindrance_129 (by decide) ?_
            refine x_goto (tgt := 134) C dX6_hindrance_130 (by decide) ?_
            exact x_iret C hr E dX6_hindrance_134 (fun _ => 0) (by simp only [m_hind, c1, c3, c4, c6, c7,  if_true, if_false, ite_true, ite_false, and_true, true_and, and_false, false_and, or_true, true_or, or_false, false_or, not_true_eq_false, not_false_eq_true, and_self, or_self] <;> rfl) rfl
        · refine x_aload_n C 0 rfl dX6_hindrance_79 rfl ?_
          refine x_get (k := 0) (v := .ref (a 1)) C dX6_hindrance_80 layX6 fl_X6_7 0 rfl rfl (by decide) rfl ?_
          refine x_iload_n C 1 rfl dX6_hindrance_83 rfl ?_
          refine x_iconst (v := (nI 3)) C dX6_hindrance_84 (by decide) ?_
          refine x_callSd (As := [.int (nI h), .int (nI 3)]) (rest := [.ref (a 1)]) C dX6_hindrance_85 (c_X6_of (gX.l X) G h 3 (9 * h + 4) (by omega)) ml_X6_31 st_X6_of in_X6 cd_X6_of hd_X6_of rfl rfl (Nat.le_of_ble_eq_true rfl) ⟨Nat.le_of_ble_eq_true rfl, Nat.le_of_ble_eq_true rfl⟩ [] (wM G a s as_ hi kn sn ik tx ln it wl sp iw rs er) rfl (ws' := (wM G a s as_ hi kn sn ik tx ln it wl sp iw rs er)) rfl (st' := [.int (nI (9 * h + 4)), .ref (a 1)]) rfl ⟨rfl, rfl⟩ ⟨Nat.le_of_ble_eq_true rfl, Nat.le_of_ble_eq_true rfl⟩ ?_
          refine x_iald (j := (9 * h + 4)) C dX6_hindrance_88 1 rfl rfl (by omega) (by omega) ?_
          refine x_aload_n C 0 rfl dX6_hindrance_89 rfl ?_
          refine x_get (k := 0) (v := .ref (a 1)) C dX6_hindrance_90 layX6 fl_X6_7 0 rfl rfl (by decide) rfl ?_
          refine x_sipush (v := (nI 188)) C dX6_hindrance_93 (by decide) ?_
          refine x_iald (j := 188) C dX6_hindrance_96 1 rfl rfl (by omega) (by omega) ?_
          refine x_icmp_lt (x := (s (9 * h + 4))) (y := (s 188)) (tgt := 104) C dX6_hindrance_97 (by decide) (fun c8 => ?_) (fun c8 => False.elim (c8 c4))
          refine x_iconst (v := (nI 4)) C dX6_hindrance_104 (by decide) ?_
          exact x_iret C hr E dX6_hindrance_105 (fun _ => 0) (by simp only [m_hind, c1, c3, c4, c6,  if_true, if_false, ite_true, ite_false, and_true, true_and, and_false, false_and, or_true, true_or, or_false, false_or, not_true_eq_false, not_false_eq_true, and_self, or_self] <;> rfl) rfl
    · refine x_aload_n C 0 rfl dX6_hindrance_18 rfl ?_
      refine x_get (k := 0) (v := .ref (a 1)) C dX6_hindrance_19 layX6 fl_X6_7 0 rfl rfl (by decide) rfl ?_
      refine x_iload_n C 1 rfl dX6_hindrance_22 rfl ?_
      refine x_iconst (v := (nI 5)) C dX6_hindrance_23 (by decide) ?_
      refine x_callSd (As := [.int (nI h), .int (nI 5)]) (rest := [.ref (a 1)]) C dX6_hindrance_24 (c_X6_of (gX.l X) G h 5 (9 * h + 6) (by omega)) ml_X6_31 st_X6_of in_X6 cd_X6_of hd_X6_of rfl rfl (Nat.le_of_ble_eq_true rfl) ⟨Nat.le_of_ble_eq_true rfl, Nat.le_of_ble_eq_true rfl⟩ [] (wM G a s as_ hi kn sn ik tx ln it wl sp iw rs er) rfl (ws' := (wM G a s as_ hi kn sn ik tx ln it wl sp iw rs er)) rfl (st' := [.int (nI (9 * h + 6)), .ref (a 1)]) rfl ⟨rfl, rfl⟩ ⟨Nat.le_of_ble_eq_true rfl, Nat.le_of_ble_eq_true rfl⟩ ?_
      refine x_iald (j := (9 * h + 6)) C dX6_hindrance_27 1 rfl rfl (by omega) (by omega) ?_
      refine x_if_le (x := (s (9 * h + 6))) (tgt := 35) C dX6_hindrance_28 (by decide) (fun c9 => ?_) (fun c9 => False.elim (c1 c9))
      refine x_iconst (v := (nI 2)) C dX6_hindrance_35 (by decide) ?_
      exact x_iret C hr E dX6_hindrance_36 (fun _ => 0) (by simp only [m_hind, c1, c3,  if_true, if_false, ite_true, ite_false, and_true, true_and, and_false, false_and, or_true, true_or, or_false, false_or, not_true_eq_false, not_false_eq_true, and_self, or_self] <;> rfl) rfl
def rm_X6_can : Room := { frames := 1, cells := 0, slots := 0, locals := 21 }
set_option maxRecDepth 100000 in
set_option maxHeartbeats 4000000 in
theorem c_X6_can (l : Launch) (G : gG) (a : Nat → Nat) (s as_ hi : Nat → Int32) (kn : Nat) (sn : Nat → Int32) (ik : Int32) (tx : Nat → Int32) (ln : Nat) (it wl : Nat → Int32) (sp : Nat) (iw : Int32) (rs : Nat) (er : Int32) (r : Nat)  (hr0 : r < 12) : CT l yX6_can cX6_can 3 (some .int) rm_X6_can G [.ref (a 0), .int (nI r)] (wM G a s as_ hi kn sn ik tx ln it wl sp iw rs er) (some (.int (m_can s r))) (fun _ => (wM G a s as_ hi kn sn ik tx ln it wl sp iw rs er)) := by
  refine gMet (by decide) (Nat.le_of_ble_eq_true rfl) (fun X hX C hr hin E => ?_)
  clear hX
  refine (show gW G X (wM G a s as_ hi kn sn ik tx ln it wl sp iw rs er) 0 0 0 [(0, .ref (a 0)), (1, .int (nI r))] [] from ?_)
  refine x_aload_n C 0 rfl dX6_can_0 rfl ?_
  refine x_get (k := 0) (v := .ref (a 1)) C dX6_can_1 layX6 fl_X6_7 0 rfl rfl (by decide) rfl ?_
  refine x_iload_n C 1 rfl dX6_can_4 rfl ?_
  refine x_iconst (v := (nI 1)) C dX6_can_5 (by decide) ?_
  refine x_callSd (As := [.int (nI r), .int (nI 1)]) (rest := [.ref (a 1)]) C dX6_can_6 (c_X6_ofRider (gX.l X) G r 1 (8 * r + 92) (by omega)) ml_X6_35 st_X6_ofRider in_X6 cd_X6_ofRider hd_X6_ofRider rfl rfl (Nat.le_of_ble_eq_true rfl) ⟨Nat.le_of_ble_eq_true rfl, Nat.le_of_ble_eq_true rfl⟩ [] (wM G a s as_ hi kn sn ik tx ln it wl sp iw rs er) rfl (ws' := (wM G a s as_ hi kn sn ik tx ln it wl sp iw rs er)) rfl (st' := [.int (nI (8 * r + 92)), .ref (a 1)]) rfl ⟨rfl, rfl⟩ ⟨Nat.le_of_ble_eq_true rfl, Nat.le_of_ble_eq_true rfl⟩ ?_
  refine x_iald (j := (8 * r + 92)) C dX6_can_9 1 rfl rfl (by omega) (by omega) ?_
  refine x_aload_n C 0 rfl dX6_can_10 rfl ?_
  refine x_get (k := 0) (v := .ref (a 1)) C dX6_can_11 layX6 fl_X6_7 0 rfl rfl (by decide) rfl ?_
  refine x_iload_n C 1 rfl dX6_can_14 rfl ?_
  refine x_iconst (v := (nI 2)) C dX6_can_15 (by decide) ?_
  refine x_callSd (As := [.int (nI r), .int (nI 2)]) (rest := [.ref (a 1), .int (s (8 * r + 92))]) C dX6_can_16 (c_X6_ofRider (gX.l X) G r 2 (8 * r + 93) (by omega)) ml_X6_35 st_X6_ofRider in_X6 cd_X6_ofRider hd_X6_ofRider rfl rfl (Nat.le_of_ble_eq_true rfl) ⟨Nat.le_of_ble_eq_true rfl, Nat.le_of_ble_eq_true rfl⟩ [] (wM G a s as_ hi kn sn ik tx ln it wl sp iw rs er) rfl (ws' := (wM G a s as_ hi kn sn ik tx ln it wl sp iw rs er)) rfl (st' := [.int (nI (8 * r + 93)), .ref (a 1), .int (s (8 * r + 92))]) rfl ⟨rfl, rfl⟩ ⟨Nat.le_of_ble_eq_true rfl, Nat.le_of_ble_eq_true rfl⟩ ?_
  refine x_iald (j := (8 * r + 93)) C dX6_can_19 1 rfl rfl (by omega) (by omega) ?_
  refine x_isub (x := (s (8 * r + 92))) (y := (s (8 * r + 93))) C dX6_can_20 ?_
  refine x_istore_n (lv' := [(2, .int ((s (8 * r + 92)) - (s (8 * r + 93)))), (0, .ref (a 0)), (1, .int (nI r))]) C dX6_can_21 rfl (by decide) rfl ?_
  refine x_iload_n C 0 rfl dX6_can_22 rfl ?_
  have J2 : ∀ (y3 : Int32) , y3 = (if ((s (8 * r + 92)) - (s (8 * r + 93))) < 0 then 0 else ((s (8 * r + 92)) - (s (8 * r + 93)))) → gW G X (wM G a s as_ hi kn sn ik tx ln it wl sp iw rs er) 0 0 31 [(2, .int ((s (8 * r + 92)) - (s (8 * r + 93)))), (0, .ref (a 0)), (1, .int (nI r))] [.int y3] := by
    intro y3 ey3
    subst ey3
    exact x_iret C hr E dX6_can_31 (fun _ => 0) rfl rfl
  refine x_if_ge (x := ((s (8 * r + 92)) - (s (8 * r + 93)))) (tgt := 30) C dX6_can_23 (by decide) (fun c1 => ?_) (fun c1 => ?_)
  · refine x_iload_n C 0 rfl dX6_can_30 rfl ?_
    exact J2 ((s (8 * r + 92)) - (s (8 * r + 93))) (by rw [if_neg c1] <;> rfl)
  · refine x_iconst (v := (nI 0)) C dX6_can_26 (by decide) ?_
    refine x_goto (tgt := 31) C dX6_can_27 (by decide) ?_
    exact J2 0 (by rw [if_pos c1] <;> rfl)
def rm_X6_isBetter : Room := { frames := 2, cells := 0, slots := 0, locals := 43 }
set_option maxRecDepth 100000 in
set_option maxHeartbeats 4000000 in
theorem c_X6_isBetter (l : Launch) (G : gG) (a : Nat → Nat) (s as_ hi : Nat → Int32) (kn : Nat) (sn : Nat → Int32) (ik : Int32) (tx : Nat → Int32) (ln : Nat) (it wl : Nat → Int32) (sp : Nat) (iw : Int32) (rs : Nat) (er : Int32) (x y r : Nat)  (hx : x < 10) (hy : y < 10) (hr0 : r < 12) : CT l yX6_isBetter cX6_isBetter 7 (some .boolean) rm_X6_isBetter G [.ref (a 0), .int (nI x), .int (nI y), .int (nI r)] (wM G a s as_ hi kn sn ik tx ln it wl sp iw rs er) (some (.int (bI (m_by3 s x y r < 0)))) (fun _ => (wM G a s as_ hi kn sn ik tx ln it wl sp iw rs er)) := by
  refine gMet (by decide) (Nat.le_of_ble_eq_true rfl) (fun X hX C hr hin E => ?_)
  clear hX
  refine (show gW G X (wM G a s as_ hi kn sn ik tx ln it wl sp iw rs er) 0 0 0 [(0, .ref (a 0)), (1, .int (nI x)), (2, .int (nI y)), (3, .int (nI r))] [] from ?_)
  refine x_aload_n C 0 rfl dX6_isBetter_0 rfl ?_
  refine x_get (k := 0) (v := .ref (a 1)) C dX6_isBetter_1 layX6 fl_X6_7 0 rfl rfl (by decide) rfl ?_
  refine x_iload_n C 1 rfl dX6_isBetter_4 rfl ?_
  refine x_iconst (v := (nI 1)) C dX6_isBetter_5 (by decide) ?_
  refine x_callSd (As := [.int (nI x), .int (nI 1)]) (rest := [.ref (a 1)]) C dX6_isBetter_6 (c_X6_of (gX.l X) G x 1 (9 * x + 2) (by omega)) ml_X6_31 st_X6_of in_X6 cd_X6_of hd_X6_of rfl rfl (Nat.le_of_ble_eq_true rfl) ⟨Nat.le_of_ble_eq_true rfl, Nat.le_of_ble_eq_true rfl⟩ [] (wM G a s as_ hi kn sn ik tx ln it wl sp iw rs er) rfl (ws' := (wM G a s as_ hi kn sn ik tx ln it wl sp iw rs er)) rfl (st' := [.int (nI (9 * x + 2)), .ref (a 1)]) rfl ⟨rfl, rfl⟩ ⟨Nat.le_of_ble_eq_true rfl, Nat.le_of_ble_eq_true rfl⟩ ?_
  refine x_iald (j := (9 * x + 2)) C dX6_isBetter_9 1 rfl rfl (by omega) (by omega) ?_
  refine x_aload_n C 0 rfl dX6_isBetter_10 rfl ?_
  refine x_iload_n C 3 rfl dX6_isBetter_11 rfl ?_
  refine x_callVd (As := [.int (nI r)]) (rest := [.int (s (9 * x + 2))]) C dX6_isBetter_12 (c_X6_can (gX.l X) G a s as_ hi kn sn ik tx ln it wl sp iw rs er r (by omega)) ml_X6_50 im_X6_can sl_X6_can in_X6 cd_X6_can hd_X6_can 0 rfl rfl rfl rfl (Nat.le_of_ble_eq_true rfl) ⟨Nat.le_of_ble_eq_true rfl, Nat.le_of_ble_eq_true rfl⟩ (List.take 0 (wM G a s as_ hi kn sn ik tx ln it wl sp iw rs er)) (List.drop 8 (wM G a s as_ hi kn sn ik tx ln it wl sp iw rs er)) rfl (ws' := (wM G a s as_ hi kn sn ik tx ln it wl sp iw rs er)) rfl (st' := [.int (m_can s r), .int (s (9 * x + 2))]) rfl ⟨rfl, rfl⟩ ⟨Nat.le_of_ble_eq_true rfl, Nat.le_of_ble_eq_true rfl⟩ ?_
  have J2 : ∀ (y3 : Int32) , y3 = bI ((m_can s r) < (s (9 * x + 2))) → gW G X (wM G a s as_ hi kn sn ik tx ln it wl sp iw rs er) 0 0 23 [(0, .ref (a 0)), (1, .int (nI x)), (2, .int (nI y)), (3, .int (nI r))] [.int y3] := by
    intro y3 ey3
    subst ey3
    refine x_istore (lv' := [(4, .int (bI ((m_can s r) < (s (9 * x + 2))))), (0, .ref (a 0)), (1, .int (nI x)), (2, .int (nI y)), (3, .int (nI r))]) C dX6_isBetter_23 (by decide) rfl ?_
    refine x_aload_n C 1 rfl dX6_isBetter_25 rfl ?_
    refine x_get (k := 0) (v := .ref (a 1)) C dX6_isBetter_26 layX6 fl_X6_7 0 rfl rfl (by decide) rfl ?_
    refine x_iload_n C 3 rfl dX6_isBetter_29 rfl ?_
    refine x_iconst (v := (nI 1)) C dX6_isBetter_30 (by decide) ?_
    refine x_callSd (As := [.int (nI y), .int (nI 1)]) (rest := [.ref (a 1)]) C dX6_isBetter_31 (c_X6_of (gX.l X) G y 1 (9 * y + 2) (by omega)) ml_X6_31 st_X6_of in_X6 cd_X6_of hd_X6_of rfl rfl (Nat.le_of_ble_eq_true rfl) ⟨Nat.le_of_ble_eq_true rfl, Nat.le_of_ble_eq_true rfl⟩ [] (wM G a s as_ hi kn sn ik tx ln it wl sp iw rs er) rfl (ws' := (wM G a s as_ hi kn sn ik tx ln it wl sp iw rs er)) rfl (st' := [.int (nI (9 * y + 2)), .ref (a 1)]) rfl ⟨rfl, rfl⟩ ⟨Nat.le_of_ble_eq_true rfl, Nat.le_of_ble_eq_true rfl⟩ ?_
    refine x_iald (j := (9 * y + 2)) C dX6_isBetter_34 1 rfl rfl (by omega) (by omega) ?_
    refine x_aload_n C 1 rfl dX6_isBetter_35 rfl ?_
    refine x_iload_n C 4 rfl dX6_isBetter_36 rfl ?_
    refine x_callVd (As := [.int (nI r)]) (rest := [.int (s (9 * y + 2))]) C dX6_isBetter_37 (c_X6_can (gX.l X) G a s as_ hi kn sn ik tx ln it wl sp iw rs er r (by omega)) ml_X6_50 im_X6_can sl_X6_can in_X6 cd_X6_can hd_X6_can 0 rfl rfl rfl rfl (Nat.le_of_ble_eq_true rfl) ⟨Nat.le_of_ble_eq_true rfl, Nat.le_of_ble_eq_true rfl⟩ (List.take 0 (wM G a s as_ hi kn sn ik tx ln it wl sp iw rs er)) (List.drop 8 (wM G a s as_ hi kn sn ik tx ln it wl sp iw rs er)) rfl (ws' := (wM G a s as_ hi kn sn ik tx ln it wl sp iw rs er)) rfl (st' := [.int (m_can s r), .int (s (9 * y + 2))]) rfl ⟨rfl, rfl⟩ ⟨Nat.le_of_ble_eq_true rfl, Nat.le_of_ble_eq_true rfl⟩ ?_
    have J5 : ∀ (y6 : Int32) , y6 = bI ((m_can s r) < (s (9 * y + 2))) → gW G X (wM G a s as_ hi kn sn ik tx ln it wl sp iw rs er) 0 0 48 [(4, .int (bI ((m_can s r) < (s (9 * x + 2))))), (0, .ref (a 0)), (1, .int (nI x)), (2, .int (nI y)), (3, .int (nI r))] [.int y6] := by
      intro y6 ey6
      subst ey6
      refine x_istore (lv' := [(5, .int (bI ((m_can s r) < (s (9 * y + 2))))), (4, .int (bI ((m_can s r) < (s (9 * x + 2))))), (0, .ref (a 0)), (1, .int (nI x)), (2, .int (nI y)), (3, .int (nI r))]) C dX6_isBetter_48 (by decide) rfl ?_
      refine x_iload C 1 rfl dX6_isBetter_50 ?_
      refine x_iload C 0 rfl dX6_isBetter_52 ?_
      refine x_isub (x := (bI ((m_can s r) < (s (9 * x + 2))))) (y := (bI ((m_can s r) < (s (9 * y + 2))))) C dX6_isBetter_54 ?_
      refine x_istore (lv' := [(6, .int ((bI ((m_can s r) < (s (9 * x + 2)))) - (bI ((m_can s r) < (s (9 * y + 2)))))), (5, .int (bI ((m_can s r) < (s (9 * y + 2))))), (4, .int (bI ((m_can s r) < (s (9 * x + 2))))), (0, .ref (a 0)), (1, .int (nI x)), (2, .int (nI y)), (3, .int (nI r))]) C dX6_isBetter_55 (by decide) rfl ?_
      refine x_iload C 0 rfl dX6_isBetter_57 ?_
      have J8 : ∀ (y9 : Int32) , y9 = (if ((bI ((m_can s r) < (s (9 * x + 2)))) - (bI ((m_can s r) < (s (9 * y + 2))))) = 0 then ((s (9 * x + 3)) - (s (9 * y + 3))) else ((bI ((m_can s r) < (s (9 * x + 2)))) - (bI ((m_can s r) < (s (9 * y + 2)))))) → gW G X (wM G a s as_ hi kn sn ik tx ln it wl sp iw rs er) 0 0 88 [(6, .int ((bI ((m_can s r) < (s (9 * x + 2)))) - (bI ((m_can s r) < (s (9 * y + 2)))))), (5, .int (bI ((m_can s r) < (s (9 * y + 2))))), (4, .int (bI ((m_can s r) < (s (9 * x + 2))))), (0, .ref (a 0)), (1, .int (nI x)), (2, .int (nI y)), (3, .int (nI r))] [.int y9] := by
        intro y9 ey9
        subst ey9
        refine x_istore (lv' := [(6, .int (if ((bI ((m_can s r) < (s (9 * x + 2)))) - (bI ((m_can s r) < (s (9 * y + 2))))) = 0 then ((s (9 * x + 3)) - (s (9 * y + 3))) else ((bI ((m_can s r) < (s (9 * x + 2)))) - (bI ((m_can s r) < (s (9 * y + 2))))))), (5, .int (bI ((m_can s r) < (s (9 * y + 2))))), (4, .int (bI ((m_can s r) < (s (9 * x + 2))))), (0, .ref (a 0)), (1, .int (nI x)), (2, .int (nI y)), (3, .int (nI r))]) C dX6_isBetter_88 (by decide) rfl ?_
        refine x_iload C 0 rfl dX6_isBetter_90 ?_
        have J11 : ∀ (y12 : Int32) , y12 = (if (if ((bI ((m_can s r) < (s (9 * x + 2)))) - (bI ((m_can s r) < (s (9 * y + 2))))) = 0 then ((s (9 * x + 3)) - (s (9 * y + 3))) else ((bI ((m_can s r) < (s (9 * x + 2)))) - (bI ((m_can s r) < (s (9 * y + 2)))))) = 0 then ((s (9 * x + 1)) - (s (9 * y + 1))) else (if ((bI ((m_can s r) < (s (9 * x + 2)))) - (bI ((m_can s r) < (s (9 * y + 2))))) = 0 then ((s (9 * x + 3)) - (s (9 * y + 3))) else ((bI ((m_can s r) < (s (9 * x + 2)))) - (bI ((m_can s r) < (s (9 * y + 2))))))) → gW G X (wM G a s as_ hi kn sn ik tx ln it wl sp iw rs er) 0 0 121 [(6, .int (if ((bI ((m_can s r) < (s (9 * x + 2)))) - (bI ((m_can s r) < (s (9 * y + 2))))) = 0 then ((s (9 * x + 3)) - (s (9 * y + 3))) else ((bI ((m_can s r) < (s (9 * x + 2)))) - (bI ((m_can s r) < (s (9 * y + 2))))))), (5, .int (bI ((m_can s r) < (s (9 * y + 2))))), (4, .int (bI ((m_can s r) < (s (9 * x + 2))))), (0, .ref (a 0)), (1, .int (nI x)), (2, .int (nI y)), (3, .int (nI r))] [.int y12] := by
          intro y12 ey12
          subst ey12
          refine x_istore (lv' := [(6, .int (if (if ((bI ((m_can s r) < (s (9 * x + 2)))) - (bI ((m_can s r) < (s (9 * y + 2))))) = 0 then ((s (9 * x + 3)) - (s (9 * y + 3))) else ((bI ((m_can s r) < (s (9 * x + 2)))) - (bI ((m_can s r) < (s (9 * y + 2)))))) = 0 then ((s (9 * x + 1)) - (s (9 * y + 1))) else (if ((bI ((m_can s r) < (s (9 * x + 2)))) - (bI ((m_can s r) < (s (9 * y + 2))))) = 0 then ((s (9 * x + 3)) - (s (9 * y + 3))) else ((bI ((m_can s r) < (s (9 * x + 2)))) - (bI ((m_can s r) < (s (9 * y + 2)))))))), (5, .int (bI ((m_can s r) < (s (9 * y + 2))))), (4, .int (bI ((m_can s r) < (s (9 * x + 2))))), (0, .ref (a 0)), (1, .int (nI x)), (2, .int (nI y)), (3, .int (nI r))]) C dX6_isBetter_121 (by decide) rfl ?_
          refine x_iload C 0 rfl dX6_isBetter_123 ?_
          have J14 : ∀ (y15 : Int32) , y15 = bI ((if (if ((bI ((m_can s r) < (s (9 * x + 2)))) - (bI ((m_can s r) < (s (9 * y + 2))))) = 0 then ((s (9 * x + 3)) - (s (9 * y + 3))) else ((bI ((m_can s r) < (s (9 * x + 2)))) - (bI ((m_can s r) < (s (9 * y + 2)))))) = 0 then ((s (9 * x + 1)) - (s (9 * y + 1))) else (if ((bI ((m_can s r) < (s (9 * x + 2)))) - (bI ((m_can s r) < (s (9 * y + 2))))) = 0 then ((s (9 * x + 3)) - (s (9 * y + 3))) else ((bI ((m_can s r) < (s (9 * x + 2)))) - (bI ((m_can s r) < (s (9 * y + 2))))))) < 0) → gW G X (wM G a s as_ hi kn sn ik tx ln it wl sp iw rs er) 0 0 133 [(6, .int (if (if ((bI ((m_can s r) < (s (9 * x + 2)))) - (bI ((m_can s r) < (s (9 * y + 2))))) = 0 then ((s (9 * x + 3)) - (s (9 * y + 3))) else ((bI ((m_can s r) < (s (9 * x + 2)))) - (bI ((m_can s r) < (s (9 * y + 2)))))) = 0 then ((s (9 * x + 1)) - (s (9 * y + 1))) else (if ((bI ((m_can s r) < (s (9 * x + 2)))) - (bI ((m_can s r) < (s (9 * y + 2))))) = 0 then ((s (9 * x + 3)) - (s (9 * y + 3))) else ((bI ((m_can s r) < (s (9 * x + 2)))) - (bI ((m_can s r) < (s (9 * y + 2)))))))), (5, .int (bI ((m_can s r) < (s (9 * y + 2))))), (4, .int (bI ((m_can s r) < (s (9 * x + 2))))), (0, .ref (a 0)), (1, .int (nI x)), (2, .int (nI y)), (3, .int (nI r))] [.int y15] := by
            intro y15 ey15
            subst ey15
            exact x_zret C hr bI_nar E dX6_isBetter_133 (fun _ => 0) (bI_iff Iff.rfl) rfl
          refine x_if_ge (x := (if (if ((bI ((m_can s r) < (s (9 * x + 2)))) - (bI ((m_can s r) < (s (9 * y + 2))))) = 0 then ((s (9 * x + 3)) - (s (9 * y + 3))) else ((bI ((m_can s r) < (s (9 * x + 2)))) - (bI ((m_can s r) < (s (9 * y + 2)))))) = 0 then ((s (9 * x + 1)) - (s (9 * y + 1))) else (if ((bI ((m_can s r) < (s (9 * x + 2)))) - (bI ((m_can s r) < (s (9 * y + 2))))) = 0 then ((s (9 * x + 3)) - (s (9 * y + 3))) else ((bI ((m_can s r) < (s (9 * x + 2)))) - (bI ((m_can s r) < (s (9 * y + 2)))))))) (tgt := 132) C dX6_isBetter_125 (by decide) (fun c13 => ?_) (fun c13 => ?_)
          · refine x_iconst (v := (nI 0)) C dX6_isBetter_132 (by decide) ?_
            exact J14 (nI 0) (bI_f (by simp only [c13, if_true, if_false, ite_true, ite_false, and_true, true_and, and_false, false_and, or_true, true_or, or_false, false_or, not_true_eq_false, not_false_eq_true, and_self, or_self] <;> decide)).symm
          · refine x_iconst (v := (nI 1)) C dX6_isBetter_128 (by decide) ?_
            refine x_goto (tgt := 133) C dX6_isBetter_129 (by decide) ?_
            exact J14 (nI 1) (bI_t (by simp only [c13, if_true, if_false, ite_true, ite_false, and_true, true_and, and_false, false_and, or_true, true_or, or_false, false_or, not_true_eq_false, not_false_eq_true, and_self, or_self] <;> decide)).symm
        refine x_if_ne (x := (if ((bI ((m_can s r) < (s (9 * x + 2)))) - (bI ((m_can s r) < (s (9 * y + 2))))) = 0 then ((s (9 * x + 3)) - (s (9 * y + 3))) else ((bI ((m_can s r) < (s (9 * x + 2)))) - (bI ((m_can s r) < (s (9 * y + 2))))))) (tgt := 119) C dX6_isBetter_92 (by decide) (fun c10 => ?_) (fun c10 => ?_)
        · refine x_iload C 0 rfl dX6_isBetter_119 ?_
          exact J11 (if ((bI ((m_can s r) < (s (9 * x + 2)))) - (bI ((m_can s r) < (s (9 * y + 2))))) = 0 then ((s (9 * x + 3)) - (s (9 * y + 3))) else ((bI ((m_can s r) < (s (9 * x + 2)))) - (bI ((m_can s r) < (s (9 * y + 2)))))) (by rw [if_neg c10] <;> rfl)
        · refine x_aload_n C 3 rfl dX6_isBetter_95 rfl ?_
          refine x_get (k := 0) (v := .ref (a 1)) C dX6_isBetter_96 layX6 fl_X6_7 0 rfl rfl (by decide) rfl ?_
          refine x_iload_n C 4 rfl dX6_isBetter_99 rfl ?_
          refine x_iconst (v := (nI 0)) C dX6_isBetter_100 (by decide) ?_
          refine x_callSd (As := [.int (nI x), .int (nI 0)]) (rest := [.ref (a 1)]) C dX6_isBetter_101 (c_X6_of (gX.l X) G x 0 (9 * x + 1) (by omega)) ml_X6_31 st_X6_of in_X6 cd_X6_of hd_X6_of rfl rfl (Nat.le_of_ble_eq_true rfl) ⟨Nat.le_of_ble_eq_true rfl, Nat.le_of_ble_eq_true rfl⟩ [] (wM G a s as_ hi kn sn ik tx ln it wl sp iw rs er) rfl (ws' := (wM G a s as_ hi kn sn ik tx ln it wl sp iw rs er)) rfl (st' := [.int (nI (9 * x + 1)), .ref (a 1)]) rfl ⟨rfl, rfl⟩ ⟨Nat.le_of_ble_eq_true rfl, Nat.le_of_ble_eq_true rfl⟩ ?_
          refine x_iald (j := (9 * x + 1)) C dX6_isBetter_104 1 rfl rfl (by omega) (by omega) ?_
          refine x_aload_n C 3 rfl dX6_isBetter_105 rfl ?_
          refine x_get (k := 0) (v := .ref (a 1)) C dX6_isBetter_106 layX6 fl_X6_7 0 rfl rfl (by decide) rfl ?_
          refine x_iload_n C 5 rfl dX6_isBetter_109 rfl ?_
          refine x_iconst (v := (nI 0)) C dX6_isBetter_110 (by decide) ?_
          refine x_callSd (As := [.int (nI y), .int (nI 0)]) (rest := [.ref (a 1), .int (s (9 * x + 1))]) C dX6_isBetter_111 (c_X6_of (gX.l X) G y 0 (9 * y + 1) (by omega)) ml_X6_31 st_X6_of in_X6 cd_X6_of hd_X6_of rfl rfl (Nat.le_of_ble_eq_true rfl) ⟨Nat.le_of_ble_eq_true rfl, Nat.le_of_ble_eq_true rfl⟩ [] (wM G a s as_ hi kn sn ik tx ln it wl sp iw rs er) rfl (ws' := (wM G a s as_ hi kn sn ik tx ln it wl sp iw rs er)) rfl (st' := [.int (nI (9 * y + 1)), .ref (a 1), .int (s (9 * x + 1))]) rfl ⟨rfl, rfl⟩ ⟨Nat.le_of_ble_eq_true rfl, Nat.le_of_ble_eq_true rfl⟩ ?_
          refine x_iald (j := (9 * y + 1)) C dX6_isBetter_114 1 rfl rfl (by omega) (by omega) ?_
          refine x_isub (x := (s (9 * x + 1))) (y := (s (9 * y + 1))) C dX6_isBetter_115 ?_
          refine x_goto (tgt := 121) C dX6_isBetter_116 (by decide) ?_
          exact J11 ((s (9 * x + 1)) - (s (9 * y + 1))) (by rw [if_pos c10] <;> rfl)
      refine x_if_ne (x := ((bI ((m_can s r) < (s (9 * x + 2)))) - (bI ((m_can s r) < (s (9 * y + 2)))))) (tgt := 86) C dX6_isBetter_59 (by decide) (fun c7 => ?_) (fun c7 => ?_)
      · refine x_iload C 0 rfl dX6_isBetter_86 ?_
        exact J8 ((bI ((m_can s r) < (s (9 * x + 2)))) - (bI ((m_can s r) < (s (9 * y + 2))))) (by rw [if_neg c7] <;> rfl)
      · refine x_aload_n C 3 rfl dX6_isBetter_62 rfl ?_
        refine x_get (k := 0) (v := .ref (a 1)) C dX6_isBetter_63 layX6 fl_X6_7 0 rfl rfl (by decide) rfl ?_
        refine x_iload_n C 4 rfl dX6_isBetter_66 rfl ?_
        refine x_iconst (v := (nI 2)) C dX6_isBetter_67 (by decide) ?_
        refine x_callSd (As := [.int (nI x), .int (nI 2)]) (rest := [.ref (a 1)]) C dX6_isBetter_68 (c_X6_of (gX.l X) G x 2 (9 * x + 3) (by omega)) ml_X6_31 st_X6_of in_X6 cd_X6_of hd_X6_of rfl rfl (Nat.le_of_ble_eq_true rfl) ⟨Nat.le_of_ble_eq_true rfl, Nat.le_of_ble_eq_true rfl⟩ [] (wM G a s as_ hi kn sn ik tx ln it wl sp iw rs er) rfl (ws' := (wM G a s as_ hi kn sn ik tx ln it wl sp iw rs er)) rfl (st' := [.int (nI (9 * x + 3)), .ref (a 1)]) rfl ⟨rfl, rfl⟩ ⟨Nat.le_of_ble_eq_true rfl, Nat.le_of_ble_eq_true rfl⟩ ?_
        refine x_iald (j := (9 * x + 3)) C dX6_isBetter_71 1 rfl rfl (by omega) (by omega) ?_
        refine x_aload_n C 3 rfl dX6_isBetter_72 rfl ?_
        refine x_get (k := 0) (v := .ref (a 1)) C dX6_isBetter_73 layX6 fl_X6_7 0 rfl rfl (by decide) rfl ?_
        refine x_iload_n C 5 rfl dX6_isBetter_76 rfl ?_
        refine x_iconst (v := (nI 2)) C dX6_isBetter_77 (by decide) ?_
        refine x_callSd (As := [.int (nI y), .int (nI 2)]) (rest := [.ref (a 1), .int (s (9 * x + 3))]) C dX6_isBetter_78 (c_X6_of (gX.l X) G y 2 (9 * y + 3) (by omega)) ml_X6_31 st_X6_of in_X6 cd_X6_of hd_X6_of rfl rfl (Nat.le_of_ble_eq_true rfl) ⟨Nat.le_of_ble_eq_true rfl, Nat.le_of_ble_eq_true rfl⟩ [] (wM G a s as_ hi kn sn ik tx ln it wl sp iw rs er) rfl (ws' := (wM G a s as_ hi kn sn ik tx ln it wl sp iw rs er)) rfl (st' := [.int (nI (9 * y + 3)), .ref (a 1), .int (s (9 * x + 3))]) rfl ⟨rfl, rfl⟩ ⟨Nat.le_of_ble_eq_true rfl, Nat.le_of_ble_eq_true rfl⟩ ?_
        refine x_iald (j := (9 * y + 3)) C dX6_isBetter_81 1 rfl rfl (by omega) (by omega) ?_
        refine x_isub (x := (s (9 * x + 3))) (y := (s (9 * y + 3))) C dX6_isBetter_82 ?_
        refine x_goto (tgt := 88) C dX6_isBetter_83 (by decide) ?_
        exact J8 ((s (9 * x + 3)) - (s (9 * y + 3))) (by rw [if_pos c7] <;> rfl)
    refine x_icmp_le (x := (s (9 * y + 2))) (y := (m_can s r)) (tgt := 47) C dX6_isBetter_40 (by decide) (fun c4 => ?_) (fun c4 => ?_)
    · refine x_iconst (v := (nI 0)) C dX6_isBetter_47 (by decide) ?_
      exact J5 (nI 0) (bI_f (by simp only [c4, if_true, if_false, ite_true, ite_false, and_true, true_and, and_false, false_and, or_true, true_or, or_false, false_or, not_true_eq_false, not_false_eq_true, and_self, or_self] <;> decide)).symm
    · refine x_iconst (v := (nI 1)) C dX6_isBetter_43 (by decide) ?_
      refine x_goto (tgt := 48) C dX6_isBetter_44 (by decide) ?_
      exact J5 (nI 1) (bI_t (by simp only [c4, if_true, if_false, ite_true, ite_false, and_true, true_and, and_false, false_and, or_true, true_or, or_false, false_or, not_true_eq_false, not_false_eq_true, and_self, or_self] <;> decide)).symm
  refine x_icmp_le (x := (s (9 * x + 2))) (y := (m_can s r)) (tgt := 22) C dX6_isBetter_15 (by decide) (fun c1 => ?_) (fun c1 => ?_)
  · refine x_iconst (v := (nI 0)) C dX6_isBetter_22 (by decide) ?_
    exact J2 (nI 0) (bI_f (by simp only [c1, if_true, if_false, ite_true, ite_false, and_true, true_and, and_false, false_and, or_true, true_or, or_false, false_or, not_true_eq_false, not_false_eq_true, and_self, or_self] <;> decide)).symm
  · refine x_iconst (v := (nI 1)) C dX6_isBetter_18 (by decide) ?_
    refine x_goto (tgt := 23) C dX6_isBetter_19 (by decide) ?_
    exact J2 (nI 1) (bI_t (by simp only [c1, if_true, if_false, ite_true, ite_false, and_true, true_and, and_false, false_and, or_true, true_or, or_false, false_or, not_true_eq_false, not_false_eq_true, and_self, or_self] <;> decide)).symm
def rm_X6_bestFor : Room := { frames := 3, cells := 0, slots := 0, locals := 69 }
set_option maxRecDepth 100000 in
set_option maxHeartbeats 4000000 in
theorem c_X6_bestFor (l : Launch) (G : gG) (a : Nat → Nat) (s as_ hi : Nat → Int32) (kn : Nat) (sn : Nat → Int32) (ik : Int32) (tx : Nat → Int32) (ln : Nat) (it wl : Nat → Int32) (sp : Nat) (iw : Int32) (rs : Nat) (er : Int32) (r : Nat) (fa : Int32)  (hr0 : r < 12) : CT l yX6_bestFor cX6_bestFor 6 (some .int) rm_X6_bestFor G [.ref (a 0), .int (nI r), .int fa] (wM G a s as_ hi kn sn ik tx ln it wl sp iw rs er) (some (.int (m_best s it r fa))) (fun _ => (wM G a s as_ hi kn sn ik tx ln it wl sp iw rs er)) := by
  refine gMet (by decide) (Nat.le_of_ble_eq_true rfl) (fun X hX C hr hin E => ?_)
  clear hX
  refine (show gW G X (wM G a s as_ hi kn sn ik tx ln it wl sp iw rs er) 0 0 0 [(0, .ref (a 0)), (1, .int (nI r)), (2, .int fa)] [] from ?_)
  refine x_bipush (v := (-5)) C dX6_bestFor_0 (by decide) ?_
  refine x_istore_n (lv' := [(3, .int (-5)), (0, .ref (a 0)), (1, .int (nI r)), (2, .int fa)]) C dX6_bestFor_2 rfl (by decide) rfl ?_
  refine x_iconst (v := (nI 0)) C dX6_bestFor_3 (by decide) ?_
  refine x_istore (lv' := [(4, .int (nI 0)), (3, .int (-5)), (0, .ref (a 0)), (1, .int (nI r)), (2, .int fa)]) C dX6_bestFor_4 (by decide) rfl ?_
  have L1 : ∀ (fu : Nat) (i : Nat) (f : Int32), i + fu = 10 → (f = m_bestL s it r fa i) → (okH f) → gW G X (wM G a s as_ hi kn sn ik tx ln it wl sp iw rs er) 0 0 6 [(4, .int (nI i)), (3, .int f), (0, .ref (a 0)), (1, .int (nI r)), (2, .int fa)] [] := by
    intro fu
    induction fu with
    | zero =>
      intro i f hn ha hf
      have hi9 : i = 10 := by omega
      refine x_iload C 0 rfl dX6_bestFor_6 ?_
      refine x_bipush (v := (nI 10)) C dX6_bestFor_8 (by decide) ?_
      refine x_icmp_geN (a := i) (b := 10) (tgt := 76) C dX6_bestFor_10 (by decide) (by omega) (by omega) (fun c2 => ?_) (fun c2 => False.elim (by omega))
      refine x_iload_n C 1 rfl dX6_bestFor_76 rfl ?_
      exact x_iret C hr E dX6_bestFor_77 (fun _ => 0) (by rw [ha, hi9]; rfl) rfl
    | succ fu ih =>
      intro i f hn ha hf
      refine x_iload C 0 rfl dX6_bestFor_6 ?_
      refine x_bipush (v := (nI 10)) C dX6_bestFor_8 (by decide) ?_
      refine x_icmp_geN (a := i) (b := 10) (tgt := 76) C dX6_bestFor_10 (by decide) (by omega) (by omega) (fun c3 => False.elim (by omega)) (fun c3 => ?_)
      refine x_aload_n C 2 rfl dX6_bestFor_13 rfl ?_
      refine x_get (k := 8) (v := .ref (a 6)) C dX6_bestFor_14 layX6 fl_X6_25 0 rfl rfl (by decide) rfl ?_
      refine x_iload C 0 rfl dX6_bestFor_17 ?_
      refine x_iald (j := i) C dX6_bestFor_19 6 rfl rfl (by omega) (by omega) ?_
      refine x_if_ne (x := (it i)) (tgt := 38) C dX6_bestFor_20 (by decide) (fun c4 => ?_) (fun c4 => ?_)
      · refine x_iconst (v := (nI 0)) C dX6_bestFor_38 (by decide) ?_
        refine x_istore (lv' := [(5, .int (nI 0)), (4, .int (nI i)), (3, .int f), (0, .ref (a 0)), (1, .int (nI r)), (2, .int fa)]) C dX6_bestFor_39 (by decide) rfl ?_
        refine x_iload C 0 rfl dX6_bestFor_41 ?_
        refine x_if_eqN (a := 0) (tgt := 68) C dX6_bestFor_43 (by decide) (by omega) (fun c5 => ?_) (fun c5 => False.elim (by omega))
        refine x_iload_n C 2 rfl dX6_bestFor_68 rfl ?_
        refine x_istore_n (lv' := [(3, .int f), (5, .int (nI 0)), (4, .int (nI i)), (0, .ref (a 0)), (1, .int (nI r)), (2, .int fa)]) C dX6_bestFor_69 rfl (by decide) rfl ?_
        refine x_iinc (v := (nI (i + 1))) (lv' := [(4, .int (nI (i + 1))), (3, .int f), (5, .int (nI 0)), (0, .ref (a 0)), (1, .int (nI r)), (2, .int fa)]) C 2 rfl dX6_bestFor_70 (by rw [show Int32.ofInt 1 = nI 1 from rfl]; exact nI_add _ _) (by decide) rfl ?_
        refine x_goto (tgt := 6) C dX6_bestFor_73 (by decide) ?_
        refine x_lv [0, 1, 3, 4, 5] (lv' := [(4, .int (nI (i + 1))), (3, .int f), (0, .ref (a 0)), (1, .int (nI r)), (2, .int fa)]) rfl ?_
        exact ih (i + 1) f (by omega) (by simp only [m_bestL, ← ha, m_bestS, c3, c4, c5,  if_true, if_false, ite_true, ite_false, and_true, true_and, and_false, false_and, or_true, true_or, or_false, false_or, not_true_eq_false, not_false_eq_true, and_self, or_self]) (by first | exact hf | exact okH_nI (by omega))
      · refine x_aload_n C 2 rfl dX6_bestFor_23 rfl ?_
        refine x_iload C 0 rfl dX6_bestFor_24 ?_
        refine x_iload_n C 3 rfl dX6_bestFor_26 rfl ?_
        refine x_iload_n C 4 rfl dX6_bestFor_27 rfl ?_
        refine x_callVd (As := [.int (nI i), .int (nI r), .int fa]) (rest := []) C dX6_bestFor_28 (c_X6_hindrance (gX.l X) G a s as_ hi kn sn ik tx ln it wl sp iw rs er i r fa (by omega) (by omega)) ml_X6_54 im_X6_hindrance sl_X6_hindrance in_X6 cd_X6_hindrance hd_X6_hindrance 0 rfl rfl rfl rfl (Nat.le_of_ble_eq_true rfl) ⟨Nat.le_of_ble_eq_true rfl, Nat.le_of_ble_eq_true rfl⟩ (List.take 0 (wM G a s as_ hi kn sn ik tx ln it wl sp iw rs er)) (List.drop 8 (wM G a s as_ hi kn sn ik tx ln it wl sp iw rs er)) rfl (ws' := (wM G a s as_ hi kn sn ik tx ln it wl sp iw rs er)) rfl (st' := [.int (m_hind s i r fa)]) rfl ⟨rfl, rfl⟩ ⟨Nat.le_of_ble_eq_true rfl, Nat.le_of_ble_eq_true rfl⟩ ?_
        refine x_if_ne (x := (m_hind s i r fa)) (tgt := 38) C dX6_bestFor_31 (by decide) (fun c6 => ?_) (fun c6 => ?_)
        · refine x_iconst (v := (nI 0)) C dX6_bestFor_38 (by decide) ?_
          refine x_istore (lv' := [(5, .int (nI 0)), (4, .int (nI i)), (3, .int f), (0, .ref (a 0)), (1, .int (nI r)), (2, .int fa)]) C dX6_bestFor_39 (by decide) rfl ?_
          refine x_iload C 0 rfl dX6_bestFor_41 ?_
          refine x_if_eqN (a := 0) (tgt := 68) C dX6_bestFor_43 (by decide) (by omega) (fun c7 => ?_) (fun c7 => False.elim (by omega))
          refine x_iload_n C 2 rfl dX6_bestFor_68 rfl ?_
          refine x_istore_n (lv' := [(3, .int f), (5, .int (nI 0)), (4, .int (nI i)), (0, .ref (a 0)), (1, .int (nI r)), (2, .int fa)]) C dX6_bestFor_69 rfl (by decide) rfl ?_
          refine x_iinc (v := (nI (i + 1))) (lv' := [(4, .int (nI (i + 1))), (3, .int f), (5, .int (nI 0)), (0, .ref (a 0)), (1, .int (nI r)), (2, .int fa)]) C 2 rfl dX6_bestFor_70 (by rw [show Int32.ofInt 1 = nI 1 from rfl]; exact nI_add _ _) (by decide) rfl ?_
          refine x_goto (tgt := 6) C dX6_bestFor_73 (by decide) ?_
          refine x_lv [0, 1, 3, 4, 5] (lv' := [(4, .int (nI (i + 1))), (3, .int f), (0, .ref (a 0)), (1, .int (nI r)), (2, .int fa)]) rfl ?_
          exact ih (i + 1) f (by omega) (by simp only [m_bestL, ← ha, m_bestS, c3, c4, c6, c7,  if_true, if_false, ite_true, ite_false, and_true, true_and, and_false, false_and, or_true, true_or, or_false, false_or, not_true_eq_false, not_false_eq_true, and_self, or_self]) (by first | exact hf | exact okH_nI (by omega))
        · refine x_iconst (v := (nI 1)) C dX6_bestFor_34 (by decide) ?_
          refine x_goto (tgt := 39) C dX6_bestFor_35 (by decide) ?_
          refine x_istore (lv' := [(5, .int (nI 1)), (4, .int (nI i)), (3, .int f), (0, .ref (a 0)), (1, .int (nI r)), (2, .int fa)]) C dX6_bestFor_39 (by decide) rfl ?_
          refine x_iload C 0 rfl dX6_bestFor_41 ?_
          refine x_if_eqN (a := 1) (tgt := 68) C dX6_bestFor_43 (by decide) (by omega) (fun c8 => False.elim (by omega)) (fun c8 => ?_)
          refine x_iload_n C 2 rfl dX6_bestFor_46 rfl ?_
          refine x_bipush (v := (-5)) C dX6_bestFor_47 (by decide) ?_
          refine x_icmp_eq (x := f) (y := (-5)) (tgt := 63) C dX6_bestFor_49 (by decide) (fun c9 => ?_) (fun c9 => ?_)
          · refine x_iload C 1 rfl dX6_bestFor_63 ?_
            refine x_goto (tgt := 69) C dX6_bestFor_65 (by decide) ?_
            refine x_istore_n (lv' := [(3, .int (nI i)), (5, .int (nI 1)), (4, .int (nI i)), (0, .ref (a 0)), (1, .int (nI r)), (2, .int fa)]) C dX6_bestFor_69 rfl (by decide) rfl ?_
            refine x_iinc (v := (nI (i + 1))) (lv' := [(4, .int (nI (i + 1))), (3, .int (nI i)), (5, .int (nI 1)), (0, .ref (a 0)), (1, .int (nI r)), (2, .int fa)]) C 2 rfl dX6_bestFor_70 (by rw [show Int32.ofInt 1 = nI 1 from rfl]; exact nI_add _ _) (by decide) rfl ?_
            refine x_goto (tgt := 6) C dX6_bestFor_73 (by decide) ?_
            refine x_lv [0, 1, 3, 4, 5] (lv' := [(4, .int (nI (i + 1))), (3, .int (nI i)), (0, .ref (a 0)), (1, .int (nI r)), (2, .int fa)]) rfl ?_
            exact ih (i + 1) (nI i) (by omega) (by simp only [m_bestL, ← ha, m_bestS, c3, c4, c6, c8, c9,  if_true, if_false, ite_true, ite_false, and_true, true_and, and_false, false_and, or_true, true_or, or_false, false_or, not_true_eq_false, not_false_eq_true, and_self, or_self]) (by first | exact hf | exact okH_nI (by omega))
          · have hfn : nC f < 10 ∧ f = nI (nC f) := by
              rcases hf with h9 | h9
              · exact absurd h9 (by assumption)
              · exact h9
            refine x_aload_n C 3 rfl dX6_bestFor_52 rfl ?_
            refine x_iload C 1 rfl dX6_bestFor_53 ?_
            refine x_iload_n C 2 rfl dX6_bestFor_55 rfl ?_
            refine x_top (y := (nI (nC f))) hfn.2 ?_
            refine x_iload_n C 4 rfl dX6_bestFor_56 rfl ?_
            refine x_callVd (As := [.int (nI i), .int (nI (nC f)), .int (nI r)]) (rest := []) C dX6_bestFor_57 (c_X6_isBetter (gX.l X) G a s as_ hi kn sn ik tx ln it wl sp iw rs er i (nC f) r (by omega) (by omega) (by omega)) ml_X6_58 im_X6_isBetter sl_X6_isBetter in_X6 cd_X6_isBetter hd_X6_isBetter 0 rfl rfl rfl rfl (Nat.le_of_ble_eq_true rfl) ⟨Nat.le_of_ble_eq_true rfl, Nat.le_of_ble_eq_true rfl⟩ (List.take 0 (wM G a s as_ hi kn sn ik tx ln it wl sp iw rs er)) (List.drop 8 (wM G a s as_ hi kn sn ik tx ln it wl sp iw rs er)) rfl (ws' := (wM G a s as_ hi kn sn ik tx ln it wl sp iw rs er)) rfl (st' := [.int (bI (m_by3 s i (nC f) r < 0))]) rfl ⟨rfl, rfl⟩ ⟨Nat.le_of_ble_eq_true rfl, Nat.le_of_ble_eq_true rfl⟩ ?_
            refine x_if_eqB (P := m_by3 s i (nC f) r < 0) (tgt := 68) C dX6_bestFor_60 (by decide) (fun c10 => ?_) (fun c10 => ?_)
            · refine x_iload_n C 2 rfl dX6_bestFor_68 rfl ?_
              refine x_istore_n (lv' := [(3, .int f), (5, .int (nI 1)), (4, .int (nI i)), (0, .ref (a 0)), (1, .int (nI r)), (2, .int fa)]) C dX6_bestFor_69 rfl (by decide) rfl ?_
              refine x_iinc (v := (nI (i + 1))) (lv' := [(4, .int (nI (i + 1))), (3, .int f), (5, .int (nI 1)), (0, .ref (a 0)), (1, .int (nI r)), (2, .int fa)]) C 2 rfl dX6_bestFor_70 (by rw [show Int32.ofInt 1 = nI 1 from rfl]; exact nI_add _ _) (by decide) rfl ?_
              refine x_goto (tgt := 6) C dX6_bestFor_73 (by decide) ?_
              refine x_lv [0, 1, 3, 4, 5] (lv' := [(4, .int (nI (i + 1))), (3, .int f), (0, .ref (a 0)), (1, .int (nI r)), (2, .int fa)]) rfl ?_
              exact ih (i + 1) f (by omega) (by simp only [m_bestL, ← ha, m_bestS, c3, c4, c6, c8, c9, c10,  if_true, if_false, ite_true, ite_false, and_true, true_and, and_false, false_and, or_true, true_or, or_false, false_or, not_true_eq_false, not_false_eq_true, and_self, or_self]) (by first | exact hf | exact okH_nI (by omega))
            · refine x_iload C 1 rfl dX6_bestFor_63 ?_
              refine x_goto (tgt := 69) C dX6_bestFor_65 (by decide) ?_
              refine x_istore_n (lv' := [(3, .int (nI i)), (5, .int (nI 1)), (4, .int (nI i)), (0, .ref (a 0)), (1, .int (nI r)), (2, .int fa)]) C dX6_bestFor_69 rfl (by decide) rfl ?_
              refine x_iinc (v := (nI (i + 1))) (lv' := [(4, .int (nI (i + 1))), (3, .int (nI i)), (5, .int (nI 1)), (0, .ref (a 0)), (1, .int (nI r)), (2, .int fa)]) C 2 rfl dX6_bestFor_70 (by rw [show Int32.ofInt 1 = nI 1 from rfl]; exact nI_add _ _) (by decide) rfl ?_
              refine x_goto (tgt := 6) C dX6_bestFor_73 (by decide) ?_
              refine x_lv [0, 1, 3, 4, 5] (lv' := [(4, .int (nI (i + 1))), (3, .int (nI i)), (0, .ref (a 0)), (1, .int (nI r)), (2, .int fa)]) rfl ?_
              exact ih (i + 1) (nI i) (by omega) (by simp only [m_bestL, ← ha, m_bestS, c3, c4, c6, c8, c9, c10,  if_true, if_false, ite_true, ite_false, and_true, true_and, and_false, false_and, or_true, true_or, or_false, false_or, not_true_eq_false, not_false_eq_true, and_self, or_self]) (by first | exact hf | exact okH_nI (by omega))
  exact L1 10 0 (-5) (by omega) (by rfl) (by exact Or.inl rfl)
def rm_X6_frees : Room := { frames := 0, cells := 0, slots := 0, locals := 0 }
set_option maxRecDepth 100000 in
set_option maxHeartbeats 4000000 in
theorem c_X6_frees (l : Launch) (G : gG) (a : Nat → Nat) (s as_ hi : Nat → Int32) (kn : Nat) (sn : Nat → Int32) (ik : Int32) (tx : Nat → Int32) (ln : Nat) (it wl : Nat → Int32) (sp : Nat) (iw : Int32) (rs : Nat) (er : Int32)  : CT l yX6_frees cX6_frees 2 none rm_X6_frees G [.ref (a 0)] (wM G a s as_ hi kn sn ik tx ln it wl sp iw rs er) none (fun _ => (wM G a s as_ hi kn sn ik tx ln (zeL it 10) wl sp iw rs er)) := by
  refine gMet (by decide) (Nat.le_of_ble_eq_true rfl) (fun X hX C hr hin E => ?_)
  clear hX
  refine (show gW G X (wM G a s as_ hi kn sn ik tx ln it wl sp iw rs er) 0 0 0 [(0, .ref (a 0))] [] from ?_)
  refine x_iconst (v := (nI 0)) C dX6_frees_0 (by decide) ?_
  refine x_istore_n (lv' := [(1, .int (nI 0)), (0, .ref (a 0))]) C dX6_frees_1 rfl (by decide) rfl ?_
  have L1 : ∀ (fu : Nat) (i : Nat) (g : Nat → Int32), i + fu = 10 → (g = zeL it i) → gW G X (wM G a s as_ hi kn sn ik tx ln g wl sp iw rs er) 0 0 2 [(1, .int (nI i)), (0, .ref (a 0))] [] := by
    intro fu
    induction fu with
    | zero =>
      intro i g hn ha
      have hi9 : i = 10 := by omega
      refine x_iload_n C 0 rfl dX6_frees_2 rfl ?_
      refine x_bipush (v := (nI 10)) C dX6_frees_3 (by decide) ?_
      refine x_icmp_geN (a := i) (b := 10) (tgt := 21) C dX6_frees_5 (by decide) (by omega) (by omega) (fun c2 => ?_) (fun c2 => False.elim (by omega))
      exact x_vret C hr E dX6_frees_21 (fun _ => 0) (by rw [ha, hi9])
    | succ fu ih =>
      intro i g hn ha
      refine x_iload_n C 0 rfl dX6_frees_2 rfl ?_
      refine x_bipush (v := (nI 10)) C dX6_frees_3 (by decide) ?_
      refine x_icmp_geN (a := i) (b := 10) (tgt := 21) C dX6_frees_5 (by decide) (by omega) (by omega) (fun c3 => False.elim (by omega)) (fun c3 => ?_)
      refine x_aload_n C 1 rfl dX6_frees_8 rfl ?_
      refine x_get (k := 8) (v := .ref (a 6)) C dX6_frees_9 layX6 fl_X6_25 0 rfl rfl (by decide) rfl ?_
      refine x_iload_n C 0 rfl dX6_frees_12 rfl ?_
      refine x_iconst (v := (nI 0)) C dX6_frees_13 (by decide) ?_
      refine x_iast (j := i) (x := 0) (ws' := (wM G a s as_ hi kn sn ik tx ln (upd g i 0) wl sp iw rs er)) C dX6_frees_14 6 rfl rfl (by omega) (by omega) rfl ?_
      refine x_iinc (v := (nI (i + 1))) (lv' := [(1, .int (nI (i + 1))), (0, .ref (a 0))]) C 0 rfl dX6_frees_15 (by rw [show Int32.ofInt 1 = nI 1 from rfl]; exact nI_add _ _) (by decide) rfl ?_
      refine x_goto (tgt := 2) C dX6_frees_18 (by decide) ?_
      exact ih (i + 1) (upd g i 0) (by omega) (by rw [ha]; rfl)
  exact L1 10 0 it (by omega) (by rfl)
def rm_X6_putAside : Room := { frames := 0, cells := 0, slots := 0, locals := 0 }
set_option maxRecDepth 100000 in
set_option maxHeartbeats 4000000 in
theorem c_X6_putAside (l : Launch) (G : gG) (a : Nat → Nat) (s as_ hi : Nat → Int32) (kn : Nat) (sn : Nat → Int32) (ik : Int32) (tx : Nat → Int32) (ln : Nat) (it wl : Nat → Int32) (sp : Nat) (iw : Int32) (rs : Nat) (er : Int32)  : CT l yX6_putAside cX6_putAside 2 none rm_X6_putAside G [.ref (a 0)] (wM G a s as_ hi kn sn ik tx ln it wl sp iw rs er) none (fun _ => (wM G a s (cpL s as_ 0 0 378) hi kn sn ik tx ln it wl sp iw rs er)) := by
  refine gMet (by decide) (Nat.le_of_ble_eq_true rfl) (fun X hX C hr hin E => ?_)
  clear hX
  refine (show gW G X (wM G a s as_ hi kn sn ik tx ln it wl sp iw rs er) 0 0 0 [(0, .ref (a 0))] [] from ?_)
  refine x_iconst (v := (nI 0)) C dX6_putAside_0 (by decide) ?_
  refine x_istore_n (lv' := [(1, .int (nI 0)), (0, .ref (a 0))]) C dX6_putAside_1 rfl (by decide) rfl ?_
  have L1 : ∀ (fu : Nat) (i : Nat) (g : Nat → Int32), i + fu = 378 → (g = cpL s as_ 0 0 i) → gW G X (wM G a s g hi kn sn ik tx ln it wl sp iw rs er) 0 0 2 [(1, .int (nI i)), (0, .ref (a 0))] [] := by
    intro fu
    induction fu with
    | zero =>
      intro i g hn ha
      have hi9 : i = 378 := by omega
      refine x_iload_n C 0 rfl dX6_putAside_2 rfl ?_
      refine x_sipush (v := (nI 378)) C dX6_putAside_3 (by decide) ?_
      refine x_icmp_geN (a := i) (b := 378) (tgt := 27) C dX6_putAside_6 (by decide) (by omega) (by omega) (fun c2 => ?_) (fun c2 => False.elim (by omega))
      exact x_vret C hr E dX6_putAside_27 (fun _ => 0) (by rw [ha, hi9])
    | succ fu ih =>
      intro i g hn ha
      refine x_iload_n C 0 rfl dX6_putAside_2 rfl ?_
      refine x_sipush (v := (nI 378)) C dX6_putAside_3 (by decide) ?_
      refine x_icmp_geN (a := i) (b := 378) (tgt := 27) C dX6_putAside_6 (by decide) (by omega) (by omega) (fun c3 => False.elim (by omega)) (fun c3 => ?_)
      refine x_aload_n C 1 rfl dX6_putAside_9 rfl ?_
      refine x_get (k := 1) (v := .ref (a 2)) C dX6_putAside_10 layX6 fl_X6_13 0 rfl rfl (by decide) rfl ?_
      refine x_iload_n C 0 rfl dX6_putAside_13 rfl ?_
      refine x_aload_n C 1 rfl dX6_putAside_14 rfl ?_
      refine x_get (k := 0) (v := .ref (a 1)) C dX6_putAside_15 layX6 fl_X6_7 0 rfl rfl (by decide) rfl ?_
      refine x_iload_n C 0 rfl dX6_putAside_18 rfl ?_
      refine x_iald (j := i) C dX6_putAside_19 1 rfl rfl (by omega) (by omega) ?_
      refine x_iast (j := i) (x := (s i)) (ws' := (wM G a s (upd g i (s i)) hi kn sn ik tx ln it wl sp iw rs er)) C dX6_putAside_20 2 rfl rfl (by omega) (by omega) rfl ?_
      refine x_iinc (v := (nI (i + 1))) (lv' := [(1, .int (nI (i + 1))), (0, .ref (a 0))]) C 0 rfl dX6_putAside_21 (by rw [show Int32.ofInt 1 = nI 1 from rfl]; exact nI_add _ _) (by decide) rfl ?_
      refine x_goto (tgt := 2) C dX6_putAside_24 (by decide) ?_
      exact ih (i + 1) (upd g i (s i)) (by omega) (by rw [ha]; simp only [cpL, mvL, Nat.zero_add])
  exact L1 378 0 as_ (by omega) (by rfl)
def rm_X6_putBack : Room := { frames := 0, cells := 0, slots := 0, locals := 0 }
set_option maxRecDepth 100000 in
set_option maxHeartbeats 4000000 in
theorem c_X6_putBack (l : Launch) (G : gG) (a : Nat → Nat) (s as_ hi : Nat → Int32) (kn : Nat) (sn : Nat → Int32) (ik : Int32) (tx : Nat → Int32) (ln : Nat) (it wl : Nat → Int32) (sp : Nat) (iw : Int32) (rs : Nat) (er : Int32)  : CT l yX6_putBack cX6_putBack 2 none rm_X6_putBack G [.ref (a 0)] (wM G a s as_ hi kn sn ik tx ln it wl sp iw rs er) none (fun _ => (wM G a (cpL as_ s 0 0 378) as_ hi kn sn ik tx ln it wl sp iw rs er)) := by
  refine gMet (by decide) (Nat.le_of_ble_eq_true rfl) (fun X hX C hr hin E => ?_)
  clear hX
  refine (show gW G X (wM G a s as_ hi kn sn ik tx ln it wl sp iw rs er) 0 0 0 [(0, .ref (a 0))] [] from ?_)
  refine x_iconst (v := (nI 0)) C dX6_putBack_0 (by decide) ?_
  refine x_istore_n (lv' := [(1, .int (nI 0)), (0, .ref (a 0))]) C dX6_putBack_1 rfl (by decide) rfl ?_
  have L1 : ∀ (fu : Nat) (i : Nat) (g : Nat → Int32), i + fu = 378 → (g = cpL as_ s 0 0 i) → gW G X (wM G a g as_ hi kn sn ik tx ln it wl sp iw rs er) 0 0 2 [(1, .int (nI i)), (0, .ref (a 0))] [] := by
    intro fu
    induction fu with
    | zero =>
      intro i g hn ha
      have hi9 : i = 378 := by omega
      refine x_iload_n C 0 rfl dX6_putBack_2 rfl ?_
      refine x_sipush (v := (nI 378)) C dX6_putBack_3 (by decide) ?_
      refine x_icmp_geN (a := i) (b := 378) (tgt := 27) C dX6_putBack_6 (by decide) (by omega) (by omega) (fun c2 => ?_) (fun c2 => False.elim (by omega))
      exact x_vret C hr E dX6_putBack_27 (fun _ => 0) (by rw [ha, hi9])
    | succ fu ih =>
      intro i g hn ha
      refine x_iload_n C 0 rfl dX6_putBack_2 rfl ?_
      refine x_sipush (v := (nI 378)) C dX6_putBack_3 (by decide) ?_
      refine x_icmp_geN (a := i) (b := 378) (tgt := 27) C dX6_putBack_6 (by decide) (by omega) (by omega) (fun c3 => False.elim (by omega)) (fun c3 => ?_)
      refine x_aload_n C 1 rfl dX6_putBack_9 rfl ?_
      refine x_get (k := 0) (v := .ref (a 1)) C dX6_putBack_10 layX6 fl_X6_7 0 rfl rfl (by decide) rfl ?_
      refine x_iload_n C 0 rfl dX6_putBack_13 rfl ?_
      refine x_aload_n C 1 rfl dX6_putBack_14 rfl ?_
      refine x_get (k := 1) (v := .ref (a 2)) C dX6_putBack_15 layX6 fl_X6_13 0 rfl rfl (by decide) rfl ?_
      refine x_iload_n C 0 rfl dX6_putBack_18 rfl ?_
      refine x_iald (j := i) C dX6_putBack_19 2 rfl rfl (by omega) (by omega) ?_
      refine x_iast (j := i) (x := (as_ i)) (ws' := (wM G a (upd g i (as_ i)) as_ hi kn sn ik tx ln it wl sp iw rs er)) C dX6_putBack_20 1 rfl rfl (by omega) (by omega) rfl ?_
      refine x_iinc (v := (nI (i + 1))) (lv' := [(1, .int (nI (i + 1))), (0, .ref (a 0))]) C 0 rfl dX6_putBack_21 (by rw [show Int32.ofInt 1 = nI 1 from rfl]; exact nI_add _ _) (by decide) rfl ?_
      refine x_goto (tgt := 2) C dX6_putBack_24 (by decide) ?_
      exact ih (i + 1) (upd g i (as_ i)) (by omega) (by rw [ha]; simp only [cpL, mvL, Nat.zero_add])
  exact L1 378 0 s (by omega) (by rfl)
def rm_X6_record : Room := { frames := 0, cells := 0, slots := 0, locals := 0 }
set_option maxRecDepth 100000 in
set_option maxHeartbeats 4000000 in
theorem c_X6_record0 (l : Launch) (G : gG) (a : Nat → Nat) (s as_ hi : Nat → Int32) (sn : Nat → Int32) (ik : Int32) (tx : Nat → Int32) (ln : Nat) (it wl : Nat → Int32) (sp : Nat) (iw : Int32) (rs : Nat) (er : Int32)  : CT l yX6_record cX6_record 2 none rm_X6_record G [.ref (a 0)] (wM G a s as_ hi 0 sn ik tx ln it wl sp iw rs er) none (fun _ => (wM G a s as_ (m_recH s hi 0) (m_recK 0) sn ik tx ln it wl sp iw rs er)) := by
  refine gMet (by decide) (Nat.le_of_ble_eq_true rfl) (fun X hX C hr hin E => ?_)
  clear hX
  refine (show gW G X (wM G a s as_ hi 0 sn ik tx ln it wl sp iw rs er) 0 0 0 [(0, .ref (a 0))] [] from ?_)
  refine x_aload_n C 0 rfl dX6_record_0 rfl ?_
  refine x_get (k := 3) (v := .int (nI 0)) C dX6_record_1 layX6 fl_X6_42 0 rfl rfl (by decide) rfl ?_
  refine x_iconst (v := (nI 4)) C dX6_record_4 (by decide) ?_
  refine x_icmp_neN (a := 0) (b := 4) (tgt := 49) C dX6_record_5 (by decide) (by omega) (by omega) (fun c1 => ?_) (fun c1 => False.elim (by omega))
  refine x_iconst (v := (nI 0)) C dX6_record_49 (by decide) ?_
  refine x_istore_n (lv' := [(1, .int (nI 0)), (0, .ref (a 0))]) C dX6_record_50 rfl (by decide) rfl ?_
  have L2 : ∀ (fu : Nat) (i : Nat) (g : Nat → Int32), i + fu = 378 → (g = cpL s hi 0 0 i) → gW G X (wM G a s as_ g 0 sn ik tx ln it wl sp iw rs er) 0 0 51 [(1, .int (nI i)), (0, .ref (a 0))] [] := by
    intro fu
    induction fu with
    | zero =>
      intro i g hn ha
      have hi9 : i = 378 := by omega
      refine x_iload_n C 0 rfl dX6_record_51 rfl ?_
      refine x_sipush (v := (nI 378)) C dX6_record_52 (by decide) ?_
      refine x_icmp_geN (a := i) (b := 378) (tgt := 85) C dX6_record_55 (by decide) (by omega) (by omega) (fun c3 => ?_) (fun c3 => False.elim (by omega))
      refine x_aload_n C 1 rfl dX6_record_85 rfl ?_
      refine x_dup C rfl dX6_record_86 ?_
      refine x_get (k := 3) (v := .int (nI 0)) C dX6_record_87 layX6 fl_X6_42 0 rfl rfl (by decide) rfl ?_
      refine x_iconst (v := (nI 1)) C dX6_record_90 (by decide) ?_
      refine x_iaddN C dX6_record_91 ?_
      refine x_put (k := 3) (ws' := (wM G a s as_ g 1 sn ik tx ln it wl sp iw rs er)) C dX6_record_92 layX6 tyX6 tyX6_ok nmX6 fl_X6_42 0 rfl rfl (by decide) rfl rfl rfl rfl (Nat.le_of_ble_eq_true rfl) rfl ?_
      exact x_vret C hr E dX6_record_95 (fun _ => 0) (by rw [ha, hi9]; rfl)
    | succ fu ih =>
      intro i g hn ha
      refine x_iload_n C 0 rfl dX6_record_51 rfl ?_
      refine x_sipush (v := (nI 378)) C dX6_record_52 (by decide) ?_
      refine x_icmp_geN (a := i) (b := 378) (tgt := 85) C dX6_record_55 (by decide) (by omega) (by omega) (fun c4 => False.elim (by omega)) (fun c4 => ?_)
      refine x_aload_n C 1 rfl dX6_record_58 rfl ?_
      refine x_get (k := 2) (v := .ref (a 3)) C dX6_record_59 layX6 fl_X6_16 0 rfl rfl (by decide) rfl ?_
      refine x_sipush (v := (nI 378)) C dX6_record_62 (by decide) ?_
      refine x_aload_n C 1 rfl dX6_record_65 rfl ?_
      refine x_get (k := 3) (v := .int (nI 0)) C dX6_record_66 layX6 fl_X6_42 0 rfl rfl (by decide) rfl ?_
      refine x_imulN C dX6_record_69 ?_
      refine x_iload_n C 0 rfl dX6_record_70 rfl ?_
      refine x_iaddN C dX6_record_71 ?_
      refine x_aload_n C 1 rfl dX6_record_72 rfl ?_
      refine x_get (k := 0) (v := .ref (a 1)) C dX6_record_73 layX6 fl_X6_7 0 rfl rfl (by decide) rfl ?_
      refine x_iload_n C 0 rfl dX6_record_76 rfl ?_
      refine x_iald (j := i) C dX6_record_77 1 rfl rfl (by omega) (by omega) ?_
      refine x_iast (j := (0 + i)) (x := (s i)) (ws' := (wM G a s as_ (upd g (0 + i) (s i)) 0 sn ik tx ln it wl sp iw rs er)) C dX6_record_78 3 rfl rfl (by omega) (by omega) rfl ?_
      refine x_iinc (v := (nI (i + 1))) (lv' := [(1, .int (nI (i + 1))), (0, .ref (a 0))]) C 0 rfl dX6_record_79 (by rw [show Int32.ofInt 1 = nI 1 from rfl]; exact nI_add _ _) (by decide) rfl ?_
      refine x_goto (tgt := 51) C dX6_record_82 (by decide) ?_
      exact ih (i + 1) (upd g (0 + i) (s i)) (by omega) (by rw [ha]; simp only [cpL, mvL, Nat.zero_add])
  exact L2 378 0 hi (by omega) (by rfl)
set_option maxRecDepth 100000 in
set_option maxHeartbeats 4000000 in
theorem c_X6_record1 (l : Launch) (G : gG) (a : Nat → Nat) (s as_ hi : Nat → Int32) (sn : Nat → Int32) (ik : Int32) (tx : Nat → Int32) (ln : Nat) (it wl : Nat → Int32) (sp : Nat) (iw : Int32) (rs : Nat) (er : Int32)  : CT l yX6_record cX6_record 2 none rm_X6_record G [.ref (a 0)] (wM G a s as_ hi 1 sn ik tx ln it wl sp iw rs er) none (fun _ => (wM G a s as_ (m_recH s hi 1) (m_recK 1) sn ik tx ln it wl sp iw rs er)) := by
  refine gMet (by decide) (Nat.le_of_ble_eq_true rfl) (fun X hX C hr hin E => ?_)
  clear hX
  refine (show gW G X (wM G a s as_ hi 1 sn ik tx ln it wl sp iw rs er) 0 0 0 [(0, .ref (a 0))] [] from ?_)
  refine x_aload_n C 0 rfl dX6_record_0 rfl ?_
  refine x_get (k := 3) (v := .int (nI 1)) C dX6_record_1 layX6 fl_X6_42 0 rfl rfl (by decide) rfl ?_
  refine x_iconst (v := (nI 4)) C dX6_record_4 (by decide) ?_
  refine x_icmp_neN (a := 1) (b := 4) (tgt := 49) C dX6_record_5 (by decide) (by omega) (by omega) (fun c1 => ?_) (fun c1 => False.elim (by omega))
  refine x_iconst (v := (nI 0)) C dX6_record_49 (by decide) ?_
  refine x_istore_n (lv' := [(1, .int (nI 0)), (0, .ref (a 0))]) C dX6_record_50 rfl (by decide) rfl ?_
  have L2 : ∀ (fu : Nat) (i : Nat) (g : Nat → Int32), i + fu = 378 → (g = cpL s hi 0 378 i) → gW G X (wM G a s as_ g 1 sn ik tx ln it wl sp iw rs er) 0 0 51 [(1, .int (nI i)), (0, .ref (a 0))] [] := by
    intro fu
    induction fu with
    | zero =>
      intro i g hn ha
      have hi9 : i = 378 := by omega
      refine x_iload_n C 0 rfl dX6_record_51 rfl ?_
      refine x_sipush (v := (nI 378)) C dX6_record_52 (by decide) ?_
      refine x_icmp_geN (a := i) (b := 378) (tgt := 85) C dX6_record_55 (by decide) (by omega) (by omega) (fun c3 => ?_) (fun c3 => False.elim (by omega))
      refine x_aload_n C 1 rfl dX6_record_85 rfl ?_
      refine x_dup C rfl dX6_record_86 ?_
      refine x_get (k := 3) (v := .int (nI 1)) C dX6_record_87 layX6 fl_X6_42 0 rfl rfl (by decide) rfl ?_
      refine x_iconst (v := (nI 1)) C dX6_record_90 (by decide) ?_
      refine x_iaddN C dX6_record_91 ?_
      refine x_put (k := 3) (ws' := (wM G a s as_ g 2 sn ik tx ln it wl sp iw rs er)) C dX6_record_92 layX6 tyX6 tyX6_ok nmX6 fl_X6_42 0 rfl rfl (by decide) rfl rfl rfl rfl (Nat.le_of_ble_eq_true rfl) rfl ?_
      exact x_vret C hr E dX6_record_95 (fun _ => 0) (by rw [ha, hi9]; rfl)
    | succ fu ih =>
      intro i g hn ha
      refine x_iload_n C 0 rfl dX6_record_51 rfl ?_
      refine x_sipush (v := (nI 378)) C dX6_record_52 (by decide) ?_
      refine x_icmp_geN (a := i) (b := 378) (tgt := 85) C dX6_record_55 (by decide) (by omega) (by omega) (fun c4 => False.elim (by omega)) (fun c4 => ?_)
      refine x_aload_n C 1 rfl dX6_record_58 rfl ?_
      refine x_get (k := 2) (v := .ref (a 3)) C dX6_record_59 layX6 fl_X6_16 0 rfl rfl (by decide) rfl ?_
      refine x_sipush (v := (nI 378)) C dX6_record_62 (by decide) ?_
      refine x_aload_n C 1 rfl dX6_record_65 rfl ?_
      refine x_get (k := 3) (v := .int (nI 1)) C dX6_record_66 layX6 fl_X6_42 0 rfl rfl (by decide) rfl ?_
      refine x_imulN C dX6_record_69 ?_
      refine x_iload_n C 0 rfl dX6_record_70 rfl ?_
      refine x_iaddN C dX6_record_71 ?_
      refine x_aload_n C 1 rfl dX6_record_72 rfl ?_
      refine x_get (k := 0) (v := .ref (a 1)) C dX6_record_73 layX6 fl_X6_7 0 rfl rfl (by decide) rfl ?_
      refine x_iload_n C 0 rfl dX6_record_76 rfl ?_
      refine x_iald (j := i) C dX6_record_77 1 rfl rfl (by omega) (by omega) ?_
      refine x_iast (j := (378 + i)) (x := (s i)) (ws' := (wM G a s as_ (upd g (378 + i) (s i)) 1 sn ik tx ln it wl sp iw rs er)) C dX6_record_78 3 rfl rfl (by omega) (by omega) rfl ?_
      refine x_iinc (v := (nI (i + 1))) (lv' := [(1, .int (nI (i + 1))), (0, .ref (a 0))]) C 0 rfl dX6_record_79 (by rw [show Int32.ofInt 1 = nI 1 from rfl]; exact nI_add _ _) (by decide) rfl ?_
      refine x_goto (tgt := 51) C dX6_record_82 (by decide) ?_
      exact ih (i + 1) (upd g (378 + i) (s i)) (by omega) (by rw [ha]; simp only [cpL, mvL, Nat.zero_add])
  exact L2 378 0 hi (by omega) (by rfl)
set_option maxRecDepth 100000 in
set_option maxHeartbeats 4000000 in
theorem c_X6_record2 (l : Launch) (G : gG) (a : Nat → Nat) (s as_ hi : Nat → Int32) (sn : Nat → Int32) (ik : Int32) (tx : Nat → Int32) (ln : Nat) (it wl : Nat → Int32) (sp : Nat) (iw : Int32) (rs : Nat) (er : Int32)  : CT l yX6_record cX6_record 2 none rm_X6_record G [.ref (a 0)] (wM G a s as_ hi 2 sn ik tx ln it wl sp iw rs er) none (fun _ => (wM G a s as_ (m_recH s hi 2) (m_recK 2) sn ik tx ln it wl sp iw rs er)) := by
  refine gMet (by decide) (Nat.le_of_ble_eq_true rfl) (fun X hX C hr hin E => ?_)
  clear hX
  refine (show gW G X (wM G a s as_ hi 2 sn ik tx ln it wl sp iw rs er) 0 0 0 [(0, .ref (a 0))] [] from ?_)
  refine x_aload_n C 0 rfl dX6_record_0 rfl ?_
  refine x_get (k := 3) (v := .int (nI 2)) C dX6_record_1 layX6 fl_X6_42 0 rfl rfl (by decide) rfl ?_
  refine x_iconst (v := (nI 4)) C dX6_record_4 (by decide) ?_
  refine x_icmp_neN (a := 2) (b := 4) (tgt := 49) C dX6_record_5 (by decide) (by omega) (by omega) (fun c1 => ?_) (fun c1 => False.elim (by omega))
  refine x_iconst (v := (nI 0)) C dX6_record_49 (by decide) ?_
  refine x_istore_n (lv' := [(1, .int (nI 0)), (0, .ref (a 0))]) C dX6_record_50 rfl (by decide) rfl ?_
  have L2 : ∀ (fu : Nat) (i : Nat) (g : Nat → Int32), i + fu = 378 → (g = cpL s hi 0 756 i) → gW G X (wM G a s as_ g 2 sn ik tx ln it wl sp iw rs er) 0 0 51 [(1, .int (nI i)), (0, .ref (a 0))] [] := by
    intro fu
    induction fu with
    | zero =>
      intro i g hn ha
      have hi9 : i = 378 := by omega
      refine x_iload_n C 0 rfl dX6_record_51 rfl ?_
      refine x_sipush (v := (nI 378)) C dX6_record_52 (by decide) ?_
      refine x_icmp_geN (a := i) (b := 378) (tgt := 85) C dX6_record_55 (by decide) (by omega) (by omega) (fun c3 => ?_) (fun c3 => False.elim (by omega))
      refine x_aload_n C 1 rfl dX6_record_85 rfl ?_
      refine x_dup C rfl dX6_record_86 ?_
      refine x_get (k := 3) (v := .int (nI 2)) C dX6_record_87 layX6 fl_X6_42 0 rfl rfl (by decide) rfl ?_
      refine x_iconst (v := (nI 1)) C dX6_record_90 (by decide) ?_
      refine x_iaddN C dX6_record_91 ?_
      refine x_put (k := 3) (ws' := (wM G a s as_ g 3 sn ik tx ln it wl sp iw rs er)) C dX6_record_92 layX6 tyX6 tyX6_ok nmX6 fl_X6_42 0 rfl rfl (by decide) rfl rfl rfl rfl (Nat.le_of_ble_eq_true rfl) rfl ?_
      exact x_vret C hr E dX6_record_95 (fun _ => 0) (by rw [ha, hi9]; rfl)
    | succ fu ih =>
      intro i g hn ha
      refine x_iload_n C 0 rfl dX6_record_51 rfl ?_
      refine x_sipush (v := (nI 378)) C dX6_record_52 (by decide) ?_
      refine x_icmp_geN (a := i) (b := 378) (tgt := 85) C dX6_record_55 (by decide) (by omega) (by omega) (fun c4 => False.elim (by omega)) (fun c4 => ?_)
      refine x_aload_n C 1 rfl dX6_record_58 rfl ?_
      refine x_get (k := 2) (v := .ref (a 3)) C dX6_record_59 layX6 fl_X6_16 0 rfl rfl (by decide) rfl ?_
      refine x_sipush (v := (nI 378)) C dX6_record_62 (by decide) ?_
      refine x_aload_n C 1 rfl dX6_record_65 rfl ?_
      refine x_get (k := 3) (v := .int (nI 2)) C dX6_record_66 layX6 fl_X6_42 0 rfl rfl (by decide) rfl ?_
      refine x_imulN C dX6_record_69 ?_
      refine x_iload_n C 0 rfl dX6_record_70 rfl ?_
      refine x_iaddN C dX6_record_71 ?_
      refine x_aload_n C 1 rfl dX6_record_72 rfl ?_
      refine x_get (k := 0) (v := .ref (a 1)) C dX6_record_73 layX6 fl_X6_7 0 rfl rfl (by decide) rfl ?_
      refine x_iload_n C 0 rfl dX6_record_76 rfl ?_
      refine x_iald (j := i) C dX6_record_77 1 rfl rfl (by omega) (by omega) ?_
      refine x_iast (j := (756 + i)) (x := (s i)) (ws' := (wM G a s as_ (upd g (756 + i) (s i)) 2 sn ik tx ln it wl sp iw rs er)) C dX6_record_78 3 rfl rfl (by omega) (by omega) rfl ?_
      refine x_iinc (v := (nI (i + 1))) (lv' := [(1, .int (nI (i + 1))), (0, .ref (a 0))]) C 0 rfl dX6_record_79 (by rw [show Int32.ofInt 1 = nI 1 from rfl]; exact nI_add _ _) (by decide) rfl ?_
      refine x_goto (tgt := 51) C dX6_record_82 (by decide) ?_
      exact ih (i + 1) (upd g (756 + i) (s i)) (by omega) (by rw [ha]; simp only [cpL, mvL, Nat.zero_add])
  exact L2 378 0 hi (by omega) (by rfl)
set_option maxRecDepth 100000 in
set_option maxHeartbeats 4000000 in
theorem c_X6_record3 (l : Launch) (G : gG) (a : Nat → Nat) (s as_ hi : Nat → Int32) (sn : Nat → Int32) (ik : Int32) (tx : Nat → Int32) (ln : Nat) (it wl : Nat → Int32) (sp : Nat) (iw : Int32) (rs : Nat) (er : Int32)  : CT l yX6_record cX6_record 2 none rm_X6_record G [.ref (a 0)] (wM G a s as_ hi 3 sn ik tx ln it wl sp iw rs er) none (fun _ => (wM G a s as_ (m_recH s hi 3) (m_recK 3) sn ik tx ln it wl sp iw rs er)) := by
  refine gMet (by decide) (Nat.le_of_ble_eq_true rfl) (fun X hX C hr hin E => ?_)
  clear hX
  refine (show gW G X (wM G a s as_ hi 3 sn ik tx ln it wl sp iw rs er) 0 0 0 [(0, .ref (a 0))] [] from ?_)
  refine x_aload_n C 0 rfl dX6_record_0 rfl ?_
  refine x_get (k := 3) (v := .int (nI 3)) C dX6_record_1 layX6 fl_X6_42 0 rfl rfl (by decide) rfl ?_
  refine x_iconst (v := (nI 4)) C dX6_record_4 (by decide) ?_
  refine x_icmp_neN (a := 3) (b := 4) (tgt := 49) C dX6_record_5 (by decide) (by omega) (by omega) (fun c1 => ?_) (fun c1 => False.elim (by omega))
  refine x_iconst (v := (nI 0)) C dX6_record_49 (by decide) ?_
  refine x_istore_n (lv' := [(1, .int (nI 0)), (0, .ref (a 0))]) C dX6_record_50 rfl (by decide) rfl ?_
  have L2 : ∀ (fu : Nat) (i : Nat) (g : Nat → Int32), i + fu = 378 → (g = cpL s hi 0 1134 i) → gW G X (wM G a s as_ g 3 sn ik tx ln it wl sp iw rs er) 0 0 51 [(1, .int (nI i)), (0, .ref (a 0))] [] := by
    intro fu
    induction fu with
    | zero =>
      intro i g hn ha
      have hi9 : i = 378 := by omega
      refine x_iload_n C 0 rfl dX6_record_51 rfl ?_
      refine x_sipush (v := (nI 378)) C dX6_record_52 (by decide) ?_
      refine x_icmp_geN (a := i) (b := 378) (tgt := 85) C dX6_record_55 (by decide) (by omega) (by omega) (fun c3 => ?_) (fun c3 => False.elim (by omega))
      refine x_aload_n C 1 rfl dX6_record_85 rfl ?_
      refine x_dup C rfl dX6_record_86 ?_
      refine x_get (k := 3) (v := .int (nI 3)) C dX6_record_87 layX6 fl_X6_42 0 rfl rfl (by decide) rfl ?_
      refine x_iconst (v := (nI 1)) C dX6_record_90 (by decide) ?_
      refine x_iaddN C dX6_record_91 ?_
      refine x_put (k := 3) (ws' := (wM G a s as_ g 4 sn ik tx ln it wl sp iw rs er)) C dX6_record_92 layX6 tyX6 tyX6_ok nmX6 fl_X6_42 0 rfl rfl (by decide) rfl rfl rfl rfl (Nat.le_of_ble_eq_true rfl) rfl ?_
      exact x_vret C hr E dX6_record_95 (fun _ => 0) (by rw [ha, hi9]; rfl)
    | succ fu ih =>
      intro i g hn ha
      refine x_iload_n C 0 rfl dX6_record_51 rfl ?_
      refine x_sipush (v := (nI 378)) C dX6_record_52 (by decide) ?_
      refine x_icmp_geN (a := i) (b := 378) (tgt := 85) C dX6_record_55 (by decide) (by omega) (by omega) (fun c4 => False.elim (by omega)) (fun c4 => ?_)
      refine x_aload_n C 1 rfl dX6_record_58 rfl ?_
      refine x_get (k := 2) (v := .ref (a 3)) C dX6_record_59 layX6 fl_X6_16 0 rfl rfl (by decide) rfl ?_
      refine x_sipush (v := (nI 378)) C dX6_record_62 (by decide) ?_
      refine x_aload_n C 1 rfl dX6_record_65 rfl ?_
      refine x_get (k := 3) (v := .int (nI 3)) C dX6_record_66 layX6 fl_X6_42 0 rfl rfl (by decide) rfl ?_
      refine x_imulN C dX6_record_69 ?_
      refine x_iload_n C 0 rfl dX6_record_70 rfl ?_
      refine x_iaddN C dX6_record_71 ?_
      refine x_aload_n C 1 rfl dX6_record_72 rfl ?_
      refine x_get (k := 0) (v := .ref (a 1)) C dX6_record_73 layX6 fl_X6_7 0 rfl rfl (by decide) rfl ?_
      refine x_iload_n C 0 rfl dX6_record_76 rfl ?_
      refine x_iald (j := i) C dX6_record_77 1 rfl rfl (by omega) (by omega) ?_
      refine x_iast (j := (1134 + i)) (x := (s i)) (ws' := (wM G a s as_ (upd g (1134 + i) (s i)) 3 sn ik tx ln it wl sp iw rs er)) C dX6_record_78 3 rfl rfl (by omega) (by omega) rfl ?_
      refine x_iinc (v := (nI (i + 1))) (lv' := [(1, .int (nI (i + 1))), (0, .ref (a 0))]) C 0 rfl dX6_record_79 (by rw [show Int32.ofInt 1 = nI 1 from rfl]; exact nI_add _ _) (by decide) rfl ?_
      refine x_goto (tgt := 51) C dX6_record_82 (by decide) ?_
      exact ih (i + 1) (upd g (1134 + i) (s i)) (by omega) (by rw [ha]; simp only [cpL, mvL, Nat.zero_add])
  exact L2 378 0 hi (by omega) (by rfl)
set_option maxRecDepth 100000 in
set_option maxHeartbeats 4000000 in
theorem c_X6_record4 (l : Launch) (G : gG) (a : Nat → Nat) (s as_ hi : Nat → Int32) (sn : Nat → Int32) (ik : Int32) (tx : Nat → Int32) (ln : Nat) (it wl : Nat → Int32) (sp : Nat) (iw : Int32) (rs : Nat) (er : Int32)  : CT l yX6_record cX6_record 2 none rm_X6_record G [.ref (a 0)] (wM G a s as_ hi 4 sn ik tx ln it wl sp iw rs er) none (fun _ => (wM G a s as_ (m_recH s hi 4) (m_recK 4) sn ik tx ln it wl sp iw rs er)) := by
  refine gMet (by decide) (Nat.le_of_ble_eq_true rfl) (fun X hX C hr hin E => ?_)
  clear hX
  refine (show gW G X (wM G a s as_ hi 4 sn ik tx ln it wl sp iw rs er) 0 0 0 [(0, .ref (a 0))] [] from ?_)
  refine x_aload_n C 0 rfl dX6_record_0 rfl ?_
  refine x_get (k := 3) (v := .int (nI 4)) C dX6_record_1 layX6 fl_X6_42 0 rfl rfl (by decide) rfl ?_
  refine x_iconst (v := (nI 4)) C dX6_record_4 (by decide) ?_
  refine x_icmp_neN (a := 4) (b := 4) (tgt := 49) C dX6_record_5 (by decide) (by omega) (by omega) (fun c1 => False.elim (by omega)) (fun c1 => ?_)
  refine x_iconst (v := (nI 0)) C dX6_record_8 (by decide) ?_
  refine x_istore_n (lv' := [(1, .int (nI 0)), (0, .ref (a 0))]) C dX6_record_9 rfl (by decide) rfl ?_
  have L2 : ∀ (fu : Nat) (i : Nat) (g : Nat → Int32), i + fu = 1134 → (g = mvL hi i) → gW G X (wM G a s as_ g 4 sn ik tx ln it wl sp iw rs er) 0 0 10 [(1, .int (nI i)), (0, .ref (a 0))] [] := by
    intro fu
    induction fu with
    | zero =>
      intro i g hn ha
      have hi9 : i = 1134 := by omega
      refine x_iload_n C 0 rfl dX6_record_10 rfl ?_
      refine x_sipush (v := (nI 1134)) C dX6_record_11 (by decide) ?_
      refine x_icmp_geN (a := i) (b := 1134) (tgt := 39) C dX6_record_14 (by decide) (by omega) (by omega) (fun c3 => ?_) (fun c3 => False.elim (by omega))
      refine x_aload_n C 1 rfl dX6_record_39 rfl ?_
      refine x_dup C rfl dX6_record_40 ?_
      refine x_get (k := 3) (v := .int (nI 4)) C dX6_record_41 layX6 fl_X6_42 0 rfl rfl (by decide) rfl ?_
      refine x_iconst (v := (nI 1)) C dX6_record_44 (by decide) ?_
      refine x_isubN C dX6_record_45 (by omega) ?_
      refine x_put (k := 3) (ws' := (wM G a s as_ g 3 sn ik tx ln it wl sp iw rs er)) C dX6_record_46 layX6 tyX6 tyX6_ok nmX6 fl_X6_42 0 rfl rfl (by decide) rfl rfl rfl rfl (Nat.le_of_ble_eq_true rfl) rfl ?_
      refine x_iconst (v := (nI 0)) C dX6_record_49 (by decide) ?_
      refine x_istore_n (lv' := [(1, .int (nI 0)), (0, .ref (a 0))]) C dX6_record_50 rfl (by decide) rfl ?_
      have L4 : ∀ (fu : Nat) (j : Nat) (g2 : Nat → Int32), j + fu = 378 → (g2 = cpL s (mvL hi 1134) 0 1134 j) → gW G X (wM G a s as_ g2 3 sn ik tx ln it wl sp iw rs er) 0 0 51 [(1, .int (nI j)), (0, .ref (a 0))] [] := by
        intro fu
        induction fu with
        | zero =>
          intro j g2 hn hb
          have hj9 : j = 378 := by omega
          refine x_iload_n C 0 rfl dX6_record_51 rfl ?_
          refine x_sipush (v := (nI 378)) C dX6_record_52 (by decide) ?_
          refine x_icmp_geN (a := j) (b := 378) (tgt := 85) C dX6_record_55 (by decide) (by omega) (by omega) (fun c5 => ?_) (fun c5 => False.elim (by omega))
          refine x_aload_n C 1 rfl dX6_record_85 rfl ?_
          refine x_dup C rfl dX6_record_86 ?_
          refine x_get (k := 3) (v := .int (nI 3)) C dX6_record_87 layX6 fl_X6_42 0 rfl rfl (by decide) rfl ?_
          refine x_iconst (v := (nI 1)) C dX6_record_90 (by decide) ?_
          refine x_iaddN C dX6_record_91 ?_
          refine x_put (k := 3) (ws' := (wM G a s as_ g2 4 sn ik tx ln it wl sp iw rs er)) C dX6_record_92 layX6 tyX6 tyX6_ok nmX6 fl_X6_42 0 rfl rfl (by decide) rfl rfl rfl rfl (Nat.le_of_ble_eq_true rfl) rfl ?_
          exact x_vret C hr E dX6_record_95 (fun _ => 0) (by rw [hb, hj9]; rfl)
        | succ fu ih =>
          intro j g2 hn hb
          refine x_iload_n C 0 rfl dX6_record_51 rfl ?_
          refine x_sipush (v := (nI 378)) C dX6_record_52 (by decide) ?_
          refine x_icmp_geN (a := j) (b := 378) (tgt := 85) C dX6_record_55 (by decide) (by omega) (by omega) (fun c6 => False.elim (by omega)) (fun c6 => ?_)
          refine x_aload_n C 1 rfl dX6_record_58 rfl ?_
          refine x_get (k := 2) (v := .ref (a 3)) C dX6_record_59 layX6 fl_X6_16 0 rfl rfl (by decide) rfl ?_
          refine x_sipush (v := (nI 378)) C dX6_record_62 (by decide) ?_
          refine x_aload_n C 1 rfl dX6_record_65 rfl ?_
          refine x_get (k := 3) (v := .int (nI 3)) C dX6_record_66 layX6 fl_X6_42 0 rfl rfl (by decide) rfl ?_
          refine x_imulN C dX6_record_69 ?_
          refine x_iload_n C 0 rfl dX6_record_70 rfl ?_
          refine x_iaddN C dX6_record_71 ?_
          refine x_aload_n C 1 rfl dX6_record_72 rfl ?_
          refine x_get (k := 0) (v := .ref (a 1)) C dX6_record_73 layX6 fl_X6_7 0 rfl rfl (by decide) rfl ?_
          refine x_iload_n C 0 rfl dX6_record_76 rfl ?_
          refine x_iald (j := j) C dX6_record_77 1 rfl rfl (by omega) (by omega) ?_
          refine x_iast (j := (1134 + j)) (x := (s j)) (ws' := (wM G a s as_ (upd g2 (1134 + j) (s j)) 3 sn ik tx ln it wl sp iw rs er)) C dX6_record_78 3 rfl rfl (by omega) (by omega) rfl ?_
          refine x_iinc (v := (nI (j + 1))) (lv' := [(1, .int (nI (j + 1))), (0, .ref (a 0))]) C 0 rfl dX6_record_79 (by rw [show Int32.ofInt 1 = nI 1 from rfl]; exact nI_add _ _) (by decide) rfl ?_
          refine x_goto (tgt := 51) C dX6_record_82 (by decide) ?_
          exact ih (j + 1) (upd g2 (1134 + j) (s j)) (by omega) (by rw [hb]; simp only [cpL, Nat.zero_add])
      exact L4 378 0 g (by omega) (by rw [ha, hi9]; rfl)
    | succ fu ih =>
      intro i g hn ha
      refine x_iload_n C 0 rfl dX6_record_10 rfl ?_
      refine x_sipush (v := (nI 1134)) C dX6_record_11 (by decide) ?_
      refine x_icmp_geN (a := i) (b := 1134) (tgt := 39) C dX6_record_14 (by decide) (by omega) (by omega) (fun c7 => False.elim (by omega)) (fun c7 => ?_)
      refine x_aload_n C 1 rfl dX6_record_17 rfl ?_
      refine x_get (k := 2) (v := .ref (a 3)) C dX6_record_18 layX6 fl_X6_16 0 rfl rfl (by decide) rfl ?_
      refine x_iload_n C 0 rfl dX6_record_21 rfl ?_
      refine x_aload_n C 1 rfl dX6_record_22 rfl ?_
      refine x_get (k := 2) (v := .ref (a 3)) C dX6_record_23 layX6 fl_X6_16 0 rfl rfl (by decide) rfl ?_
      refine x_iload_n C 0 rfl dX6_record_26 rfl ?_
      refine x_sipush (v := (nI 378)) C dX6_record_27 (by decide) ?_
      refine x_iaddN C dX6_record_30 ?_
      refine x_iald (j := (i + 378)) C dX6_record_31 3 rfl rfl (by omega) (by omega) ?_
      refine x_iast (j := i) (x := (g (i + 378))) (ws' := (wM G a s as_ (upd g i (g (i + 378))) 4 sn ik tx ln it wl sp iw rs er)) C dX6_record_32 3 rfl rfl (by omega) (by omega) rfl ?_
      refine x_iinc (v := (nI (i + 1))) (lv' := [(1, .int (nI (i + 1))), (0, .ref (a 0))]) C 0 rfl dX6_record_33 (by rw [show Int32.ofInt 1 = nI 1 from rfl]; exact nI_add _ _) (by decide) rfl ?_
      refine x_goto (tgt := 10) C dX6_record_36 (by decide) ?_
      exact ih (i + 1) (upd g i (g (i + 378))) (by omega) (by rw [ha]; simp only [cpL, mvL, Nat.zero_add])
  exact L2 1134 0 hi (by omega) (by rfl)
