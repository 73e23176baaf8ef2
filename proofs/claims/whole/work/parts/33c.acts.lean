theorem in_lt {k n : Nat} (h : k < n + 1) (hn : n + 1 < 2 ^ 31) : m_in (nI k) 0 (nI n) := ⟨nI_pos (by omega), nI_nlt (by omega) (by omega)⟩
theorem sT0 : ∀ k, k < 3 → sT 0 k = nI (4 - k) := by decide
/-- a booking asked for, on both sides -/
theorem v_books {q : c_S} {s : Nat → Int32} {n k r : Nat} (H : RR q s) (ht : q_ti q < 2 ^ 20) (hn : n < 100) (hk : k < 3) (hr : r < 12) :
    (k_err q n k r = 0 → 0 < (mX_books s (nI n) (nI k) (nI r)).1 ∧ (mX_books s (nI n) (nI k) (nI r)).1 = c_bf (q_bo (k_addBooking q n (nI k) (nI r))) (nI (q_ti q + n)) (nI k) (q_bc q + 1) ∧ RR (k_addBooking q n (nI k) (nI r)) (mX_books s (nI n) (nI k) (nI r)).2) ∧ (¬ k_err q n k r = 0 → mX_books s (nI n) (nI k) (nI r) = (k_err q n k r, s) ∧ k_err q n k r < 0) := by
  have H0 := H
  obtain ⟨ti, se, ho, ri, bo, bc, fs, fc⟩ := q
  obtain ⟨a1, a2, a3, a4, a5, a6, a7, a8, a9, a10, a11, a12⟩ : s 0 = nI ti ∧ se = SE s ∧ ho = HO s ∧ ri = RI s ∧ s 192 = nI bc ∧ BO bo bc s ∧ FS fs fc s ∧ SU s ∧ IV (ti + 1) s ∧ BI bo bc ∧ bc ≤ 40 ∧ fc ≤ 40 * ti := H
  have ht : ti < 2 ^ 20 := ht
  have hE : k_err (ti, se, ho, ri, bo, bc, fs, fc) n k r = c_bErr bo bc (nI (ti + n)) k r := rfl
  rw [hE]
  have etm : s 0 + nI n = nI (ti + n) := by rw [a1, nI_add]
  have e4 : (4 : Int32) - nI k = nI (4 - k) := pk_sub (a := 4) (b := k) (by omega)
  have hbc : nC (s 192) = bc := by rw [a5, nC_nI (by omega)]
  have hg : c_bf bo (nI (ti + n)) (nI k) bc = nI (bcnt bo (nI (ti + n)) (nI k) bc) := bf_n _ _ _ _
  have hcl := bcnt_le bo (nI (ti + n)) (nI k) bc
  have hcap := a10.2.2 (nI (ti + n)) k hk
  obtain ⟨f1, f2⟩ := v_find a6 a10 (nI (ti + n)) (nI r)
  have hB : mX_books s (nI n) (nI k) (nI r) = if c_find bo bc (nI (ti + n)) (nI r) = -5 then (if nI (bcnt bo (nI (ti + n)) (nI k) bc) = nI (4 - k) then (-3, s) else if bc = 40 then (-3, s) else (nI (bcnt bo (nI (ti + n)) (nI k) bc) + 1, m_inc (upd (upd (upd s (3 * bc + 193) (nI (ti + n))) (3 * bc + 194) (nI k)) (3 * bc + 195) (nI r)) 192)) else (-4, s) := by
    unfold mX_books
    rw [if_pos (show m_in (nI k) 0 2 from in_lt (n := 2) hk (by omega)), if_pos (show m_in (nI r) 0 11 from in_lt (n := 11) hr (by omega)), if_pos (show m_in (nI n) 0 99 from in_lt (n := 99) hn (by omega)), etm, e4, hbc, f1, v_bf a6 _ _ bc (Nat.le_refl _), hg]
  rw [hB]
  unfold c_bErr
  rw [hg, sT0 k hk]
  by_cases c1 : c_find bo bc (nI (ti + n)) (nI r) = -5
  · rw [if_pos c1, if_pos c1]
    have hno : ∀ j, j < bc → bo j = nI (ti + n) → bo (80 + j) ≠ nI r := by
      rcases f2 with f2 | ⟨j, hj, f3, -⟩
      · exact f2.2
      · rw [f3] at c1
        exact absurd (by rw [c1]; decide) (nI_pos (n := j) (by omega))
    by_cases c2 : bcnt bo (nI (ti + n)) (nI k) bc < 4 - k
    · have n1 : ¬ nI (bcnt bo (nI (ti + n)) (nI k) bc) = nI (4 - k) := fun z => by
        have := (nI_eq (by omega) (by omega)).mp z
        omega
      rw [if_pos ((nI_ltI (by omega) (by omega)).mpr c2), if_neg n1]
      by_cases c3 : bc < 40
      · rw [if_pos c3, if_neg (show ¬ bc = 40 by omega)]
        refine ⟨fun _ => ⟨?_, ?_, ?_⟩, fun z => absurd rfl z⟩
        · show 0 < nI (bcnt bo (nI (ti + n)) (nI k) bc) + 1
          rw [nI_1]
          exact nI_lt (a := 0) (by omega) (by omega)
        · show nI (bcnt bo (nI (ti + n)) (nI k) bc) + 1 = c_bf (c_addB bo bc (nI (ti + n)) (nI k) (nI r)) (nI (ti + n)) (nI k) (bc + 1)
          rw [bf_n, nI_1]
          rw [show bcnt (c_addB bo bc (nI (ti + n)) (nI k) (nI r)) (nI (ti + n)) (nI k) (bc + 1) = bcnt (c_addB bo bc (nI (ti + n)) (nI k) (nI r)) (nI (ti + n)) (nI k) bc + (if c_isBR (c_addB bo bc (nI (ti + n)) (nI k) (nI r)) (nI (ti + n)) (nI k) bc then 1 else 0) from rfl]
          unfold c_addB
          rw [bcnt_cg (bo := upd (upd (upd bo bc (nI (ti + n))) (40 + bc) (nI k)) (80 + bc) (nI r)) (b2 := bo) bc (fun j hj => by
            rw [pk_un (by omega), pk_un (by omega), pk_un (by omega), pk_un (by omega), pk_un (by omega), pk_un (by omega)]
            exact ⟨rfl, rfl⟩), if_pos (by
            unfold c_isBR
            rw [pk_un (by omega), pk_un (by omega), pk_us, pk_un (by omega), pk_us]
            exact ⟨rfl, rfl⟩)]
        · exact RR_add H0 (okV_nI hk (by omega)) (okV_nI hr (by omega)) hno (by show bcnt bo (nI (ti + n)) (nI k) bc < 4 - nC (nI k); rw [nC_nI (by omega)]; exact c2) c3 rfl
      · rw [if_neg c3, if_pos (show bc = 40 by omega)]
        exact ⟨fun z => absurd z (by decide), fun _ => ⟨rfl, by decide⟩⟩
    · have n1 : nI (bcnt bo (nI (ti + n)) (nI k) bc) = nI (4 - k) := by congr 1; omega
      rw [if_neg (fun z => c2 ((nI_ltI (by omega) (by omega)).mp z)), if_pos n1]
      exact ⟨fun z => absurd z (by decide), fun _ => ⟨rfl, by decide⟩⟩
  · rw [if_neg c1, if_neg c1]
    exact ⟨fun z => absurd z (by decide), fun _ => ⟨rfl, by decide⟩⟩
theorem v_book {hs : Nat → c_S} {nx sz kn : Nat} {hi s as_ : Nat → Int32} {now : c_S} (h g r : Int32) (H : HR hs nx sz hi kn) (hR : RR now s) (ht : q_ti now ≤ 9999) : OK5 (kX_book now hs nx sz h g r) (mX_book s as_ hi kn h g r) := by
  have hno : ∀ x : Int32, (mX_books s h g r) = (x, s) → x < 0 → OK5 (k_no now hs nx sz x) (mX_book s as_ hi kn h g r) := fun x e hx => by
    unfold mX_book
    rw [e, if_neg (n_nl hx)]
    exact OK_no H hR ht
  unfold kX_book
  by_cases c1 : k_out g 0 2
  · rw [if_pos c1]
    exact hno (-1) (by unfold mX_books; rw [if_neg (nin_of c1)]) (by decide)
  rw [if_neg c1]
  by_cases c2 : k_out r 0 11
  · rw [if_pos c2]
    exact hno (-1) (by unfold mX_books; rw [if_pos (in_of c1), if_neg (nin_of c2)]) (by decide)
  rw [if_neg c2]
  by_cases c3 : k_out h 0 99
  · rw [if_pos c3]
    exact hno (-2) (by unfold mX_books; rw [if_pos (in_of c1), if_pos (in_of c2), if_neg (nin_of c3)]) (by decide)
  rw [if_neg c3]
  obtain ⟨g1, g2⟩ := g_out (n := 2) (by omega) c1
  obtain ⟨r1, r2⟩ := g_out (n := 11) (by omega) c2
  obtain ⟨h1, h2⟩ := g_out (n := 99) (by omega) c3
  generalize nC g = k at *
  generalize nC r = j at *
  generalize nC h = n at *
  subst g2; subst r2; subst h2
  obtain ⟨b1, b2⟩ := v_books hR (by omega) h1 g1 r1
  by_cases c4 : k_err now n k j = 0
  · rw [if_pos c4]
    obtain ⟨d1, d2, d3⟩ := b1 c4
    unfold mX_book
    rw [if_pos d1]
    refine ⟨d2.symm, d3, ht, HR_cg (fun i hi2 => m_recA_e H.2.1 (fun j hj => cp0 hj) i hi2) (HR_act H hR ht)⟩
  · rw [if_neg c4]
    obtain ⟨d1, d2⟩ := b2 c4
    exact hno _ d1 d2
theorem rmR_at : ∀ (n i : Nat) (f : Nat → Int32), 1 ≤ i → i + n ≤ 40 → ∀ j, j < 40 → (c_rmR n i f j = if i ≤ j + 1 ∧ j + 1 < i + n then f (j + 1) else f j) ∧ (c_rmR n i f (40 + j) = if i ≤ j + 1 ∧ j + 1 < i + n then f (40 + (j + 1)) else f (40 + j)) ∧ (c_rmR n i f (80 + j) = if i ≤ j + 1 ∧ j + 1 < i + n then f (80 + (j + 1)) else f (80 + j))
  | 0, i, f, _, _, j, _ => by
    rw [if_neg (by omega), if_neg (by omega), if_neg (by omega)]
    exact ⟨rfl, rfl, rfl⟩
  | n + 1, i, f, h1, h2, j, hj => by
    obtain ⟨e1, e2, e3⟩ := rmR_at n (i + 1) (mvC f 40 i (i - 1) 3) (by omega) (by omega) j hj
    unfold c_rmR
    rw [e1, e2, e3]
    by_cases c : i + 1 ≤ j + 1 ∧ j + 1 < i + 1 + n
    · rw [if_pos c, if_pos c, if_pos c, if_pos (by omega), if_pos (by omega), if_pos (by omega), mv_0 (by omega) (by omega) (by omega), mv_1 (by omega) (by omega) (by omega), mv_2 (by omega) (by omega) (by omega), if_neg (by omega), if_neg (by omega), if_neg (by omega)]
      exact ⟨rfl, rfl, rfl⟩
    · rw [if_neg c, if_neg c, if_neg c, mv_0 (by omega) (by omega) (by omega), mv_1 (by omega) (by omega) (by omega), mv_2 (by omega) (by omega) (by omega)]
      by_cases d : j = i - 1
      · rw [if_pos d, if_pos d, if_pos d, if_pos (by omega), if_pos (by omega), if_pos (by omega), show j + 1 = i by omega]
        exact ⟨rfl, rfl, rfl⟩
      · rw [if_neg d, if_neg d, if_neg d, if_neg (by omega), if_neg (by omega), if_neg (by omega)]
        exact ⟨rfl, rfl, rfl⟩
theorem shf_at : ∀ (n k : Nat) (f : Nat → Int32) (q : Nat), m_shf n k f q = if k ≤ q ∧ q < k + n then f (q + 3) else f q
  | 0, k, f, q => by rw [if_neg (by omega)]; rfl
  | n + 1, k, f, q => by
    unfold m_shf
    rw [shf_at n (k + 1) _ q]
    by_cases c : k + 1 ≤ q ∧ q < k + 1 + n
    · rw [if_pos c, if_pos (by omega), pk_un (by omega)]
    · rw [if_neg c]
      by_cases d : q = k
      · subst d; rw [pk_us, if_pos (by omega)]
      · rw [pk_un d, if_neg (by omega)]
theorem can1_out {s : Nat → Int32} {b k : Nat} (hk : k < 192 ∨ 313 ≤ k) : m_can1 s b k = s k := by
  unfold m_can1
  rw [pk_un (by omega), shf_at, if_neg (by omega)]
/-- a booking taken back -/
theorem RR_rm {q : c_S} {s : Nat → Int32} {b : Nat} (H : RR q s) (hb : b < q_bc q) : RR (k_removeBooking q b) (m_can1 s b) := by
  obtain ⟨ti, se, ho, ri, bo, bc, fs, fc⟩ := q
  obtain ⟨a1, a2, a3, a4, a5, a6, a7, a8, a9, a10, a11, a12⟩ : s 0 = nI ti ∧ se = SE s ∧ ho = HO s ∧ ri = RI s ∧ s 192 = nI bc ∧ BO bo bc s ∧ FS fs fc s ∧ SU s ∧ IV (ti + 1) s ∧ BI bo bc ∧ bc ≤ 40 ∧ fc ≤ 40 * ti := H
  have hb : b < bc := hb
  show RR (ti, se, ho, ri, c_rmR (bc - (b + 1)) (b + 1) bo, bc - 1, fs, fc) (m_can1 s b)
  have R := rmR_at (bc - (b + 1)) (b + 1) bo (by omega) (by omega)
  have f0 : ∀ j, j < bc - 1 → c_rmR (bc - (b + 1)) (b + 1) bo j = bo (if j < b then j else j + 1) ∧ c_rmR (bc - (b + 1)) (b + 1) bo (40 + j) = bo (40 + (if j < b then j else j + 1)) ∧ c_rmR (bc - (b + 1)) (b + 1) bo (80 + j) = bo (80 + (if j < b then j else j + 1)) := fun j hj => by
    obtain ⟨e1, e2, e3⟩ := R j (by omega)
    rw [e1, e2, e3]
    by_cases c : j < b
    · rw [if_pos c, if_neg (by omega), if_neg (by omega), if_neg (by omega)]
      exact ⟨rfl, rfl, rfl⟩
    · rw [if_neg c, if_pos (by omega), if_pos (by omega), if_pos (by omega)]
      exact ⟨rfl, rfl, rfl⟩
  have e192 : m_can1 s b 192 = nI (bc - 1) := by
    unfold m_can1
    rw [pk_us, shf_at, if_neg (by omega), a5]
    exact pk_sub (a := bc) (b := 1) (by omega)
  have g0 : ∀ j w, j < bc - 1 → w < 3 → m_can1 s b (3 * j + (193 + w)) = s (3 * (if j < b then j else j + 1) + (193 + w)) := fun j w hj hw => by
    unfold m_can1
    rw [pk_un (by omega), shf_at]
    by_cases c : j < b
    · rw [if_pos c, if_neg (by omega)]
    · rw [if_neg c, if_pos (by omega)]
      congr 1
      omega
  refine ⟨?_, ?_, ?_, ?_, e192, fun j hj => ?_, ?_, SU_cg (fun k hk => can1_out (by omega)) a8, ?_, ?_, ?_, a12⟩
  · rw [can1_out (by omega)]; exact a1
  · exact a2.trans (SE_cg fun k h1 h2 => (can1_out (by omega)).symm)
  · exact a3.trans (HO_cg fun k h1 h2 => (can1_out (by omega)).symm)
  · exact a4.trans (RI_cg fun k h1 h2 => (can1_out (by omega)).symm)
  · have hj2 : j < bc - 1 := hj
    obtain ⟨e1, e2, e3⟩ := f0 j hj2
    show _ = c_rmR (bc - (b + 1)) (b + 1) bo j ∧ _ = c_rmR (bc - (b + 1)) (b + 1) bo (40 + j) ∧ _ = c_rmR (bc - (b + 1)) (b + 1) bo (80 + j)
    rw [e1, e2, e3]
    have w0 := g0 j 0 hj2 (by omega)
    have w1 := g0 j 1 hj2 (by omega)
    have w2 := g0 j 2 hj2 (by omega)
    rw [show 3 * j + 193 = 3 * j + (193 + 0) from rfl, show 3 * j + 194 = 3 * j + (193 + 1) from rfl, show 3 * j + 195 = 3 * j + (193 + 2) from rfl, w0, w1, w2]
    have hq : (if j < b then j else j + 1) < bc := by split <;> omega
    exact a6 _ hq
  · exact FS_cg (fun k hk => can1_out (by omega)) a7
  · exact IV_cg (fun k h1 h2 => can1_out (by omega)) a9
  · refine EM_BI a10 ⟨fun j => if j < b then j else j + 1, fun j hj => ?_, fun j k hjk hk => ?_⟩
    · refine ⟨?_, f0 j hj⟩
      have hj2 : j < bc - 1 := hj
      show (if j < b then j else j + 1) < bc
      split <;> omega
    · show (if j < b then j else j + 1) < (if k < b then k else k + 1)
      split <;> split <;> omega
  · show bc - 1 ≤ 40
    omega
theorem v_cancel {hs : Nat → c_S} {nx sz kn : Nat} {hi s : Nat → Int32} {now : c_S} (h r : Int32) (H : HR hs nx sz hi kn) (hR : RR now s) (ht : q_ti now ≤ 9999) : OK5 (kX_cancel now hs nx sz h r) (mX_cancel s hi kn h r) := by
  unfold kX_cancel mX_cancel
  by_cases c1 : k_out r 0 11
  · rw [if_pos c1, if_neg (nin_of c1)]; exact OK_no H hR ht
  rw [if_neg c1, if_pos (in_of c1)]
  by_cases c2 : k_out h 0 99
  · rw [if_pos c2, if_neg (nin_of c2)]; exact OK_no H hR ht
  rw [if_neg c2, if_pos (in_of c2)]
  obtain ⟨r1, r2⟩ := g_out (n := 11) (by omega) c1
  obtain ⟨h1, h2⟩ := g_out (n := 99) (by omega) c2
  generalize nC r = j at *
  generalize nC h = n at *
  subst r2; subst h2
  have hR0 := hR
  obtain ⟨a1, a2, a3, a4, a5, a6, a7, a8, a9, a10, a11, a12⟩ := hR
  obtain ⟨f1, f2⟩ := v_find a6 a10 (nI (q_ti now + n)) (nI j)
  have e1 : m_bk s (s 0 + nI n) (nI j) (nC (s 192)) = k_find now n j := by
    rw [a1, nI_add, a5, nC_nI (by omega), f1]; rfl
  rw [e1]
  have f3 : (k_find now n j = -5 ∧ ∀ i, i < q_bc now → q_bo now i = nI (q_ti now + n) → q_bo now (80 + i) ≠ nI j) ∨ ∃ i, i < q_bc now ∧ k_find now n j = nI i ∧ q_bo now i = nI (q_ti now + n) ∧ q_bo now (80 + i) = nI j := f2
  rcases f3 with ⟨f3, -⟩ | ⟨i, hi3, f3, -⟩
  · rw [if_pos f3, if_pos f3]; exact OK_no H hR0 ht
  · have hne : ¬ k_find now n j = -5 := fun z => by
      rw [f3] at z
      exact absurd (by rw [z]; decide) (nI_pos (n := i) (by omega))
    rw [if_neg hne, if_neg hne, f3, nC_nI (by omega)]
    exact OK_act H hR0 ht (a6 i hi3).2.1.symm (RR_rm hR0 hi3) ht
theorem v_pass {hs : Nat → c_S} {nx sz kn : Nat} {hi s it wl : Nat → Int32} {now : c_S} (h : Int32) (H : HR hs nx sz hi kn) (hR : RR now s) (ht : q_ti now ≤ 9999) : OK5 (kX_pass now hs nx sz h) ((mX_pass s hi kn it wl h).1, (mX_pass s hi kn it wl h).2.1, (mX_pass s hi kn it wl h).2.2.1, (mX_pass s hi kn it wl h).2.2.2.1) := by
  unfold kX_pass mX_pass
  by_cases c1 : k_out h 1 99
  · rw [if_pos c1, if_neg (nin_of c1)]; exact OK_no H hR ht
  rw [if_neg c1, if_pos (in_of c1)]
  obtain ⟨h0, h1, h2⟩ := g_out2 (lo := 1) (n := 99) (by omega) (by omega) c1
  generalize nC h = n at *
  subst h2
  have e : (9999 : Int32) < s 0 + nI n ↔ 9999 - n < q_ti now := by
    rw [hR.1, nI_add]
    rw [show (9999 : Int32) = nI 9999 from rfl, nI_ltI (by omega) (by omega)]
    omega
  by_cases c2 : 9999 - n < q_ti now
  · rw [if_pos c2, if_pos (e.mpr c2)]; exact OK_no H hR ht
  · rw [if_neg c2, if_neg (fun z => c2 (e.mp z))]
    obtain ⟨p1, p2, p3⟩ := RR_pL (it := it) (wl := wl) hR (by omega) n (by omega)
    refine OK_act H hR ht ?_ p1 (by omega)
    have q1 := p1.2.2.2.2.2.2.2.1.1
    have q2 := hR.2.2.2.2.2.2.2.1.1
    rw [p1.2.2.1, hR.2.2.1, ← q1, ← q2, p3, Int32.add_comm, Int32.add_sub_cancel]
