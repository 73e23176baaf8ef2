/-! ===== bookings found, counted, made, taken back, on both sides ===== -/
theorem v_bf {bo s : Nat → Int32} {bc : Nat} (H : BO bo bc s) (tm g : Int32) : ∀ n, n ≤ bc → m_bf s tm g n = c_bf bo tm g n
  | 0, _ => rfl
  | n + 1, hn => by
    have := H n (by omega)
    unfold m_bf c_bf
    rw [v_bf H tm g n (by omega)]
    congr 1
    refine bI_iff ?_
    unfold c_isBR
    rw [this.1, this.2.1]
theorem v_bof {bo s : Nat → Int32} {bc : Nat} (H : BO bo bc s) (r : Int32) : ∀ n, n ≤ bc → m_bof s r n = c_bof bo r n
  | 0, _ => rfl
  | n + 1, hn => by
    have := H n (by omega)
    unfold m_bof c_bof
    rw [v_bof H r n (by omega)]
    congr 1
    refine bI_iff ?_
    rw [this.2.2]
theorem v_rfor {bo s : Nat → Int32} {bc : Nat} (H : BO bo bc s) (tm g : Int32) : ∀ n, n ≤ bc → m_rfor s tm g n = c_set bo tm g n
  | 0, _ => rfl
  | n + 1, hn => by
    have := H n (by omega)
    unfold m_rfor c_set
    rw [v_rfor H tm g n (by omega), this.1, this.2.1, this.2.2]
    by_cases c : bo n = tm ∧ bo (40 + n) = g
    · rw [if_pos c, if_pos c]
    · rw [if_neg c, if_neg c, Int32.or_zero]
theorem findR_none {bo : Nat → Int32} {tm r : Int32} : ∀ n i, (∀ j, i ≤ j → j < i + n → ¬ (bo j = tm ∧ bo (80 + j) = r)) → c_findR bo tm r n i = -5
  | 0, _, _ => rfl
  | n + 1, i, h => by
    have h0 := h i (Nat.le_refl _) (by omega)
    unfold c_findR
    rw [findR_none n (i + 1) (fun j h1 h2 => h j (by omega) (by omega))]
    by_cases c : bo i = tm
    · rw [if_pos c, if_neg (fun z => h0 ⟨c, z⟩)]
    · rw [if_neg c]
theorem findR_one {bo : Nat → Int32} {tm r : Int32} {j : Nat} (hm : bo j = tm ∧ bo (80 + j) = r) : ∀ n i, i ≤ j → j < i + n → (∀ k, i ≤ k → k < j → ¬ (bo k = tm ∧ bo (80 + k) = r)) → c_findR bo tm r n i = nI j
  | 0, i, h1, h2, _ => absurd h2 (by omega)
  | n + 1, i, h1, h2, h => by
    unfold c_findR
    by_cases e : i = j
    · subst e
      rw [if_pos hm.1, if_pos hm.2]
    · have h0 := h i (Nat.le_refl _) (by omega)
      rw [findR_one hm n (i + 1) (by omega) (by omega) (fun k h3 h4 => h k (by omega) h4)]
      by_cases c : bo i = tm
      · rw [if_pos c, if_neg (fun z => h0 ⟨c, z⟩)]
      · rw [if_neg c]
theorem bk_none {s : Nat → Int32} {tm r : Int32} : ∀ n, (∀ j, j < n → ¬ (s (3 * j + 193) = tm ∧ s (3 * j + 195) = r)) → m_bk s tm r n = -5
  | 0, _ => rfl
  | n + 1, h => by
    unfold m_bk
    rw [if_neg (h n (by omega)), bk_none n (fun j hj => h j (by omega))]
theorem bk_one {s : Nat → Int32} {tm r : Int32} {j : Nat} (hm : s (3 * j + 193) = tm ∧ s (3 * j + 195) = r) : ∀ n, j < n → (∀ k, j < k → k < n → ¬ (s (3 * k + 193) = tm ∧ s (3 * k + 195) = r)) → m_bk s tm r n = nI j
  | 0, h, _ => absurd h (Nat.not_lt_zero j)
  | n + 1, h, hk => by
    unfold m_bk
    by_cases e : j = n
    · subst e
      rw [if_pos hm]
    · rw [if_neg (hk n (by omega) (by omega)), bk_one hm n (by omega) (fun k h1 h2 => hk k h1 (by omega))]
/-- the one booking of a rider for a time, if there is one -/
theorem v_find {bo s : Nat → Int32} {bc : Nat} (H : BO bo bc s) (B : BI bo bc) (tm r : Int32) : (m_bk s tm r bc = c_find bo bc tm r) ∧ ((c_find bo bc tm r = -5 ∧ ∀ j, j < bc → bo j = tm → bo (80 + j) ≠ r) ∨ ∃ j, j < bc ∧ c_find bo bc tm r = nI j ∧ bo j = tm ∧ bo (80 + j) = r) := by
  unfold c_find
  by_cases h : ∃ j, j < bc ∧ bo j = tm ∧ bo (80 + j) = r
  · obtain ⟨j, hj, h1, h2⟩ := h
    have hu : ∀ k, k < bc → k ≠ j → ¬ (bo k = tm ∧ bo (80 + k) = r) := fun k hk hne hh => by
      rcases Nat.lt_or_ge k j with c | c
      · exact B.2.1 k j c hj (hh.1.trans h1.symm) (hh.2.trans h2.symm)
      · exact B.2.1 j k (by omega) hk (h1.trans hh.1.symm) (h2.trans hh.2.symm)
    have e1 : c_findR bo tm r bc 0 = nI j := findR_one ⟨h1, h2⟩ bc 0 (Nat.zero_le _) (by omega) (fun k _ hk => hu k (by omega) (by omega))
    have hJ := H j hj
    have e2 : m_bk s tm r bc = nI j := bk_one (by rw [hJ.1, hJ.2.2]; exact ⟨h1, h2⟩) bc hj (fun k hk1 hk2 => by
      rw [(H k hk2).1, (H k hk2).2.2]
      exact hu k hk2 (by omega))
    rw [e1, e2]
    exact ⟨rfl, Or.inr ⟨j, hj, rfl, h1, h2⟩⟩
  · have hn : ∀ j, j < bc → ¬ (bo j = tm ∧ bo (80 + j) = r) := fun j hj hh => h ⟨j, hj, hh.1, hh.2⟩
    have e1 : c_findR bo tm r bc 0 = -5 := findR_none bc 0 (fun j _ hj => hn j (by omega))
    have e2 : m_bk s tm r bc = -5 := bk_none bc (fun j hj => by
      rw [(H j hj).1, (H j hj).2.2]
      exact hn j hj)
    rw [e1, e2]
    exact ⟨rfl, Or.inl ⟨rfl, fun j hj z1 z2 => hn j hj ⟨z1, z2⟩⟩⟩
theorem EM_cnt {bo b2 σ : Nat → Int32} {τ : Nat → Nat} {tm g : Int32} : ∀ m N, (∀ j, j < m → τ j < N ∧ b2 j = bo (τ j) ∧ b2 (40 + j) = bo (40 + τ j)) → (∀ j k, j < k → k < m → τ j < τ k) → bcnt b2 tm g m ≤ bcnt bo tm g N
  | 0, _, _, _ => Nat.zero_le _
  | m + 1, N, h1, h2 => by
    have ih := EM_cnt (σ := σ) (bo := bo) (b2 := b2) (τ := τ) (tm := tm) (g := g) m (τ m) (fun j hj => ⟨h2 j m hj (Nat.lt_succ_self m), (h1 j (by omega)).2⟩) (fun j k hj hk => h2 j k hj (by omega))
    have hM := h1 m (Nat.lt_succ_self m)
    have mono : ∀ d, bcnt bo tm g (τ m + 1) ≤ bcnt bo tm g (τ m + 1 + d) := fun d => by
      induction d with
      | zero => exact Nat.le_refl _
      | succ d ihd => exact Nat.le_trans ihd (bcnt_mono bo tm g _)
    have h3 := mono (N - (τ m + 1))
    rw [show τ m + 1 + (N - (τ m + 1)) = N by omega] at h3
    refine Nat.le_trans ?_ h3
    unfold bcnt
    have q : c_isBR b2 tm g m ↔ c_isBR bo tm g (τ m) := by
      unfold c_isBR
      rw [hM.2.1, hM.2.2]
    by_cases d : c_isBR bo tm g (τ m)
    · rw [if_pos (q.mpr d), if_pos d]; omega
    · rw [if_neg (fun z => d (q.mp z)), if_neg d]; omega
theorem EM_BI {bo b2 : Nat → Int32} {n m : Nat} (H : BI bo n) (e : EM bo n b2 m) : BI b2 m := by
  have e0 := e
  obtain ⟨τ, a, b⟩ := e
  exact BI_em H e0 (fun tm g => EM_cnt (σ := bo) (τ := τ) m n (fun j hj => ⟨(a j hj).1, (a j hj).2.1, (a j hj).2.2.1⟩) b)
/-- a booking made -/
theorem RR_add {q : c_S} {s : Nat → Int32} {h : Nat} {g r : Int32} (H : RR q s) (hg : okV 3 g) (hr : okR r) (hf : ∀ j, j < q_bc q → q_bo q j = nI (q_ti q + h) → q_bo q (80 + j) ≠ r) (hc : bcnt (q_bo q) (nI (q_ti q + h)) g (q_bc q) < 4 - nC g) (hb : q_bc q < 40) {x : Int32} (hx : x = nI (q_ti q + h)) : RR (k_addBooking q h g r) (m_inc (upd (upd (upd s (3 * q_bc q + 193) x) (3 * q_bc q + 194) g) (3 * q_bc q + 195) r) 192) := by
  subst hx
  obtain ⟨ti, se, ho, ri, bo, bc, fs, fc⟩ := q
  obtain ⟨a1, a2, a3, a4, a5, a6, a7, a8, a9, a10, a11, a12⟩ : s 0 = nI ti ∧ se = SE s ∧ ho = HO s ∧ ri = RI s ∧ s 192 = nI bc ∧ BO bo bc s ∧ FS fs fc s ∧ SU s ∧ IV (ti + 1) s ∧ BI bo bc ∧ bc ≤ 40 ∧ fc ≤ 40 * ti := H
  have hf : ∀ j, j < bc → bo j = nI (ti + h) → bo (80 + j) ≠ r := hf
  have hc : bcnt bo (nI (ti + h)) g bc < 4 - nC g := hc
  have hb : bc < 40 := hb
  show RR (ti, se, ho, ri, c_addB bo bc (nI (ti + h)) g r, bc + 1, fs, fc) (m_inc (upd (upd (upd s (3 * bc + 193) (nI (ti + h))) (3 * bc + 194) g) (3 * bc + 195) r) 192)
  unfold m_inc c_addB
  have f0 : ∀ j, j < 40 → upd (upd (upd bo bc (nI (ti + h))) (40 + bc) g) (80 + bc) r j = if j = bc then nI (ti + h) else bo j := fun j hj => by
    rw [pk_un (by omega), pk_un (by omega)]
    by_cases e : j = bc
    · subst e; rw [pk_us, if_pos rfl]
    · rw [pk_un e, if_neg e]
  have f1 : ∀ j, j < 40 → upd (upd (upd bo bc (nI (ti + h))) (40 + bc) g) (80 + bc) r (40 + j) = if j = bc then g else bo (40 + j) := fun j hj => by
    rw [pk_un (by omega)]
    by_cases e : j = bc
    · subst e; rw [pk_us, if_pos rfl]
    · rw [pk_un (by omega), pk_un (by omega), if_neg e]
  have f2 : ∀ j, j < 40 → upd (upd (upd bo bc (nI (ti + h))) (40 + bc) g) (80 + bc) r (80 + j) = if j = bc then r else bo (80 + j) := fun j hj => by
    by_cases e : j = bc
    · subst e; rw [pk_us, if_pos rfl]
    · rw [pk_un (by omega), pk_un (by omega), pk_un (by omega), if_neg e]
  generalize upd (upd (upd bo bc (nI (ti + h))) (40 + bc) g) (80 + bc) r = b2 at f0 f1 f2 ⊢
  refine ⟨?_, ?_, ?_, ?_, ?_, ?_, ?_, SU_f (SU_f (SU_f (SU_f a8 (by omega)) (by omega)) (by omega)) (by omega), IV_f (IV_f (IV_f (IV_f a9 (by omega)) (by omega)) (by omega)) (by omega), ?_, ?_, a12⟩
  · rw [pk_un (by omega), pk_un (by omega), pk_un (by omega), pk_un (by omega)]; exact a1
  · rw [SE_o (by omega), SE_o (by omega), SE_o (by omega), SE_o (by omega)]; exact a2
  · rw [HO_o (by omega), HO_o (by omega), HO_o (by omega), HO_o (by omega)]; exact a3
  · rw [RI_o (by omega), RI_o (by omega), RI_o (by omega), RI_o (by omega)]; exact a4
  · rw [pk_us, pk_un (by omega), pk_un (by omega), pk_un (by omega), a5]; exact nI_1 bc
  · intro j hj
    have hj2 : j < bc + 1 := hj
    show _ = b2 j ∧ _ = b2 (40 + j) ∧ _ = b2 (80 + j)
    rw [f0 j (by omega), f1 j (by omega), f2 j (by omega)]
    rw [pk_un (j := 3 * j + 193) (by omega), pk_un (j := 3 * j + 194) (by omega), pk_un (j := 3 * j + 195) (by omega)]
    by_cases e : j = bc
    · subst e
      rw [pk_un (by omega), pk_un (by omega), pk_us, pk_un (by omega), pk_us, pk_us, if_pos rfl, if_pos rfl, if_pos rfl]
      exact ⟨rfl, rfl, rfl⟩
    · rw [if_neg e, if_neg e, if_neg e, pk_un (by omega), pk_un (by omega), pk_un (by omega), pk_un (by omega), pk_un (by omega), pk_un (by omega), pk_un (by omega), pk_un (by omega), pk_un (by omega)]
      exact a6 j (by omega)
  · exact FS_cg (fun k hk => by rw [pk_un (by omega), pk_un (by omega), pk_un (by omega), pk_un (by omega)]) a7
  · refine ⟨fun j hj => ?_, fun j k hjk hk he => ?_, fun tm g2 hg2 => ?_⟩
    · have hj2 : j < bc + 1 := hj
      show okV 3 (b2 (40 + j)) ∧ okR (b2 (80 + j))
      rw [f1 j (by omega), f2 j (by omega)]
      by_cases e : j = bc
      · rw [if_pos e, if_pos e]; exact ⟨hg, hr⟩
      · rw [if_neg e, if_neg e]; exact a10.1 j (by omega)
    · have hk2 : k < bc + 1 := hk
      have he2 : b2 j = b2 k := he
      show b2 (80 + j) ≠ b2 (80 + k)
      rw [f0 j (by omega), f0 k (by omega), if_neg (show ¬ j = bc by omega)] at he2
      rw [f2 j (by omega), f2 k (by omega), if_neg (show ¬ j = bc by omega)]
      by_cases e : k = bc
      · rw [if_pos e] at he2 ⊢
        exact hf j (by omega) he2
      · rw [if_neg e] at he2 ⊢
        exact a10.2.1 j k hjk (by omega) he2
    · show bcnt b2 tm (nI g2) (bc + 1) ≤ 4 - g2
      unfold bcnt
      rw [bcnt_cg (bo := b2) (b2 := bo) bc (fun j hj => by
        rw [f0 j (by omega), f1 j (by omega), if_neg (by omega), if_neg (by omega)]
        exact ⟨rfl, rfl⟩)]
      have h1 := a10.2.2 tm g2 hg2
      by_cases c : c_isBR b2 tm (nI g2) bc
      · rw [if_pos c]
        unfold c_isBR at c
        rw [f0 bc hb, f1 bc hb, if_pos rfl, if_pos rfl] at c
        rw [c.1, c.2, nC_nI (by omega)] at hc
        omega
      · rw [if_neg c]; omega
  · show bc + 1 ≤ 40
    omega
