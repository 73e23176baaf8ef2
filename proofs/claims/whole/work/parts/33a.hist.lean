/-! ===== the history, on both sides ===== -/
theorem cpL_in (f g : Nat → Int32) (p q : Nat) : ∀ n i, i < n → cpL f g p q n (q + i) = f (p + i)
  | 0, i, h => absurd h (Nat.not_lt_zero i)
  | n + 1, i, h => by
    unfold cpL
    by_cases e : i = n
    · subst e; rw [pk_us]
    · rw [pk_un (by omega), cpL_in f g p q n i (by omega)]
theorem cpL_out (f g : Nat → Int32) (p q : Nat) : ∀ n k, k < q ∨ q + n ≤ k → cpL f g p q n k = g k
  | 0, k, _ => rfl
  | n + 1, k, h => by
    unfold cpL
    rw [pk_un (by omega), cpL_out f g p q n k (by omega)]
theorem cp0 {f g : Nat → Int32} {k : Nat} (hk : k < 378) : cpL f g 0 0 378 k = f k := by
  have := cpL_in f g 0 0 378 k hk
  rw [Nat.zero_add] at this
  exact this
theorem mvL_at (g : Nat → Int32) : ∀ n k, mvL g n k = if k < n then g (k + 378) else g k
  | 0, k => by rw [if_neg (Nat.not_lt_zero k)]; rfl
  | n + 1, k => by
    unfold mvL
    by_cases e : k = n
    · subst e; rw [pk_us, mvL_at g k, if_neg (by omega), if_pos (by omega)]
    · rw [pk_un e, mvL_at g n]
      by_cases h : k < n
      · rw [if_pos h, if_pos (by omega)]
      · rw [if_neg h, if_neg (by omega)]
def HR (hs : Nat → c_S) (nx sz : Nat) (hi : Nat → Int32) (kn : Nat) : Prop := sz = kn ∧ kn ≤ 4 ∧ nx < 4 ∧ ∀ i, i < kn → RR (hs ((nx + 4 - kn + i) % 4)) (fun j => hi (378 * i + j)) ∧ q_ti (hs ((nx + 4 - kn + i) % 4)) ≤ 9999
theorem HR_cg {hs : Nat → c_S} {nx sz kn : Nat} {hi h2 : Nat → Int32} (h : ∀ k, k < 1512 → h2 k = hi k) (H : HR hs nx sz hi kn) : HR hs nx sz h2 kn :=
  ⟨H.1, H.2.1, H.2.2.1, fun i hi2 => ⟨RR_cg (fun j hj => h (378 * i + j) (by have := H.2.1; omega)) (H.2.2.2 i hi2).1, (H.2.2.2 i hi2).2⟩⟩
theorem HR_act {hs : Nat → c_S} {nx sz kn : Nat} {hi s : Nat → Int32} {now : c_S} (H : HR hs nx sz hi kn) (hR : RR now s) (ht : q_ti now ≤ 9999) : HR (hup hs nx now) ((nx + 1) % 4) (min (sz + 1) 4) (m_recH s hi kn) (m_recK kn) := by
  obtain ⟨h1, h2, h3, h4⟩ := H
  subst h1
  unfold m_recH m_recK
  by_cases c : sz = 4
  · subst c
    rw [if_pos rfl, if_pos rfl]
    refine ⟨rfl, Nat.le_refl _, Nat.mod_lt _ (by omega), fun i hi2 => ?_⟩
    unfold hup
    by_cases e : i = 3
    · subst e
      rw [if_pos (by omega)]
      exact ⟨RR_cg (fun j hj => by rw [show 378 * 3 + j = 378 * 3 + j from rfl, cpL_in _ _ _ _ 378 j hj, Nat.zero_add]) hR, ht⟩
    · rw [if_neg (by omega)]
      have := h4 (i + 1) (by omega)
      rw [show (nx + 4 - 4 + (i + 1)) % 4 = ((nx + 1) % 4 + 4 - 4 + i) % 4 by omega] at this
      refine ⟨RR_cg (fun j hj => ?_) this.1, this.2⟩
      rw [cpL_out _ _ _ _ _ _ (by omega), mvL_at, if_pos (by omega)]
      congr 1
      omega
  · rw [if_neg c, if_neg c]
    refine ⟨by omega, by omega, Nat.mod_lt _ (by omega), fun i hi2 => ?_⟩
    unfold hup
    by_cases e : i = sz
    · subst e
      rw [if_pos (by omega)]
      exact ⟨RR_cg (fun j hj => by rw [cpL_in _ _ _ _ 378 j hj, Nat.zero_add]) hR, ht⟩
    · rw [if_neg (by omega)]
      have := h4 i (by omega)
      rw [show (nx + 4 - sz + i) % 4 = ((nx + 1) % 4 + 4 - (sz + 1) + i) % 4 by omega] at this
      exact ⟨RR_cg (fun j hj => cpL_out _ _ _ _ _ _ (by omega)) this.1, this.2⟩
theorem m_recA_e {s s2 as_ hi : Nat → Int32} {kn : Nat} (hk : kn ≤ 4) (ha : ∀ j, j < 378 → as_ j = s j) : ∀ k, k < 1512 → m_recA s2 as_ hi kn k = m_recH s hi kn k := by
  intro k hk2
  unfold m_recA m_recH m_recK
  by_cases c : kn = 4
  · subst c
    rw [if_pos rfl, if_pos rfl, if_pos rfl]
    by_cases d : k < 1134
    · rw [cpL_out _ _ _ _ _ _ (by omega), cpL_out _ _ _ _ _ _ (by omega), cpL_out _ _ _ _ _ _ (by omega)]
    · obtain ⟨j, hj⟩ : ∃ j, k = 378 * 3 + j := ⟨k - 1134, by omega⟩
      subst hj
      rw [show 378 * (4 - 1) = 378 * 3 from rfl, cpL_in _ _ _ _ 378 j (by omega), cpL_in _ _ _ _ 378 j (by omega), Nat.zero_add, ha j (by omega)]
  · rw [if_neg c, if_neg c, if_neg c, show kn + 1 - 1 = kn by omega]
    by_cases d : k < 378 * kn ∨ 378 * kn + 378 ≤ k
    · rw [cpL_out _ _ _ _ _ _ (by omega), cpL_out _ _ _ _ _ _ (by omega), cpL_out _ _ _ _ _ _ (by omega)]
    · obtain ⟨j, hj⟩ : ∃ j, k = 378 * kn + j := ⟨k - 378 * kn, by omega⟩
      subst hj
      rw [cpL_in _ _ _ _ 378 j (by omega), cpL_in _ _ _ _ 378 j (by omega), Nat.zero_add, ha j (by omega)]
/-- an act's answer, its state and the history, on both sides -/
def OK5 (k : k_R) (m : m_R4) : Prop := k.1 = m.1 ∧ RR k.2.1 m.2.1 ∧ q_ti k.2.1 ≤ 9999 ∧ HR k.2.2.1 k.2.2.2.1 k.2.2.2.2 m.2.2.1 m.2.2.2
theorem OK_no {hs : Nat → c_S} {nx sz kn : Nat} {hi s : Nat → Int32} {now : c_S} {r : Int32} (H : HR hs nx sz hi kn) (hR : RR now s) (ht : q_ti now ≤ 9999) : OK5 (k_no now hs nx sz r) (r, s, hi, kn) := ⟨rfl, hR, ht, H⟩
theorem OK_act {hs : Nat → c_S} {nx sz kn : Nat} {hi s s2 : Nat → Int32} {now q : c_S} {r r2 : Int32} (H : HR hs nx sz hi kn) (hR : RR now s) (ht : q_ti now ≤ 9999) (e : r = r2) (h2 : RR q s2) (h3 : q_ti q ≤ 9999) : OK5 (k_act now q hs nx sz r) (r2, s2, m_recH s hi kn, m_recK kn) := ⟨e, h2, h3, HR_act H hR ht⟩
theorem in_of {x lo hi : Int32} (h : ¬ k_out x lo hi) : m_in x lo hi := ⟨fun z => h (Or.inl z), fun z => h (Or.inr z)⟩
theorem nin_of {x lo hi : Int32} (h : k_out x lo hi) : ¬ m_in x lo hi := fun z => h.elim z.1 z.2
theorem v_undo {hs : Nat → c_S} {nx sz kn : Nat} {hi s : Nat → Int32} {now : c_S} (H : HR hs nx sz hi kn) (hR : RR now s) (ht : q_ti now ≤ 9999) : OK5 (kX_undo now hs nx sz) ((mX_undo s hi kn).1, (mX_undo s hi kn).2.1, hi, (mX_undo s hi kn).2.2) := by
  have H0 := H
  obtain ⟨h1, h2, h3, h4⟩ := H
  subst h1
  unfold kX_undo mX_undo
  by_cases c : sz = 0
  · rw [if_pos c, if_pos c]
    exact ⟨rfl, hR, ht, H0⟩
  · rw [if_neg c, if_neg c]
    have := h4 (sz - 1) (by omega)
    rw [show (nx + 4 - sz + (sz - 1)) % 4 = (nx + 3) % 4 by omega] at this
    refine ⟨rfl, RR_cg (fun j hj => ?_) this.1, this.2, rfl, by show sz - 1 ≤ 4; omega, Nat.mod_lt _ (by omega), fun i hi2 => ?_⟩
    · have := cpL_in hi s (378 * (sz - 1)) 0 378 j hj
      rw [Nat.zero_add] at this
      exact this
    · have hi3 : i < sz - 1 := hi2
      have := h4 i (by omega)
      rw [show (nx + 4 - sz + i) % 4 = ((nx + 3) % 4 + 4 - (sz - 1) + i) % 4 by omega] at this
      exact this
theorem v_restore {hs : Nat → c_S} {nx sz kn : Nat} {hi s sn : Nat → Int32} {now snap : c_S} {has : Int32} (H : HR hs nx sz hi kn) (hR : RR now s) (ht : q_ti now ≤ 9999) (hS : ¬ has = 0 → RR snap sn ∧ q_ti snap ≤ 9999) : OK5 (kX_restore now snap has hs nx sz) (mX_restore s hi sn kn has) := by
  unfold kX_restore mX_restore
  by_cases c : has = 0
  · rw [if_pos c, if_pos c]
    exact OK_no H hR ht
  · rw [if_neg c, if_neg c]
    have := hS c
    exact OK_act H hR ht (by rw [cp0 (by omega), this.1.1]) (RR_cg (fun k hk => cp0 hk) this.1) this.2
theorem v_setHorse {hs : Nat → c_S} {nx sz kn : Nat} {hi s : Nat → Int32} {now : c_S} (h st te : Int32) (H : HR hs nx sz hi kn) (hR : RR now s) (ht : q_ti now ≤ 9999) : OK5 (kX_setHorse now hs nx sz h st te) (mX_setHorse s hi kn h st te) := by
  unfold kX_setHorse mX_setHorse
  by_cases c1 : k_out h 0 9
  · rw [if_pos c1, if_neg (nin_of c1)]; exact OK_no H hR ht
  rw [if_neg c1, if_pos (in_of c1)]
  by_cases c2 : k_out st 20 150
  · rw [if_pos c2, if_neg (nin_of c2)]; exact OK_no H hR ht
  rw [if_neg c2, if_pos (in_of c2)]
  by_cases c3 : k_out te 0 9
  · rw [if_pos c3, if_neg (nin_of c3)]; exact OK_no H hR ht
  rw [if_neg c3, if_pos (in_of c3)]
  obtain ⟨hn, -⟩ := g_out (n := 9) (by omega) c1
  generalize nC h = n at hn ⊢
  have hR0 := hR
  obtain ⟨a1, a2, a3, a4, a5, a6, a7, a8, a9, a10, a11, a12⟩ := hR
  have e1 : q_ho now n = s (9 * n + 1) := by rw [a3, HO_0 hn]
  have e2 : q_ho now (10 + n) = s (9 * n + 2) := by rw [a3, HO_10 hn]
  rw [e1, e2]
  have key : RR (k_changeHorse now n st te) (upd (upd s (9 * n + 1) st) (9 * n + 2) te) := by
    refine ⟨?_, ?_, ?_, ?_, ?_, ?_, ?_, SU_f (SU_f a8 (by omega)) (by omega), IV_f (IV_f a9 (by omega)) (by omega), a10, a11, a12⟩
    · rw [pk_un (by omega), pk_un (by omega)]; exact a1
    · rw [SE_o (by omega), SE_o (by omega)]; exact a2
    · rw [HO_u10 hn, HO_u0 hn, ← a3]; rfl
    · rw [RI_o (by omega), RI_o (by omega)]; exact a4
    · rw [pk_un (by omega), pk_un (by omega)]; exact a5
    · exact BO_cg a11 (fun k h1 h2 => by rw [pk_un (by omega), pk_un (by omega)]) a6
    · exact FS_cg (fun k hk => by rw [pk_un (by omega), pk_un (by omega)]) a7
  by_cases c4 : s (9 * n + 1) = st
  · rw [if_pos c4, if_pos c4]
    by_cases c5 : s (9 * n + 2) = te
    · rw [if_pos c5, if_pos c5]; exact OK_no H hR0 ht
    · rw [if_neg c5, if_neg c5]; exact OK_act H hR0 ht rfl key ht
  · rw [if_neg c4, if_neg c4]; exact OK_act H hR0 ht rfl key ht
theorem v_setRider {hs : Nat → c_S} {nx sz kn : Nat} {hi s : Nat → Int32} {now : c_S} (r w k : Int32) (H : HR hs nx sz hi kn) (hR : RR now s) (ht : q_ti now ≤ 9999) : OK5 (kX_setRider now hs nx sz r w k) (mX_setRider s hi kn r w k) := by
  unfold kX_setRider mX_setRider
  by_cases c1 : k_out r 0 11
  · rw [if_pos c1, if_neg (nin_of c1)]; exact OK_no H hR ht
  rw [if_neg c1, if_pos (in_of c1)]
  by_cases c2 : k_out w 20 150
  · rw [if_pos c2, if_neg (nin_of c2)]; exact OK_no H hR ht
  rw [if_neg c2, if_pos (in_of c2)]
  by_cases c3 : k_out k 0 9
  · rw [if_pos c3, if_neg (nin_of c3)]; exact OK_no H hR ht
  rw [if_neg c3, if_pos (in_of c3)]
  obtain ⟨hn, -⟩ := g_out (n := 11) (by omega) c1
  have hk : okV 10 k := g_out (n := 9) (by omega) c3
  generalize nC r = n at hn ⊢
  have hR0 := hR
  obtain ⟨a1, a2, a3, a4, a5, a6, a7, a8, a9, a10, a11, a12⟩ := hR
  refine OK_act H hR0 ht ?_ ?_ ht
  · unfold c_ofRid
    rw [if_neg (by omega), if_neg (by omega), a4, show 0 * 12 + n = n by omega, RI_0 hn]
  · refine ⟨?_, ?_, ?_, ?_, ?_, ?_, ?_, SU_f (SU_f (SU_f (SU_f a8 (by omega)) (by omega)) (by omega)) (by omega), IV_f (IV_fear (IV_skill (IV_f a9 (by omega)) hn hk) hn (okV_nI (n := 0) (by omega) (by omega))) (by omega), a10, a11, a12⟩
    · rw [pk_un (by omega), pk_un (by omega), pk_un (by omega), pk_un (by omega)]; exact a1
    · rw [SE_o (by omega), SE_o (by omega), SE_o (by omega), SE_o (by omega)]; exact a2
    · rw [HO_o (by omega), HO_o (by omega), HO_o (by omega), HO_o (by omega)]; exact a3
    · rw [RI_u48 hn, RI_u24 hn, RI_u12 hn, RI_u0 hn, ← a4]; rfl
    · rw [pk_un (by omega), pk_un (by omega), pk_un (by omega), pk_un (by omega)]; exact a5
    · exact BO_cg a11 (fun k h1 h2 => by rw [pk_un (by omega), pk_un (by omega), pk_un (by omega), pk_un (by omega)]) a6
    · exact FS_cg (fun k hk => by rw [pk_un (by omega), pk_un (by omega), pk_un (by omega), pk_un (by omega)]) a7
theorem sT_rng : ∀ w, w < 5 → sT 1 w = m_least w ∧ sT 2 w = m_most w := by decide
theorem IV_set {N : Nat} {s : Nat → Int32} {w : Nat} {v : Int32} (H : IV N s) (h3 : w = 3 → okV 100 v) (h4 : w = 4 → okV 10 v ∧ 0 < v) : IV N (upd s (187 + w) v) := by
  refine ⟨fun q hq => ?_, fun q hq => ?_, ?_, ?_⟩
  · rw [pk_un (by omega), pk_un (by omega), pk_un (by omega)]; exact H.1 q hq
  · rw [pk_un (by omega), pk_un (by omega)]; exact H.2.1 q hq
  · by_cases c : w = 3
    · subst c; rw [show 187 + 3 = 190 from rfl, pk_us]; exact h3 rfl
    · rw [pk_un (by omega)]; exact H.2.2.1
  · by_cases c : w = 4
    · subst c; rw [show 187 + 4 = 191 from rfl, pk_us]; exact h4 rfl
    · rw [pk_un (by omega)]; exact H.2.2.2
theorem v_set {hs : Nat → c_S} {nx sz kn : Nat} {hi s : Nat → Int32} {now : c_S} (w v : Int32) (H : HR hs nx sz hi kn) (hR : RR now s) (ht : q_ti now ≤ 9999) : OK5 (kX_set now hs nx sz w v) (mX_set s hi kn w v) := by
  unfold kX_set mX_set
  by_cases c1 : k_out w 0 4
  · rw [if_pos c1, if_neg (nin_of c1)]; exact OK_no H hR ht
  rw [if_neg c1, if_pos (in_of c1)]
  obtain ⟨hn, -⟩ := g_out (n := 4) (by omega) c1
  generalize nC w = n at hn ⊢
  obtain ⟨r1, r2⟩ := sT_rng n hn
  rw [r1, r2]
  by_cases c2 : k_out v (m_least n) (m_most n)
  · rw [if_pos c2, if_neg (nin_of c2)]; exact OK_no H hR ht
  rw [if_neg c2, if_pos (in_of c2)]
  have hR0 := hR
  obtain ⟨a1, a2, a3, a4, a5, a6, a7, a8, a9, a10, a11, a12⟩ := hR
  have e1 : q_se now n = s (187 + n) := by rw [a2, SE_at hn]
  rw [e1]
  by_cases c4 : s (187 + n) = v
  · rw [if_pos c4, if_pos c4]; exact OK_no H hR0 ht
  · rw [if_neg c4, if_neg c4]
    refine OK_act H hR0 ht rfl ?_ ht
    refine ⟨?_, ?_, ?_, ?_, ?_, ?_, ?_, SU_f a8 (by omega), IV_set a9 (fun z => ?_) (fun z => ?_), a10, a11, a12⟩
    · rw [pk_un (by omega)]; exact a1
    · rw [SE_u hn, ← a2]; rfl
    · rw [HO_o (by omega)]; exact a3
    · rw [RI_o (by omega)]; exact a4
    · rw [pk_un (by omega)]; exact a5
    · exact BO_cg a11 (fun k h1 h2 => by rw [pk_un (by omega)]) a6
    · exact FS_cg (fun k hk => by rw [pk_un (by omega)]) a7
    · subst z
      have := g_out2 (lo := 1) (n := 99) (by omega) (by omega) c2
      exact ⟨this.2.1, this.2.2⟩
    · subst z
      have := g_out2 (lo := 1) (n := 9) (by omega) (by omega) c2
      refine ⟨⟨this.2.1, this.2.2⟩, ?_⟩
      rw [this.2.2]
      exact nI_lt (a := 0) (by omega) (by omega)
