/-! ===== the plan's text: the reference's reader against the class's ===== -/
theorem nd_y {ln sp : Nat} {tx : Nat → Int32} {c : Int32} (h : sp < ln) (e : tx sp = c) : m_need ln tx (sp, 0) c = (sp + 1, 0) := if_pos ⟨rfl, h, nx_eq.mpr e⟩
theorem nd_n {ln sp : Nat} {tx : Nat → Int32} {c : Int32} (h : ¬ (sp < ln ∧ tx sp = c)) : m_need ln tx (sp, 0) c = (sp, 1) := if_neg (fun z => h ⟨z.2.1, nx_eq.mp z.2.2⟩)
theorem nd_1 {ln sp : Nat} {tx : Nat → Int32} {c : Int32} : m_need ln tx (sp, 1) c = (sp, 1) := if_neg (fun z => absurd (show (1 : Int32) = 0 from z.1) (by decide))
theorem nm_1 {ln sp : Nat} {tx : Nat → Int32} {m : Int32} : m_num ln tx (sp, 1) m = (0, sp, 1) := if_neg (show ¬ (1 : Int32) = 0 by decide)
theorem rdz_pos {d ln : Nat} {tx : Nat → Int32} {h g : Int32} {z : m_Z} : (m_rdz d ln tx h g z).1 = (m_num ln tx (z.1, z.2.1) 11).2.1 ∧ (m_rdz d ln tx h g z).2.1 = (m_num ln tx (z.1, z.2.1) 11).2.2 ∧ (m_rdz d ln tx h g z).2.2.1 = z.2.2.1 + 1 := by
  unfold m_rdz
  by_cases c : d = 0
  · rw [if_pos c]; exact ⟨rfl, rfl, rfl⟩
  · rw [if_neg c]
    unfold m_rd1z
    by_cases e : z.2.2.2.1 = 0
    · rw [if_pos e]; exact ⟨rfl, rfl, rfl⟩
    · rw [if_neg e]; exact ⟨rfl, rfl, rfl⟩
theorem rbR_1 {d ln : Nat} {tx : Nat → Int32} {h g : Int32} {z : m_Z} (e : z.2.1 = 1) : ∀ f, m_rbR d ln tx h g f z = z
  | 0 => rfl
  | f + 1 => by
    unfold m_rbR
    rw [if_neg (fun y => by rw [e] at y; exact absurd y.1 (by decide))]
def m_fin (d ln : Nat) (tx : Nat → Int32) (f : Nat) (z : m_Z) : m_Z := if z.2.1 = 0 then (if z.1 < ln then (if (m_need ln tx (z.1, z.2.1) 59).2 = 0 then m_rpR d ln tx f ((m_need ln tx (z.1, z.2.1) 59).1, (m_need ln tx (z.1, z.2.1) 59).2, z.2.2.1, z.2.2.2.1, z.2.2.2.2) else ((m_need ln tx (z.1, z.2.1) 59).1, (m_need ln tx (z.1, z.2.1) 59).2, z.2.2.1, z.2.2.2.1, z.2.2.2.2)) else z) else z
theorem rpR_s {d ln : Nat} {tx : Nat → Int32} {f : Nat} {z : m_Z} : m_rpR d ln tx (f + 1) z = m_fin d ln tx f (m_rb d ln tx z) := rfl
theorem fin_1 {d ln f : Nat} {tx : Nat → Int32} {z : m_Z} (e : z.2.1 = 1) : m_fin d ln tx f z = z := by
  unfold m_fin
  rw [if_neg (by rw [e]; decide)]
theorem fin_y {d ln f sp rs : Nat} {tx : Nat → Int32} {er : Int32} {s : Nat → Int32} (h : sp < ln) (e : tx sp = 59) : m_fin d ln tx f (sp, 0, rs, er, s) = m_rpR d ln tx f (sp + 1, 0, rs, er, s) := by
  unfold m_fin
  rw [nd_y h e]
  rw [if_pos (rfl : (0 : Int32) = 0), if_pos h, if_pos (rfl : (0 : Int32) = 0)]
theorem fin_n {d ln f sp rs : Nat} {tx : Nat → Int32} {er : Int32} {s : Nat → Int32} (h : sp < ln) (e : ¬ tx sp = 59) : m_fin d ln tx f (sp, 0, rs, er, s) = (sp, 1, rs, er, s) := by
  unfold m_fin
  rw [nd_n (fun z => e z.2)]
  rw [if_pos (rfl : (0 : Int32) = 0), if_pos h, if_neg (show ¬ (1 : Int32) = 0 by decide)]
theorem fin_e {d ln f sp rs : Nat} {tx : Nat → Int32} {er : Int32} {s : Nat → Int32} (h : ¬ sp < ln) : m_fin d ln tx f (sp, 0, rs, er, s) = (sp, 0, rs, er, s) := by
  unfold m_fin
  rw [if_pos (rfl : (0 : Int32) = 0), if_neg h]
/-- the entries booked one after another, up to the first that is refused -/
def ps (pe : Nat → Int32) (q0 : c_S) : Nat → Int32 × c_S
  | 0 => (0, q0)
  | m + 1 => if (ps pe q0 m).1 = 0 then (if k_err (ps pe q0 m).2 (nC (pe m)) (nC (pe (60 + m))) (nC (pe (120 + m))) = 0 then (0, k_addBooking (ps pe q0 m).2 (nC (pe m)) (pe (60 + m)) (pe (120 + m))) else (k_err (ps pe q0 m).2 (nC (pe m)) (nC (pe (60 + m))) (nC (pe (120 + m))), (ps pe q0 m).2)) else ps pe q0 m
theorem ps_cg {pe p2 : Nat → Int32} {q0 : c_S} : ∀ m, (∀ j, j < m → pe j = p2 j ∧ pe (60 + j) = p2 (60 + j) ∧ pe (120 + j) = p2 (120 + j)) → ps pe q0 m = ps p2 q0 m
  | 0, _ => rfl
  | m + 1, h => by
    unfold ps
    rw [ps_cg m (fun j hj => h j (by omega)), (h m (by omega)).1, (h m (by omega)).2.1, (h m (by omega)).2.2]
theorem ps_stay {pe : Nat → Int32} {q0 : c_S} {i : Nat} (h : ¬ (ps pe q0 i).1 = 0) : ∀ f, ps pe q0 (i + f) = ps pe q0 i
  | 0 => rfl
  | f + 1 => by
    rw [show i + (f + 1) = (i + f) + 1 by omega]
    have ih := ps_stay h f
    exact (if_neg (by rw [ih]; exact h)).trans ih
theorem ps_ti {pe : Nat → Int32} {q0 : c_S} : ∀ m, q_ti (ps pe q0 m).2 = q_ti q0
  | 0 => rfl
  | m + 1 => by
    have ih := ps_ti (pe := pe) (q0 := q0) m
    unfold ps
    by_cases c : (ps pe q0 m).1 = 0
    · rw [if_pos c]
      by_cases e : k_err (ps pe q0 m).2 (nC (pe m)) (nC (pe (60 + m))) (nC (pe (120 + m))) = 0
      · rw [if_pos e]; exact ih
      · rw [if_neg e]; exact ih
    · rw [if_neg c]; exact ih
theorem plan_ps {pe : Nat → Int32} {q0 : c_S} : ∀ f i, (ps pe q0 i).1 = 0 → k_planR pe f i (ps pe q0 i).2 = ps pe q0 (i + f)
  | 0, i, h => by
    unfold k_planR
    rw [Nat.add_zero, ← h]
  | f + 1, i, h => by
    have e1 : ps pe q0 (i + 1) = if k_err (ps pe q0 i).2 (nC (pe i)) (nC (pe (60 + i))) (nC (pe (120 + i))) = 0 then (0, k_addBooking (ps pe q0 i).2 (nC (pe i)) (pe (60 + i)) (pe (120 + i))) else (k_err (ps pe q0 i).2 (nC (pe i)) (nC (pe (60 + i))) (nC (pe (120 + i))), (ps pe q0 i).2) := if_pos h
    unfold k_planR
    by_cases c : k_err (ps pe q0 i).2 (nC (pe i)) (nC (pe (60 + i))) (nC (pe (120 + i))) = 0
    · rw [if_pos c] at e1 ⊢
      have ih := plan_ps (pe := pe) (q0 := q0) f (i + 1) (by rw [e1])
      rw [e1] at ih
      rw [ih, show i + 1 + f = i + (f + 1) by omega]
    · rw [if_neg c] at e1 ⊢
      have hs := ps_stay (pe := pe) (q0 := q0) (i := i + 1) (by rw [e1]; exact c) f
      rw [show i + (f + 1) = i + 1 + f by omega, hs, e1]
/-- what the reference holds behind m riders: read only, or booked -/
def JJ (d : Nat) (s0 : Nat → Int32) (q0 : c_S) (m : Nat) (pe : Nat → Int32) (er : Int32) (s : Nat → Int32) : Prop := if d = 0 then (er = 0 ∧ s = s0) else (er = (ps pe q0 m).1 ∧ RR (ps pe q0 m).2 s)
theorem JJ_step {d ln pz a b c sp : Nat} {tx s0 pe s : Nat → Int32} {q0 : c_S} {er : Int32} {rs : Nat} {v sp2 : Nat} (hq : q_ti q0 < 2 ^ 20) (hp : pz < 60) (ha : a < 100) (hb : b < 3) (hc : c < 12) (hn : m_num ln tx (sp, 0) 11 = (nI c, sp2, 0)) (H : JJ d s0 q0 pz pe er s) : ∃ er' s', m_rdz d ln tx (nI a) (nI b) (sp, 0, rs, er, s) = (sp2, 0, rs + 1, er', s') ∧ JJ d s0 q0 (pz + 1) (p_add3 pz (nI a) (nI b) (nI c) pe) er' s' := by
  unfold JJ at H ⊢
  unfold m_rdz m_rd1z m_rd0 m_rdB
  dsimp only
  rw [hn]
  by_cases hd : d = 0
  · rw [if_pos hd] at H ⊢
    refine ⟨er, s, rfl, ?_⟩
    rw [if_pos hd]
    exact H
  · rw [if_neg hd] at H ⊢
    have eP : ps (p_add3 pz (nI a) (nI b) (nI c) pe) q0 pz = ps pe q0 pz := ps_cg pz fun j hj => by
      unfold p_add3
      rw [pk_un (by omega), pk_un (by omega), pk_un (by omega), pk_un (by omega), pk_un (by omega), pk_un (by omega), pk_un (by omega), pk_un (by omega), pk_un (by omega)]
      exact ⟨rfl, rfl, rfl⟩
    have p0 : p_add3 pz (nI a) (nI b) (nI c) pe pz = nI a := by
      unfold p_add3
      rw [pk_un (by omega), pk_un (by omega), pk_us]
    have p1 : p_add3 pz (nI a) (nI b) (nI c) pe (60 + pz) = nI b := by
      unfold p_add3
      rw [pk_un (by omega), pk_us]
    have p2 : p_add3 pz (nI a) (nI b) (nI c) pe (120 + pz) = nI c := pk_us
    have eS : ps (p_add3 pz (nI a) (nI b) (nI c) pe) q0 (pz + 1) = if (ps pe q0 pz).1 = 0 then (if k_err (ps pe q0 pz).2 a b c = 0 then (0, k_addBooking (ps pe q0 pz).2 a (nI b) (nI c)) else (k_err (ps pe q0 pz).2 a b c, (ps pe q0 pz).2)) else ps pe q0 pz := by
      have : ∀ f : Nat → Int32, ps f q0 (pz + 1) = if (ps f q0 pz).1 = 0 then (if k_err (ps f q0 pz).2 (nC (f pz)) (nC (f (60 + pz))) (nC (f (120 + pz))) = 0 then (0, k_addBooking (ps f q0 pz).2 (nC (f pz)) (f (60 + pz)) (f (120 + pz))) else (k_err (ps f q0 pz).2 (nC (f pz)) (nC (f (60 + pz))) (nC (f (120 + pz))), (ps f q0 pz).2)) else ps f q0 pz := fun f => rfl
      rw [this, eP, p0, p1, p2, nC_nI (by omega), nC_nI (by omega), nC_nI (by omega)]
    have hti : q_ti (ps pe q0 pz).2 < 2 ^ 20 := by rw [ps_ti]; exact hq
    obtain ⟨H1, H2⟩ := H
    by_cases he : er = 0
    · rw [if_pos he]
      obtain ⟨b1, b2⟩ := v_books H2 hti ha hb hc
      by_cases hk : k_err (ps pe q0 pz).2 a b c = 0
      · obtain ⟨d1, -, d3⟩ := b1 hk
        rw [if_neg (n_nl d1)]
        refine ⟨_, _, rfl, ?_⟩
        rw [if_neg hd, eS, if_pos (by rw [← H1]; exact he), if_pos hk]
        exact ⟨rfl, d3⟩
      · obtain ⟨d1, d2⟩ := b2 hk
        rw [d1, if_pos d2]
        refine ⟨_, _, rfl, ?_⟩
        rw [if_neg hd, eS, if_pos (by rw [← H1]; exact he), if_neg hk]
        exact ⟨rfl, H2⟩
    · rw [if_neg he]
      refine ⟨er, s, rfl, ?_⟩
      rw [if_neg hd, eS, if_neg (by rw [← H1]; exact he)]
      exact ⟨H1, H2⟩
def SIMR (d : Nat) (s0 : Nat → Int32) (q0 : c_S) (R : Int32 × c_P) (Z : m_Z) : Prop := (R.1 = -5 ∧ Z.2.1 = 0 ∧ Z.2.2.1 = R.2.1 ∧ JJ d s0 q0 R.2.1 R.2.2.2.2.2.2 Z.2.2.2.1 Z.2.2.2.2) ∨ (R.1 = nI Z.1 ∧ Z.2.1 = 1)
/-- from behind a rider's number to the end -/
theorem sim_riders {d ln f : Nat} {tx s0 : Nat → Int32} {q0 : c_S} (hl : ln ≤ 60) (hq : q_ti q0 < 2 ^ 20) {a b : Nat} (ha : a < 100) (hb : b < 3) (IH : ∀ (sp pz : Nat) (pe : Nat → Int32) (er : Int32) (s : Nat → Int32), sp ≤ ln → pz ≤ sp → 61 ≤ sp + f → JJ d s0 q0 pz pe er s → SIMR d s0 q0 (rn tx ln sp (pz, 0, -1, nI a, nI b, pe)) (m_rpR d ln tx f (sp, 0, pz, er, s))) :
    ∀ (g sp pz v : Nat) (pe : Nat → Int32) (er : Int32) (s : Nat → Int32), sp ≤ ln → ln ≤ sp + g → pz < sp → 60 ≤ sp + f → v < 12 → stp tx ln sp (pz, 3, nI v, nI a, nI b, pe) → JJ d s0 q0 (pz + 1) (p_add3 pz (nI a) (nI b) (nI v) pe) er s → SIMR d s0 q0 (rn tx ln sp (pz, 3, nI v, nI a, nI b, pe)) (m_fin d ln tx f (m_rbR d ln tx (nI a) (nI b) g (sp, 0, pz + 1, er, s)))
  | g, sp, pz, v, pe, er, s, h1, h2, h3, h4, h5, h6, h7 => by
    by_cases hlt : sp < ln
    · obtain ⟨g, rfl⟩ : ∃ k, g = k + 1 := ⟨g - 1, by omega⟩
      by_cases c44 : tx sp = 44
      · rw [rn_y hlt (by rw [c44]; exact acc3_c (by omega))]
        have eR : m_rbR d ln tx (nI a) (nI b) (g + 1) (sp, 0, pz + 1, er, s) = m_rbR d ln tx (nI a) (nI b) g (m_rdz d ln tx (nI a) (nI b) (sp + 1, 0, pz + 1, er, s)) := if_pos ⟨rfl, hlt, nx_eq.mpr c44⟩
        rw [eR]
        rcases v_num (tx := tx) (ln := ln) (m := 11) (pp := 3) (pz := pz + 1) (ph := nI a) (pr := nI b) (pe := p_add3 pz (nI a) (nI b) (nI v) pe) (by omega) (by decide) (by omega) hl (sp + 1) (by omega) with ⟨n1, n2⟩ | ⟨v', sp', n1, n2, n3, n4, n5, n6⟩
        · obtain ⟨r1, r2, -⟩ := rdz_pos (d := d) (ln := ln) (tx := tx) (h := nI a) (g := nI b) (z := (sp + 1, 0, pz + 1, er, s))
          have n1' : (m_num ln tx (sp + 1, 0) 11).2 = (sp + 1, 1) := n1
          rw [n1'] at r1 r2
          rw [rbR_1 r2, fin_1 r2]
          exact Or.inr ⟨by rw [n2, r1], r2⟩
        · obtain ⟨er', s', j1, j2⟩ := JJ_step (rs := pz + 1) hq (show pz + 1 < 60 by omega) ha hb (show v' < 12 by omega) n1 h7 (v := 0)
          rw [j1, n5]
          exact sim_riders hl hq ha hb IH g sp' (pz + 1) v' _ er' s' n4 (by omega) (by omega) (by omega) (by omega) n6 j2
      · have eR : m_rbR d ln tx (nI a) (nI b) (g + 1) (sp, 0, pz + 1, er, s) = (sp, 0, pz + 1, er, s) := if_neg (fun z => c44 (nx_eq.mp z.2.2))
        rw [eR]
        by_cases c59 : tx sp = 59
        · rw [fin_y hlt c59, rn_y hlt (by rw [c59]; exact acc3_s (by omega))]
          exact IH (sp + 1) (pz + 1) _ er s (by omega) (by omega) (by omega) h7
        · rw [fin_n hlt c59]
          refine Or.inr ⟨rn_n hlt ?_, rfl⟩
          by_cases hd : ¬ tx sp < 48 ∧ ¬ 57 < tx sp
          · exact h6 hlt hd
          · exact acc3_n (by omega) hd c44 c59
    · have hsp : sp = ln := by omega
      subst hsp
      have eR : m_rbR d sp tx (nI a) (nI b) g (sp, 0, pz + 1, er, s) = (sp, 0, pz + 1, er, s) := by
        cases g with
        | zero => rfl
        | succ g => exact if_neg (fun z => hlt z.2.1)
      rw [eR, fin_e hlt, rn_end, end3 (by omega)]
      exact Or.inl ⟨rfl, rfl, rfl, h7⟩
/-- from the start of a booking to the end -/
theorem sim_plan {d ln : Nat} {tx s0 : Nat → Int32} {q0 : c_S} (hl : ln ≤ 60) (hq : q_ti q0 < 2 ^ 20) : ∀ (f sp pz : Nat) (ph pr : Int32) (pe : Nat → Int32) (er : Int32) (s : Nat → Int32), sp ≤ ln → pz ≤ sp → 61 ≤ sp + f → JJ d s0 q0 pz pe er s → SIMR d s0 q0 (rn tx ln sp (pz, 0, -1, ph, pr, pe)) (m_rpR d ln tx f (sp, 0, pz, er, s))
  | 0, sp, pz, ph, pr, pe, er, s, h1, h2, h3, h4 => absurd h3 (by omega)
  | f + 1, sp, pz, ph, pr, pe, er, s, h1, h2, h3, h4 => by
    rw [rpR_s]
    unfold m_rb m_rbH m_rbG m_rb5 m_rb3
    unfold m_rbG m_rb3 m_rbH
    dsimp only
    have bad : ∀ (p : Nat) (X : Int32 × Nat × Int32) (Y : Int32 × Nat × Int32), (rn tx ln sp (pz, 0, -1, ph, pr, pe)).1 = nI p → SIMR d s0 q0 (rn tx ln sp (pz, 0, -1, ph, pr, pe)) (m_fin d ln tx f (m_rbR d ln tx X.1 Y.1 61 (m_rdz d ln tx X.1 Y.1 (p, 1, pz, er, s)))) := fun p X Y hp => by
      obtain ⟨r1, r2, -⟩ := rdz_pos (d := d) (ln := ln) (tx := tx) (h := X.1) (g := Y.1) (z := (p, 1, pz, er, s))
      have n1 : (m_num ln tx (p, 1) 11).2 = (p, 1) := by rw [nm_1]
      have r1' : (m_rdz d ln tx X.1 Y.1 (p, 1, pz, er, s)).1 = p := r1.trans (by rw [n1])
      have r2' : (m_rdz d ln tx X.1 Y.1 (p, 1, pz, er, s)).2.1 = 1 := r2.trans (by rw [n1])
      rw [rbR_1 r2', fin_1 r2']
      exact Or.inr ⟨by rw [hp, r1'], r2'⟩
    by_cases cp : sp < ln ∧ tx sp = 43
    · obtain ⟨hlt, c43⟩ := cp
      rw [nd_y hlt c43]
      rw [rn_y hlt (show p_acc (pz, 0, -1, ph, pr, pe) (tx sp) = (1, (pz, 1, -1, ph, pr, pe)) by rw [c43]; exact acc0_y)] at bad ⊢
      rcases v_num (tx := tx) (ln := ln) (m := 99) (pp := 1) (pz := pz) (ph := ph) (pr := pr) (pe := pe) (by omega) (by decide) (by omega) hl (sp + 1) (by omega) with ⟨n1, n2⟩ | ⟨a, sp1, n1, n2, n3, n4, n5, n6⟩
      · have n1' : (m_num ln tx (sp + 1, 0) 99).2 = (sp + 1, 1) := n1
        rw [n1', nd_1, nm_1, nd_1]
        exact bad (sp + 1) (m_num ln tx (sp + 1, 0) 99) (0, sp + 1, 1) n2
      · have n1' : m_num ln tx (sp + 1, 0) 99 = (nI a, sp1, 0) := n1
        rw [n1']
        dsimp only
        rw [n5] at bad ⊢
        by_cases cs : sp1 < ln ∧ tx sp1 = 47
        · obtain ⟨hlt1, c47⟩ := cs
          rw [nd_y hlt1 c47]
          rw [rn_y hlt1 (show p_acc (pz, 1, nI a, ph, pr, pe) (tx sp1) = (1, (pz, 2, -1, nI a, pr, pe)) by rw [c47]; exact acc1_y (by omega))] at bad ⊢
          rcases v_num (tx := tx) (ln := ln) (m := 2) (pp := 2) (pz := pz) (ph := nI a) (pr := pr) (pe := pe) (by omega) (by decide) (by omega) hl (sp1 + 1) (by omega) with ⟨k1, k2⟩ | ⟨b, sp2, k1, k2, k3, k4, k5, k6⟩
          · have k1' : (m_num ln tx (sp1 + 1, 0) 2).2 = (sp1 + 1, 1) := k1
            rw [k1', nd_1]
            exact bad (sp1 + 1) (nI a, sp1, 0) (m_num ln tx (sp1 + 1, 0) 2) k2
          · have k1' : m_num ln tx (sp1 + 1, 0) 2 = (nI b, sp2, 0) := k1
            rw [k1']
            dsimp only
            rw [k5] at bad ⊢
            by_cases cd : sp2 < ln ∧ tx sp2 = 58
            · obtain ⟨hlt2, c58⟩ := cd
              rw [nd_y hlt2 c58]
              rw [rn_y hlt2 (show p_acc (pz, 2, nI b, nI a, pr, pe) (tx sp2) = (1, (pz, 3, -1, nI a, nI b, pe)) by rw [c58]; exact acc2_y (by omega))] at bad ⊢
              rcases v_num (tx := tx) (ln := ln) (m := 11) (pp := 3) (pz := pz) (ph := nI a) (pr := nI b) (pe := pe) (by omega) (by decide) (by omega) hl (sp2 + 1) (by omega) with ⟨l1, l2⟩ | ⟨c, sp3, l1, l2, l3, l4, l5, l6⟩
              · obtain ⟨r1, r2, -⟩ := rdz_pos (d := d) (ln := ln) (tx := tx) (h := nI a) (g := nI b) (z := (sp2 + 1, 0, pz, er, s))
                have l1' : (m_num ln tx (sp2 + 1, 0) 11).2 = (sp2 + 1, 1) := l1
                rw [l1'] at r1 r2
                rw [rbR_1 r2, fin_1 r2]
                exact Or.inr ⟨by rw [l2, r1], r2⟩
              · obtain ⟨er', s', j1, j2⟩ := JJ_step (rs := pz) hq (show pz < 60 by omega) (show a < 100 by omega) (show b < 3 by omega) (show c < 12 by omega) l1 h4 (v := 0)
                rw [j1, l5]
                exact sim_riders hl hq (by omega) (by omega) (fun sp' pz' pe' er'' s'' q1 q2 q3 q4 => sim_plan hl hq f sp' pz' (nI a) (nI b) pe' er'' s'' q1 q2 q3 q4) 61 sp3 pz c pe er' s' l4 (by omega) (by omega) (by omega) (by omega) l6 j2
            · rw [nd_n cd]
              refine bad sp2 (nI a, sp1, 0) (nI b, sp2, 0) ?_
              by_cases hlt2 : sp2 < ln
              · refine rn_n hlt2 ?_
                by_cases hd : ¬ tx sp2 < 48 ∧ ¬ 57 < tx sp2
                · exact k6 hlt2 hd
                · exact acc2_n (by omega) hd (fun z => cd ⟨hlt2, z⟩)
              · have : sp2 = ln := by omega
                subst this
                rw [rn_end]
                exact end_n (Or.inl (show ¬ (2 : Nat) = 3 by decide))
        · rw [nd_n cs, nm_1, nd_1]
          refine bad sp1 (nI a, sp1, 0) (0, sp1, 1) ?_
          by_cases hlt1 : sp1 < ln
          · refine rn_n hlt1 ?_
            by_cases hd : ¬ tx sp1 < 48 ∧ ¬ 57 < tx sp1
            · exact n6 hlt1 hd
            · exact acc1_n (by omega) hd (fun z => cs ⟨hlt1, z⟩)
          · have : sp1 = ln := by omega
            subst this
            rw [rn_end]
            exact end_n (Or.inl (show ¬ (1 : Nat) = 3 by decide))
    · rw [nd_n cp, nm_1, nd_1, nm_1, nd_1]
      refine bad sp (0, sp, 1) (0, sp, 1) ?_
      by_cases hlt : sp < ln
      · exact rn_n hlt (acc0_n (fun z => cp ⟨hlt, z⟩))
      · have : sp = ln := by omega
        subst this
        rw [rn_end]
        exact end_n (Or.inl (show ¬ (0 : Nat) = 3 by decide))
