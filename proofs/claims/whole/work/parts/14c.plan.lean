def m_rpR (d ln : Nat) (tx : Nat → Int32) : Nat → m_Z → m_Z
  | 0, z => z
  | f + 1, z => if (m_rb d ln tx z).2.1 = 0 then (if (m_rb d ln tx z).1 < ln then (if (m_need ln tx ((m_rb d ln tx z).1, (m_rb d ln tx z).2.1) 59).2 = 0 then m_rpR d ln tx f ((m_need ln tx ((m_rb d ln tx z).1, (m_rb d ln tx z).2.1) 59).1, (m_need ln tx ((m_rb d ln tx z).1, (m_rb d ln tx z).2.1) 59).2, (m_rb d ln tx z).2.2.1, (m_rb d ln tx z).2.2.2.1, (m_rb d ln tx z).2.2.2.2) else ((m_need ln tx ((m_rb d ln tx z).1, (m_rb d ln tx z).2.1) 59).1, (m_need ln tx ((m_rb d ln tx z).1, (m_rb d ln tx z).2.1) 59).2, (m_rb d ln tx z).2.2.1, (m_rb d ln tx z).2.2.2.1, (m_rb d ln tx z).2.2.2.2)) else m_rb d ln tx z) else m_rb d ln tx z
def m_rpA (z : m_Z) : Int32 := if z.2.1 = 0 then -5 else nI z.1
theorem m_need_ok {ln : Nat} {tx : Nat → Int32} {p : Nat × Int32} {c : Int32} (h : (m_need ln tx p c).2 = 0) : (m_need ln tx p c).1 = p.1 + 1 ∧ p.1 < ln := by
  unfold m_need at h ⊢
  by_cases q : m_nx p.2 p.1 ln tx c c
  · rw [if_pos q]; exact ⟨rfl, m_nx_lt q⟩
  · rw [if_neg q] at h; exact absurd (show (1 : Int32) = 0 from h) (by decide)
theorem m_need_st {ln : Nat} {tx : Nat → Int32} {A : Nat} {B c : Int32} {z : Nat} (hz : z ≤ A) (h : (m_need ln tx (A, B) c).2 = 0) : z + 1 ≤ (m_need ln tx (A, B) c).1 := by
  have := (m_need_ok h).1
  show z + 1 ≤ _
  rw [this]
  exact Nat.succ_le_succ hz
theorem m_need_l2 {ln : Nat} {tx : Nat → Int32} {A : Nat} {B c : Int32} (h : A ≤ ln) : (m_need ln tx (A, B) c).1 ≤ ln := (m_need_le (p := (A, B)) h).1
theorem m_rpR_le {d ln : Nat} {tx : Nat → Int32} : ∀ (f : Nat) (z : m_Z), z.1 ≤ ln → okB (z.2.2.2.2 192) → (m_rpR d ln tx f z).1 ≤ ln ∧ okB ((m_rpR d ln tx f z).2.2.2.2 192)
  | 0, z, h1, h2 => ⟨h1, h2⟩
  | f + 1, z, h1, h2 => by
    obtain ⟨b1, -, b3⟩ := m_rb_le (d := d) (tx := tx) h1 h2
    have a1 : (m_need ln tx ((m_rb d ln tx z).1, (m_rb d ln tx z).2.1) 59).1 ≤ ln := m_need_l2 b1
    rw [m_rpR]
    split
    · split
      · split
        · exact m_rpR_le f _ a1 b3
        · exact ⟨a1, b3⟩
      · exact ⟨b1, b3⟩
    · exact ⟨b1, b3⟩
def rm_X6_readsPlan : Room := { frames := 5, cells := 0, slots := 0, locals := 119 }
set_option maxRecDepth 100000 in
set_option maxHeartbeats 600000 in
theorem c_X6_readsPlan0 (l : Launch) (G : gG) (a : Nat → Nat) (s as_ hi : Nat → Int32) (kn : Nat) (sn : Nat → Int32) (ik : Int32) (tx : Nat → Int32) (ln : Nat) (it wl : Nat → Int32) (sp : Nat) (iw : Int32) (rs : Nat) (er : Int32)  (hln : ln ≤ 60) (hB : okB (s 192)) : CT l yX6_readsPlan cX6_readsPlan 3 (some .int) rm_X6_readsPlan G [.ref (a 0), .int (nI 0)] (wM G a s as_ hi kn sn ik tx ln it wl sp iw rs er) (some (.int (m_rpA (m_rpR 0 ln tx 61 (0, 0, 0, 0, s))))) (fun _ => (wM G a ((m_rpR 0 ln tx 61 (0, 0, 0, 0, s)).2.2.2.2) as_ hi kn sn ik tx ln it wl ((m_rpR 0 ln tx 61 (0, 0, 0, 0, s)).1) ((m_rpR 0 ln tx 61 (0, 0, 0, 0, s)).2.1) ((m_rpR 0 ln tx 61 (0, 0, 0, 0, s)).2.2.1) ((m_rpR 0 ln tx 61 (0, 0, 0, 0, s)).2.2.2.1))) := by
  refine gMet (by decide) (Nat.le_of_ble_eq_true rfl) (fun X hX C hr hin E => ?_)
  clear hX
  refine (show gW G X (wM G a s as_ hi kn sn ik tx ln it wl sp iw rs er) 0 0 0 [(0, .ref (a 0)), (1, .int (nI 0))] [] from ?_)
  refine x_aload_n C 0 rfl dX6_readsPlan_0 rfl ?_
  refine x_iconst (v := (nI 0)) C dX6_readsPlan_1 (by decide) ?_
  refine x_put (k := 10) (ws' := (wM G a s as_ hi kn sn ik tx ln it wl 0 iw rs er)) C dX6_readsPlan_2 layX6 tyX6 tyX6_ok nmX6 fl_X6_143 0 rfl rfl (by decide) rfl rfl rfl rfl (Nat.le_of_ble_eq_true rfl) rfl ?_
  refine x_aload_n C 0 rfl dX6_readsPlan_5 rfl ?_
  refine x_iconst (v := (nI 0)) C dX6_readsPlan_6 (by decide) ?_
  refine x_put (k := 11) (ws' := (wM G a s as_ hi kn sn ik tx ln it wl 0 0 rs er)) C dX6_readsPlan_7 layX6 tyX6 tyX6_ok nmX6 fl_X6_139 0 rfl rfl (by decide) rfl rfl rfl rfl (Nat.le_of_ble_eq_true rfl) rfl ?_
  refine x_aload_n C 0 rfl dX6_readsPlan_10 rfl ?_
  refine x_iconst (v := (nI 0)) C dX6_readsPlan_11 (by decide) ?_
  refine x_put (k := 12) (ws' := (wM G a s as_ hi kn sn ik tx ln it wl 0 0 0 er)) C dX6_readsPlan_12 layX6 tyX6 tyX6_ok nmX6 fl_X6_152 0 rfl rfl (by decide) rfl rfl rfl rfl (Nat.le_of_ble_eq_true rfl) rfl ?_
  refine x_aload_n C 0 rfl dX6_readsPlan_15 rfl ?_
  refine x_iconst (v := (nI 0)) C dX6_readsPlan_16 (by decide) ?_
  refine x_put (k := 13) (ws' := (wM G a s as_ hi kn sn ik tx ln it wl 0 0 0 0)) C dX6_readsPlan_17 layX6 tyX6 tyX6_ok nmX6 fl_X6_155 0 rfl rfl (by decide) rfl rfl rfl rfl (Nat.le_of_ble_eq_true rfl) rfl ?_
  refine x_iconst (v := (nI 1)) C dX6_readsPlan_20 (by decide) ?_
  refine x_istore_n (lv' := [(2, .int (nI 1)), (0, .ref (a 0)), (1, .int (nI 0))]) C dX6_readsPlan_21 rfl (by decide) rfl ?_
  have L1 : ∀ (fu : Nat) (z1 : Nat) (z2 : Int32) (z3 : Nat) (z4 : Int32) (z5 : Nat → Int32), 61 ≤ z1 + fu → (m_rpR 0 ln tx fu (z1, z2, z3, z4, z5) = m_rpR 0 ln tx 61 (0, 0, 0, 0, s)) → (z1 ≤ ln) → (okB (z5 192)) → gW G X (wM G a z5 as_ hi kn sn ik tx ln it wl z1 z2 z3 z4) 0 0 22 [(2, .int (nI 1)), (0, .ref (a 0)), (1, .int (nI 0))] [] := by
    intro fu
    induction fu with
    | zero =>
      intro z1 z2 z3 z4 z5 hn hr9 hz1 hz2
      exact False.elim (by omega)
    | succ fu ih =>
      intro z1 z2 z3 z4 z5 hn hr9 hz1 hz2
      refine x_iload_n C 0 rfl dX6_readsPlan_22 rfl ?_
      refine x_if_eqN (a := 1) (tgt := 81) C dX6_readsPlan_23 (by decide) (by omega) (fun c2 => False.elim (by omega)) (fun c2 => ?_)
      refine x_aload_n C 1 rfl dX6_readsPlan_26 rfl ?_
      refine x_iload_n C 2 rfl dX6_readsPlan_27 rfl ?_
      refine x_callVd (As := [.int (nI 0)]) (rest := []) C dX6_readsPlan_28 (c_X6_readsBooking0 (gX.l X) G a z5 as_ hi kn sn ik tx ln it wl z1 z2 z3 z4 hln hz1 hz2) ml_X6_165 im_X6_readsBooking sl_X6_readsBooking in_X6 cd_X6_readsBooking hd_X6_readsBooking 0 rfl rfl rfl rfl (Nat.le_of_ble_eq_true rfl) ⟨Nat.le_of_ble_eq_true rfl, Nat.le_of_ble_eq_true rfl⟩ (List.take 0 (wM G a z5 as_ hi kn sn ik tx ln it wl z1 z2 z3 z4)) (List.drop 8 (wM G a z5 as_ hi kn sn ik tx ln it wl z1 z2 z3 z4)) rfl (ws' := (wM G a ((m_rb 0 ln tx (z1, z2, z3, z4, z5)).2.2.2.2) as_ hi kn sn ik tx ln it wl ((m_rb 0 ln tx (z1, z2, z3, z4, z5)).1) ((m_rb 0 ln tx (z1, z2, z3, z4, z5)).2.1) ((m_rb 0 ln tx (z1, z2, z3, z4, z5)).2.2.1) ((m_rb 0 ln tx (z1, z2, z3, z4, z5)).2.2.2.1))) rfl (st' := []) rfl ⟨rfl, rfl⟩ ⟨Nat.le_of_ble_eq_true rfl, Nat.le_of_ble_eq_true rfl⟩ ?_
      have hb9 := m_rb_le (d := 0) (ln := ln) (tx := tx) (z := (z1, z2, z3, z4, z5)) hz1 hz2
      refine x_aload_n C 1 rfl dX6_readsPlan_31 rfl ?_
      refine x_get (k := 11) (v := .int ((m_rb 0 ln tx (z1, z2, z3, z4, z5)).2.1)) C dX6_readsPlan_32 layX6 fl_X6_139 0 rfl rfl (by decide) rfl ?_
      refine x_if_ne (x := ((m_rb 0 ln tx (z1, z2, z3, z4, z5)).2.1)) (tgt := 53) C dX6_readsPlan_35 (by decide) (fun c3 => ?_) (fun c3 => ?_)
      · refine x_iconst (v := (nI 0)) C dX6_readsPlan_53 (by decide) ?_
        refine x_istore_n (lv' := [(2, .int (nI 0)), (0, .ref (a 0)), (1, .int (nI 0))]) C dX6_readsPlan_54 rfl (by decide) rfl ?_
        refine x_iload_n C 0 rfl dX6_readsPlan_55 rfl ?_
        refine x_if_eqN (a := 0) (tgt := 22) C dX6_readsPlan_56 (by decide) (by omega) (fun c4 => ?_) (fun c4 => False.elim (by omega))
        refine x_iload_n C 0 rfl dX6_readsPlan_22 rfl ?_
        refine x_if_eqN (a := 0) (tgt := 81) C dX6_readsPlan_23 (by decide) (by omega) (fun c5 => ?_) (fun c5 => False.elim (by omega))
        refine x_aload_n C 1 rfl dX6_readsPlan_81 rfl ?_
        refine x_get (k := 11) (v := .int ((m_rb 0 ln tx (z1, z2, z3, z4, z5)).2.1)) C dX6_readsPlan_82 layX6 fl_X6_139 0 rfl rfl (by decide) rfl ?_
        refine x_if_eq (x := ((m_rb 0 ln tx (z1, z2, z3, z4, z5)).2.1)) (tgt := 95) C dX6_readsPlan_85 (by decide) (fun c6 => False.elim (c3 c6)) (fun c6 => ?_)
        refine x_aload_n C 1 rfl dX6_readsPlan_88 rfl ?_
        refine x_get (k := 10) (v := .int (nI ((m_rb 0 ln tx (z1, z2, z3, z4, z5)).1))) C dX6_readsPlan_89 layX6 fl_X6_143 0 rfl rfl (by decide) rfl ?_
        refine x_goto (tgt := 97) C dX6_readsPlan_92 (by decide) ?_
        exact x_iret C hr E dX6_readsPlan_97 (fun _ => 0) (by rw [m_rpA, ← hr9, m_rpR, if_neg c3]; (try dsimp only); rw [if_neg c3]) (by rw [← hr9, m_rpR, if_neg c3])
      · refine x_aload_n C 1 rfl dX6_readsPlan_38 rfl ?_
        refine x_get (k := 10) (v := .int (nI ((m_rb 0 ln tx (z1, z2, z3, z4, z5)).1))) C dX6_readsPlan_39 layX6 fl_X6_143 0 rfl rfl (by decide) rfl ?_
        refine x_aload_n C 1 rfl dX6_readsPlan_42 rfl ?_
        refine x_get (k := 7) (v := .int (nI ln)) C dX6_readsPlan_43 layX6 fl_X6_136 0 rfl rfl (by decide) rfl ?_
        refine x_icmp_geN (a := ((m_rb 0 ln tx (z1, z2, z3, z4, z5)).1)) (b := ln) (tgt := 53) C dX6_readsPlan_46 (by decide) (by omega) (by omega) (fun c7 => ?_) (fun c7 => ?_)
        · refine x_iconst (v := (nI 0)) C dX6_readsPlan_53 (by decide) ?_
          refine x_istore_n (lv' := [(2, .int (nI 0)), (0, .ref (a 0)), (1, .int (nI 0))]) C dX6_readsPlan_54 rfl (by decide) rfl ?_
          refine x_iload_n C 0 rfl dX6_readsPlan_55 rfl ?_
          refine x_if_eqN (a := 0) (tgt := 22) C dX6_readsPlan_56 (by decide) (by omega) (fun c8 => ?_) (fun c8 => False.elim (by omega))
          refine x_iload_n C 0 rfl dX6_readsPlan_22 rfl ?_
          refine x_if_eqN (a := 0) (tgt := 81) C dX6_readsPlan_23 (by decide) (by omega) (fun c9 => ?_) (fun c9 => False.elim (by omega))
          refine x_aload_n C 1 rfl dX6_readsPlan_81 rfl ?_
          refine x_get (k := 11) (v := .int ((m_rb 0 ln tx (z1, z2, z3, z4, z5)).2.1)) C dX6_readsPlan_82 layX6 fl_X6_139 0 rfl rfl (by decide) rfl ?_
          refine x_if_eq (x := ((m_rb 0 ln tx (z1, z2, z3, z4, z5)).2.1)) (tgt := 95) C dX6_readsPlan_85 (by decide) (fun c10 => ?_) (fun c10 => False.elim (c10 c3))
          refine x_bipush (v := (-5)) C dX6_readsPlan_95 (by decide) ?_
          exact x_iret C hr E dX6_readsPlan_97 (fun _ => 0) (by rw [m_rpA, ← hr9, m_rpR, if_pos c3, if_neg c7]; (try dsimp only); rw [if_pos c3]) (by rw [← hr9, m_rpR, if_pos c3, if_neg c7])
        · refine x_iconst (v := (nI 1)) C dX6_readsPlan_49 (by decide) ?_
          refine x_goto (tgt := 54) C dX6_readsPlan_50 (by decide) ?_
          refine x_istore_n (lv' := [(2, .int (nI 1)), (0, .ref (a 0)), (1, .int (nI 0))]) C dX6_readsPlan_54 rfl (by decide) rfl ?_
          refine x_iload_n C 0 rfl dX6_readsPlan_55 rfl ?_
          refine x_if_eqN (a := 1) (tgt := 22) C dX6_readsPlan_56 (by decide) (by omega) (fun c11 => False.elim (by omega)) (fun c11 => ?_)
          refine x_aload_n C 1 rfl dX6_readsPlan_59 rfl ?_
          refine x_bipush (v := (nI 59)) C dX6_readsPlan_60 (by decide) ?_
          refine x_callVd (As := [.int (nI 59)]) (rest := []) C dX6_readsPlan_62 (c_X6_needs (gX.l X) G a ((m_rb 0 ln tx (z1, z2, z3, z4, z5)).2.2.2.2) as_ hi kn sn ik tx ln it wl ((m_rb 0 ln tx (z1, z2, z3, z4, z5)).1) ((m_rb 0 ln tx (z1, z2, z3, z4, z5)).2.1) ((m_rb 0 ln tx (z1, z2, z3, z4, z5)).2.2.1) ((m_rb 0 ln tx (z1, z2, z3, z4, z5)).2.2.2.1) 59 hln hb9.1) ml_X6_158 im_X6_needs sl_X6_needs in_X6 cd_X6_needs hd_X6_needs 0 rfl rfl rfl rfl (Nat.le_of_ble_eq_true rfl) ⟨Nat.le_of_ble_eq_true rfl, Nat.le_of_ble_eq_true rfl⟩ (List.take 0 (wM G a ((m_rb 0 ln tx (z1, z2, z3, z4, z5)).2.2.2.2) as_ hi kn sn ik tx ln it wl ((m_rb 0 ln tx (z1, z2, z3, z4, z5)).1) ((m_rb 0 ln tx (z1, z2, z3, z4, z5)).2.1) ((m_rb 0 ln tx (z1, z2, z3, z4, z5)).2.2.1) ((m_rb 0 ln tx (z1, z2, z3, z4, z5)).2.2.2.1))) (List.drop 8 (wM G a ((m_rb 0 ln tx (z1, z2, z3, z4, z5)).2.2.2.2) as_ hi kn sn ik tx ln it wl ((m_rb 0 ln tx (z1, z2, z3, z4, z5)).1) ((m_rb 0 ln tx (z1, z2, z3, z4, z5)).2.1) ((m_rb 0 ln tx (z1, z2, z3, z4, z5)).2.2.1) ((m_rb 0 ln tx (z1, z2, z3, z4, z5)).2.2.2.1))) rfl (ws' := (wM G a ((m_rb 0 ln tx (z1, z2, z3, z4, z5)).2.2.2.2) as_ hi kn sn ik tx ln it wl ((m_need ln tx (((m_rb 0 ln tx (z1, z2, z3, z4, z5)).1), ((m_rb 0 ln tx (z1, z2, z3, z4, z5)).2.1)) 59).1) ((m_need ln tx (((m_rb 0 ln tx (z1, z2, z3, z4, z5)).1), ((m_rb 0 ln tx (z1, z2, z3, z4, z5)).2.1)) 59).2) ((m_rb 0 ln tx (z1, z2, z3, z4, z5)).2.2.1) ((m_rb 0 ln tx (z1, z2, z3, z4, z5)).2.2.2.1))) rfl (st' := []) rfl ⟨rfl, rfl⟩ ⟨Nat.le_of_ble_eq_true rfl, Nat.le_of_ble_eq_true rfl⟩ ?_
          refine x_aload_n C 1 rfl dX6_readsPlan_65 rfl ?_
          refine x_get (k := 11) (v := .int ((m_need ln tx (((m_rb 0 ln tx (z1, z2, z3, z4, z5)).1), ((m_rb 0 ln tx (z1, z2, z3, z4, z5)).2.1)) 59).2)) C dX6_readsPlan_66 layX6 fl_X6_139 0 rfl rfl (by decide) rfl ?_
          refine x_if_ne (x := ((m_need ln tx (((m_rb 0 ln tx (z1, z2, z3, z4, z5)).1), ((m_rb 0 ln tx (z1, z2, z3, z4, z5)).2.1)) 59).2)) (tgt := 76) C dX6_readsPlan_69 (by decide) (fun c12 => ?_) (fun c12 => ?_)
          · refine x_iconst (v := (nI 0)) C dX6_readsPlan_76 (by decide) ?_
            refine x_istore_n (lv' := [(2, .int (nI 0)), (0, .ref (a 0)), (1, .int (nI 0))]) C dX6_readsPlan_77 rfl (by decide) rfl ?_
            refine x_goto (tgt := 22) C dX6_readsPlan_78 (by decide) ?_
            refine x_iload_n C 0 rfl dX6_readsPlan_22 rfl ?_
            refine x_if_eqN (a := 0) (tgt := 81) C dX6_readsPlan_23 (by decide) (by omega) (fun c13 => ?_) (fun c13 => False.elim (by omega))
            refine x_aload_n C 1 rfl dX6_readsPlan_81 rfl ?_
            refine x_get (k := 11) (v := .int ((m_need ln tx (((m_rb 0 ln tx (z1, z2, z3, z4, z5)).1), ((m_rb 0 ln tx (z1, z2, z3, z4, z5)).2.1)) 59).2)) C dX6_readsPlan_82 layX6 fl_X6_139 0 rfl rfl (by decide) rfl ?_
            refine x_if_eq (x := ((m_need ln tx (((m_rb 0 ln tx (z1, z2, z3, z4, z5)).1), ((m_rb 0 ln tx (z1, z2, z3, z4, z5)).2.1)) 59).2)) (tgt := 95) C dX6_readsPlan_85 (by decide) (fun c14 => False.elim (c12 c14)) (fun c14 => ?_)
            refine x_aload_n C 1 rfl dX6_readsPlan_88 rfl ?_
            refine x_get (k := 10) (v := .int (nI ((m_need ln tx (((m_rb 0 ln tx (z1, z2, z3, z4, z5)).1), ((m_rb 0 ln tx (z1, z2, z3, z4, z5)).2.1)) 59).1))) C dX6_readsPlan_89 layX6 fl_X6_143 0 rfl rfl (by decide) rfl ?_
            refine x_goto (tgt := 97) C dX6_readsPlan_92 (by decide) ?_
            exact x_iret C hr E dX6_readsPlan_97 (fun _ => 0) (by rw [m_rpA, ← hr9, m_rpR, if_pos c3, if_pos c7, if_neg c12]; (try dsimp only); rw [if_neg c12]) (by rw [← hr9, m_rpR, if_pos c3, if_pos c7, if_neg c12])
          · refine x_iconst (v := (nI 1)) C dX6_readsPlan_72 (by decide) ?_
            refine x_goto (tgt := 77) C dX6_readsPlan_73 (by decide) ?_
            refine x_istore_n (lv' := [(2, .int (nI 1)), (0, .ref (a 0)), (1, .int (nI 0))]) C dX6_readsPlan_77 rfl (by decide) rfl ?_
            refine x_goto (tgt := 22) C dX6_readsPlan_78 (by decide) ?_
            exact ih ((m_need ln tx (((m_rb 0 ln tx (z1, z2, z3, z4, z5)).1), ((m_rb 0 ln tx (z1, z2, z3, z4, z5)).2.1)) 59).1) ((m_need ln tx (((m_rb 0 ln tx (z1, z2, z3, z4, z5)).1), ((m_rb 0 ln tx (z1, z2, z3, z4, z5)).2.1)) 59).2) ((m_rb 0 ln tx (z1, z2, z3, z4, z5)).2.2.1) ((m_rb 0 ln tx (z1, z2, z3, z4, z5)).2.2.2.1) ((m_rb 0 ln tx (z1, z2, z3, z4, z5)).2.2.2.2) (by first | exact g_step hn (m_need_st hb9.2.1 c12) | omega) (by (rw [← hr9, m_rpR, if_pos c3, if_pos c7, if_pos c12])) (by exact m_need_l2 hb9.1) (by exact hb9.2.2)
  exact L1 61 0 0 0 0 s (by first | exact g_step hn (m_need_st hb9.2.1 $L) | omega) (by rfl) (by omega) (by exact hB)
set_option maxRecDepth 100000 in
set_option maxHeartbeats 600000 in
theorem c_X6_readsPlan1 (l : Launch) (G : gG) (a : Nat → Nat) (s as_ hi : Nat → Int32) (kn : Nat) (sn : Nat → Int32) (ik : Int32) (tx : Nat → Int32) (ln : Nat) (it wl : Nat → Int32) (sp : Nat) (iw : Int32) (rs : Nat) (er : Int32)  (hln : ln ≤ 60) (hB : okB (s 192)) : CT l yX6_readsPlan cX6_readsPlan 3 (some .int) rm_X6_readsPlan G [.ref (a 0), .int (nI 1)] (wM G a s as_ hi kn sn ik tx ln it wl sp iw rs er) (some (.int (m_rpA (m_rpR 1 ln tx 61 (0, 0, 0, 0, s))))) (fun _ => (wM G a ((m_rpR 1 ln tx 61 (0, 0, 0, 0, s)).2.2.2.2) as_ hi kn sn ik tx ln it wl ((m_rpR 1 ln tx 61 (0, 0, 0, 0, s)).1) ((m_rpR 1 ln tx 61 (0, 0, 0, 0, s)).2.1) ((m_rpR 1 ln tx 61 (0, 0, 0, 0, s)).2.2.1) ((m_rpR 1 ln tx 61 (0, 0, 0, 0, s)).2.2.2.1))) := by
  refine gMet (by decide) (Nat.le_of_ble_eq_true rfl) (fun X hX C hr hin E => ?_)
  clear hX
  refine (show gW G X (wM G a s as_ hi kn sn ik tx ln it wl sp iw rs er) 0 0 0 [(0, .ref (a 0)), (1, .int (nI 1))] [] from ?_)
  refine x_aload_n C 0 rfl dX6_readsPlan_0 rfl ?_
  refine x_iconst (v := (nI 0)) C dX6_readsPlan_1 (by decide) ?_
  refine x_put (k := 10) (ws' := (wM G a s as_ hi kn sn ik tx ln it wl 0 iw rs er)) C dX6_readsPlan_2 layX6 tyX6 tyX6_ok nmX6 fl_X6_143 0 rfl rfl (by decide) rfl rfl rfl rfl (Nat.le_of_ble_eq_true rfl) rfl ?_
  refine x_aload_n C 0 rfl dX6_readsPlan_5 rfl ?_
  refine x_iconst (v := (nI 0)) C dX6_readsPlan_6 (by decide) ?_
  refine x_put (k := 11) (ws' := (wM G a s as_ hi kn sn ik tx ln it wl 0 0 rs er)) C dX6_readsPlan_7 layX6 tyX6 tyX6_ok nmX6 fl_X6_139 0 rfl rfl (by decide) rfl rfl rfl rfl (Nat.le_of_ble_eq_true rfl) rfl ?_
  refine x_aload_n C 0 rfl dX6_readsPlan_10 rfl ?_
  refine x_iconst (v := (nI 0)) C dX6_readsPlan_11 (by decide) ?_
  refine x_put (k := 12) (ws' := (wM G a s as_ hi kn sn ik tx ln it wl 0 0 0 er)) C dX6_readsPlan_12 layX6 tyX6 tyX6_ok nmX6 fl_X6_152 0 rfl rfl (by decide) rfl rfl rfl rfl (Nat.le_of_ble_eq_true rfl) rfl ?_
  refine x_aload_n C 0 rfl dX6_readsPlan_15 rfl ?_
  refine x_iconst (v := (nI 0)) C dX6_readsPlan_16 (by decide) ?_
  refine x_put (k := 13) (ws' := (wM G a s as_ hi kn sn ik tx ln it wl 0 0 0 0)) C dX6_readsPlan_17 layX6 tyX6 tyX6_ok nmX6 fl_X6_155 0 rfl rfl (by decide) rfl rfl rfl rfl (Nat.le_of_ble_eq_true rfl) rfl ?_
  refine x_iconst (v := (nI 1)) C dX6_readsPlan_20 (by decide) ?_
  refine x_istore_n (lv' := [(2, .int (nI 1)), (0, .ref (a 0)), (1, .int (nI 1))]) C dX6_readsPlan_21 rfl (by decide) rfl ?_
  have L1 : ∀ (fu : Nat) (z1 : Nat) (z2 : Int32) (z3 : Nat) (z4 : Int32) (z5 : Nat → Int32), 61 ≤ z1 + fu → (m_rpR 1 ln tx fu (z1, z2, z3, z4, z5) = m_rpR 1 ln tx 61 (0, 0, 0, 0, s)) → (z1 ≤ ln) → (okB (z5 192)) → gW G X (wM G a z5 as_ hi kn sn ik tx ln it wl z1 z2 z3 z4) 0 0 22 [(2, .int (nI 1)), (0, .ref (a 0)), (1, .int (nI 1))] [] := by
    intro fu
    induction fu with
    | zero =>
      intro z1 z2 z3 z4 z5 hn hr9 hz1 hz2
      exact False.elim (by omega)
    | succ fu ih =>
      intro z1 z2 z3 z4 z5 hn hr9 hz1 hz2
      refine x_iload_n C 0 rfl dX6_readsPlan_22 rfl ?_
      refine x_if_eqN (a := 1) (tgt := 81) C dX6_readsPlan_23 (by decide) (by omega) (fun c2 => False.elim (by omega)) (fun c2 => ?_)
      refine x_aload_n C 1 rfl dX6_readsPlan_26 rfl ?_
      refine x_iload_n C 2 rfl dX6_readsPlan_27 rfl ?_
      refine x_callVd (As := [.int (nI 1)]) (rest := []) C dX6_readsPlan_28 (c_X6_readsBooking1 (gX.l X) G a z5 as_ hi kn sn ik tx ln it wl z1 z2 z3 z4 hln hz1 hz2) ml_X6_165 im_X6_readsBooking sl_X6_readsBooking in_X6 cd_X6_readsBooking hd_X6_readsBooking 0 rfl rfl rfl rfl (Nat.le_of_ble_eq_true rfl) ⟨Nat.le_of_ble_eq_true rfl, Nat.le_of_ble_eq_true rfl⟩ (List.take 0 (wM G a z5 as_ hi kn sn ik tx ln it wl z1 z2 z3 z4)) (List.drop 8 (wM G a z5 as_ hi kn sn ik tx ln it wl z1 z2 z3 z4)) rfl (ws' := (wM G a ((m_rb 1 ln tx (z1, z2, z3, z4, z5)).2.2.2.2) as_ hi kn sn ik tx ln it wl ((m_rb 1 ln tx (z1, z2, z3, z4, z5)).1) ((m_rb 1 ln tx (z1, z2, z3, z4, z5)).2.1) ((m_rb 1 ln tx (z1, z2, z3, z4, z5)).2.2.1) ((m_rb 1 ln tx (z1, z2, z3, z4, z5)).2.2.2.1))) rfl (st' := []) rfl ⟨rfl, rfl⟩ ⟨Nat.le_of_ble_eq_true rfl, Nat.le_of_ble_eq_true rfl⟩ ?_
      have hb9 := m_rb_le (d := 1) (ln := ln) (tx := tx) (z := (z1, z2, z3, z4, z5)) hz1 hz2
      refine x_aload_n C 1 rfl dX6_readsPlan_31 rfl ?_
      refine x_get (k := 11) (v := .int ((m_rb 1 ln tx (z1, z2, z3, z4, z5)).2.1)) C dX6_readsPlan_32 layX6 fl_X6_139 0 rfl rfl (by decide) rfl ?_
      refine x_if_ne (x := ((m_rb 1 ln tx (z1, z2, z3, z4, z5)).2.1)) (tgt := 53) C dX6_readsPlan_35 (by decide) (fun c3 => ?_) (fun c3 => ?_)
      · refine x_iconst (v := (nI 0)) C dX6_readsPlan_53 (by decide) ?_
        refine x_istore_n (lv' := [(2, .int (nI 0)), (0, .ref (a 0)), (1, .int (nI 1))]) C dX6_readsPlan_54 rfl (by decide) rfl ?_
        refine x_iload_n C 0 rfl dX6_readsPlan_55 rfl ?_
        refine x_if_eqN (a := 0) (tgt := 22) C dX6_readsPlan_56 (by decide) (by omega) (fun c4 => ?_) (fun c4 => False.elim (by omega))
        refine x_iload_n C 0 rfl dX6_readsPlan_22 rfl ?_
        refine x_if_eqN (a := 0) (tgt := 81) C dX6_readsPlan_23 (by decide) (by omega) (fun c5 => ?_) (fun c5 => False.elim (by omega))
        refine x_aload_n C 1 rfl dX6_readsPlan_81 rfl ?_
        refine x_get (k := 11) (v := .int ((m_rb 1 ln tx (z1, z2, z3, z4, z5)).2.1)) C dX6_readsPlan_82 layX6 fl_X6_139 0 rfl rfl (by decide) rfl ?_
        refine x_if_eq (x := ((m_rb 1 ln tx (z1, z2, z3, z4, z5)).2.1)) (tgt := 95) C dX6_readsPlan_85 (by decide) (fun c6 => False.elim (c3 c6)) (fun c6 => ?_)
        refine x_aload_n C 1 rfl dX6_readsPlan_88 rfl ?_
        refine x_get (k := 10) (v := .int (nI ((m_rb 1 ln tx (z1, z2, z3, z4, z5)).1))) C dX6_readsPlan_89 layX6 fl_X6_143 0 rfl rfl (by decide) rfl ?_
        refine x_goto (tgt := 97) C dX6_readsPlan_92 (by decide) ?_
        exact x_iret C hr E dX6_readsPlan_97 (fun _ => 0) (by rw [m_rpA, ← hr9, m_rpR, if_neg c3]; (try dsimp only); rw [if_neg c3]) (by rw [← hr9, m_rpR, if_neg c3])
      · refine x_aload_n C 1 rfl dX6_readsPlan_38 rfl ?_
        refine x_get (k := 10) (v := .int (nI ((m_rb 1 ln tx (z1, z2, z3, z4, z5)).1))) C dX6_readsPlan_39 layX6 fl_X6_143 0 rfl rfl (by decide) rfl ?_
        refine x_aload_n C 1 rfl dX6_readsPlan_42 rfl ?_
        refine x_get (k := 7) (v := .int (nI ln)) C dX6_readsPlan_43 layX6 fl_X6_136 0 rfl rfl (by decide) rfl ?_
        refine x_icmp_geN (a := ((m_rb 1 ln tx (z1, z2, z3, z4, z5)).1)) (b := ln) (tgt := 53) C dX6_readsPlan_46 (by decide) (by omega) (by omega) (fun c7 => ?_) (fun c7 => ?_)
        · refine x_iconst (v := (nI 0)) C dX6_readsPlan_53 (by decide) ?_
          refine x_istore_n (lv' := [(2, .int (nI 0)), (0, .ref (a 0)), (1, .int (nI 1))]) C dX6_readsPlan_54 rfl (by decide) rfl ?_
          refine x_iload_n C 0 rfl dX6_readsPlan_55 rfl ?_
          refine x_if_eqN (a := 0) (tgt := 22) C dX6_readsPlan_56 (by decide) (by omega) (fun c8 => ?_) (fun c8 => False.elim (by omega))
          refine x_iload_n C 0 rfl dX6_readsPlan_22 rfl ?_
          refine x_if_eqN (a := 0) (tgt := 81) C dX6_readsPlan_23 (by decide) (by omega) (fun c9 => ?_) (fun c9 => False.elim (by omega))
          refine x_aload_n C 1 rfl dX6_readsPlan_81 rfl ?_
          refine x_get (k := 11) (v := .int ((m_rb 1 ln tx (z1, z2, z3, z4, z5)).2.1)) C dX6_readsPlan_82 layX6 fl_X6_139 0 rfl rfl (by decide) rfl ?_
          refine x_if_eq (x := ((m_rb 1 ln tx (z1, z2, z3, z4, z5)).2.1)) (tgt := 95) C dX6_readsPlan_85 (by decide) (fun c10 => ?_) (fun c10 => False.elim (c10 c3))
          refine x_bipush (v := (-5)) C dX6_readsPlan_95 (by decide) ?_
          exact x_iret C hr E dX6_readsPlan_97 (fun _ => 0) (by rw [m_rpA, ← hr9, m_rpR, if_pos c3, if_neg c7]; (try dsimp only); rw [if_pos c3]) (by rw [← hr9, m_rpR, if_pos c3, if_neg c7])
        · refine x_iconst (v := (nI 1)) C dX6_readsPlan_49 (by decide) ?_
          refine x_goto (tgt := 54) C dX6_readsPlan_50 (by decide) ?_
          refine x_istore_n (lv' := [(2, .int (nI 1)), (0, .ref (a 0)), (1, .int (nI 1))]) C dX6_readsPlan_54 rfl (by decide) rfl ?_
          refine x_iload_n C 0 rfl dX6_readsPlan_55 rfl ?_
          refine x_if_eqN (a := 1) (tgt := 22) C dX6_readsPlan_56 (by decide) (by omega) (fun c11 => False.elim (by omega)) (fun c11 => ?_)
          refine x_aload_n C 1 rfl dX6_readsPlan_59 rfl ?_
          refine x_bipush (v := (nI 59)) C dX6_readsPlan_60 (by decide) ?_
          refine x_callVd (As := [.int (nI 59)]) (rest := []) C dX6_readsPlan_62 (c_X6_needs (gX.l X) G a ((m_rb 1 ln tx (z1, z2, z3, z4, z5)).2.2.2.2) as_ hi kn sn ik tx ln it wl ((m_rb 1 ln tx (z1, z2, z3, z4, z5)).1) ((m_rb 1 ln tx (z1, z2, z3, z4, z5)).2.1) ((m_rb 1 ln tx (z1, z2, z3, z4, z5)).2.2.1) ((m_rb 1 ln tx (z1, z2, z3, z4, z5)).2.2.2.1) 59 hln hb9.1) ml_X6_158 im_X6_needs sl_X6_needs in_X6 cd_X6_needs hd_X6_needs 0 rfl rfl rfl rfl (Nat.le_of_ble_eq_true rfl) ⟨Nat.le_of_ble_eq_true rfl, Nat.le_of_ble_eq_true rfl⟩ (List.take 0 (wM G a ((m_rb 1 ln tx (z1, z2, z3, z4, z5)).2.2.2.2) as_ hi kn sn ik tx ln it wl ((m_rb 1 ln tx (z1, z2, z3, z4, z5)).1) ((m_rb 1 ln tx (z1, z2, z3, z4, z5)).2.1) ((m_rb 1 ln tx (z1, z2, z3, z4, z5)).2.2.1) ((m_rb 1 ln tx (z1, z2, z3, z4, z5)).2.2.2.1))) (List.drop 8 (wM G a ((m_rb 1 ln tx (z1, z2, z3, z4, z5)).2.2.2.2) as_ hi kn sn ik tx ln it wl ((m_rb 1 ln tx (z1, z2, z3, z4, z5)).1) ((m_rb 1 ln tx (z1, z2, z3, z4, z5)).2.1) ((m_rb 1 ln tx (z1, z2, z3, z4, z5)).2.2.1) ((m_rb 1 ln tx (z1, z2, z3, z4, z5)).2.2.2.1))) rfl (ws' := (wM G a ((m_rb 1 ln tx (z1, z2, z3, z4, z5)).2.2.2.2) as_ hi kn sn ik tx ln it wl ((m_need ln tx (((m_rb 1 ln tx (z1, z2, z3, z4, z5)).1), ((m_rb 1 ln tx (z1, z2, z3, z4, z5)).2.1)) 59).1) ((m_need ln tx (((m_rb 1 ln tx (z1, z2, z3, z4, z5)).1), ((m_rb 1 ln tx (z1, z2, z3, z4, z5)).2.1)) 59).2) ((m_rb 1 ln tx (z1, z2, z3, z4, z5)).2.2.1) ((m_rb 1 ln tx (z1, z2, z3, z4, z5)).2.2.2.1))) rfl (st' := []) rfl ⟨rfl, rfl⟩ ⟨Nat.le_of_ble_eq_true rfl, Nat.le_of_ble_eq_true rfl⟩ ?_
          refine x_aload_n C 1 rfl dX6_readsPlan_65 rfl ?_
          refine x_get (k := 11) (v := .int ((m_need ln tx (((m_rb 1 ln tx (z1, z2, z3, z4, z5)).1), ((m_rb 1 ln tx (z1, z2, z3, z4, z5)).2.1)) 59).2)) C dX6_readsPlan_66 layX6 fl_X6_139 0 rfl rfl (by decide) rfl ?_
          refine x_if_ne (x := ((m_need ln tx (((m_rb 1 ln tx (z1, z2, z3, z4, z5)).1), ((m_rb 1 ln tx (z1, z2, z3, z4, z5)).2.1)) 59).2)) (tgt := 76) C dX6_readsPlan_69 (by decide) (fun c12 => ?_) (fun c12 => ?_)
          · refine x_iconst (v := (nI 0)) C dX6_readsPlan_76 (by decide) ?_
            refine x_istore_n (lv' := [(2, .int (nI 0)), (0, .ref (a 0)), (1, .int (nI 1))]) C dX6_readsPlan_77 rfl (by decide) rfl ?_
            refine x_goto (tgt := 22) C dX6_readsPlan_78 (by decide) ?_
            refine x_iload_n C 0 rfl dX6_readsPlan_22 rfl ?_
            refine x_if_eqN (a := 0) (tgt := 81) C dX6_readsPlan_23 (by decide) (by omega) (fun c13 => ?_) (fun c13 => False.elim (by omega))
            refine x_aload_n C 1 rfl dX6_readsPlan_81 rfl ?_
            refine x_get (k := 11) (v := .int ((m_need ln tx (((m_rb 1 ln tx (z1, z2, z3, z4, z5)).1), ((m_rb 1 ln tx (z1, z2, z3, z4, z5)).2.1)) 59).2)) C dX6_readsPlan_82 layX6 fl_X6_139 0 rfl rfl (by decide) rfl ?_
            refine x_if_eq (x := ((m_need ln tx (((m_rb 1 ln tx (z1, z2, z3, z4, z5)).1), ((m_rb 1 ln tx (z1, z2, z3, z4, z5)).2.1)) 59).2)) (tgt := 95) C dX6_readsPlan_85 (by decide) (fun c14 => False.elim (c12 c14)) (fun c14 => ?_)
            refine x_aload_n C 1 rfl dX6_readsPlan_88 rfl ?_
            refine x_get (k := 10) (v := .int (nI ((m_need ln tx (((m_rb 1 ln tx (z1, z2, z3, z4, z5)).1), ((m_rb 1 ln tx (z1, z2, z3, z4, z5)).2.1)) 59).1))) C dX6_readsPlan_89 layX6 fl_X6_143 0 rfl rfl (by decide) rfl ?_
            refine x_goto (tgt := 97) C dX6_readsPlan_92 (by decide) ?_
            exact x_iret C hr E dX6_readsPlan_97 (fun _ => 0) (by rw [m_rpA, ← hr9, m_rpR, if_pos c3, if_pos c7, if_neg c12]; (try dsimp only); rw [if_neg c12]) (by rw [← hr9, m_rpR, if_pos c3, if_pos c7, if_neg c12])
          · refine x_iconst (v := (nI 1)) C dX6_readsPlan_72 (by decide) ?_
            refine x_goto (tgt := 77) C dX6_readsPlan_73 (by decide) ?_
            refine x_istore_n (lv' := [(2, .int (nI 1)), (0, .ref (a 0)), (1, .int (nI 1))]) C dX6_readsPlan_77 rfl (by decide) rfl ?_
            refine x_goto (tgt := 22) C dX6_readsPlan_78 (by decide) ?_
            exact ih ((m_need ln tx (((m_rb 1 ln tx (z1, z2, z3, z4, z5)).1), ((m_rb 1 ln tx (z1, z2, z3, z4, z5)).2.1)) 59).1) ((m_need ln tx (((m_rb 1 ln tx (z1, z2, z3, z4, z5)).1), ((m_rb 1 ln tx (z1, z2, z3, z4, z5)).2.1)) 59).2) ((m_rb 1 ln tx (z1, z2, z3, z4, z5)).2.2.1) ((m_rb 1 ln tx (z1, z2, z3, z4, z5)).2.2.2.1) ((m_rb 1 ln tx (z1, z2, z3, z4, z5)).2.2.2.2) (by first | exact g_step hn (m_need_st hb9.2.1 c12) | omega) (by (rw [← hr9, m_rpR, if_pos c3, if_pos c7, if_pos c12])) (by exact m_need_l2 hb9.1) (by exact hb9.2.2)
  exact L1 61 0 0 0 0 s (by first | exact g_step hn (m_need_st hb9.2.1 $L) | omega) (by rfl) (by omega) (by exact hB)
