def m_b0 (ln : Nat) (tx s : Nat → Int32) : m_Z := m_rpR 0 ln tx 61 (0, 0, 0, 0, s)
def m_b1 (ln : Nat) (tx s : Nat → Int32) : m_Z := m_rpR 1 ln tx 61 (0, 0, 0, 0, s)
/-- answer; row, put aside, history, known; place, wrong, riders, error -/
abbrev m_RB : Type := Int32 × (Nat → Int32) × (Nat → Int32) × (Nat → Int32) × Nat × Nat × Int32 × Nat × Int32
def m_bpF (Z0 Z1 : m_Z) (as_ hi : Nat → Int32) (kn : Nat) : m_RB := if m_rpA Z0 = -5 then (if Z1.2.2.2.1 < 0 then (Z1.2.2.2.1, cpL (cpL Z0.2.2.2.2 as_ 0 0 378) Z1.2.2.2.2 0 0 378, cpL Z0.2.2.2.2 as_ 0 0 378, hi, kn, Z1.1, Z1.2.1, Z1.2.2.1, Z1.2.2.2.1) else (nI Z1.2.2.1, Z1.2.2.2.2, cpL Z0.2.2.2.2 as_ 0 0 378, m_recA Z1.2.2.2.2 (cpL Z0.2.2.2.2 as_ 0 0 378) hi kn, m_recK kn, Z1.1, Z1.2.1, Z1.2.2.1, Z1.2.2.2.1)) else (-100 - m_rpA Z0, Z0.2.2.2.2, as_, hi, kn, Z0.1, Z0.2.1, Z0.2.2.1, Z0.2.2.2.1)
def mX_bookPlan (ln : Nat) (tx s as_ hi : Nat → Int32) (kn : Nat) : m_RB := m_bpF (m_b0 ln tx s) (m_b1 ln tx (m_b0 ln tx s).2.2.2.2) as_ hi kn
theorem m_b0_le {ln : Nat} {tx s : Nat → Int32} (hB : okB (s 192)) : (m_b0 ln tx s).1 ≤ ln ∧ okB ((m_b0 ln tx s).2.2.2.2 192) := by
  rw [m_b0]
  exact m_rpR_le (d := 0) (ln := ln) (tx := tx) 61 (0, 0, 0, 0, s) (Nat.zero_le _) hB
theorem m_b1_le {ln : Nat} {tx s : Nat → Int32} (hB : okB (s 192)) : (m_b1 ln tx s).1 ≤ ln ∧ okB ((m_b1 ln tx s).2.2.2.2 192) := by
  rw [m_b1]
  exact m_rpR_le (d := 1) (ln := ln) (tx := tx) 61 (0, 0, 0, 0, s) (Nat.zero_le _) hB
def rm_X6_bookPlan : Room := { frames := 6, cells := 0, slots := 0, locals := 141 }
set_option maxRecDepth 100000 in
set_option maxHeartbeats 600000 in
theorem c_X6_bookPlan (l : Launch) (G : gG) (a : Nat → Nat) (s as_ hi : Nat → Int32) (kn : Nat) (sn : Nat → Int32) (ik : Int32) (tx : Nat → Int32) (ln : Nat) (it wl : Nat → Int32) (sp : Nat) (iw : Int32) (rs : Nat) (er : Int32)  (hln : ln ≤ 60) (hB : okB (s 192)) (hk : kn ≤ 4) : CT l yX6_bookPlan cX6_bookPlan 2 (some .int) rm_X6_bookPlan G [.ref (a 0)] (wM G a s as_ hi kn sn ik tx ln it wl sp iw rs er) (some (.int ((mX_bookPlan ln tx s as_ hi kn).1))) (fun _ => (wM G a ((mX_bookPlan ln tx s as_ hi kn).2.1) ((mX_bookPlan ln tx s as_ hi kn).2.2.1) ((mX_bookPlan ln tx s as_ hi kn).2.2.2.1) ((mX_bookPlan ln tx s as_ hi kn).2.2.2.2.1) sn ik tx ln it wl ((mX_bookPlan ln tx s as_ hi kn).2.2.2.2.2.1) ((mX_bookPlan ln tx s as_ hi kn).2.2.2.2.2.2.1) ((mX_bookPlan ln tx s as_ hi kn).2.2.2.2.2.2.2.1) ((mX_bookPlan ln tx s as_ hi kn).2.2.2.2.2.2.2.2))) := by
  refine gMet (by decide) (Nat.le_of_ble_eq_true rfl) (fun X hX C hr hin E => ?_)
  clear hX
  refine (show gW G X (wM G a s as_ hi kn sn ik tx ln it wl sp iw rs er) 0 0 0 [(0, .ref (a 0))] [] from ?_)
  obtain ⟨Z0, hZ0⟩ : ∃ Z0, m_rpR 0 ln tx 61 (0, 0, 0, 0, s) = Z0 := ⟨_, rfl⟩
  obtain ⟨Z1, hZ1⟩ : ∃ Z1, m_rpR 1 ln tx 61 (0, 0, 0, 0, Z0.2.2.2.2) = Z1 := ⟨_, rfl⟩
  have e0 : m_b0 ln tx s = Z0 := hZ0
  have hp0 : Z0.1 ≤ ln ∧ okB (Z0.2.2.2.2 192) := e0 ▸ m_b0_le hB
  have e1 : m_b1 ln tx Z0.2.2.2.2 = Z1 := hZ1
  have hQ : mX_bookPlan ln tx s as_ hi kn = m_bpF Z0 Z1 as_ hi kn := by rw [mX_bookPlan, e0, e1]
  refine x_aload_n C 0 rfl dX6_bookPlan_0 rfl ?_
  refine x_iconst (v := (nI 0)) C dX6_bookPlan_1 (by decide) ?_
  refine x_callVd (As := [.int (nI 0)]) (rest := []) C dX6_bookPlan_2 (c_X6_readsPlan0 (gX.l X) G a s as_ hi kn sn ik tx ln it wl sp iw rs er hln hB) ml_X6_169 im_X6_readsPlan sl_X6_readsPlan in_X6 cd_X6_readsPlan hd_X6_readsPlan 0 rfl rfl rfl rfl (Nat.le_of_ble_eq_true rfl) ⟨Nat.le_of_ble_eq_true rfl, Nat.le_of_ble_eq_true rfl⟩ (List.take 0 (wM G a s as_ hi kn sn ik tx ln it wl sp iw rs er)) (List.drop 8 (wM G a s as_ hi kn sn ik tx ln it wl sp iw rs er)) rfl (ws' := (wM G a ((m_rpR 0 ln tx 61 (0, 0, 0, 0, s)).2.2.2.2) as_ hi kn sn ik tx ln it wl ((m_rpR 0 ln tx 61 (0, 0, 0, 0, s)).1) ((m_rpR 0 ln tx 61 (0, 0, 0, 0, s)).2.1) ((m_rpR 0 ln tx 61 (0, 0, 0, 0, s)).2.2.1) ((m_rpR 0 ln tx 61 (0, 0, 0, 0, s)).2.2.2.1))) rfl (st' := [.int (m_rpA (m_rpR 0 ln tx 61 (0, 0, 0, 0, s)))]) rfl ⟨rfl, rfl⟩ ⟨Nat.le_of_ble_eq_true rfl, Nat.le_of_ble_eq_true rfl⟩ ?_
  refine x_top (y := (m_rpA Z0)) (by rw [hZ0]) ?_
  rw [hZ0]
  refine (show gW G X (wM G a Z0.2.2.2.2 as_ hi kn sn ik tx ln it wl Z0.1 Z0.2.1 Z0.2.2.1 Z0.2.2.2.1) 0 0 5 [(0, .ref (a 0))] [.int (m_rpA Z0)] from ?_)
  refine x_istore_n (lv' := [(1, .int (m_rpA Z0)), (0, .ref (a 0))]) C dX6_bookPlan_5 rfl (by decide) rfl ?_
  refine x_iload_n C 0 rfl dX6_bookPlan_6 rfl ?_
  refine x_bipush (v := (-5)) C dX6_bookPlan_7 (by decide) ?_
  refine x_icmp_eq (x := (m_rpA Z0)) (y := (-5)) (tgt := 17) C dX6_bookPlan_9 (by decide) (fun c1 => ?_) (fun c1 => ?_)
  · refine x_aload_n C 1 rfl dX6_bookPlan_17 rfl ?_
    refine x_callVd (As := []) (rest := []) C dX6_bookPlan_18 (c_X6_putAside (gX.l X) G a Z0.2.2.2.2 as_ hi kn sn ik tx ln it wl Z0.1 Z0.2.1 Z0.2.2.1 Z0.2.2.2.1 ) ml_X6_123 im_X6_putAside sl_X6_putAside in_X6 cd_X6_putAside hd_X6_putAside 0 rfl rfl rfl rfl (Nat.le_of_ble_eq_true rfl) ⟨Nat.le_of_ble_eq_true rfl, Nat.le_of_ble_eq_true rfl⟩ (List.take 0 (wM G a Z0.2.2.2.2 as_ hi kn sn ik tx ln it wl Z0.1 Z0.2.1 Z0.2.2.1 Z0.2.2.2.1)) (List.drop 8 (wM G a Z0.2.2.2.2 as_ hi kn sn ik tx ln it wl Z0.1 Z0.2.1 Z0.2.2.1 Z0.2.2.2.1)) rfl (ws' := (wM G a Z0.2.2.2.2 (cpL Z0.2.2.2.2 as_ 0 0 378) hi kn sn ik tx ln it wl Z0.1 Z0.2.1 Z0.2.2.1 Z0.2.2.2.1)) rfl (st' := []) rfl ⟨rfl, rfl⟩ ⟨Nat.le_of_ble_eq_true rfl, Nat.le_of_ble_eq_true rfl⟩ ?_
    refine x_aload_n C 1 rfl dX6_bookPlan_21 rfl ?_
    refine x_iconst (v := (nI 1)) C dX6_bookPlan_22 (by decide) ?_
    refine x_callVd (As := [.int (nI 1)]) (rest := []) C dX6_bookPlan_23 (c_X6_readsPlan1 (gX.l X) G a Z0.2.2.2.2 (cpL Z0.2.2.2.2 as_ 0 0 378) hi kn sn ik tx ln it wl Z0.1 Z0.2.1 Z0.2.2.1 Z0.2.2.2.1 hln hp0.2) ml_X6_169 im_X6_readsPlan sl_X6_readsPlan in_X6 cd_X6_readsPlan hd_X6_readsPlan 0 rfl rfl rfl rfl (Nat.le_of_ble_eq_true rfl) ⟨Nat.le_of_ble_eq_true rfl, Nat.le_of_ble_eq_true rfl⟩ (List.take 0 (wM G a Z0.2.2.2.2 (cpL Z0.2.2.2.2 as_ 0 0 378) hi kn sn ik tx ln it wl Z0.1 Z0.2.1 Z0.2.2.1 Z0.2.2.2.1)) (List.drop 8 (wM G a Z0.2.2.2.2 (cpL Z0.2.2.2.2 as_ 0 0 378) hi kn sn ik tx ln it wl Z0.1 Z0.2.1 Z0.2.2.1 Z0.2.2.2.1)) rfl (ws' := (wM G a ((m_rpR 1 ln tx 61 (0, 0, 0, 0, Z0.2.2.2.2)).2.2.2.2) (cpL Z0.2.2.2.2 as_ 0 0 378) hi kn sn ik tx ln it wl ((m_rpR 1 ln tx 61 (0, 0, 0, 0, Z0.2.2.2.2)).1) ((m_rpR 1 ln tx 61 (0, 0, 0, 0, Z0.2.2.2.2)).2.1) ((m_rpR 1 ln tx 61 (0, 0, 0, 0, Z0.2.2.2.2)).2.2.1) ((m_rpR 1 ln tx 61 (0, 0, 0, 0, Z0.2.2.2.2)).2.2.2.1))) rfl (st' := [.int (m_rpA (m_rpR 1 ln tx 61 (0, 0, 0, 0, Z0.2.2.2.2)))]) rfl ⟨rfl, rfl⟩ ⟨Nat.le_of_ble_eq_true rfl, Nat.le_of_ble_eq_true rfl⟩ ?_
    refine x_top (y := (m_rpA Z1)) (by rw [hZ1]) ?_
    rw [hZ1]
    refine (show gW G X (wM G a Z1.2.2.2.2 (cpL Z0.2.2.2.2 as_ 0 0 378) hi kn sn ik tx ln it wl Z1.1 Z1.2.1 Z1.2.2.1 Z1.2.2.2.1) 0 0 26 [(1, .int (m_rpA Z0)), (0, .ref (a 0))] [.int (m_rpA Z1)] from ?_)
    refine x_istore_n (lv' := [(1, .int (m_rpA Z1)), (0, .ref (a 0))]) C dX6_bookPlan_26 rfl (by decide) rfl ?_
    refine x_aload_n C 1 rfl dX6_bookPlan_27 rfl ?_
    refine x_get (k := 13) (v := .int Z1.2.2.2.1) C dX6_bookPlan_28 layX6 fl_X6_155 0 rfl rfl (by decide) rfl ?_
    refine x_if_ge (x := Z1.2.2.2.1) (tgt := 43) C dX6_bookPlan_31 (by decide) (fun c2 => ?_) (fun c2 => ?_)
    · refine x_aload_n C 1 rfl dX6_bookPlan_43 rfl ?_
      refine x_callVd (As := []) (rest := []) C dX6_bookPlan_44 (c_X6_recordAside (gX.l X) G a Z1.2.2.2.2 (cpL Z0.2.2.2.2 as_ 0 0 378) hi kn sn ik tx ln it wl Z1.1 Z1.2.1 Z1.2.2.1 Z1.2.2.2.1 (by omega)) ml_X6_129 im_X6_recordAside sl_X6_recordAside in_X6 cd_X6_recordAside hd_X6_recordAside 0 rfl rfl rfl rfl (Nat.le_of_ble_eq_true rfl) ⟨Nat.le_of_ble_eq_true rfl, Nat.le_of_ble_eq_true rfl⟩ (List.take 0 (wM G a Z1.2.2.2.2 (cpL Z0.2.2.2.2 as_ 0 0 378) hi kn sn ik tx ln it wl Z1.1 Z1.2.1 Z1.2.2.1 Z1.2.2.2.1)) (List.drop 8 (wM G a Z1.2.2.2.2 (cpL Z0.2.2.2.2 as_ 0 0 378) hi kn sn ik tx ln it wl Z1.1 Z1.2.1 Z1.2.2.1 Z1.2.2.2.1)) rfl (ws' := (wM G a Z1.2.2.2.2 (cpL Z0.2.2.2.2 as_ 0 0 378) (m_recA Z1.2.2.2.2 (cpL Z0.2.2.2.2 as_ 0 0 378) hi kn) (m_recK kn) sn ik tx ln it wl Z1.1 Z1.2.1 Z1.2.2.1 Z1.2.2.2.1)) rfl (st' := []) rfl ⟨rfl, rfl⟩ ⟨Nat.le_of_ble_eq_true rfl, Nat.le_of_ble_eq_true rfl⟩ ?_
      refine x_aload_n C 1 rfl dX6_bookPlan_47 rfl ?_
      refine x_get (k := 12) (v := .int (nI Z1.2.2.1)) C dX6_bookPlan_48 layX6 fl_X6_152 0 rfl rfl (by decide) rfl ?_
      exact x_iret C hr E dX6_bookPlan_51 (fun _ => 0) (by rw [hQ, m_bpF, if_pos c1, if_neg c2] <;> rfl) (by rw [hQ, m_bpF, if_pos c1, if_neg c2] <;> rfl)
    · refine x_aload_n C 1 rfl dX6_bookPlan_34 rfl ?_
      refine x_callVd (As := []) (rest := []) C dX6_bookPlan_35 (c_X6_putBack (gX.l X) G a Z1.2.2.2.2 (cpL Z0.2.2.2.2 as_ 0 0 378) hi kn sn ik tx ln it wl Z1.1 Z1.2.1 Z1.2.2.1 Z1.2.2.2.1 ) ml_X6_172 im_X6_putBack sl_X6_putBack in_X6 cd_X6_putBack hd_X6_putBack 0 rfl rfl rfl rfl (Nat.le_of_ble_eq_true rfl) ⟨Nat.le_of_ble_eq_true rfl, Nat.le_of_ble_eq_true rfl⟩ (List.take 0 (wM G a Z1.2.2.2.2 (cpL Z0.2.2.2.2 as_ 0 0 378) hi kn sn ik tx ln it wl Z1.1 Z1.2.1 Z1.2.2.1 Z1.2.2.2.1)) (List.drop 8 (wM G a Z1.2.2.2.2 (cpL Z0.2.2.2.2 as_ 0 0 378) hi kn sn ik tx ln it wl Z1.1 Z1.2.1 Z1.2.2.1 Z1.2.2.2.1)) rfl (ws' := (wM G a (cpL (cpL Z0.2.2.2.2 as_ 0 0 378) Z1.2.2.2.2 0 0 378) (cpL Z0.2.2.2.2 as_ 0 0 378) hi kn sn ik tx ln it wl Z1.1 Z1.2.1 Z1.2.2.1 Z1.2.2.2.1)) rfl (st' := []) rfl ⟨rfl, rfl⟩ ⟨Nat.le_of_ble_eq_true rfl, Nat.le_of_ble_eq_true rfl⟩ ?_
      refine x_aload_n C 1 rfl dX6_bookPlan_38 rfl ?_
      refine x_get (k := 13) (v := .int Z1.2.2.2.1) C dX6_bookPlan_39 layX6 fl_X6_155 0 rfl rfl (by decide) rfl ?_
      exact x_iret C hr E dX6_bookPlan_42 (fun _ => 0) (by rw [hQ, m_bpF, if_pos c1, if_pos c2] <;> rfl) (by rw [hQ, m_bpF, if_pos c1, if_pos c2] <;> rfl)
  · refine x_bipush (v := (-100)) C dX6_bookPlan_12 (by decide) ?_
    refine x_iload_n C 0 rfl dX6_bookPlan_14 rfl ?_
    refine x_isub (x := (-100)) (y := (m_rpA Z0)) C dX6_bookPlan_15 ?_
    exact x_iret C hr E dX6_bookPlan_16 (fun _ => 0) (by rw [hQ, m_bpF, if_neg c1] <;> rfl) (by rw [hQ, m_bpF, if_neg c1] <;> rfl)
