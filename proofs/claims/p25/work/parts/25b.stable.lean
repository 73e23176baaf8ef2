def rm_X2_init : Room := { frames := 2, cells := 10, slots := 405, locals := 43 }
set_option maxRecDepth 100000 in
set_option maxHeartbeats 600000 in
theorem c_X2_init (l : Launch) (G : gG) (a : Nat)  : CT l yX2_init cX2_init 2 none rm_X2_init G [.ref a] [(a, .inr (2, [(.int 0), .null, .null, .null, .null, (.int 0), .null, (.int 0)]))] none (fun u => wS G (gCons a u) 0 (i_se 5) (i_ho 10) (i_ri 12) (fun _ => 0) 0 (fun _ => 0) 0) := by
  refine gMet (by decide) (Nat.le_of_ble_eq_true rfl) (fun X hX C hr hin E => ?_)
  clear hX
  refine (show gW G X [(a, .inr (2, [(.int 0), .null, .null, .null, .null, (.int 0), .null, (.int 0)]))] 0 0 0 [(0, .ref a)] [] from ?_)
  refine x_aload_n C 0 rfl dX2_init_0 rfl ?_
  refine x_objI C dX2_init_1 ml_X2_3 (Nat.le_of_ble_eq_true rfl) ⟨Nat.le_of_ble_eq_true rfl, Nat.le_of_ble_eq_true rfl⟩ ?_
  refine x_aload_n C 0 rfl dX2_init_4 rfl ?_
  refine x_new (ci := 3) (fs := [.int 0, .null]) C dX2_init_5 layX3 tyX3 tyX3_ok cl_X2_9 is_X3 in_X3 rfl df_X3 (Nat.le_of_ble_eq_true rfl) (Nat.le_of_ble_eq_true rfl) (fun q1 => ?_)
  refine (show gW G X ([(a, .inr (2, [(.int 0), .null, .null, .null, .null, (.int 0), .null, (.int 0)]))] ++ [(q1, .inr (3, [(.int 0), .null]))]) 1 2 8 [(0, .ref a)] [.ref q1, .ref a] from ?_)
  refine x_dup C rfl dX2_init_8 ?_
  refine x_iconst (v := (nI 1)) C dX2_init_9 (by decide) ?_
  refine x_iconst (v := (nI 5)) C dX2_init_10 (by decide) ?_
  refine x_callI (ret := none) (As := [.int (nI 1), .int (nI 5)]) (rest := [.ref q1, .ref a]) C dX2_init_11 (c_X3_init (gX.l X) G q1 1 5 5 rfl (by decide) (by decide)) ml_X2_11 im_X3_init in_X3 cd_X3_init rfl hd_X3_init rfl rfl (Nat.le_of_ble_eq_true rfl) ⟨Nat.le_of_ble_eq_true rfl, Nat.le_of_ble_eq_true rfl⟩ [(a, .inr (2, [(.int 0), .null, .null, .null, .null, (.int 0), .null, (.int 0)]))] [] rfl ⟨Nat.le_of_ble_eq_true rfl, Nat.le_of_ble_eq_true rfl⟩ (fun u2 => ?_)
  refine (show gW G X ([(a, .inr (2, [(.int 0), .null, .null, .null, .null, (.int 0), .null, (.int 0)]))] ++ (wT G q1 (u2 0) 5 5 (fun _ => 0) ++ [])) 2 7 14 [(0, .ref a)] [.ref q1, .ref a] from ?_)
  refine x_putF (k := 1) (ws' := ([(a, .inr (2, [(.int 0), (.ref q1), .null, .null, .null, (.int 0), .null, (.int 0)]))] ++ (wT G q1 (u2 0) 5 5 (fun _ => 0) ++ []))) C dX2_init_14 layX2 tyX2 tyX2_ok nmX2 fl_X2_14 0 rfl rfl (by decide) rfl hin rfl rfl rfl rfl (Nat.le_of_ble_eq_true rfl) rfl ?_
  refine x_aload_n C 0 rfl dX2_init_17 rfl ?_
  refine x_new (ci := 3) (fs := [.int 0, .null]) C dX2_init_18 layX3 tyX3 tyX3_ok cl_X2_9 is_X3 in_X3 rfl df_X3 (Nat.le_of_ble_eq_true rfl) (Nat.le_of_ble_eq_true rfl) (fun q3 => ?_)
  refine (show gW G X (([(a, .inr (2, [(.int 0), (.ref q1), .null, .null, .null, (.int 0), .null, (.int 0)]))] ++ (wT G q1 (u2 0) 5 5 (fun _ => 0) ++ [])) ++ [(q3, .inr (3, [(.int 0), .null]))]) 3 9 21 [(0, .ref a)] [.ref q3, .ref a] from ?_)
  refine x_dup C rfl dX2_init_21 ?_
  refine x_bipush (v := (nI 9)) C dX2_init_22 (by decide) ?_
  refine x_bipush (v := (nI 10)) C dX2_init_24 (by decide) ?_
  refine x_callI (ret := none) (As := [.int (nI 9), .int (nI 10)]) (rest := [.ref q3, .ref a]) C dX2_init_26 (c_X3_init (gX.l X) G q3 9 10 90 rfl (by decide) (by decide)) ml_X2_11 im_X3_init in_X3 cd_X3_init rfl hd_X3_init rfl rfl (Nat.le_of_ble_eq_true rfl) ⟨Nat.le_of_ble_eq_true rfl, Nat.le_of_ble_eq_true rfl⟩ ([(a, .inr (2, [(.int 0), (.ref q1), .null, .null, .null, (.int 0), .null, (.int 0)]))] ++ (wT G q1 (u2 0) 5 5 (fun _ => 0) ++ [])) [] rfl ⟨Nat.le_of_ble_eq_true rfl, Nat.le_of_ble_eq_true rfl⟩ (fun u4 => ?_)
  refine (show gW G X (([(a, .inr (2, [(.int 0), (.ref q1), .null, .null, .null, (.int 0), .null, (.int 0)]))] ++ (wT G q1 (u2 0) 5 5 (fun _ => 0) ++ [])) ++ (wT G q3 (u4 0) 10 90 (fun _ => 0) ++ [])) 4 99 29 [(0, .ref a)] [.ref q3, .ref a] from ?_)
  refine x_putF (k := 2) (ws' := (([(a, .inr (2, [(.int 0), (.ref q1), (.ref q3), .null, .null, (.int 0), .null, (.int 0)]))] ++ (wT G q1 (u2 0) 5 5 (fun _ => 0) ++ [])) ++ (wT G q3 (u4 0) 10 90 (fun _ => 0) ++ []))) C dX2_init_29 layX2 tyX2 tyX2_ok nmX2 fl_X2_20 0 rfl rfl (by decide) rfl hin rfl rfl rfl rfl (Nat.le_of_ble_eq_true rfl) rfl ?_
  refine x_aload_n C 0 rfl dX2_init_32 rfl ?_
  refine x_new (ci := 3) (fs := [.int 0, .null]) C dX2_init_33 layX3 tyX3 tyX3_ok cl_X2_9 is_X3 in_X3 rfl df_X3 (Nat.le_of_ble_eq_true rfl) (Nat.le_of_ble_eq_true rfl) (fun q5 => ?_)
  refine (show gW G X ((([(a, .inr (2, [(.int 0), (.ref q1), (.ref q3), .null, .null, (.int 0), .null, (.int 0)]))] ++ (wT G q1 (u2 0) 5 5 (fun _ => 0) ++ [])) ++ (wT G q3 (u4 0) 10 90 (fun _ => 0) ++ [])) ++ [(q5, .inr (3, [(.int 0), .null]))]) 5 101 36 [(0, .ref a)] [.ref q5, .ref a] from ?_)
  refine x_dup C rfl dX2_init_36 ?_
  refine x_bipush (v := (nI 10)) C dX2_init_37 (by decide) ?_
  refine x_bipush (v := (nI 12)) C dX2_init_39 (by decide) ?_
  refine x_callI (ret := none) (As := [.int (nI 10), .int (nI 12)]) (rest := [.ref q5, .ref a]) C dX2_init_41 (c_X3_init (gX.l X) G q5 10 12 120 rfl (by decide) (by decide)) ml_X2_11 im_X3_init in_X3 cd_X3_init rfl hd_X3_init rfl rfl (Nat.le_of_ble_eq_true rfl) ⟨Nat.le_of_ble_eq_true rfl, Nat.le_of_ble_eq_true rfl⟩ (([(a, .inr (2, [(.int 0), (.ref q1), (.ref q3), .null, .null, (.int 0), .null, (.int 0)]))] ++ (wT G q1 (u2 0) 5 5 (fun _ => 0) ++ [])) ++ (wT G q3 (u4 0) 10 90 (fun _ => 0) ++ [])) [] rfl ⟨Nat.le_of_ble_eq_true rfl, Nat.le_of_ble_eq_true rfl⟩ (fun u6 => ?_)
  refine (show gW G X ((([(a, .inr (2, [(.int 0), (.ref q1), (.ref q3), .null, .null, (.int 0), .null, (.int 0)]))] ++ (wT G q1 (u2 0) 5 5 (fun _ => 0) ++ [])) ++ (wT G q3 (u4 0) 10 90 (fun _ => 0) ++ [])) ++ (wT G q5 (u6 0) 12 120 (fun _ => 0) ++ [])) 6 221 44 [(0, .ref a)] [.ref q5, .ref a] from ?_)
  refine x_putF (k := 3) (ws' := ((([(a, .inr (2, [(.int 0), (.ref q1), (.ref q3), (.ref q5), .null, (.int 0), .null, (.int 0)]))] ++ (wT G q1 (u2 0) 5 5 (fun _ => 0) ++ [])) ++ (wT G q3 (u4 0) 10 90 (fun _ => 0) ++ [])) ++ (wT G q5 (u6 0) 12 120 (fun _ => 0) ++ []))) C dX2_init_44 layX2 tyX2 tyX2_ok nmX2 fl_X2_23 0 rfl rfl (by decide) rfl hin rfl rfl rfl rfl (Nat.le_of_ble_eq_true rfl) rfl ?_
  refine x_aload_n C 0 rfl dX2_init_47 rfl ?_
  refine x_new (ci := 3) (fs := [.int 0, .null]) C dX2_init_48 layX3 tyX3 tyX3_ok cl_X2_9 is_X3 in_X3 rfl df_X3 (Nat.le_of_ble_eq_true rfl) (Nat.le_of_ble_eq_true rfl) (fun q7 => ?_)
  refine (show gW G X (((([(a, .inr (2, [(.int 0), (.ref q1), (.ref q3), (.ref q5), .null, (.int 0), .null, (.int 0)]))] ++ (wT G q1 (u2 0) 5 5 (fun _ => 0) ++ [])) ++ (wT G q3 (u4 0) 10 90 (fun _ => 0) ++ [])) ++ (wT G q5 (u6 0) 12 120 (fun _ => 0) ++ [])) ++ [(q7, .inr (3, [(.int 0), .null]))]) 7 223 51 [(0, .ref a)] [.ref q7, .ref a] from ?_)
  refine x_dup C rfl dX2_init_51 ?_
  refine x_iconst (v := (nI 3)) C dX2_init_52 (by decide) ?_
  refine x_bipush (v := (nI 40)) C dX2_init_53 (by decide) ?_
  refine x_callI (ret := none) (As := [.int (nI 3), .int (nI 40)]) (rest := [.ref q7, .ref a]) C dX2_init_55 (c_X3_init (gX.l X) G q7 3 40 120 rfl (by decide) (by decide)) ml_X2_11 im_X3_init in_X3 cd_X3_init rfl hd_X3_init rfl rfl (Nat.le_of_ble_eq_true rfl) ⟨Nat.le_of_ble_eq_true rfl, Nat.le_of_ble_eq_true rfl⟩ ((([(a, .inr (2, [(.int 0), (.ref q1), (.ref q3), (.ref q5), .null, (.int 0), .null, (.int 0)]))] ++ (wT G q1 (u2 0) 5 5 (fun _ => 0) ++ [])) ++ (wT G q3 (u4 0) 10 90 (fun _ => 0) ++ [])) ++ (wT G q5 (u6 0) 12 120 (fun _ => 0) ++ [])) [] rfl ⟨Nat.le_of_ble_eq_true rfl, Nat.le_of_ble_eq_true rfl⟩ (fun u8 => ?_)
  refine (show gW G X (((([(a, .inr (2, [(.int 0), (.ref q1), (.ref q3), (.ref q5), .null, (.int 0), .null, (.int 0)]))] ++ (wT G q1 (u2 0) 5 5 (fun _ => 0) ++ [])) ++ (wT G q3 (u4 0) 10 90 (fun _ => 0) ++ [])) ++ (wT G q5 (u6 0) 12 120 (fun _ => 0) ++ [])) ++ (wT G q7 (u8 0) 40 120 (fun _ => 0) ++ [])) 8 343 58 [(0, .ref a)] [.ref q7, .ref a] from ?_)
  refine x_putF (k := 4) (ws' := (((([(a, .inr (2, [(.int 0), (.ref q1), (.ref q3), (.ref q5), (.ref q7), (.int 0), .null, (.int 0)]))] ++ (wT G q1 (u2 0) 5 5 (fun _ => 0) ++ [])) ++ (wT G q3 (u4 0) 10 90 (fun _ => 0) ++ [])) ++ (wT G q5 (u6 0) 12 120 (fun _ => 0) ++ [])) ++ (wT G q7 (u8 0) 40 120 (fun _ => 0) ++ []))) C dX2_init_58 layX2 tyX2 tyX2_ok nmX2 fl_X2_26 0 rfl rfl (by decide) rfl hin rfl rfl rfl rfl (Nat.le_of_ble_eq_true rfl) rfl ?_
  refine x_aload_n C 0 rfl dX2_init_61 rfl ?_
  refine x_new (ci := 3) (fs := [.int 0, .null]) C dX2_init_62 layX3 tyX3 tyX3_ok cl_X2_9 is_X3 in_X3 rfl df_X3 (Nat.le_of_ble_eq_true rfl) (Nat.le_of_ble_eq_true rfl) (fun q9 => ?_)
  refine (show gW G X ((((([(a, .inr (2, [(.int 0), (.ref q1), (.ref q3), (.ref q5), (.ref q7), (.int 0), .null, (.int 0)]))] ++ (wT G q1 (u2 0) 5 5 (fun _ => 0) ++ [])) ++ (wT G q3 (u4 0) 10 90 (fun _ => 0) ++ [])) ++ (wT G q5 (u6 0) 12 120 (fun _ => 0) ++ [])) ++ (wT G q7 (u8 0) 40 120 (fun _ => 0) ++ [])) ++ [(q9, .inr (3, [(.int 0), .null]))]) 9 345 65 [(0, .ref a)] [.ref q9, .ref a] from ?_)
  refine x_dup C rfl dX2_init_65 ?_
  refine x_iconst (v := (nI 3)) C dX2_init_66 (by decide) ?_
  refine x_bipush (v := (nI 20)) C dX2_init_67 (by decide) ?_
  refine x_callI (ret := none) (As := [.int (nI 3), .int (nI 20)]) (rest := [.ref q9, .ref a]) C dX2_init_69 (c_X3_init (gX.l X) G q9 3 20 60 rfl (by decide) (by decide)) ml_X2_11 im_X3_init in_X3 cd_X3_init rfl hd_X3_init rfl rfl (Nat.le_of_ble_eq_true rfl) ⟨Nat.le_of_ble_eq_true rfl, Nat.le_of_ble_eq_true rfl⟩ (((([(a, .inr (2, [(.int 0), (.ref q1), (.ref q3), (.ref q5), (.ref q7), (.int 0), .null, (.int 0)]))] ++ (wT G q1 (u2 0) 5 5 (fun _ => 0) ++ [])) ++ (wT G q3 (u4 0) 10 90 (fun _ => 0) ++ [])) ++ (wT G q5 (u6 0) 12 120 (fun _ => 0) ++ [])) ++ (wT G q7 (u8 0) 40 120 (fun _ => 0) ++ [])) [] rfl ⟨Nat.le_of_ble_eq_true rfl, Nat.le_of_ble_eq_true rfl⟩ (fun u10 => ?_)
  refine (show gW G X ((((([(a, .inr (2, [(.int 0), (.ref q1), (.ref q3), (.ref q5), (.ref q7), (.int 0), .null, (.int 0)]))] ++ (wT G q1 (u2 0) 5 5 (fun _ => 0) ++ [])) ++ (wT G q3 (u4 0) 10 90 (fun _ => 0) ++ [])) ++ (wT G q5 (u6 0) 12 120 (fun _ => 0) ++ [])) ++ (wT G q7 (u8 0) 40 120 (fun _ => 0) ++ [])) ++ (wT G q9 (u10 0) 20 60 (fun _ => 0) ++ [])) 10 405 72 [(0, .ref a)] [.ref q9, .ref a] from ?_)
  refine x_putF (k := 6) (ws' := ((((([(a, .inr (2, [(.int 0), (.ref q1), (.ref q3), (.ref q5), (.ref q7), (.int 0), (.ref q9), (.int 0)]))] ++ (wT G q1 (u2 0) 5 5 (fun _ => 0) ++ [])) ++ (wT G q3 (u4 0) 10 90 (fun _ => 0) ++ [])) ++ (wT G q5 (u6 0) 12 120 (fun _ => 0) ++ [])) ++ (wT G q7 (u8 0) 40 120 (fun _ => 0) ++ [])) ++ (wT G q9 (u10 0) 20 60 (fun _ => 0) ++ []))) C dX2_init_72 layX2 tyX2 tyX2_ok nmX2 fl_X2_29 0 rfl rfl (by decide) rfl hin rfl rfl rfl rfl (Nat.le_of_ble_eq_true rfl) rfl ?_
  refine x_iconst (v := (nI 0)) C dX2_init_75 (by decide) ?_
  refine x_istore_n (lv' := [(1, .int (nI 0)), (0, .ref a)]) C dX2_init_76 rfl (by decide) rfl ?_
  have L11 : ∀ (fu : Nat) (i : Nat) (f : Nat → Int32), i + fu = 5 → (f = i_se i) → gW G X ((((([(a, .inr (2, [(.int 0), (.ref q1), (.ref q3), (.ref q5), (.ref q7), (.int 0), (.ref q9), (.int 0)]))] ++ (wT G q1 (u2 0) 5 5 f ++ [])) ++ (wT G q3 (u4 0) 10 90 (fun _ => 0) ++ [])) ++ (wT G q5 (u6 0) 12 120 (fun _ => 0) ++ [])) ++ (wT G q7 (u8 0) 40 120 (fun _ => 0) ++ [])) ++ (wT G q9 (u10 0) 20 60 (fun _ => 0) ++ [])) 10 405 77 [(1, .int (nI i)), (0, .ref a)] [] := by
    intro fu
    induction fu with
    | zero =>
      intro i f hn hf
      have hf9 : f = i_se 5 := by rw [hf, show i = 5 by omega]
      refine x_iload_n C 0 rfl dX2_init_77 rfl ?_
      refine x_iconst (v := (nI 5)) C dX2_init_78 (by decide) ?_
      refine x_icmp_geN (a := i) (b := 5) (tgt := 104) C dX2_init_79 (by decide) (by omega) (by omega) (fun c12 => ?_) (fun c12 => False.elim (by omega))
      refine x_iconst (v := (nI 0)) C dX2_init_104 (by decide) ?_
      refine x_istore_n (lv' := [(1, .int (nI 0)), (0, .ref a)]) C dX2_init_105 rfl (by decide) rfl ?_
      have L13 : ∀ (fu : Nat) (j : Nat) (g : Nat → Int32), j + fu = 10 → (g = i_ho j) → gW G X ((((([(a, .inr (2, [(.int 0), (.ref q1), (.ref q3), (.ref q5), (.ref q7), (.int 0), (.ref q9), (.int 0)]))] ++ (wT G q1 (u2 0) 5 5 f ++ [])) ++ (wT G q3 (u4 0) 10 90 g ++ [])) ++ (wT G q5 (u6 0) 12 120 (fun _ => 0) ++ [])) ++ (wT G q7 (u8 0) 40 120 (fun _ => 0) ++ [])) ++ (wT G q9 (u10 0) 20 60 (fun _ => 0) ++ [])) 10 405 106 [(1, .int (nI j)), (0, .ref a)] [] := by
        intro fu
        induction fu with
        | zero =>
          intro j g hn hg
          have hg9 : g = i_ho 10 := by rw [hg, show j = 10 by omega]
          refine x_iload_n C 0 rfl dX2_init_106 rfl ?_
          refine x_bipush (v := (nI 10)) C dX2_init_107 (by decide) ?_
          refine x_icmp_geN (a := j) (b := 10) (tgt := 145) C dX2_init_109 (by decide) (by omega) (by omega) (fun c14 => ?_) (fun c14 => False.elim (by omega))
          refine x_iconst (v := (nI 0)) C dX2_init_145 (by decide) ?_
          refine x_istore_n (lv' := [(1, .int (nI 0)), (0, .ref a)]) C dX2_init_146 rfl (by decide) rfl ?_
          have L15 : ∀ (fu : Nat) (k : Nat) (h : Nat → Int32), k + fu = 12 → (h = i_ri k) → gW G X ((((([(a, .inr (2, [(.int 0), (.ref q1), (.ref q3), (.ref q5), (.ref q7), (.int 0), (.ref q9), (.int 0)]))] ++ (wT G q1 (u2 0) 5 5 f ++ [])) ++ (wT G q3 (u4 0) 10 90 g ++ [])) ++ (wT G q5 (u6 0) 12 120 h ++ [])) ++ (wT G q7 (u8 0) 40 120 (fun _ => 0) ++ [])) ++ (wT G q9 (u10 0) 20 60 (fun _ => 0) ++ [])) 10 405 147 [(1, .int (nI k)), (0, .ref a)] [] := by
            intro fu
            induction fu with
            | zero =>
              intro k h hn hh
              have hh9 : h = i_ri 12 := by rw [hh, show k = 12 by omega]
              refine x_iload_n C 0 rfl dX2_init_147 rfl ?_
              refine x_bipush (v := (nI 12)) C dX2_init_148 (by decide) ?_
              refine x_icmp_geN (a := k) (b := 12) (tgt := 197) C dX2_init_150 (by decide) (by omega) (by omega) (fun c16 => ?_) (fun c16 => False.elim (by omega))
              exact x_vret C hr E dX2_init_197 (fun i => ([q1, u2 0, q3, u4 0, q5, u6 0, q7, u8 0, q9, u10 0] : List Nat).getD i 0) (by rw [hf9, hg9, hh9] <;> rfl)
            | succ fu ih =>
              intro k h hn hh
              refine x_iload_n C 0 rfl dX2_init_147 rfl ?_
              refine x_bipush (v := (nI 12)) C dX2_init_148 (by decide) ?_
              refine x_icmp_geN (a := k) (b := 12) (tgt := 197) C dX2_init_150 (by decide) (by omega) (by omega) (fun c17 => False.elim (by omega)) (fun c17 => ?_)
              refine x_aload_n C 1 rfl dX2_init_153 rfl ?_
              refine x_get (k := 3) (v := .ref q5) C dX2_init_154 layX2 fl_X2_23 0 rfl rfl (by decide) rfl ?_
              refine x_iconst (v := (nI 0)) C dX2_init_157 (by decide) ?_
              refine x_iload_n C 0 rfl dX2_init_158 rfl ?_
              refine x_bipush (v := (nI 40)) C dX2_init_159 (by decide) ?_
              refine x_bipush (v := (nI 6)) C dX2_init_161 (by decide) ?_
              refine x_iload_n C 0 rfl dX2_init_163 rfl ?_
              refine x_imulN C dX2_init_164 ?_
              refine x_iaddN C dX2_init_165 ?_
              refine x_callVd (As := [.int (nI 0), .int (nI k), .int (nI (40 + (6 * k)))]) (rest := []) C dX2_init_166 (c_X3_put (gX.l X) G q5 (u6 0) 12 120 h 0 k (0 + k) (nI (40 + (6 * k))) (by omega) (by omega) (by omega) (by omega) (by omega)) ml_X2_40 im_X3_put sl_X3_put in_X3 cd_X3_put hd_X3_put 0 rfl rfl rfl rfl (Nat.le_of_ble_eq_true rfl) ⟨Nat.le_of_ble_eq_true rfl, Nat.le_of_ble_eq_true rfl⟩ (List.take 5 ((((([(a, .inr (2, [(.int 0), (.ref q1), (.ref q3), (.ref q5), (.ref q7), (.int 0), (.ref q9), (.int 0)]))] ++ (wT G q1 (u2 0) 5 5 f ++ [])) ++ (wT G q3 (u4 0) 10 90 g ++ [])) ++ (wT G q5 (u6 0) 12 120 h ++ [])) ++ (wT G q7 (u8 0) 40 120 (fun _ => 0) ++ [])) ++ (wT G q9 (u10 0) 20 60 (fun _ => 0) ++ []))) (List.drop 7 ((((([(a, .inr (2, [(.int 0), (.ref q1), (.ref q3), (.ref q5), (.ref q7), (.int 0), (.ref q9), (.int 0)]))] ++ (wT G q1 (u2 0) 5 5 f ++ [])) ++ (wT G q3 (u4 0) 10 90 g ++ [])) ++ (wT G q5 (u6 0) 12 120 h ++ [])) ++ (wT G q7 (u8 0) 40 120 (fun _ => 0) ++ [])) ++ (wT G q9 (u10 0) 20 60 (fun _ => 0) ++ []))) rfl (ws' := ((((([(a, .inr (2, [(.int 0), (.ref q1), (.ref q3), (.ref q5), (.ref q7), (.int 0), (.ref q9), (.int 0)]))] ++ (wT G q1 (u2 0) 5 5 f ++ [])) ++ (wT G q3 (u4 0) 10 90 g ++ [])) ++ (wT G q5 (u6 0) 12 120 (upd h (0 + k) (nI (40 + (6 * k)))) ++ [])) ++ (wT G q7 (u8 0) 40 120 (fun _ => 0) ++ [])) ++ (wT G q9 (u10 0) 20 60 (fun _ => 0) ++ []))) rfl (st' := []) rfl ⟨rfl, rfl⟩ ⟨Nat.le_of_ble_eq_true rfl, Nat.le_of_ble_eq_true rfl⟩ ?_
              refine x_aload_n C 1 rfl dX2_init_169 rfl ?_
              refine x_get (k := 3) (v := .ref q5) C dX2_init_170 layX2 fl_X2_23 0 rfl rfl (by decide) rfl ?_
              refine x_iconst (v := (nI 1)) C dX2_init_173 (by decide) ?_
              refine x_iload_n C 0 rfl dX2_init_174 rfl ?_
              refine x_iconst (v := (nI 1)) C dX2_init_175 (by decide) ?_
              refine x_callVd (As := [.int (nI 1), .int (nI k), .int (nI 1)]) (rest := []) C dX2_init_176 (c_X3_put (gX.l X) G q5 (u6 0) 12 120 (upd h (0 + k) (nI (40 + (6 * k)))) 1 k (12 + k) 1 (by omega) (by omega) (by omega) (by omega) (by omega)) ml_X2_40 im_X3_put sl_X3_put in_X3 cd_X3_put hd_X3_put 0 rfl rfl rfl rfl (Nat.le_of_ble_eq_true rfl) ⟨Nat.le_of_ble_eq_true rfl, Nat.le_of_ble_eq_true rfl⟩ (List.take 5 ((((([(a, .inr (2, [(.int 0), (.ref q1), (.ref q3), (.ref q5), (.ref q7), (.int 0), (.ref q9), (.int 0)]))] ++ (wT G q1 (u2 0) 5 5 f ++ [])) ++ (wT G q3 (u4 0) 10 90 g ++ [])) ++ (wT G q5 (u6 0) 12 120 (upd h (0 + k) (nI (40 + (6 * k)))) ++ [])) ++ (wT G q7 (u8 0) 40 120 (fun _ => 0) ++ [])) ++ (wT G q9 (u10 0) 20 60 (fun _ => 0) ++ []))) (List.drop 7 ((((([(a, .inr (2, [(.int 0), (.ref q1), (.ref q3), (.ref q5), (.ref q7), (.int 0), (.ref q9), (.int 0)]))] ++ (wT G q1 (u2 0) 5 5 f ++ [])) ++ (wT G q3 (u4 0) 10 90 g ++ [])) ++ (wT G q5 (u6 0) 12 120 (upd h (0 + k) (nI (40 + (6 * k)))) ++ [])) ++ (wT G q7 (u8 0) 40 120 (fun _ => 0) ++ [])) ++ (wT G q9 (u10 0) 20 60 (fun _ => 0) ++ []))) rfl (ws' := ((((([(a, .inr (2, [(.int 0), (.ref q1), (.ref q3), (.ref q5), (.ref q7), (.int 0), (.ref q9), (.int 0)]))] ++ (wT G q1 (u2 0) 5 5 f ++ [])) ++ (wT G q3 (u4 0) 10 90 g ++ [])) ++ (wT G q5 (u6 0) 12 120 (upd (upd h (0 + k) (nI (40 + (6 * k)))) (12 + k) 1) ++ [])) ++ (wT G q7 (u8 0) 40 120 (fun _ => 0) ++ [])) ++ (wT G q9 (u10 0) 20 60 (fun _ => 0) ++ []))) rfl (st' := []) rfl ⟨rfl, rfl⟩ ⟨Nat.le_of_ble_eq_true rfl, Nat.le_of_ble_eq_true rfl⟩ ?_
              refine x_aload_n C 1 rfl dX2_init_179 rfl ?_
              refine x_get (k := 3) (v := .ref q5) C dX2_init_180 layX2 fl_X2_23 0 rfl rfl (by decide) rfl ?_
              refine x_bipush (v := (nI 9)) C dX2_init_183 (by decide) ?_
              refine x_iload_n C 0 rfl dX2_init_185 rfl ?_
              refine x_bipush (v := (-5)) C dX2_init_186 (by decide) ?_
              refine x_callVd (As := [.int (nI 9), .int (nI k), .int (-5)]) (rest := []) C dX2_init_188 (c_X3_put (gX.l X) G q5 (u6 0) 12 120 (upd (upd h (0 + k) (nI (40 + (6 * k)))) (12 + k) 1) 9 k (108 + k) (-5) (by omega) (by omega) (by omega) (by omega) (by omega)) ml_X2_40 im_X3_put sl_X3_put in_X3 cd_X3_put hd_X3_put 0 rfl rfl rfl rfl (Nat.le_of_ble_eq_true rfl) ⟨Nat.le_of_ble_eq_true rfl, Nat.le_of_ble_eq_true rfl⟩ (List.take 5 ((((([(a, .inr (2, [(.int 0), (.ref q1), (.ref q3), (.ref q5), (.ref q7), (.int 0), (.ref q9), (.int 0)]))] ++ (wT G q1 (u2 0) 5 5 f ++ [])) ++ (wT G q3 (u4 0) 10 90 g ++ [])) ++ (wT G q5 (u6 0) 12 120 (upd (upd h (0 + k) (nI (40 + (6 * k)))) (12 + k) 1) ++ [])) ++ (wT G q7 (u8 0) 40 120 (fun _ => 0) ++ [])) ++ (wT G q9 (u10 0) 20 60 (fun _ => 0) ++ []))) (List.drop 7 ((((([(a, .inr (2, [(.int 0), (.ref q1), (.ref q3), (.ref q5), (.ref q7), (.int 0), (.ref q9), (.int 0)]))] ++ (wT G q1 (u2 0) 5 5 f ++ [])) ++ (wT G q3 (u4 0) 10 90 g ++ [])) ++ (wT G q5 (u6 0) 12 120 (upd (upd h (0 + k) (nI (40 + (6 * k)))) (12 + k) 1) ++ [])) ++ (wT G q7 (u8 0) 40 120 (fun _ => 0) ++ [])) ++ (wT G q9 (u10 0) 20 60 (fun _ => 0) ++ []))) rfl (ws' := ((((([(a, .inr (2, [(.int 0), (.ref q1), (.ref q3), (.ref q5), (.ref q7), (.int 0), (.ref q9), (.int 0)]))] ++ (wT G q1 (u2 0) 5 5 f ++ [])) ++ (wT G q3 (u4 0) 10 90 g ++ [])) ++ (wT G q5 (u6 0) 12 120 (upd (upd (upd h (0 + k) (nI (40 + (6 * k)))) (12 + k) 1) (108 + k) (-5)) ++ [])) ++ (wT G q7 (u8 0) 40 120 (fun _ => 0) ++ [])) ++ (wT G q9 (u10 0) 20 60 (fun _ => 0) ++ []))) rfl (st' := []) rfl ⟨rfl, rfl⟩ ⟨Nat.le_of_ble_eq_true rfl, Nat.le_of_ble_eq_true rfl⟩ ?_
              refine x_iinc (v := (nI (k + 1))) (lv' := [(1, .int (nI (k + 1))), (0, .ref a)]) C 0 rfl dX2_init_191 (by rw [show Int32.ofInt 1 = nI 1 from rfl]; exact nI_add _ _) (by decide) rfl ?_
              refine x_goto (tgt := 147) C dX2_init_194 (by decide) ?_
              exact ih (k + 1) (upd (upd (upd h (0 + k) (nI (40 + (6 * k)))) (12 + k) 1) (108 + k) (-5)) (by omega) (by rw [hh]; simp only [Nat.zero_add]; rfl)
          exact L15 12 0 (fun _ => 0) (by omega) (by rfl)
        | succ fu ih =>
          intro j g hn hg
          refine x_iload_n C 0 rfl dX2_init_106 rfl ?_
          refine x_bipush (v := (nI 10)) C dX2_init_107 (by decide) ?_
          refine x_icmp_geN (a := j) (b := 10) (tgt := 145) C dX2_init_109 (by decide) (by omega) (by omega) (fun c18 => False.elim (by omega)) (fun c18 => ?_)
          refine x_aload_n C 1 rfl dX2_init_112 rfl ?_
          refine x_get (k := 2) (v := .ref q3) C dX2_init_113 layX2 fl_X2_20 0 rfl rfl (by decide) rfl ?_
          refine x_iconst (v := (nI 0)) C dX2_init_116 (by decide) ?_
          refine x_iload_n C 0 rfl dX2_init_117 rfl ?_
          refine x_bipush (v := (nI 80)) C dX2_init_118 (by decide) ?_
          refine x_iconst (v := (nI 5)) C dX2_init_120 (by decide) ?_
          refine x_iload_n C 0 rfl dX2_init_121 rfl ?_
          refine x_imulN C dX2_init_122 ?_
          refine x_iaddN C dX2_init_123 ?_
          refine x_callVd (As := [.int (nI 0), .int (nI j), .int (nI (80 + (5 * j)))]) (rest := []) C dX2_init_124 (c_X3_put (gX.l X) G q3 (u4 0) 10 90 g 0 j (0 + j) (nI (80 + (5 * j))) (by omega) (by omega) (by omega) (by omega) (by omega)) ml_X2_40 im_X3_put sl_X3_put in_X3 cd_X3_put hd_X3_put 0 rfl rfl rfl rfl (Nat.le_of_ble_eq_true rfl) ⟨Nat.le_of_ble_eq_true rfl, Nat.le_of_ble_eq_true rfl⟩ (List.take 3 ((((([(a, .inr (2, [(.int 0), (.ref q1), (.ref q3), (.ref q5), (.ref q7), (.int 0), (.ref q9), (.int 0)]))] ++ (wT G q1 (u2 0) 5 5 f ++ [])) ++ (wT G q3 (u4 0) 10 90 g ++ [])) ++ (wT G q5 (u6 0) 12 120 (fun _ => 0) ++ [])) ++ (wT G q7 (u8 0) 40 120 (fun _ => 0) ++ [])) ++ (wT G q9 (u10 0) 20 60 (fun _ => 0) ++ []))) (List.drop 5 ((((([(a, .inr (2, [(.int 0), (.ref q1), (.ref q3), (.ref q5), (.ref q7), (.int 0), (.ref q9), (.int 0)]))] ++ (wT G q1 (u2 0) 5 5 f ++ [])) ++ (wT G q3 (u4 0) 10 90 g ++ [])) ++ (wT G q5 (u6 0) 12 120 (fun _ => 0) ++ [])) ++ (wT G q7 (u8 0) 40 120 (fun _ => 0) ++ [])) ++ (wT G q9 (u10 0) 20 60 (fun _ => 0) ++ []))) rfl (ws' := ((((([(a, .inr (2, [(.int 0), (.ref q1), (.ref q3), (.ref q5), (.ref q7), (.int 0), (.ref q9), (.int 0)]))] ++ (wT G q1 (u2 0) 5 5 f ++ [])) ++ (wT G q3 (u4 0) 10 90 (upd g (0 + j) (nI (80 + (5 * j)))) ++ [])) ++ (wT G q5 (u6 0) 12 120 (fun _ => 0) ++ [])) ++ (wT G q7 (u8 0) 40 120 (fun _ => 0) ++ [])) ++ (wT G q9 (u10 0) 20 60 (fun _ => 0) ++ []))) rfl (st' := []) rfl ⟨rfl, rfl⟩ ⟨Nat.le_of_ble_eq_true rfl, Nat.le_of_ble_eq_true rfl⟩ ?_
          refine x_aload_n C 1 rfl dX2_init_127 rfl ?_
          refine x_get (k := 2) (v := .ref q3) C dX2_init_128 layX2 fl_X2_20 0 rfl rfl (by decide) rfl ?_
          refine x_iconst (v := (nI 1)) C dX2_init_131 (by decide) ?_
          refine x_iload_n C 0 rfl dX2_init_132 rfl ?_
          refine x_iload_n C 0 rfl dX2_init_133 rfl ?_
          refine x_iconst (v := (nI 4)) C dX2_init_134 (by decide) ?_
          refine x_iremN C dX2_init_135 (by omega) (by omega) (by omega) ?_
          refine x_callVd (As := [.int (nI 1), .int (nI j), .int (nI (j % 4))]) (rest := []) C dX2_init_136 (c_X3_put (gX.l X) G q3 (u4 0) 10 90 (upd g (0 + j) (nI (80 + (5 * j)))) 1 j (10 + j) (nI (j % 4)) (by omega) (by omega) (by omega) (by omega) (by omega)) ml_X2_40 im_X3_put sl_X3_put in_X3 cd_X3_put hd_X3_put 0 rfl rfl rfl rfl (Nat.le_of_ble_eq_true rfl) ⟨Nat.le_of_ble_eq_true rfl, Nat.le_of_ble_eq_true rfl⟩ (List.take 3 ((((([(a, .inr (2, [(.int 0), (.ref q1), (.ref q3), (.ref q5), (.ref q7), (.int 0), (.ref q9), (.int 0)]))] ++ (wT G q1 (u2 0) 5 5 f ++ [])) ++ (wT G q3 (u4 0) 10 90 (upd g (0 + j) (nI (80 + (5 * j)))) ++ [])) ++ (wT G q5 (u6 0) 12 120 (fun _ => 0) ++ [])) ++ (wT G q7 (u8 0) 40 120 (fun _ => 0) ++ [])) ++ (wT G q9 (u10 0) 20 60 (fun _ => 0) ++ []))) (List.drop 5 ((((([(a, .inr (2, [(.int 0), (.ref q1), (.ref q3), (.ref q5), (.ref q7), (.int 0), (.ref q9), (.int 0)]))] ++ (wT G q1 (u2 0) 5 5 f ++ [])) ++ (wT G q3 (u4 0) 10 90 (upd g (0 + j) (nI (80 + (5 * j)))) ++ [])) ++ (wT G q5 (u6 0) 12 120 (fun _ => 0) ++ [])) ++ (wT G q7 (u8 0) 40 120 (fun _ => 0) ++ [])) ++ (wT G q9 (u10 0) 20 60 (fun _ => 0) ++ []))) rfl (ws' := ((((([(a, .inr (2, [(.int 0), (.ref q1), (.ref q3), (.ref q5), (.ref q7), (.int 0), (.ref q9), (.int 0)]))] ++ (wT G q1 (u2 0) 5 5 f ++ [])) ++ (wT G q3 (u4 0) 10 90 (upd (upd g (0 + j) (nI (80 + (5 * j)))) (10 + j) (nI (j % 4))) ++ [])) ++ (wT G q5 (u6 0) 12 120 (fun _ => 0) ++ [])) ++ (wT G q7 (u8 0) 40 120 (fun _ => 0) ++ [])) ++ (wT G q9 (u10 0) 20 60 (fun _ => 0) ++ []))) rfl (st' := []) rfl ⟨rfl, rfl⟩ ⟨Nat.le_of_ble_eq_true rfl, Nat.le_of_ble_eq_true rfl⟩ ?_
          refine x_iinc (v := (nI (j + 1))) (lv' := [(1, .int (nI (j + 1))), (0, .ref a)]) C 0 rfl dX2_init_139 (by rw [show Int32.ofInt 1 = nI 1 from rfl]; exact nI_add _ _) (by decide) rfl ?_
          refine x_goto (tgt := 106) C dX2_init_142 (by decide) ?_
          exact ih (j + 1) (upd (upd g (0 + j) (nI (80 + (5 * j)))) (10 + j) (nI (j % 4))) (by omega) (by rw [hg]; simp only [Nat.zero_add]; rfl)
      exact L13 10 0 (fun _ => 0) (by omega) (by rfl)
    | succ fu ih =>
      intro i f hn hf
      refine x_iload_n C 0 rfl dX2_init_77 rfl ?_
      refine x_iconst (v := (nI 5)) C dX2_init_78 (by decide) ?_
      refine x_icmp_geN (a := i) (b := 5) (tgt := 104) C dX2_init_79 (by decide) (by omega) (by omega) (fun c19 => False.elim (by omega)) (fun c19 => ?_)
      refine x_aload_n C 1 rfl dX2_init_82 rfl ?_
      refine x_get (k := 1) (v := .ref q1) C dX2_init_83 layX2 fl_X2_14 0 rfl rfl (by decide) rfl ?_
      refine x_iconst (v := (nI 0)) C dX2_init_86 (by decide) ?_
      refine x_iload_n C 0 rfl dX2_init_87 rfl ?_
      refine x_getsN3 C dX2_init_88 rfl ?_
      refine x_iload_n C 0 rfl dX2_init_91 rfl ?_
      refine x_callSNd (As := [.ref (G.2.2 3), .int (nI i)]) (rest := [.int (nI i), .int (nI 0), .ref q1]) C dX2_init_92 (c_X5_entry3 (gX.l X) G i (by omega)) C.2.2.2.2.2.2.1.2.2.2.2.2.1 st_X5_entry in_X5 cd_X5_entry hd_X5_entry rfl rfl (Nat.le_of_ble_eq_true rfl) ⟨Nat.le_of_ble_eq_true rfl, Nat.le_of_ble_eq_true rfl⟩ [] ((((([(a, .inr (2, [(.int 0), (.ref q1), (.ref q3), (.ref q5), (.ref q7), (.int 0), (.ref q9), (.int 0)]))] ++ (wT G q1 (u2 0) 5 5 f ++ [])) ++ (wT G q3 (u4 0) 10 90 (fun _ => 0) ++ [])) ++ (wT G q5 (u6 0) 12 120 (fun _ => 0) ++ [])) ++ (wT G q7 (u8 0) 40 120 (fun _ => 0) ++ [])) ++ (wT G q9 (u10 0) 20 60 (fun _ => 0) ++ [])) rfl (ws' := ((((([(a, .inr (2, [(.int 0), (.ref q1), (.ref q3), (.ref q5), (.ref q7), (.int 0), (.ref q9), (.int 0)]))] ++ (wT G q1 (u2 0) 5 5 f ++ [])) ++ (wT G q3 (u4 0) 10 90 (fun _ => 0) ++ [])) ++ (wT G q5 (u6 0) 12 120 (fun _ => 0) ++ [])) ++ (wT G q7 (u8 0) 40 120 (fun _ => 0) ++ [])) ++ (wT G q9 (u10 0) 20 60 (fun _ => 0) ++ []))) rfl (st' := [.int (sT 3 i), .int (nI i), .int (nI 0), .ref q1]) rfl ⟨rfl, rfl⟩ ⟨Nat.le_of_ble_eq_true rfl, Nat.le_of_ble_eq_true rfl⟩ ?_
      refine x_callVd (As := [.int (nI 0), .int (nI i), .int (sT 3 i)]) (rest := []) C dX2_init_95 (c_X3_put (gX.l X) G q1 (u2 0) 5 5 f 0 i (0 + i) (sT 3 i) (by omega) (by omega) (by omega) (by omega) (by omega)) ml_X2_40 im_X3_put sl_X3_put in_X3 cd_X3_put hd_X3_put 0 rfl rfl rfl rfl (Nat.le_of_ble_eq_true rfl) ⟨Nat.le_of_ble_eq_true rfl, Nat.le_of_ble_eq_true rfl⟩ (List.take 1 ((((([(a, .inr (2, [(.int 0), (.ref q1), (.ref q3), (.ref q5), (.ref q7), (.int 0), (.ref q9), (.int 0)]))] ++ (wT G q1 (u2 0) 5 5 f ++ [])) ++ (wT G q3 (u4 0) 10 90 (fun _ => 0) ++ [])) ++ (wT G q5 (u6 0) 12 120 (fun _ => 0) ++ [])) ++ (wT G q7 (u8 0) 40 120 (fun _ => 0) ++ [])) ++ (wT G q9 (u10 0) 20 60 (fun _ => 0) ++ []))) (List.drop 3 ((((([(a, .inr (2, [(.int 0), (.ref q1), (.ref q3), (.ref q5), (.ref q7), (.int 0), (.ref q9), (.int 0)]))] ++ (wT G q1 (u2 0) 5 5 f ++ [])) ++ (wT G q3 (u4 0) 10 90 (fun _ => 0) ++ [])) ++ (wT G q5 (u6 0) 12 120 (fun _ => 0) ++ [])) ++ (wT G q7 (u8 0) 40 120 (fun _ => 0) ++ [])) ++ (wT G q9 (u10 0) 20 60 (fun _ => 0) ++ []))) rfl (ws' := ((((([(a, .inr (2, [(.int 0), (.ref q1), (.ref q3), (.ref q5), (.ref q7), (.int 0), (.ref q9), (.int 0)]))] ++ (wT G q1 (u2 0) 5 5 (upd f (0 + i) (sT 3 i)) ++ [])) ++ (wT G q3 (u4 0) 10 90 (fun _ => 0) ++ [])) ++ (wT G q5 (u6 0) 12 120 (fun _ => 0) ++ [])) ++ (wT G q7 (u8 0) 40 120 (fun _ => 0) ++ [])) ++ (wT G q9 (u10 0) 20 60 (fun _ => 0) ++ []))) rfl (st' := []) rfl ⟨rfl, rfl⟩ ⟨Nat.le_of_ble_eq_true rfl, Nat.le_of_ble_eq_true rfl⟩ ?_
      refine x_iinc (v := (nI (i + 1))) (lv' := [(1, .int (nI (i + 1))), (0, .ref a)]) C 0 rfl dX2_init_98 (by rw [show Int32.ofInt 1 = nI 1 from rfl]; exact nI_add _ _) (by decide) rfl ?_
      refine x_goto (tgt := 77) C dX2_init_101 (by decide) ?_
      exact ih (i + 1) (upd f (0 + i) (sT 3 i)) (by omega) (by rw [hf]; simp only [Nat.zero_add]; rfl)
  exact L11 5 0 (fun _ => 0) (by omega) (by rfl)
