/-! ===== an act: refused, or done; what the law's calls want of it ===== -/
theorem act_is {now : c_S} (hI : INV now) (v : Int32) : (∃ r : Int32, r < 0 ∧ ∀ hs nx sz, a_act now hs nx sz v = k_no now hs nx sz r) ∨ (∃ (r : Int32) (q : c_S), ¬ r < 0 ∧ INV q ∧ ∀ hs nx sz, a_act now hs nx sz v = k_act now q hs nx sz r) := sorry
theorem INV_0 : INV i_q := sorry
