/-! ===== views of the reference's row: the class's tables out of it ===== -/
def HO (s : Nat → Int32) (j : Nat) : Int32 := if j < 90 then s (9 * (j % 10) + 1 + j / 10) else 0
def riK (w : Nat) : Nat := if w < 3 then w else if w < 8 then w - 1 else 7
def RI (s : Nat → Int32) (j : Nat) : Int32 := if j < 120 then (if j / 12 = 3 ∨ j / 12 = 8 then 0 else s (8 * (j % 12) + 91 + riK (j / 12))) else 0
def SE (s : Nat → Int32) (j : Nat) : Int32 := if j < 5 then s (187 + j) else 0
theorem HO_cg {s t : Nat → Int32} (h : ∀ k, 1 ≤ k → k < 91 → s k = t k) : HO s = HO t := by
  funext j
  unfold HO
  by_cases e : j < 90
  · rw [if_pos e, if_pos e, h _ (by omega) (by omega)]
  · rw [if_neg e, if_neg e]
theorem HO_o {s : Nat → Int32} {k : Nat} {v : Int32} (h : k = 0 ∨ 91 ≤ k) : HO (upd s k v) = HO s := HO_cg fun q h1 h2 => pk_un (by omega)
theorem HO_u {s : Nat → Int32} {k : Nat} {v : Int32} (w h : Nat) (hw : w < 9) (hh : h < 10) (hk : k = 9 * h + 1 + w) {i : Nat} (hi : i = 10 * w + h) : HO (upd s k v) = upd (HO s) i v := by
  funext j
  unfold HO
  by_cases e : j < 90
  · rw [if_pos e]
    by_cases e2 : j = i
    · subst e2
      rw [pk_us, show 9 * (j % 10) + 1 + j / 10 = k by omega, pk_us]
    · rw [pk_un e2, pk_un (by omega), if_pos e]
  · rw [if_neg e, pk_un (by omega), if_neg e]
theorem riK_le (w : Nat) (h : w < 10) : riK w ≤ 7 := by unfold riK; split <;> (try split) <;> omega
theorem riK_inj {w x : Nat} (hw : w < 10) (hx : x < 10) (h3 : w ≠ 3 ∧ w ≠ 8) (h4 : x ≠ 3 ∧ x ≠ 8) (e : riK w = riK x) : w = x := by
  have := (by decide : ∀ w, w < 10 → ∀ x, x < 10 → (w = 3 ∨ w = 8 ∨ x = 3 ∨ x = 8 ∨ riK w ≠ riK x ∨ w = x)) w hw x hx
  omega
theorem RI_cg {s t : Nat → Int32} (h : ∀ k, 91 ≤ k → k < 187 → s k = t k) : RI s = RI t := by
  funext j
  unfold RI
  by_cases e : j < 120
  · rw [if_pos e, if_pos e]
    have := riK_le (j / 12) (by omega)
    rw [h (8 * (j % 12) + 91 + riK (j / 12)) (by omega) (by omega)]
  · rw [if_neg e, if_neg e]
theorem RI_o {s : Nat → Int32} {k : Nat} {v : Int32} (h : k < 91 ∨ 187 ≤ k) : RI (upd s k v) = RI s := RI_cg fun q h1 h2 => pk_un (by omega)
theorem RI_u {s : Nat → Int32} {k : Nat} {v : Int32} (w r : Nat) (hw : w < 10) (h3 : w ≠ 3 ∧ w ≠ 8) (hr : r < 12) (hk : k = 8 * r + 91 + riK w) {i : Nat} (hi : i = 12 * w + r) : RI (upd s k v) = upd (RI s) i v := by
  have hl := riK_le w hw
  funext j
  unfold RI
  by_cases e : j < 120
  · rw [if_pos e]
    by_cases e2 : j = i
    · subst e2
      rw [pk_us, if_neg (by omega), show j / 12 = w by omega, show 8 * (j % 12) + 91 + riK w = k by omega, pk_us]
    · rw [pk_un e2, if_pos e]
      by_cases e3 : j / 12 = 3 ∨ j / 12 = 8
      · rw [if_pos e3, if_pos e3]
      · have hl2 := riK_le (j / 12) (by omega)
        rw [if_neg e3, if_neg e3, pk_un (fun e4 => by
          have e5 : riK (j / 12) = riK w ∧ j % 12 = r := by omega
          have e6 := riK_inj (w := j / 12) (x := w) (by omega) hw (by omega) h3 e5.1
          omega)]
  · rw [if_neg e, pk_un (by omega), if_neg e]
theorem SE_cg {s t : Nat → Int32} (h : ∀ k, 187 ≤ k → k < 192 → s k = t k) : SE s = SE t := by
  funext j
  unfold SE
  by_cases e : j < 5
  · rw [if_pos e, if_pos e, h _ (by omega) (by omega)]
  · rw [if_neg e, if_neg e]
theorem SE_o {s : Nat → Int32} {k : Nat} {v : Int32} (h : k < 187 ∨ 192 ≤ k) : SE (upd s k v) = SE s := SE_cg fun q h1 h2 => pk_un (by omega)
theorem SE_u {s : Nat → Int32} {k : Nat} {v : Int32} (hk : k < 5) : SE (upd s (187 + k) v) = upd (SE s) k v := by
  funext j
  unfold SE
  by_cases e : j < 5
  · rw [if_pos e]
    by_cases e2 : j = k
    · subst e2
      rw [pk_us, pk_us]
    · rw [pk_un e2, pk_un (by omega), if_pos e]
  · rw [if_neg e, pk_un (by omega), if_neg e]
theorem SE_at {s : Nat → Int32} {k : Nat} (hk : k < 5) : SE s k = s (187 + k) := if_pos hk
theorem HO_0 {s : Nat → Int32} {h : Nat} (hh : h < 10) : HO s (h) = s (9 * h + 1) := by
  unfold HO
  rw [if_pos (by omega)]
  congr 1
  omega
theorem HO_u0 {s : Nat → Int32} {h : Nat} {v : Int32} (hh : h < 10) : HO (upd s (9 * h + 1) v) = upd (HO s) (h) v := HO_u 0 h (by omega) hh (by omega) (by omega)
theorem HO_10 {s : Nat → Int32} {h : Nat} (hh : h < 10) : HO s (10 + h) = s (9 * h + 2) := by
  unfold HO
  rw [if_pos (by omega)]
  congr 1
  omega
theorem HO_u10 {s : Nat → Int32} {h : Nat} {v : Int32} (hh : h < 10) : HO (upd s (9 * h + 2) v) = upd (HO s) (10 + h) v := HO_u 1 h (by omega) hh (by omega) (by omega)
theorem HO_20 {s : Nat → Int32} {h : Nat} (hh : h < 10) : HO s (20 + h) = s (9 * h + 3) := by
  unfold HO
  rw [if_pos (by omega)]
  congr 1
  omega
theorem HO_u20 {s : Nat → Int32} {h : Nat} {v : Int32} (hh : h < 10) : HO (upd s (9 * h + 3) v) = upd (HO s) (20 + h) v := HO_u 2 h (by omega) hh (by omega) (by omega)
theorem HO_30 {s : Nat → Int32} {h : Nat} (hh : h < 10) : HO s (30 + h) = s (9 * h + 4) := by
  unfold HO
  rw [if_pos (by omega)]
  congr 1
  omega
theorem HO_u30 {s : Nat → Int32} {h : Nat} {v : Int32} (hh : h < 10) : HO (upd s (9 * h + 4) v) = upd (HO s) (30 + h) v := HO_u 3 h (by omega) hh (by omega) (by omega)
theorem HO_40 {s : Nat → Int32} {h : Nat} (hh : h < 10) : HO s (40 + h) = s (9 * h + 5) := by
  unfold HO
  rw [if_pos (by omega)]
  congr 1
  omega
theorem HO_u40 {s : Nat → Int32} {h : Nat} {v : Int32} (hh : h < 10) : HO (upd s (9 * h + 5) v) = upd (HO s) (40 + h) v := HO_u 4 h (by omega) hh (by omega) (by omega)
theorem HO_50 {s : Nat → Int32} {h : Nat} (hh : h < 10) : HO s (50 + h) = s (9 * h + 6) := by
  unfold HO
  rw [if_pos (by omega)]
  congr 1
  omega
theorem HO_u50 {s : Nat → Int32} {h : Nat} {v : Int32} (hh : h < 10) : HO (upd s (9 * h + 6) v) = upd (HO s) (50 + h) v := HO_u 5 h (by omega) hh (by omega) (by omega)
theorem HO_60 {s : Nat → Int32} {h : Nat} (hh : h < 10) : HO s (60 + h) = s (9 * h + 7) := by
  unfold HO
  rw [if_pos (by omega)]
  congr 1
  omega
theorem HO_u60 {s : Nat → Int32} {h : Nat} {v : Int32} (hh : h < 10) : HO (upd s (9 * h + 7) v) = upd (HO s) (60 + h) v := HO_u 6 h (by omega) hh (by omega) (by omega)
theorem HO_70 {s : Nat → Int32} {h : Nat} (hh : h < 10) : HO s (70 + h) = s (9 * h + 8) := by
  unfold HO
  rw [if_pos (by omega)]
  congr 1
  omega
theorem HO_u70 {s : Nat → Int32} {h : Nat} {v : Int32} (hh : h < 10) : HO (upd s (9 * h + 8) v) = upd (HO s) (70 + h) v := HO_u 7 h (by omega) hh (by omega) (by omega)
theorem HO_80 {s : Nat → Int32} {h : Nat} (hh : h < 10) : HO s (80 + h) = s (9 * h + 9) := by
  unfold HO
  rw [if_pos (by omega)]
  congr 1
  omega
theorem HO_u80 {s : Nat → Int32} {h : Nat} {v : Int32} (hh : h < 10) : HO (upd s (9 * h + 9) v) = upd (HO s) (80 + h) v := HO_u 8 h (by omega) hh (by omega) (by omega)
theorem RI_0 {s : Nat → Int32} {r : Nat} (hr : r < 12) : RI s (r) = s (8 * r + 91) := by
  unfold RI
  rw [if_pos (by omega), if_neg (by omega), show (r) / 12 = 0 by omega, show (r) % 12 = r by omega]
  rfl
theorem RI_u0 {s : Nat → Int32} {r : Nat} {v : Int32} (hr : r < 12) : RI (upd s (8 * r + 91) v) = upd (RI s) (r) v := RI_u 0 r (by omega) (by omega) hr rfl (by omega)
theorem RI_12 {s : Nat → Int32} {r : Nat} (hr : r < 12) : RI s (12 + r) = s (8 * r + 92) := by
  unfold RI
  rw [if_pos (by omega), if_neg (by omega), show (12 + r) / 12 = 1 by omega, show (12 + r) % 12 = r by omega]
  rfl
theorem RI_u12 {s : Nat → Int32} {r : Nat} {v : Int32} (hr : r < 12) : RI (upd s (8 * r + 92) v) = upd (RI s) (12 + r) v := RI_u 1 r (by omega) (by omega) hr rfl (by omega)
theorem RI_24 {s : Nat → Int32} {r : Nat} (hr : r < 12) : RI s (24 + r) = s (8 * r + 93) := by
  unfold RI
  rw [if_pos (by omega), if_neg (by omega), show (24 + r) / 12 = 2 by omega, show (24 + r) % 12 = r by omega]
  rfl
theorem RI_u24 {s : Nat → Int32} {r : Nat} {v : Int32} (hr : r < 12) : RI (upd s (8 * r + 93) v) = upd (RI s) (24 + r) v := RI_u 2 r (by omega) (by omega) hr rfl (by omega)
theorem RI_48 {s : Nat → Int32} {r : Nat} (hr : r < 12) : RI s (48 + r) = s (8 * r + 94) := by
  unfold RI
  rw [if_pos (by omega), if_neg (by omega), show (48 + r) / 12 = 4 by omega, show (48 + r) % 12 = r by omega]
  rfl
theorem RI_u48 {s : Nat → Int32} {r : Nat} {v : Int32} (hr : r < 12) : RI (upd s (8 * r + 94) v) = upd (RI s) (48 + r) v := RI_u 4 r (by omega) (by omega) hr rfl (by omega)
theorem RI_60 {s : Nat → Int32} {r : Nat} (hr : r < 12) : RI s (60 + r) = s (8 * r + 95) := by
  unfold RI
  rw [if_pos (by omega), if_neg (by omega), show (60 + r) / 12 = 5 by omega, show (60 + r) % 12 = r by omega]
  rfl
theorem RI_u60 {s : Nat → Int32} {r : Nat} {v : Int32} (hr : r < 12) : RI (upd s (8 * r + 95) v) = upd (RI s) (60 + r) v := RI_u 5 r (by omega) (by omega) hr rfl (by omega)
theorem RI_72 {s : Nat → Int32} {r : Nat} (hr : r < 12) : RI s (72 + r) = s (8 * r + 96) := by
  unfold RI
  rw [if_pos (by omega), if_neg (by omega), show (72 + r) / 12 = 6 by omega, show (72 + r) % 12 = r by omega]
  rfl
theorem RI_u72 {s : Nat → Int32} {r : Nat} {v : Int32} (hr : r < 12) : RI (upd s (8 * r + 96) v) = upd (RI s) (72 + r) v := RI_u 6 r (by omega) (by omega) hr rfl (by omega)
theorem RI_84 {s : Nat → Int32} {r : Nat} (hr : r < 12) : RI s (84 + r) = s (8 * r + 97) := by
  unfold RI
  rw [if_pos (by omega), if_neg (by omega), show (84 + r) / 12 = 7 by omega, show (84 + r) % 12 = r by omega]
  rfl
theorem RI_u84 {s : Nat → Int32} {r : Nat} {v : Int32} (hr : r < 12) : RI (upd s (8 * r + 97) v) = upd (RI s) (84 + r) v := RI_u 7 r (by omega) (by omega) hr rfl (by omega)
theorem RI_108 {s : Nat → Int32} {r : Nat} (hr : r < 12) : RI s (108 + r) = s (8 * r + 98) := by
  unfold RI
  rw [if_pos (by omega), if_neg (by omega), show (108 + r) / 12 = 9 by omega, show (108 + r) % 12 = r by omega]
  rfl
theorem RI_u108 {s : Nat → Int32} {r : Nat} {v : Int32} (hr : r < 12) : RI (upd s (8 * r + 98) v) = upd (RI s) (108 + r) v := RI_u 9 r (by omega) (by omega) hr rfl (by omega)
def IV (N : Nat) (s : Nat → Int32) : Prop := (∀ h, h < 10 → okV N (s (9 * h + 3)) ∧ okV 3 (s (9 * h + 5)) ∧ okV 100 (s (9 * h + 6))) ∧ (∀ r, r < 12 → okV 10 (s (8 * r + 92)) ∧ okV 10 (s (8 * r + 93))) ∧ okV 100 (s 190) ∧ okV 10 (s 191) ∧ 0 < s 191
theorem IV_cg {N : Nat} {s t : Nat → Int32} (h : ∀ k, 1 ≤ k → k < 192 → t k = s k) (H : IV N s) : IV N t := by
  refine ⟨fun q hq => ?_, fun q hq => ?_, ?_⟩
  · rw [h (9 * q + 3) (by omega) (by omega), h (9 * q + 5) (by omega) (by omega), h (9 * q + 6) (by omega) (by omega)]
    exact H.1 q hq
  · rw [h (8 * q + 92) (by omega) (by omega), h (8 * q + 93) (by omega) (by omega)]
    exact H.2.1 q hq
  · rw [h 190 (by omega) (by omega), h 191 (by omega) (by omega)]
    exact H.2.2
theorem IV_mono {N M : Nat} {s : Nat → Int32} (h : N ≤ M) (H : IV N s) : IV M s := ⟨fun q hq => ⟨n_mono (H.1 q hq).1 h, (H.1 q hq).2⟩, H.2⟩
theorem IV_u {N : Nat} {s : Nat → Int32} {k : Nat} {v : Int32} (H : IV N s) (a : ∀ h, h < 10 → k = 9 * h + 3 → okV N v) (b : ∀ h, h < 10 → k = 9 * h + 5 → okV 3 v) (c : ∀ h, h < 10 → k = 9 * h + 6 → okV 100 v) (d : ∀ r, r < 12 → (k = 8 * r + 92 ∨ k = 8 * r + 93) → okV 10 v) (e : k ≠ 190 ∧ k ≠ 191) : IV N (upd s k v) := by
  refine ⟨fun q hq => ⟨?_, ?_, ?_⟩, fun q hq => ⟨?_, ?_⟩, ?_⟩
  · by_cases f : 9 * q + 3 = k
    · rw [f, pk_us]; exact a q hq f.symm
    · rw [pk_un f]; exact (H.1 q hq).1
  · by_cases f : 9 * q + 5 = k
    · rw [f, pk_us]; exact b q hq f.symm
    · rw [pk_un f]; exact (H.1 q hq).2.1
  · by_cases f : 9 * q + 6 = k
    · rw [f, pk_us]; exact c q hq f.symm
    · rw [pk_un f]; exact (H.1 q hq).2.2
  · by_cases f : 8 * q + 92 = k
    · rw [f, pk_us]; exact d q hq (Or.inl f.symm)
    · rw [pk_un f]; exact (H.2.1 q hq).1
  · by_cases f : 8 * q + 93 = k
    · rw [f, pk_us]; exact d q hq (Or.inr f.symm)
    · rw [pk_un f]; exact (H.2.1 q hq).2
  · rw [pk_un (Ne.symm e.1), pk_un (Ne.symm e.2)]; exact H.2.2
theorem IV_f {N : Nat} {s : Nat → Int32} {k : Nat} {v : Int32} (H : IV N s) (h : k = 0 ∨ 187 ≤ k ∧ k < 190 ∨ 192 ≤ k ∨ k < 91 ∧ k % 9 ≠ 3 ∧ k % 9 ≠ 5 ∧ k % 9 ≠ 6 ∨ 91 ≤ k ∧ k < 187 ∧ (k - 91) % 8 ≠ 1 ∧ (k - 91) % 8 ≠ 2) : IV N (upd s k v) :=
  IV_u H (fun q hq e => absurd e (by omega)) (fun q hq e => absurd e (by omega)) (fun q hq e => absurd e (by omega)) (fun q hq e => absurd e (by omega)) (by omega)
theorem IV_fear {N : Nat} {s : Nat → Int32} {r : Nat} {v : Int32} (H : IV N s) (hr : r < 12) (hv : okV 10 v) : IV N (upd s (8 * r + 93) v) :=
  IV_u H (fun q hq e => absurd e (by omega)) (fun q hq e => absurd e (by omega)) (fun q hq e => absurd e (by omega)) (fun _ _ _ => hv) (by omega)
theorem IV_skill {N : Nat} {s : Nat → Int32} {r : Nat} {v : Int32} (H : IV N s) (hr : r < 12) (hv : okV 10 v) : IV N (upd s (8 * r + 92) v) :=
  IV_u H (fun q hq e => absurd e (by omega)) (fun q hq e => absurd e (by omega)) (fun q hq e => absurd e (by omega)) (fun _ _ _ => hv) (by omega)
theorem IV_str {N : Nat} {s : Nat → Int32} {r : Nat} {v : Int32} (H : IV N s) (hr : r < 10) (hv : okV 3 v) : IV N (upd s (9 * r + 5) v) :=
  IV_u H (fun q hq e => absurd e (by omega)) (fun _ _ _ => hv) (fun q hq e => absurd e (by omega)) (fun q hq e => absurd e (by omega)) (by omega)
theorem IV_lame {N : Nat} {s : Nat → Int32} {r : Nat} {v : Int32} (H : IV N s) (hr : r < 10) (hv : okV 100 v) : IV N (upd s (9 * r + 6) v) :=
  IV_u H (fun q hq e => absurd e (by omega)) (fun q hq e => absurd e (by omega)) (fun _ _ _ => hv) (fun q hq e => absurd e (by omega)) (by omega)
theorem IV_tired {N : Nat} {s : Nat → Int32} {r : Nat} {v : Int32} (H : IV N s) (hr : r < 10) (hv : okV N v) : IV N (upd s (9 * r + 3) v) :=
  IV_u H (fun _ _ _ => hv) (fun q hq e => absurd e (by omega)) (fun q hq e => absurd e (by omega)) (fun q hq e => absurd e (by omega)) (by omega)
/-- the sums that the reference keeps -/
def SU (s : Nat → Int32) : Prop := s 313 = sumF (HO s) 60 10 ∧ s 315 = sumF (RI s) 84 12 ∧ s 316 = sumF (HO s) 80 10
theorem SU_cg {s t : Nat → Int32} (h : ∀ k, k < 187 ∨ k = 313 ∨ k = 315 ∨ k = 316 → t k = s k) (H : SU s) : SU t := by
  unfold SU
  rw [h 313 (by omega), h 315 (by omega), h 316 (by omega), HO_cg (s := t) (t := s) (fun k _ h2 => h k (by omega)), RI_cg (s := t) (t := s) (fun k _ h2 => h k (by omega))]
  exact H
theorem SU_f {s : Nat → Int32} {k : Nat} {v : Int32} (H : SU s) (h : k = 0 ∨ 187 ≤ k ∧ k ≠ 313 ∧ k ≠ 315 ∧ k ≠ 316 ∨ k < 91 ∧ k % 9 ≠ 7 ∧ k % 9 ≠ 0 ∨ 91 ≤ k ∧ k < 187 ∧ (k - 91) % 8 ≠ 6) : SU (upd s k v) := by
  unfold SU
  rw [pk_un (by omega), pk_un (by omega), pk_un (by omega)]
  refine ⟨H.1.trans (sumF_cg 10 fun j hj => ?_), H.2.1.trans (sumF_cg 12 fun j hj => ?_), H.2.2.trans (sumF_cg 10 fun j hj => ?_)⟩
  · rw [HO_60 hj, HO_60 hj, pk_un (by omega)]
  · rw [RI_84 hj, RI_84 hj, pk_un (by omega)]
  · rw [HO_80 hj, HO_80 hj, pk_un (by omega)]
/-- the last falls, newest first -/
def FS (fs : Nat → Int32) (fc : Nat) (s : Nat → Int32) : Prop := s 314 = nI fc ∧ s 317 = nI (min fc 20) ∧ ∀ k, k < min fc 20 → s (318 + 3 * k) = fs ((fc - 1 - k) % 20) ∧ s (319 + 3 * k) = fs (20 + (fc - 1 - k) % 20) ∧ s (320 + 3 * k) = fs (40 + (fc - 1 - k) % 20)
theorem FS_cg {fs : Nat → Int32} {fc : Nat} {s t : Nat → Int32} (h : ∀ k, k = 314 ∨ 317 ≤ k ∧ k < 378 → t k = s k) (H : FS fs fc s) : FS fs fc t := by
  refine ⟨(h 314 (by omega)).trans H.1, (h 317 (by omega)).trans H.2.1, fun k hk => ?_⟩
  rw [h (318 + 3 * k) (by omega), h (319 + 3 * k) (by omega), h (320 + 3 * k) (by omega)]
  exact H.2.2 k hk
/-- the bookings -/
def BO (bo : Nat → Int32) (n : Nat) (s : Nat → Int32) : Prop := ∀ j, j < n → s (3 * j + 193) = bo j ∧ s (3 * j + 194) = bo (40 + j) ∧ s (3 * j + 195) = bo (80 + j)
theorem BO_cg {bo : Nat → Int32} {n : Nat} {s t : Nat → Int32} (hn : n ≤ 40) (h : ∀ k, 193 ≤ k → k < 313 → t k = s k) (H : BO bo n s) : BO bo n t := fun j hj => by
  rw [h (3 * j + 193) (by omega) (by omega), h (3 * j + 194) (by omega) (by omega), h (3 * j + 195) (by omega) (by omega)]
  exact H j hj
