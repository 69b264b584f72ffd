/-! the class's reader, by the text's meaning -/
def G3 (s : gH) : Nat → Int := fun j => gp_I s 3 j
theorem G3_fr {L : Nat} {al : Bool} {m : List Nat} {s t : gH} (g : gX L al m s t) (e : m.contains 3 = false) : G3 t = G3 s := funext fun j => (g.2.2.1 3 j (by decide) (by decide) e).1
theorem nxb_g {s : gH} (h : gp_I s 46 7 < 0) : nxb s = nxg (G3 s) (gp_I s 46 5) (gp_I s 46 6) := by
  unfold nxb nxg
  by_cases c : gp_I s 46 6 < gp_I s 46 5
  · rw [if_pos ⟨h, c⟩, if_pos c]; rfl
  · rw [if_neg (fun q => c q.2), if_neg c]
theorem nxb_f {s : gH} (h : 0 ≤ gp_I s 46 7) : nxb s = -1 := by
  unfold nxb
  rw [if_neg (fun q => by omega)]
def FLW (s t : gH) : Prop := (gp_I s 46 7 < 0 → gp_I t 46 7 = gp_I s 46 6) ∧ (0 ≤ gp_I s 46 7 → gp_I t 46 7 = gp_I s 46 7)
def EXW (s t : gH) (c : Int) : Prop := (0 ≤ gp_I s 46 7 → gp_I t 46 6 = gp_I s 46 6 ∧ gp_I t 46 7 = gp_I s 46 7) ∧ (gp_I s 46 7 < 0 → (nxg (G3 s) (gp_I s 46 5) (gp_I s 46 6) = c ∧ gp_I t 46 6 = gp_I s 46 6 + 1 ∧ gp_I t 46 7 = gp_I s 46 7) ∨ (nxg (G3 s) (gp_I s 46 5) (gp_I s 46 6) ≠ c ∧ gp_I t 46 6 = gp_I s 46 6 ∧ gp_I t 46 7 = gp_I s 46 6))
theorem EXW_y {s t : gH} {c : Int} (h : nxb s = c) (hc : 0 ≤ c) (h6 : gp_I t 46 6 = gp_I s 46 6 + 1) (h7 : gp_I t 46 7 = gp_I s 46 7) : EXW s t c := by
  have h0 : gp_I s 46 7 < 0 := by
    by_cases q : gp_I s 46 7 < 0
    · exact q
    · rw [nxb_f (by omega)] at h; omega
  exact ⟨fun q => by omega, fun _ => Or.inl ⟨by rw [← nxb_g h0]; exact h, h6, h7⟩⟩
theorem EXW_n {s t : gH} {c : Int} (h : nxb s ≠ c) (h6 : gp_I t 46 6 = gp_I s 46 6) (h7 : FLW s t) : EXW s t c := ⟨fun q => ⟨h6, h7.2 q⟩, fun q => Or.inr ⟨by rw [← nxb_g q]; exact h, h6, h7.1 q⟩⟩
def DGW (s t : gH) (k r : Int) : Prop := (0 ≤ gp_I s 46 7 → gp_I t 46 6 = gp_I s 46 6 ∧ gp_I t 46 7 = gp_I s 46 7) ∧ (gp_I s 46 7 < 0 → (dgt (nxg (G3 s) (gp_I s 46 5) (gp_I s 46 6)) ∧ gp_I t 46 6 = (ndg (G3 s) (gp_I s 46 5) k.toNat (gp_I s 46 6) 0).1 ∧ r = (ndg (G3 s) (gp_I s 46 5) k.toNat (gp_I s 46 6) 0).2 ∧ gp_I t 46 7 = gp_I s 46 7) ∨ (¬ dgt (nxg (G3 s) (gp_I s 46 5) (gp_I s 46 6)) ∧ gp_I t 46 6 = gp_I s 46 6 ∧ gp_I t 46 7 = gp_I s 46 6))
/-- digits so far -/
def DGI (s u : gH) (k n v : Int) : Prop := gp_I u 46 7 = gp_I s 46 7 ∧ gp_I u 46 5 = gp_I s 46 5 ∧ G3 u = G3 s ∧ (n = 0 → gp_I u 46 6 = gp_I s 46 6) ∧ (1 ≤ n → gp_I s 46 7 < 0 ∧ dgt (nxg (G3 s) (gp_I s 46 5) (gp_I s 46 6))) ∧ ndg (G3 s) (gp_I s 46 5) (k - n).toNat (gp_I u 46 6) v = ndg (G3 s) (gp_I s 46 5) k.toNat (gp_I s 46 6) 0
theorem DGI_0 {s : gH} {k : Int} : DGI s s k 0 0 := ⟨rfl, rfl, rfl, fun _ => rfl, fun h => by omega, by rw [show (k - 0) = k by omega]⟩
theorem DGI_s {s u t : gH} {k n v w : Int} (h : DGI s u k n v) (hn : 0 ≤ n ∧ n < k) (hd : 48 ≤ nxb u ∧ nxb u ≤ 57) (hw : w = v * 10 + (nxb u - 48)) (h6 : gp_I t 46 6 = gp_I u 46 6 + 1) (h7 : gp_I t 46 7 = gp_I u 46 7) (h5 : gp_I t 46 5 = gp_I u 46 5) (h3 : G3 t = G3 u) : DGI s t k (n + 1) w := by
  obtain ⟨a1, a2, a3, a4, a5, a6⟩ := h
  have f0 : gp_I u 46 7 < 0 := by
    by_cases q : gp_I u 46 7 < 0
    · exact q
    · rw [nxb_f (by omega)] at hd; omega
  rw [nxb_g f0, a3, a2] at hd hw
  refine ⟨h7.trans a1, h5.trans a2, h3.trans a3, fun q => by omega, fun _ => ⟨by omega, ?_⟩, ?_⟩
  · by_cases c : n = 0
    · rw [← a4 c]; exact hd
    · exact (a5 (by omega)).2
  · rw [← a6, show (k - n).toNat = (k - (n + 1)).toNat + 1 by omega, h6]
    show _ = (if 48 ≤ nxg (G3 s) (gp_I s 46 5) (gp_I u 46 6) ∧ nxg (G3 s) (gp_I s 46 5) (gp_I u 46 6) ≤ 57 then _ else _)
    rw [if_pos hd, hw]
theorem DGI_e {s u : gH} {k n v : Int} (h : DGI s u k n v) (hn : 1 ≤ n ∧ n ≤ k) (he : n = k ∨ ¬ (48 ≤ nxb u ∧ nxb u ≤ 57)) : DGW s u k v := by
  obtain ⟨a1, a2, a3, a4, a5, a6⟩ := h
  have a := a5 (by omega)
  refine ⟨fun q => by omega, fun _ => Or.inl ⟨a.2, ?_⟩⟩
  have e : ndg (G3 s) (gp_I s 46 5) (k - n).toNat (gp_I u 46 6) v = (gp_I u 46 6, v) := by
    rcases he with q | q
    · rw [show (k - n).toNat = 0 by omega]; rfl
    · by_cases c : n = k
      · rw [show (k - n).toNat = 0 by omega]; rfl
      · rw [show (k - n).toNat = (k - n).toNat - 1 + 1 by omega]
        rw [nxb_g (by omega), a3, a2] at q
        show (if 48 ≤ nxg (G3 s) (gp_I s 46 5) (gp_I u 46 6) ∧ nxg (G3 s) (gp_I s 46 5) (gp_I u 46 6) ≤ 57 then _ else _) = _
        rw [if_neg q]
  rw [e] at a6
  rw [← a6]
  exact ⟨rfl, rfl, a1⟩
theorem DGI_n {s u t : gH} {k n v : Int} (h : DGI s u k n v) (hn : n = 0) (hk : 1 ≤ k) (hd : ¬ (48 ≤ nxb u ∧ nxb u ≤ 57)) (h6 : gp_I t 46 6 = gp_I u 46 6) (fl : FLW u t) : DGW s t k v := by
  obtain ⟨a1, a2, a3, a4, a5, a6⟩ := h
  have e6 := a4 hn
  refine ⟨fun q => ⟨by omega, by rw [fl.2 (by omega), a1]⟩, fun q => Or.inr ⟨?_, by omega, by rw [fl.1 (by omega), e6]⟩⟩
  rw [nxb_g (by omega), a3, a2, e6] at hd
  exact hd
/-- a table is hung -/
def HGW (L : Nat) (s t : gH) (p0 : Nat) : Prop := (∀ k : Nat, (k : Int) < gp_I s 46 3 → gp_R (gp_mk L t) 47 k = gp_R (gp_mk L s) 47 k) ∧ (gp_I s 46 3 < 100 → gp_I t 46 3 = gp_I s 46 3 + 1 ∧ gp_R (gp_mk L t) 47 (gp_I s 46 3).toNat = some p0)
theorem HGW_y {L : Nat} {s u t : gH} {p0 : Nat} (h0 : 0 ≤ gp_I s 46 3) (eu : u = gp_wR s 47 (Int.toNat (gp_I s 46 3)) (some p0)) (et : t = gp_wI u 46 3 (gp_I u 46 3 + 1)) : HGW L s t p0 := by
  have hR : ∀ k, gp_R (gp_mk L t) 47 k = gp_R (gp_mk L u) 47 k := fun k => by rw [et]; rfl
  refine ⟨fun k hk => ?_, fun _ => ⟨?_, ?_⟩⟩
  · rw [hR, eu]; exact R_wR k (Or.inr (by omega))
  · rw [et, (gz_rw _ _ _ _ _).1 rfl, eu]
    try rfl
  · rw [hR, eu]; exact R_wRs rfl
set_option maxRecDepth 100000 in
/-- Reader.fail -/
theorem xm_failV  {L d : Nat} {K : Option gV → gH → Prop} {s : gH}   (hs : XI L 0 s)   (k : ∀ (t : gH), XI L 0 t → gX L false [2479] s t → (IK s t) → (FLW s t) → (gp_I t 46 3 = gp_I s 46 3 ∧ gp_I t 46 5 = gp_I s 46 5 ∧ gp_I t 46 6 = gp_I s 46 6 ∧ gp_I t 46 8 = gp_I s 46 8) → K none t) : gs_C L d 1283 1 [gp_r (some 46)] s K := by
  have f_1 := xr46_3 hs
  have f_2 := xr46_5 hs
  have f_3 := xr46_6 hs
  have f_4 := xr46_7 hs
  have f_5 := xr46_8 hs
  refine s_1283_e ?_
  have f_6 := xr46_7 hs
  refine ⟨fun h_7 => ?_, fun h_7 => ?_⟩
  · have f_8 := xr46_6 hs
    intro s_9 e_10
    have hs_11 : XI L 0 s_9 := by rw [e_10]; exact xw46_7 hs _ (by omega)
    have hf_12 : gX L false [2479] s s_9 := by rw [e_10]; exact gX.wI (gX.refl _ _ _ _) (Or.inl rfl)
    have q_13 : gp_I s_9 46 3 = gp_I s 46 3 := by rw [e_10] <;> first | rfl | exact I_ne (by omega)
    have q_14 : gp_I s_9 46 5 = gp_I s 46 5 := by rw [e_10] <;> first | rfl | exact I_ne (by omega)
    have q_15 : gp_I s_9 46 6 = gp_I s 46 6 := by rw [e_10] <;> first | rfl | exact I_ne (by omega)
    have q_16 : gp_I s_9 46 7 = gp_I s 46 6 := by rw [e_10]; exact (gz_rw _ _ _ _ _).1 rfl
    have q_17 : gp_I s_9 46 8 = gp_I s 46 8 := by rw [e_10] <;> first | rfl | exact I_ne (by omega)
    have pd_18 : IK s s_9 := by rw [e_10]; exact IK_wI (IK_r s) (Or.inl (by decide))
    refine s_1283_15 ?_
    exact k s_9 hs_11 hf_12 (pd_18) (⟨fun q9 => by omega, fun q9 => by omega⟩) (⟨by omega, by omega, by omega, by omega⟩)
  · refine s_1283_15 ?_
    exact k s hs (gX.refl _ _ _ _) ((IK_r s)) (⟨fun q9 => by omega, fun q9 => by omega⟩) (⟨by omega, by omega, by omega, by omega⟩)
set_option maxRecDepth 100000 in
/-- Reader.expect -/
theorem xm_expectV  {L d : Nat} {K : Option gV → gH → Prop} {s : gH}  (p0 : Int) (hs : XI L 0 s) (h_p0 : 0 ≤ p0 ∧ p0 ≤ 127) (q0 : RTX L s) (q1 : gp_I s 46 6 ≤ gp_I s 46 5) (k : ∀ (t : gH), XI L 0 t → gX L false [2478, 2479] s t → (gp_I s 46 6 ≤ gp_I t 46 6 ∧ gp_I t 46 6 ≤ gp_I t 46 5) → (RTX L t) → (IK s t) → (EXW s t p0) → (gp_I t 46 3 = gp_I s 46 3 ∧ gp_I t 46 5 = gp_I s 46 5 ∧ gp_I t 46 8 = gp_I s 46 8) → K none t) : gs_C L (d + 1) 1284 2 [gp_r (some 46), gp_i p0] s K := by
  have f_1 := xr46_3 hs
  have f_2 := xr46_5 hs
  have f_3 := xr46_6 hs
  have f_4 := xr46_7 hs
  have f_5 := xr46_8 hs
  refine s_1284_e _ ?_
  refine xm_next hs (q0) (fun x_6 p_7 p_8 p_9 => ⟨_, rfl, ?_⟩)
  have hnx := p_8
  refine ⟨fun h_10 => ?_, fun h_10 => ?_⟩
  · have f_11 := xr46_6 hs
    try rw [show gp_wr ((gp_I s 46 6) + 1) = (gp_I s 46 6) + 1 from gp_wr_id (by omega) (by omega)]
    intro s_12 e_13
    have hs_14 : XI L 0 s_12 := by rw [e_13]; exact xw46_6 hs _ (by omega)
    have hf_15 : gX L false [2478, 2479] s s_12 := by rw [e_13]; exact gX.wI (gX.refl _ _ _ _) (Or.inl rfl)
    have q_16 : gp_I s_12 46 3 = gp_I s 46 3 := by rw [e_13] <;> first | rfl | exact I_ne (by omega)
    have q_17 : gp_I s_12 46 5 = gp_I s 46 5 := by rw [e_13] <;> first | rfl | exact I_ne (by omega)
    have q_18 : gp_I s_12 46 6 = (gp_I s 46 6) + 1 := by rw [e_13]; exact (gz_rw _ _ _ _ _).1 rfl
    have q_19 : gp_I s_12 46 7 = gp_I s 46 7 := by rw [e_13] <;> first | rfl | exact I_ne (by omega)
    have q_20 : gp_I s_12 46 8 = gp_I s 46 8 := by rw [e_13] <;> first | rfl | exact I_ne (by omega)
    have pd_21 : RTX L s_12 := by rw [e_13]; exact RTX_fr q0 (gX.wI (gX.refl L true [2478] _) (Or.inl rfl)) rfl
    have pd_22 : IK s s_12 := by rw [e_13]; exact IK_wI (IK_r s) (Or.inl (by decide))
    refine s_1284_25 _ ?_
    have hfl : nxb s ≠ p0 → FLW s s_12 := fun h9 => by first | assumption | exact absurd (by omega : nxb s = p0) h9
    exact k s_12 hs_14 hf_15 (by first | omega | assumption) (pd_21) (pd_22) (by first | exact EXW_n (by omega) (by omega) (hfl (by omega)) | exact EXW_y (by omega) (by omega) (by omega) (by omega)) (⟨by omega, by omega, by omega⟩)
  · refine xm_failV hs (fun s_23 hs_24 hf_25 p_26 p_27 p_28 => ⟨rfl, ?_⟩)
    have hf_29 : gX L false [2478, 2479] s s_23 := gX.sub hf_25 rfl rfl
    have pd_30 : RTX L s_23 := RTX_fr q0 hf_25 rfl
    have q_31 : gp_I s_23 46 3 = gp_I s 46 3 := (hf_25.2.2.1 46 3 (by decide) (by decide) rfl).1
    have q_32 : gp_I s_23 46 5 = gp_I s 46 5 := (hf_25.2.2.1 46 5 (by decide) (by decide) rfl).1
    have q_33 : gp_I s_23 46 6 = gp_I s 46 6 := (hf_25.2.2.1 46 6 (by decide) (by decide) rfl).1
    have q_34 : gp_I s_23 46 8 = gp_I s 46 8 := (hf_25.2.2.1 46 8 (by decide) (by decide) rfl).1
    have pd_35 : IK s s_23 := IK_t (IK_r s) p_26 ((gX.refl L true [] s).1.1)
    refine s_1284_25 _ ?_
    have hfl : nxb s ≠ p0 → FLW s s_23 := fun h9 => by first | assumption | exact absurd (by omega : nxb s = p0) h9
    exact k s_23 hs_24 hf_29 (by first | omega | assumption) (pd_30) (pd_35) (by first | exact EXW_n (by omega) (by omega) (hfl (by omega)) | exact EXW_y (by omega) (by omega) (by omega) (by omega)) (⟨by omega, by omega, by omega⟩)
set_option maxRecDepth 100000 in
/-- Reader.readDigits -/
theorem xm_readDigitsV  {L d : Nat} {K : Option gV → gH → Prop} {s : gH}  (p0 : Int) (hs : XI L 0 s) (h_p0 : 1 ≤ p0 ∧ p0 ≤ 3) (q0 : RTX L s) (q1 : gp_I s 46 6 ≤ gp_I s 46 5) (k : ∀ (r : Int), ∀ (t : gH), XI L 0 t → gX L false [2478, 2479] s t → (0 ≤ r ∧ r ≤ 999) → (gp_I s 46 6 ≤ gp_I t 46 6 ∧ gp_I t 46 6 ≤ gp_I t 46 5) → (RTX L t) → (p0 = 1 → r ≤ 9) → (48 ≤ nxb s ∧ nxb s ≤ 57 → gp_I s 46 6 + 1 ≤ gp_I t 46 6) → (IK s t) → (DGW s t p0 r) → (gp_I t 46 3 = gp_I s 46 3 ∧ gp_I t 46 5 = gp_I s 46 5 ∧ gp_I t 46 8 = gp_I s 46 8) → K (some (gp_i r)) t) : gs_C L (d + 1) 1290 4 [gp_r (some 46), gp_i p0] s K := by
  have f_1 := xr46_3 hs
  have f_2 := xr46_5 hs
  have f_3 := xr46_6 hs
  have f_4 := xr46_7 hs
  have f_5 := xr46_8 hs
  refine s_1290_e _ ?_
  have lp_6 : ∀ (n_6 : Nat) (v2_6 : Int) (v3_6 : Int) (s_6 : gH), (XI L 0 s_6) → (gX L false [2478, 2479] s s_6) → (RTX L s_6) → (IK s s_6) → (0 ≤ v2_6 ∧ v2_6 ≤ 999) → (0 ≤ v3_6 ∧ v3_6 ≤ 3) → (gp_I s_6 46 3 = gp_I s 46 3) → (gp_I s_6 46 5 = gp_I s 46 5) → (gp_I s_6 46 7 = gp_I s 46 7) → (gp_I s_6 46 8 = gp_I s 46 8) → (v3_6 ≤ p0) → ((v3_6 = 0 ∧ v2_6 = 0) ∨ (v3_6 = 1 ∧ v2_6 ≤ 9) ∨ (v3_6 = 2 ∧ v2_6 ≤ 99) ∨ (v3_6 = 3 ∧ v2_6 ≤ 999)) → (gp_I s 46 6 ≤ gp_I s_6 46 6 ∧ gp_I s_6 46 6 ≤ gp_I s_6 46 5) → (v3_6 = 0 → nxb s_6 = nxb s) → (1 ≤ v3_6 → gp_I s 46 6 + 1 ≤ gp_I s_6 46 6) → (DGI s s_6 p0 v3_6 v2_6) → (gp_I s_6 46 3 = gp_I s 46 3 ∧ gp_I s_6 46 8 = gp_I s 46 8) → (4 - v3_6).toNat < n_6 → gs_E L (d + 1) 1290 4 [gp_r (some 46), gp_i p0, gp_i v2_6, gp_i v3_6] [] s_6 K := by
    intro n_6
    induction n_6 with
    | zero => intro v2_6 v3_6 s_6 hs_s_6 hf_s_6 RTX_L_s_6 IK_s_s_6 hv2_6 hv3_6 tk0_6 tk1_6 tk2_6 tk3_6 iv0_6 iv1_6 iv2_6 iv3_6 iv4_6 iv5_6 iv6_6 hm_6; exact absurd hm_6 (Nat.not_lt_zero _)
    | succ n_6 ih_6 =>
      intro v2_6 v3_6 s_6 hs_s_6 hf_s_6 RTX_L_s_6 IK_s_s_6 hv2_6 hv3_6 tk0_6 tk1_6 tk2_6 tk3_6 iv0_6 iv1_6 iv2_6 iv3_6 iv4_6 iv5_6 iv6_6 hm_6
      refine s_1290_4 _ _ _ ?_
      refine ⟨fun h_7 => ?_, fun h_7 => ?_⟩
      · refine xm_next hs_s_6 (RTX_L_s_6) (fun x_8 p_9 p_10 p_11 => ⟨_, rfl, ?_⟩)
        have hnx := p_10
        refine xm_digit _ (fun x_12 p_13 p_14 => ⟨_, rfl, ?_⟩)
        refine ⟨fun h_15 => ?_, fun h_15 => ?_⟩
        · refine s_1290_48 _ _ _ ?_
          have hse9 := IK_s_s_6
          refine ⟨fun h_16 => ?_, fun h_16 => ?_⟩
          · refine xm_failV hs_s_6 (fun s_17 hs_18 hf_19 p_20 p_21 p_22 => ⟨rfl, ?_⟩)
            have hf_23 : gX L false [2478, 2479] s s_17 := gX.trans hf_s_6 hf_19 rfl rfl
            have pd_24 : RTX L s_17 := RTX_fr RTX_L_s_6 hf_19 rfl
            have q_25 : gp_I s_17 46 3 = gp_I s_6 46 3 := (hf_19.2.2.1 46 3 (by decide) (by decide) rfl).1
            have q_26 : gp_I s_17 46 5 = gp_I s_6 46 5 := (hf_19.2.2.1 46 5 (by decide) (by decide) rfl).1
            have q_27 : gp_I s_17 46 6 = gp_I s_6 46 6 := (hf_19.2.2.1 46 6 (by decide) (by decide) rfl).1
            have q_28 : gp_I s_17 46 8 = gp_I s_6 46 8 := (hf_19.2.2.1 46 8 (by decide) (by decide) rfl).1
            have pd_29 : IK s s_17 := IK_t IK_s_s_6 p_20 ((hf_s_6).1.1)
            refine s_1290_56 _ _ _ ?_
            exact k _ s_17 hs_18 hf_23 (by omega) (by first | omega | assumption) (pd_24) (by first | omega | assumption) (by first | omega | assumption) (pd_29) (by first | exact DGI_e iv5_6 ⟨by omega, by omega⟩ (by omega) | exact DGI_n iv5_6 (by omega) (by omega) (by omega) (by omega) (by assumption)) (⟨by omega, by omega, by omega⟩)
          · refine s_1290_56 _ _ _ ?_
            exact k _ s_6 hs_s_6 hf_s_6 (by omega) (by first | omega | assumption) (RTX_L_s_6) (by first | omega | assumption) (by first | omega | assumption) (IK_s_s_6) (by first | exact DGI_e iv5_6 ⟨by omega, by omega⟩ (by omega) | exact DGI_n iv5_6 (by omega) (by omega) (by omega) (by omega) (by assumption)) (⟨by omega, by omega, by omega⟩)
        · try rw [show gp_wr (v2_6 * 10) = v2_6 * 10 from gp_wr_id (by omega) (by omega)]
          refine xm_next hs_s_6 (RTX_L_s_6) (fun x_30 p_31 p_32 p_33 => ⟨_, rfl, ?_⟩)
          try rw [show gp_wr (x_30 - 48) = x_30 - 48 from gp_wr_id (by omega) (by omega)]
          try rw [show gp_wr ((v2_6 * 10) + (x_30 - 48)) = (v2_6 * 10) + (x_30 - 48) from gp_wr_id (by omega) (by omega)]
          have f_34 := xr46_6 hs_s_6
          try rw [show gp_wr ((gp_I s_6 46 6) + 1) = (gp_I s_6 46 6) + 1 from gp_wr_id (by omega) (by omega)]
          intro s_35 e_36
          have hs_37 : XI L 0 s_35 := by rw [e_36]; exact xw46_6 hs_s_6 _ (by omega)
          have hf_38 : gX L false [2478, 2479] s s_35 := by rw [e_36]; exact gX.wI hf_s_6 (Or.inl rfl)
          have q_39 : gp_I s_35 46 3 = gp_I s_6 46 3 := by rw [e_36] <;> first | rfl | exact I_ne (by omega)
          have q_40 : gp_I s_35 46 5 = gp_I s_6 46 5 := by rw [e_36] <;> first | rfl | exact I_ne (by omega)
          have q_41 : gp_I s_35 46 6 = (gp_I s_6 46 6) + 1 := by rw [e_36]; exact (gz_rw _ _ _ _ _).1 rfl
          have q_42 : gp_I s_35 46 7 = gp_I s_6 46 7 := by rw [e_36] <;> first | rfl | exact I_ne (by omega)
          have q_43 : gp_I s_35 46 8 = gp_I s_6 46 8 := by rw [e_36] <;> first | rfl | exact I_ne (by omega)
          have pd_44 : RTX L s_35 := by rw [e_36]; exact RTX_fr RTX_L_s_6 (gX.wI (gX.refl L true [2478] _) (Or.inl rfl)) rfl
          have pd_45 : IK s s_35 := by rw [e_36]; exact IK_wI IK_s_s_6 (Or.inl (by decide))
          try rw [show gp_wr (v3_6 + 1) = v3_6 + 1 from gp_wr_id (by omega) (by omega)]
          exact ih_6 _ _ _ hs_37 hf_38 pd_44 pd_45 (by omega) (by omega) (by first | rfl | omega) (by first | rfl | omega) (by first | rfl | omega) (by first | rfl | omega) (by first | omega | assumption) (by first | omega | assumption) (by first | omega | assumption) (by first | omega | assumption) (by first | omega | assumption) (DGI_s iv5_6 ⟨by omega, by omega⟩ ⟨by omega, by omega⟩ (by omega) (by omega) (by omega) (by omega) (by rw [‹s_35 = gp_wI _ 46 6 _›]; rfl)) (⟨by omega, by omega⟩) (by omega)
      · refine s_1290_48 _ _ _ ?_
        have hse9 := IK_s_s_6
        refine ⟨fun h_46 => ?_, fun h_46 => ?_⟩
        · exfalso; omega
        · refine s_1290_56 _ _ _ ?_
          exact k _ s_6 hs_s_6 hf_s_6 (by omega) (by first | omega | assumption) (RTX_L_s_6) (by first | omega | assumption) (by first | omega | assumption) (IK_s_s_6) (by first | exact DGI_e iv5_6 ⟨by omega, by omega⟩ (by omega) | exact DGI_n iv5_6 (by omega) (by omega) (by omega) (by omega) (by assumption)) (⟨by omega, by omega, by omega⟩)
  exact lp_6 _ _ _ _ hs (gX.refl _ _ _ _) q0 (IK_r s) (by omega) (by omega) (by first | rfl | omega) (by first | rfl | omega) (by first | rfl | omega) (by first | rfl | omega) (by first | omega | assumption) (by first | omega | assumption) (by first | omega | assumption) (by first | omega | assumption) (by first | omega | assumption) (DGI_0) (⟨rfl, rfl⟩) (Nat.lt_succ_self _)
set_option maxRecDepth 100000 in
/-- Reader.hang -/
theorem xm_hangV  {L d : Nat} {K : Option gV → gH → Prop} {s : gH} (n_p0 : Nat) (p0 : Nat) (hs : XI L 0 s)  (q0 : kT L s p0 n_p0) (q1 : n_p0 ≤ 60) (q2 : RV L s) (k : ∀ (t : gH), XI L 0 t → gX L false [47, 2475] s t → (RV L t) → (gp_I s 46 3 ≤ gp_I t 46 3) → (IK s t) → (HGW L s t p0) → (gp_I t 46 5 = gp_I s 46 5 ∧ gp_I t 46 6 = gp_I s 46 6 ∧ gp_I t 46 7 = gp_I s 46 7 ∧ gp_I t 46 8 = gp_I s 46 8) → K none t) : gs_C L d 1289 2 [gp_r (some 46), gp_r (some p0)] s K := by
  have hn_p0 := q0.n hs
  have f_1 := xr46_3 hs
  have f_2 := xr46_5 hs
  have f_3 := xr46_6 hs
  have f_4 := xr46_7 hs
  have f_5 := xr46_8 hs
  refine s_1289_e _ ?_
  have f_6 := xr46_3 hs
  refine ⟨fun h_7 => ?_, fun h_7 => ?_⟩
  · have f_8 := xr46_3 hs
    refine ⟨p0, rfl, ?_⟩
    refine ⟨by omega, ?_⟩
    refine ⟨q0.2.1, ?_⟩
    intro s_9 e_10
    have hs_11 : XI L 0 s_9 := by rw [e_10]; exact XI.wR hs 47 (Int.toNat (gp_I s 46 3)) _ (Or.inl (show ¬ (gp_ss 47).1 = 9 by decide))
    have hf_12 : gX L false [47, 2475] s s_9 := by rw [e_10]; exact gX.wR (gX.refl _ _ _ _) (Or.inl rfl) (Or.inl (show ¬ (gp_ss 47).1 = 9 by decide))
    have kt_13 : kT L s_9 p0 n_p0 := by rw [e_10]; exact q0
    have q_14 : gp_I s_9 46 3 = gp_I s 46 3 := by rw [e_10] <;> first | rfl | exact I_ne (by omega)
    have q_15 : gp_I s_9 46 5 = gp_I s 46 5 := by rw [e_10] <;> first | rfl | exact I_ne (by omega)
    have q_16 : gp_I s_9 46 6 = gp_I s 46 6 := by rw [e_10] <;> first | rfl | exact I_ne (by omega)
    have q_17 : gp_I s_9 46 7 = gp_I s 46 7 := by rw [e_10] <;> first | rfl | exact I_ne (by omega)
    have q_18 : gp_I s_9 46 8 = gp_I s 46 8 := by rw [e_10] <;> first | rfl | exact I_ne (by omega)
    have pd_19 : IK s s_9 := by rw [e_10]; exact IK_wR (IK_r s)
    have f_20 := xr46_3 hs_11
    try rw [show gp_wr ((gp_I s_9 46 3) + 1) = (gp_I s_9 46 3) + 1 from gp_wr_id (by omega) (by omega)]
    intro s_21 e_22
    have hs_23 : XI L 0 s_21 := by rw [e_22]; exact xw46_3 hs_11 _ (by omega)
    have hf_24 : gX L false [47, 2475] s s_21 := by rw [e_22]; exact gX.wI hf_12 (Or.inl rfl)
    have kt_25 : kT L s_21 p0 n_p0 := by rw [e_22]; exact kt_13
    have q_26 : gp_I s_21 46 3 = (gp_I s_9 46 3) + 1 := by rw [e_22]; exact (gz_rw _ _ _ _ _).1 rfl
    have q_27 : gp_I s_21 46 5 = gp_I s_9 46 5 := by rw [e_22] <;> first | rfl | exact I_ne (by omega)
    have q_28 : gp_I s_21 46 6 = gp_I s_9 46 6 := by rw [e_22] <;> first | rfl | exact I_ne (by omega)
    have q_29 : gp_I s_21 46 7 = gp_I s_9 46 7 := by rw [e_22] <;> first | rfl | exact I_ne (by omega)
    have q_30 : gp_I s_21 46 8 = gp_I s_9 46 8 := by rw [e_22] <;> first | rfl | exact I_ne (by omega)
    have pd_31 : IK s s_21 := by rw [e_22]; exact IK_wI pd_19 (Or.inl (by decide))
    refine s_1289_32 _ ?_
    exact k s_21 hs_23 hf_24 (by first | assumption | exact RV_hang q2 q0 q1 (by omega) (by assumption) (by assumption)) (by first | omega | assumption) (pd_31) (by first | exact HGW_y (by omega) (by assumption) (by assumption) | exact ⟨fun _ _ => rfl, fun h9 => by exfalso; omega⟩) (⟨by omega, by omega, by omega, by omega⟩)
  · refine s_1289_32 _ ?_
    exact k s hs (gX.refl _ _ _ _) (by first | assumption | exact RV_hang q2 q0 q1 (by omega) (by assumption) (by assumption)) (by first | omega | assumption) ((IK_r s)) (by first | exact HGW_y (by omega) (by assumption) (by assumption) | exact ⟨fun _ _ => rfl, fun h9 => by exfalso; omega⟩) (⟨by omega, by omega, by omega, by omega⟩)
