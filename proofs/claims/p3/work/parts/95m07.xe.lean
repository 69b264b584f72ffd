set_option maxRecDepth 100000 in
/-- Maker.plain -/
theorem xm_plainV  {L d : Nat} {K : Option gV → gH → Prop} {s : gH}  (p0 : Int) (hs : XI L 0 s) (h_p0 : 0 ≤ p0 ∧ p0 ≤ 999)  (k : ∀ (r : Option Nat), ∀ (t : gH), XI L 0 t → gX L true [] s t → (∃ a n, r = some a ∧ kT L t a n ∧ n ≤ 60 ∧ 117 ≤ a ∧ TBG (TF t a) n ∧ val (TF t a) (n - 1) = cod4 0 0 p0 p0) → (gp_sz t ≤ gp_sz s + 6) → (gp_us t ≤ gp_us s + 15) → (IK s t) → K (some (gp_r r)) t) : gs_C L (d + 1) 257 3 [gp_r (some 20), gp_i p0] s K := by
  refine s_257_e _ ?_
  refine ⟨hs.1.1, ?_⟩
  intro s_1 e_2
  have h9_s_1 : (gp_sh (gp_mk L s_1) (gp_sz s)) = (9, 10) := by rw [e_2, sh_new hs.1.1, if_pos rfl]
  have hR_s_1 : ∀ f, gp_R (gp_mk L s_1) (gp_sz s) f = none := fun f => by rw [e_2, R_new hs.1.1, if_pos rfl]
  have hz_s_1 : gp_sz s_1 = gp_sz s + 1 ∧ gp_us s_1 = gp_us s + 10 := by rw [e_2]; exact ⟨rfl, rfl⟩
  have hw_s_1 : 117 ≤ gp_sz s := hs.1.1
  have hs_3 : XI L (gp_sz s) s_1 := by rw [e_2]; exact XI.new ⟨XT.weak hs.1, hs.2⟩ _ _ (Or.inr rfl)
  have hk_s_1 : (gp_sh (gp_mk L s_1) (gp_sz s)).1 = 9 := by rw [h9_s_1]
  have hf_4 : gX L true [] s s_1 := by rw [e_2]; exact gX.new (gX.refl _ _ _ _) _ _ hs.1.1
  have hg_s_1 : gX L true [] s s_1 := by rw [e_2]; exact gX.new (gX.refl L true [] _) _ _ hs.1.1
  have hlo_s_1 : s.1 ≤ gp_sz s := (gX.refl L true [] s).1.1
  have hlp_s_1 : s.1 ≤ s.1 := hlo_s_1
  have pd_5 : IK s s_1 := by rw [e_2]; exact IK_n (IK_r s) hlo_s_1
  refine xm_initX _ _ (by omega) (by assumption) (by first | omega | assumption) (by first | omega | assumption) (by first | omega | assumption) (by first | omega | assumption) (fun s_6 hs_7 hf_8 p_9 p_10 p_11 p_12 p_13 p_14 => ⟨rfl, ?_⟩)
  have hf_15 : gX L true [] s s_6 := gX.trans hf_4 hf_8 rfl rfl
  have pd_16 : IK s s_6 := IK_b pd_5 p_14 (by omega)
  obtain ⟨a_17, ha_17⟩ : ∃ a, (gp_sz s) = a := ⟨_, rfl⟩
  have hba_17 : s.1 = a_17 := ha_17
  obtain ⟨n_18, hn_18⟩ : ∃ n : Nat, Int.toNat 1 = n := ⟨_, rfl⟩
  rw [ha_17] at p_9 p_10 ⊢
  rw [hn_18] at p_9
  have hn_a_17 := p_9.n hs_7
  have hr_a_17 := (p_9.tt hs_7).1.1
  rw [ha_17] at p_13
  have hzr := p_13
  refine ⟨p_9.2.1, ?_⟩
  refine ⟨(a_17 + 3), (p_9.tt hs_7).1.2.2.2.1.2.2.1, ?_⟩
  refine ⟨gin ((p_9.tt hs_7).1.2.2.2.2.1.2.2.1) (by omega), ?_⟩
  intro s_19 e_20
  have hs_21 : XI L 0 s_19 := by rw [e_20]; exact XI.t34 hs_7 p_9 _ _ _ (Or.inl rfl)
  have hf_22 : gX L true [] s s_19 := by rw [e_20]; exact gX.wI hf_15 (gXt p_9 hs_7 (by omega) (by omega) (by omega))
  have kt_23 : kT L s_19 a_17 n_18 := by rw [e_20]; exact p_9
  have z_24 : gp_sz s_19 = gp_sz s_6 ∧ gp_us s_19 = gp_us s_6 := by rw [e_20]; exact ⟨rfl, rfl⟩
  have pd_25 : IK s s_19 := by rw [e_20]; exact IK_wI pd_16 (Or.inr (by omega))
  refine ⟨kt_23.2.1, ?_⟩
  refine ⟨(a_17 + 4), (kt_23.tt hs_21).1.2.2.2.1.2.2.2.1, ?_⟩
  refine ⟨gin ((kt_23.tt hs_21).1.2.2.2.2.1.2.2.2.1) (by omega), ?_⟩
  intro s_26 e_27
  have hs_28 : XI L 0 s_26 := by rw [e_27]; exact XI.t34 hs_21 kt_23 _ _ _ (Or.inr rfl)
  have hf_29 : gX L true [] s s_26 := by rw [e_27]; exact gX.wI hf_22 (gXt kt_23 hs_21 (by omega) (by omega) (by omega))
  have kt_30 : kT L s_26 a_17 n_18 := by rw [e_27]; exact kt_23
  have z_31 : gp_sz s_26 = gp_sz s_19 ∧ gp_us s_26 = gp_us s_19 := by rw [e_27]; exact ⟨rfl, rfl⟩
  have pd_32 : IK s s_26 := by rw [e_27]; exact IK_wI pd_25 (Or.inr (by omega))
  exact k _ s_26 hs_28 hf_29 (PL_ret (by assumption) (by omega) (by omega) hzr (by subst_vars; rfl) h_p0) (by first | omega | assumption) (by first | omega | assumption) (pd_32)
set_option maxRecDepth 100000 in
/-- Maker.pauses -/
theorem xm_pausesV  {L d : Nat} {K : Option gV → gH → Prop} {s : gH}  (p0 : Int) (hs : XI L 0 s) (h_p0 : 0 ≤ p0 ∧ p0 ≤ 20)  (k : ∀ (r : Option Nat), ∀ (t : gH), XI L 0 t → gX L true [] s t → (∃ a n, r = some a ∧ kT L t a n ∧ n ≤ 60 ∧ 117 ≤ a ∧ TBG (TF t a) n ∧ val (TF t a) (n - 1) = wtv p0.toNat) → (gp_sz t ≤ gp_sz s + 6) → (gp_us t ≤ gp_us s + 115) → (IK s t) → K (some (gp_r r)) t) : gs_C L (d + 1) 258 4 [gp_r (some 20), gp_i p0] s K := by
  refine s_258_e _ ?_
  refine ⟨hs.1.1, ?_⟩
  intro s_1 e_2
  have h9_s_1 : (gp_sh (gp_mk L s_1) (gp_sz s)) = (9, 10) := by rw [e_2, sh_new hs.1.1, if_pos rfl]
  have hR_s_1 : ∀ f, gp_R (gp_mk L s_1) (gp_sz s) f = none := fun f => by rw [e_2, R_new hs.1.1, if_pos rfl]
  have hz_s_1 : gp_sz s_1 = gp_sz s + 1 ∧ gp_us s_1 = gp_us s + 10 := by rw [e_2]; exact ⟨rfl, rfl⟩
  have hw_s_1 : 117 ≤ gp_sz s := hs.1.1
  have hs_3 : XI L (gp_sz s) s_1 := by rw [e_2]; exact XI.new ⟨XT.weak hs.1, hs.2⟩ _ _ (Or.inr rfl)
  have hk_s_1 : (gp_sh (gp_mk L s_1) (gp_sz s)).1 = 9 := by rw [h9_s_1]
  have hf_4 : gX L true [] s s_1 := by rw [e_2]; exact gX.new (gX.refl _ _ _ _) _ _ hs.1.1
  have hg_s_1 : gX L true [] s s_1 := by rw [e_2]; exact gX.new (gX.refl L true [] _) _ _ hs.1.1
  have hlo_s_1 : s.1 ≤ gp_sz s := (gX.refl L true [] s).1.1
  have hlp_s_1 : s.1 ≤ s.1 := hlo_s_1
  have pd_5 : IK s s_1 := by rw [e_2]; exact IK_n (IK_r s) hlo_s_1
  try rw [show gp_wr (p0 + 1) = p0 + 1 from gp_wr_id (by omega) (by omega)]
  refine xm_initX _ _ (by omega) (by assumption) (by first | omega | assumption) (by first | omega | assumption) (by first | omega | assumption) (by first | omega | assumption) (fun s_6 hs_7 hf_8 p_9 p_10 p_11 p_12 p_13 p_14 => ⟨rfl, ?_⟩)
  have hf_15 : gX L true [] s s_6 := gX.trans hf_4 hf_8 rfl rfl
  have pd_16 : IK s s_6 := IK_b pd_5 p_14 (by omega)
  obtain ⟨a_17, ha_17⟩ : ∃ a, (gp_sz s) = a := ⟨_, rfl⟩
  have hba_17 : s.1 = a_17 := ha_17
  obtain ⟨n_18, hn_18⟩ : ∃ n : Nat, Int.toNat (p0 + 1) = n := ⟨_, rfl⟩
  rw [ha_17] at p_9 p_10 ⊢
  rw [hn_18] at p_9
  have hn_a_17 := p_9.n hs_7
  have hr_a_17 := (p_9.tt hs_7).1.1
  rw [ha_17] at p_13
  have hzr := p_13
  have lp_20 : ∀ (n_20 : Nat) (v3_20 : Int) (s_20 : gH), (XI L 0 s_20) → (gX L true [] s s_20) → (IK s s_20) → (kT L s_20 a_17 n_18) → (gp_sz s_20 ≤ gp_sz s + 6 ∧ gp_us s_20 ≤ gp_us s + 115) → (1 ≤ v3_20 ∧ v3_20 ≤ 59) → (WTI s_20 a_17 v3_20) → (v3_20 ≤ p0 + 1) → (60 - v3_20).toNat < n_20 → gs_E L (d + 1) 258 13 [gp_r (some 20), gp_i p0, gp_r (some a_17), gp_i v3_20] [] s_20 K := by
    intro n_20
    induction n_20 with
    | zero => intro v3_20 s_20 hs_s_20 hf_s_20 IK_s_s_20 kt_a_17_s_20 rm_s_20 hv3_20 iv0_20 iv1_20 hm_20; exact absurd hm_20 (Nat.not_lt_zero _)
    | succ n_20 ih_20 =>
      intro v3_20 s_20 hs_s_20 hf_s_20 IK_s_s_20 kt_a_17_s_20 rm_s_20 hv3_20 iv0_20 iv1_20 hm_20
      refine s_258_13 _ _ _ ?_
      refine ⟨fun h_21 => ?_, fun h_21 => ?_⟩
      · exact k _ s_20 hs_s_20 hf_s_20 (WT_ret (by assumption) (by omega) iv0_20 (by omega) ⟨by omega, by omega⟩ _ (by omega)) (by first | omega | assumption) (by first | omega | assumption) (IK_s_s_20)
      · refine ⟨a_17, rfl, ?_⟩
        refine ⟨kt_a_17_s_20.2.1, ?_⟩
        try rw [show gp_wr (v3_20 - 1) = v3_20 - 1 from gp_wr_id (by omega) (by omega)]
        refine ⟨(a_17 + 1), (kt_a_17_s_20.tt hs_s_20).1.2.2.2.1.1, ?_⟩
        refine ⟨gin ((kt_a_17_s_20.tt hs_s_20).1.2.2.2.2.1.1) (by omega), ?_⟩
        intro s_22 e_23
        have hs_24 : XI L 0 s_22 := by rw [e_23]; exact XI.t12 hs_s_20 kt_a_17_s_20 _ _ _ (Or.inl rfl) (by exact bd_sh (by omega) (by omega) (by omega))
        have hf_25 : gX L true [] s s_22 := by rw [e_23]; exact gX.wL hf_s_20 (gXl (by omega) (by omega))
        have kt_26 : kT L s_22 a_17 n_18 := by rw [e_23]; exact kt_a_17_s_20
        have z_27 : gp_sz s_22 = gp_sz s_20 ∧ gp_us s_22 = gp_us s_20 := by rw [e_23]; exact ⟨rfl, rfl⟩
        have pd_28 : IK s s_22 := by rw [e_23]; exact IK_wL IK_s_s_20
        refine ⟨kt_26.2.1, ?_⟩
        refine ⟨(a_17 + 5), (kt_26.tt hs_24).1.2.2.2.1.2.2.2.2, ?_⟩
        refine ⟨gin ((kt_26.tt hs_24).1.2.2.2.2.1.2.2.2.2) (by omega), ?_⟩
        intro s_29 e_30
        have hs_31 : XI L 0 s_29 := by rw [e_30]; exact XI.t5 hs_24 kt_26 _ _ _ rfl (by omega) (by omega)
        have hf_32 : gX L true [] s s_29 := by rw [e_30]; exact gX.wI hf_25 (gXt kt_26 hs_24 (by omega) (by omega) (by omega))
        have kt_33 : kT L s_29 a_17 n_18 := by rw [e_30]; exact kt_26
        have z_34 : gp_sz s_29 = gp_sz s_22 ∧ gp_us s_29 = gp_us s_22 := by rw [e_30]; exact ⟨rfl, rfl⟩
        have pd_35 : IK s s_29 := by rw [e_30]; exact IK_wI pd_28 (Or.inr (by omega))
        try rw [show gp_wr (v3_20 + 1) = v3_20 + 1 from gp_wr_id (by omega) (by omega)]
        exact ih_20 _ _ hs_31 hf_32 pd_35 kt_33 (by omega) (by omega) (WTI_s iv0_20 ⟨by omega, by omega⟩ rfl (by assumption) (by assumption)) (by first | omega | assumption) (by omega)
  exact lp_20 _ _ _ hs_7 hf_15 pd_16 p_9 (by omega) (by omega) (WTI_0 hzr) (by first | omega | assumption) (Nat.lt_succ_self _)
