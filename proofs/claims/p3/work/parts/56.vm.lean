theorem SUM_all : ∀ m, SUM m
  | 0 => fun L D K s p0 p1 p2 p3 hD hs h0 h1 h2 h3 a b c k => absurd c (by omega)
  | m + 1 => vm_sum m (SUM_all m)
theorem vm_sum4 {L d : Nat} {K : Option gV → gH → Prop} {s : gH} (p0 p1 p2 p3 : Int) (hs : MI s) (h_p0 : 0 ≤ p0 ∧ p0 ≤ 84) (h_p1 : 0 ≤ p1 ∧ p1 ≤ 63) (h_p2 : 0 ≤ p2 ∧ p2 ≤ 84) (h_p3 : 0 ≤ p3 ∧ p3 ≤ 63) (q0 : MDi s) (q1 : SumP s) (k : ∀ (r : Int), ∀ (t : gH), MI t → gF [76, 77, 78, 79, 80, 81, 105] [15] s t → (0 ≤ r ∧ r ≤ 63) → (MDi t) → (SumP t) → (r < gp_I t 81 20) → (gp_I s 81 20 ≤ gp_I t 81 20) → (mOut s t) → K (some (gp_i r)) t) : gs_C L (d + 133) 3118 11 [gp_r (some 74), gp_i p0, gp_i p1, gp_i p2, gp_i p3] s K :=
  SUM_all 127 _ _ _ _ _ _ _ _ (by omega) hs h_p0 h_p1 h_p2 h_p3 q0 q1 (by omega) k
set_option maxRecDepth 100000 in
/-- GatheredPointsModel.sums -/
theorem vm_sums  {L d : Nat} {K : Option gV → gH → Prop} {s : gH}  (p0 : Int) (p1 : Int) (hs : MI s) (h_p0 : 0 ≤ p0 ∧ p0 ≤ 84) (h_p1 : 0 ≤ p1 ∧ p1 ≤ 84) (q0 : p0 ≠ 20) (q1 : p1 ≠ 20) (q2 : 1 ≤ gp_I s 81 p0.toNat) (q3 : 1 ≤ gp_I s 81 p1.toNat) (k : ∀ (r : Int), ∀ (t : gH), MI t → gF [76, 77, 78, 79, 80, 81, 86, 87, 88, 105] [15] s t → (0 ≤ r ∧ r ≤ 6) → (r ≠ 4 → 1 ≤ gp_I t 81 19 ∧ gp_I t 81 19 ≤ 60) → (r = 4 ∨ r = 6 ∨ r = 0) → (mK s t) → K (some (gp_i r)) t) : gs_C L (d + 186) 3120 4 [gp_r (some 74), gp_i p0, gp_i p1] s K := by
  have f_1 := mr81 hs 20
  have f_2 := mr74_15 hs
  have f_3 := mr81 hs p0.toNat
  have f_4 := mr81 hs p1.toNat
  refine s_3120_e _ _ ?_
  refine vm_begins2 hs (fun s_5 hs_6 hf_7 p_8 p_9 p_10 p_11 => ⟨rfl, ?_⟩)
  have hf_12 : gF [76, 77, 78, 79, 80, 81, 86, 87, 88, 105] [15] s s_5 := gF.sub hf_7 rfl rfl
  have mo_13 : mOut s s_5 := mOut.trans (mOut.refl _) p_11
  have mb_14 : mK s s_5 := mK.trans (mK.refl _) (mK_o p_11)
  have q_15 := p_11.1 p0.toNat (by omega)
  have q_16 := p_11.1 p1.toNat (by omega)
  have lp_17 : ∀ (n_17 : Nat) (v3_17 : Int) (s_17 : gH), (MI s_17) → (gF [76, 77, 78, 79, 80, 81, 86, 87, 88, 105] [15] s s_17) → (MDi s_17) → (mOut s s_17) → (mK s s_17) → (0 ≤ v3_17 ∧ v3_17 ≤ 4096) → (gp_I s_17 81 20 = gp_I s_5 81 20) → (gp_I s_17 74 15 = gp_I s_5 74 15) → (gp_I s_17 81 p0.toNat = gp_I s_5 81 p0.toNat) → (gp_I s_17 81 p1.toNat = gp_I s_5 81 p1.toNat) → (∀ k : Nat, (k : Int) < v3_17 → gp_I s_17 105 k = 0) → (4097 - v3_17).toNat < n_17 → gs_E L (d + 186) 3120 6 [gp_r (some 74), gp_i p0, gp_i p1, gp_i v3_17] [] s_17 K := by
    intro n_17
    induction n_17 with
    | zero => intro v3_17 s_17 hs_s_17 hf_s_17 MDi_s_17 mOut_s_17 mK_s_17 hv3_17 tk0_17 tk1_17 tk2_17 tk3_17 iv0_17 hm_17; exact absurd hm_17 (Nat.not_lt_zero _)
    | succ n_17 ih_17 =>
      intro v3_17 s_17 hs_s_17 hf_s_17 MDi_s_17 mOut_s_17 mK_s_17 hv3_17 tk0_17 tk1_17 tk2_17 tk3_17 iv0_17 hm_17
      refine s_3120_6 _ _ _ ?_
      refine ⟨fun h_18 => ?_, fun h_18 => ?_⟩
      · refine ⟨by omega, ?_⟩
        intro s_19 e_20
        have hs_21 : MI s_19 := by rw [e_20]; exact mw105 hs_s_17 _ _ (by omega)
        have hf_22 : gF [76, 77, 78, 79, 80, 81, 86, 87, 88, 105] [15] s s_19 := by rw [e_20]; exact gF.wI hf_s_17 (Or.inl rfl)
        have q_23 : gp_I s_19 81 20 = gp_I s_17 81 20 := by rw [e_20] <;> rfl
        have q_24 : gp_I s_19 74 15 = gp_I s_17 74 15 := by rw [e_20] <;> rfl
        have q_25 : gp_I s_19 81 p0.toNat = gp_I s_17 81 p0.toNat := by rw [e_20] <;> rfl
        have q_26 : gp_I s_19 81 p1.toNat = gp_I s_17 81 p1.toNat := by rw [e_20] <;> rfl
        have pd_27 : MDi s_19 := by rw [e_20]; exact MDi_fr MDi_s_17 (gF.wI (gF.refl [105] [] _) (Or.inl rfl)) rfl rfl rfl rfl rfl rfl rfl
        have mo_28 : mOut s s_19 := by rw [e_20]; exact mOut_wI mOut_s_17 (by decide)
        have mb_29 : mK s s_19 := by rw [e_20]; exact mK_wI mK_s_17 (by decide)
        try rw [show gp_wr (v3_17 + 1) = v3_17 + 1 from gp_wr_id (by omega) (by omega)]
        exact ih_17 _ _ hs_21 hf_22 pd_27 mo_28 mb_29 (by omega) (by first | rfl | omega) (by first | rfl | omega) (by first | rfl | omega) (by first | rfl | omega) (by subst_vars; exact z_step (by omega) (by assumption)) (by omega)
      · have hsp : SumP s_17 := SumP_0 (fun k hk => iv0_17 k (by omega)) (by omega) (by omega)
        refine vm_root _ hs_s_17 (by omega) (fun x_30 p_31 p_32 => ⟨_, rfl, ?_⟩)
        refine vm_root _ hs_s_17 (by omega) (fun x_33 p_34 p_35 => ⟨_, rfl, ?_⟩)
        refine vm_sum4 _ _ _ _ hs_s_17 (by omega) (by omega) (by omega) (by omega) (MDi_s_17) (by assumption) (fun x_36 s_37 hs_38 hf_39 p_40 p_41 p_42 p_43 p_44 p_45 => ⟨_, rfl, ?_⟩)
        have hf_46 : gF [76, 77, 78, 79, 80, 81, 86, 87, 88, 105] [15] s s_37 := gF.trans hf_s_17 hf_39 rfl rfl
        have mo_47 : mOut s s_37 := mOut.trans mOut_s_17 p_45
        have mb_48 : mK s s_37 := mK.trans mK_s_17 (mK_o p_45)
        have q_49 := p_45.1 p0.toNat (by omega)
        have q_50 := p_45.1 p1.toNat (by omega)
        refine vm_results _ hs_38 (by omega) (p_41) (by first | omega | assumption) (fun x_51 s_52 hs_53 hf_54 p_55 p_56 p_57 p_58 p_59 => ⟨_, rfl, ?_⟩)
        have hf_60 : gF [76, 77, 78, 79, 80, 81, 86, 87, 88, 105] [15] s s_52 := gF.trans hf_46 hf_54 rfl rfl
        have q_61 := (hf_54.2 74 15 rfl (fun _ => rfl)).1
        have mb_62 : mK s s_52 := mK.trans mb_48 p_59
        exact k _ s_52 hs_53 hf_60 (by omega) (by first | omega | assumption) (by first | omega | assumption) mb_62
  exact lp_17 _ _ _ hs_6 hf_12 p_10 mo_13 mb_14 (by omega) (by first | rfl | omega) (by first | rfl | omega) (by first | rfl | omega) (by first | rfl | omega) (fun k hk => absurd hk (by omega)) (Nat.lt_succ_self _)
def AL_g (m : Nat) : Prop := ∀ (L D : Nat) (K : Option gV → gH → Prop) (s : gH)  (p0 : Int) (p1 : Int) (p2 : Int) (p3 : Int) (p4 : Int), ((3 * m + 6 ≤ D)) → (MI s) → (0 ≤ p0 ∧ p0 ≤ 19) → (0 ≤ p1 ∧ p1 ≤ 63) → (0 ≤ p2 ∧ p2 ≤ 19) → (0 ≤ p3 ∧ p3 ≤ 63) → (0 ≤ p4 ∧ p4 ≤ 1) → (p1 + p3 < m) → (∀ (r : Int), ∀ (t : gH), MI t → gF [98, 99] [] s t → (0 ≤ r ∧ r ≤ 1) → K (some (gp_i r)) t) → gs_C L D 3105 7 [gp_r (some 74), gp_i p0, gp_i p1, gp_i p2, gp_i p3, gp_i p4] s K
def IA_g (m : Nat) : Prop := ∀ (L D : Nat) (K : Option gV → gH → Prop) (s : gH)  (p0 : Int) (p1 : Int) (p2 : Int) (p3 : Int) (p4 : Int), ((3 * m + 5 ≤ D)) → (MI s) → (0 ≤ p0 ∧ p0 ≤ 19) → (0 ≤ p1 ∧ p1 ≤ 63) → (0 ≤ p2 ∧ p2 ≤ 19) → (0 ≤ p3 ∧ p3 ≤ 63) → (0 ≤ p4 ∧ p4 ≤ 1) → (p1 + p3 < m) → (∀ (r : Int), ∀ (t : gH), MI t → gF [98, 99] [] s t → (0 ≤ r ∧ r ≤ 1) → K (some (gp_i r)) t) → gs_C L D 3106 9 [gp_r (some 74), gp_i p0, gp_i p1, gp_i p2, gp_i p3, gp_i p4] s K
def NL_g (m : Nat) : Prop := ∀ (L D : Nat) (K : Option gV → gH → Prop) (s : gH)  (p0 : Int) (p1 : Int) (p2 : Int) (p3 : Int) (p4 : Int), ((3 * m + 7 ≤ D)) → (MI s) → (0 ≤ p0 ∧ p0 ≤ 19) → (0 ≤ p1 ∧ p1 ≤ 63) → (0 ≤ p2 ∧ p2 ≤ 19) → (0 ≤ p3 ∧ p3 ≤ 63) → (0 ≤ p4 ∧ p4 ≤ 1) → (p1 + p3 < m) → (∀ (r : Int), ∀ (t : gH), MI t → gF [98, 99] [] s t → ((-1) ≤ r ∧ r ≤ 164) → K (some (gp_i r)) t) → gs_C L D 3107 11 [gp_r (some 74), gp_i p0, gp_i p1, gp_i p2, gp_i p3, gp_i p4] s K
def NR_g (m : Nat) : Prop := ∀ (L D : Nat) (K : Option gV → gH → Prop) (s : gH)  (p0 : Int) (p1 : Int) (p2 : Int) (p3 : Int) (p4 : Int), ((3 * m + 7 ≤ D)) → (MI s) → (0 ≤ p0 ∧ p0 ≤ 19) → (0 ≤ p1 ∧ p1 ≤ 63) → (0 ≤ p2 ∧ p2 ≤ 19) → (0 ≤ p3 ∧ p3 ≤ 63) → (0 ≤ p4 ∧ p4 ≤ 1) → (p1 + p3 < m) → (∀ (r : Int), ∀ (t : gH), MI t → gF [98, 99] [] s t → ((-1) ≤ r ∧ r ≤ 164) → K (some (gp_i r)) t) → gs_C L D 3108 11 [gp_r (some 74), gp_i p0, gp_i p1, gp_i p2, gp_i p3, gp_i p4] s K
set_option maxRecDepth 100000 in
/-- GatheredPointsModel.answerLeft -/
theorem vm_answerLeft_g (m : Nat) (ihA : AL_g m) : NL_g m := by
  intro L D K s p0 p1 p2 p3 p4 hD hs h_p0 h_p1 h_p2 h_p3 h_p4 q0 k
  obtain ⟨d, rfl⟩ : ∃ d, D = d + 4 := ⟨D - 4, by omega⟩
  refine s_3107_e _ _ _ _ _ ?_
  try rw [show gp_wr (64 * p0) = 64 * p0 from gp_wr_id (by omega) (by omega)]
  try rw [show gp_wr ((64 * p0) + p1) = (64 * p0) + p1 from gp_wr_id (by omega) (by omega)]
  refine ⟨by omega, ?_⟩
  have b_1 := mr76 hs p0 p1 (by omega) (by omega)
  have lp_2 : ∀ (n_2 : Nat) (v8_2 : Int) (v9_2 : gV) (v10_2 : gV) (s_2 : gH), (MI s_2) → (gF [98, 99] [] s s_2) → (0 ≤ v8_2 ∧ v8_2 ≤ 64) → (65 - v8_2).toNat < n_2 → gs_E L (d + 4) 3107 16 [gp_r (some 74), gp_i p0, gp_i p1, gp_i p2, gp_i p3, gp_i p4, gp_l (gp_L s 76 (Int.toNat ((64 * p0) + p1))), gp_n, gp_i v8_2, v9_2, v10_2] [] s_2 K := by
    intro n_2
    induction n_2 with
    | zero => intro v8_2 v9_2 v10_2 s_2 hs_s_2 hf_s_2 hv8_2 hm_2; exact absurd hm_2 (Nat.not_lt_zero _)
    | succ n_2 ih_2 =>
      intro v8_2 v9_2 v10_2 s_2 hs_s_2 hf_s_2 hv8_2 hm_2
      refine s_3107_16 _ _ _ _ _ _ _ _ _ ?_
      refine vm_size _ (fun x_3 p_4 p_5 => ⟨_, rfl, ?_⟩)
      refine ⟨fun h_6 => ?_, fun h_6 => ?_⟩
      · refine vm_option_g _ _ _ hs_s_2 (by omega) (by omega) (by first | omega | assumption) (fun x_7 p_8 p_9 => ⟨_, rfl, ?_⟩)
        have hb1 := ‹bd _ p1› _ (‹BitVec.getLsbD _ _ = true›)
        refine ihA _ _ _ _ _ _ _ _ _ (by omega) hs_s_2 (by omega) (by omega) (by omega) (by omega) (by omega) (by first | omega | assumption) (fun x_10 s_11 hs_12 hf_13 p_14 => ⟨_, rfl, ?_⟩)
        have hf_15 : gF [98, 99] [] s s_11 := gF.trans hf_s_2 hf_13 rfl rfl
        refine ⟨fun h_16 => ?_, fun h_16 => ?_⟩
        · try rw [show gp_wr (v8_2 + 1) = v8_2 + 1 from gp_wr_id (by omega) (by omega)]
          exact ih_2 _ _ _ _ hs_12 hf_15 (by omega) (by omega)
        · exact k _ s_11 hs_12 hf_15 (by omega)
      · try rw [show gp_wr (64 * p2) = 64 * p2 from gp_wr_id (by omega) (by omega)]
        try rw [show gp_wr ((64 * p2) + p3) = (64 * p2) + p3 from gp_wr_id (by omega) (by omega)]
        refine ⟨by omega, ?_⟩
        have b_17 := mr77 hs_s_2 p2 p3 (by omega) (by omega)
        have lp_18 : ∀ (n_18 : Nat) (v10_18 : Int) (s_18 : gH), (MI s_18) → (gF [98, 99] [] s s_18) → (0 ≤ v10_18 ∧ v10_18 ≤ 64) → (65 - v10_18).toNat < n_18 → gs_E L (d + 4) 3107 74 [gp_r (some 74), gp_i p0, gp_i p1, gp_i p2, gp_i p3, gp_i p4, gp_l (gp_L s 76 (Int.toNat ((64 * p0) + p1))), gp_n, gp_l (gp_L s_2 77 (Int.toNat ((64 * p2) + p3))), gp_n, gp_i v10_18] [] s_18 K := by
          intro n_18
          induction n_18 with
          | zero => intro v10_18 s_18 hs_s_18 hf_s_18 hv10_18 hm_18; exact absurd hm_18 (Nat.not_lt_zero _)
          | succ n_18 ih_18 =>
            intro v10_18 s_18 hs_s_18 hf_s_18 hv10_18 hm_18
            refine s_3107_74 _ _ _ _ _ _ _ _ ?_
            refine vm_size _ (fun x_19 p_20 p_21 => ⟨_, rfl, ?_⟩)
            refine ⟨fun h_22 => ?_, fun h_22 => ?_⟩
            · refine vm_option_g _ _ _ hs_s_18 (by omega) (by omega) (by first | omega | assumption) (fun x_23 p_24 p_25 => ⟨_, rfl, ?_⟩)
              have hb2 := ‹bd _ p3› _ (‹BitVec.getLsbD _ _ = true›)
              refine ihA _ _ _ _ _ _ _ _ _ (by omega) hs_s_18 (by omega) (by omega) (by omega) (by omega) (by omega) (by first | omega | assumption) (fun x_26 s_27 hs_28 hf_29 p_30 => ⟨_, rfl, ?_⟩)
              have hf_31 : gF [98, 99] [] s s_27 := gF.trans hf_s_18 hf_29 rfl rfl
              refine ⟨fun h_32 => ?_, fun h_32 => ?_⟩
              · try rw [show gp_wr (v10_18 + 1) = v10_18 + 1 from gp_wr_id (by omega) (by omega)]
                exact ih_18 _ _ hs_28 hf_31 (by omega) (by omega)
              · try rw [show gp_wr (100 + v10_18) = 100 + v10_18 from gp_wr_id (by omega) (by omega)]
                exact k _ s_27 hs_28 hf_31 (by omega)
            · exact k _ s_18 hs_s_18 hf_s_18 (by omega)
        exact lp_18 _ _ _ hs_s_2 hf_s_2 (by omega) (Nat.lt_succ_self _)
  exact lp_2 _ _ _ _ _ hs (gF.refl _ _ _) (by omega) (Nat.lt_succ_self _)
set_option maxRecDepth 100000 in
/-- GatheredPointsModel.answerRight -/
theorem vm_answerRight_g (m : Nat) (ihA : AL_g m) : NR_g m := by
  intro L D K s p0 p1 p2 p3 p4 hD hs h_p0 h_p1 h_p2 h_p3 h_p4 q0 k
  obtain ⟨d, rfl⟩ : ∃ d, D = d + 4 := ⟨D - 4, by omega⟩
  refine s_3108_e _ _ _ _ _ ?_
  try rw [show gp_wr (64 * p2) = 64 * p2 from gp_wr_id (by omega) (by omega)]
  try rw [show gp_wr ((64 * p2) + p3) = (64 * p2) + p3 from gp_wr_id (by omega) (by omega)]
  refine ⟨by omega, ?_⟩
  have b_1 := mr77 hs p2 p3 (by omega) (by omega)
  have lp_2 : ∀ (n_2 : Nat) (v8_2 : Int) (v9_2 : gV) (v10_2 : gV) (s_2 : gH), (MI s_2) → (gF [98, 99] [] s s_2) → (0 ≤ v8_2 ∧ v8_2 ≤ 64) → (65 - v8_2).toNat < n_2 → gs_E L (d + 4) 3108 17 [gp_r (some 74), gp_i p0, gp_i p1, gp_i p2, gp_i p3, gp_i p4, gp_l (gp_L s 77 (Int.toNat ((64 * p2) + p3))), gp_n, gp_i v8_2, v9_2, v10_2] [] s_2 K := by
    intro n_2
    induction n_2 with
    | zero => intro v8_2 v9_2 v10_2 s_2 hs_s_2 hf_s_2 hv8_2 hm_2; exact absurd hm_2 (Nat.not_lt_zero _)
    | succ n_2 ih_2 =>
      intro v8_2 v9_2 v10_2 s_2 hs_s_2 hf_s_2 hv8_2 hm_2
      refine s_3108_17 _ _ _ _ _ _ _ _ _ ?_
      refine vm_size _ (fun x_3 p_4 p_5 => ⟨_, rfl, ?_⟩)
      refine ⟨fun h_6 => ?_, fun h_6 => ?_⟩
      · refine vm_option_g _ _ _ hs_s_2 (by omega) (by omega) (by first | omega | assumption) (fun x_7 p_8 p_9 => ⟨_, rfl, ?_⟩)
        have hb1 := ‹bd _ p3› _ (‹BitVec.getLsbD _ _ = true›)
        refine ihA _ _ _ _ _ _ _ _ _ (by omega) hs_s_2 (by omega) (by omega) (by omega) (by omega) (by omega) (by first | omega | assumption) (fun x_10 s_11 hs_12 hf_13 p_14 => ⟨_, rfl, ?_⟩)
        have hf_15 : gF [98, 99] [] s s_11 := gF.trans hf_s_2 hf_13 rfl rfl
        refine ⟨fun h_16 => ?_, fun h_16 => ?_⟩
        · try rw [show gp_wr (v8_2 + 1) = v8_2 + 1 from gp_wr_id (by omega) (by omega)]
          exact ih_2 _ _ _ _ hs_12 hf_15 (by omega) (by omega)
        · exact k _ s_11 hs_12 hf_15 (by omega)
      · try rw [show gp_wr (64 * p0) = 64 * p0 from gp_wr_id (by omega) (by omega)]
        try rw [show gp_wr ((64 * p0) + p1) = (64 * p0) + p1 from gp_wr_id (by omega) (by omega)]
        refine ⟨by omega, ?_⟩
        have b_17 := mr76 hs_s_2 p0 p1 (by omega) (by omega)
        have lp_18 : ∀ (n_18 : Nat) (v10_18 : Int) (s_18 : gH), (MI s_18) → (gF [98, 99] [] s s_18) → (0 ≤ v10_18 ∧ v10_18 ≤ 64) → (65 - v10_18).toNat < n_18 → gs_E L (d + 4) 3108 73 [gp_r (some 74), gp_i p0, gp_i p1, gp_i p2, gp_i p3, gp_i p4, gp_l (gp_L s 77 (Int.toNat ((64 * p2) + p3))), gp_n, gp_l (gp_L s_2 76 (Int.toNat ((64 * p0) + p1))), gp_n, gp_i v10_18] [] s_18 K := by
          intro n_18
          induction n_18 with
          | zero => intro v10_18 s_18 hs_s_18 hf_s_18 hv10_18 hm_18; exact absurd hm_18 (Nat.not_lt_zero _)
          | succ n_18 ih_18 =>
            intro v10_18 s_18 hs_s_18 hf_s_18 hv10_18 hm_18
            refine s_3108_73 _ _ _ _ _ _ _ _ ?_
            refine vm_size _ (fun x_19 p_20 p_21 => ⟨_, rfl, ?_⟩)
            refine ⟨fun h_22 => ?_, fun h_22 => ?_⟩
            · refine vm_option_g _ _ _ hs_s_18 (by omega) (by omega) (by first | omega | assumption) (fun x_23 p_24 p_25 => ⟨_, rfl, ?_⟩)
              have hb2 := ‹bd _ p1› _ (‹BitVec.getLsbD _ _ = true›)
              refine ihA _ _ _ _ _ _ _ _ _ (by omega) hs_s_18 (by omega) (by omega) (by omega) (by omega) (by omega) (by first | omega | assumption) (fun x_26 s_27 hs_28 hf_29 p_30 => ⟨_, rfl, ?_⟩)
              have hf_31 : gF [98, 99] [] s s_27 := gF.trans hf_s_18 hf_29 rfl rfl
              refine ⟨fun h_32 => ?_, fun h_32 => ?_⟩
              · try rw [show gp_wr (v10_18 + 1) = v10_18 + 1 from gp_wr_id (by omega) (by omega)]
                exact ih_18 _ _ hs_28 hf_31 (by omega) (by omega)
              · try rw [show gp_wr (100 + v10_18) = 100 + v10_18 from gp_wr_id (by omega) (by omega)]
                exact k _ s_27 hs_28 hf_31 (by omega)
            · exact k _ s_18 hs_s_18 hf_s_18 (by omega)
        exact lp_18 _ _ _ hs_s_2 hf_s_2 (by omega) (Nat.lt_succ_self _)
  exact lp_2 _ _ _ _ _ hs (gF.refl _ _ _) (by omega) (Nat.lt_succ_self _)
set_option maxRecDepth 100000 in
/-- GatheredPointsModel.isAtLeast -/
theorem vm_isAtLeast_g (m : Nat) (ihL : NL_g m) (ihR : NR_g m) : IA_g (m + 1) := by
  intro L D K s p0 p1 p2 p3 p4 hD hs h_p0 h_p1 h_p2 h_p3 h_p4 q0 k
  obtain ⟨d, rfl⟩ : ∃ d, D = d + 2 := ⟨D - 2, by omega⟩
  refine s_3106_e _ _ _ _ _ ?_
  have jn50_3 : ∀ (j_2 : Int), (0 ≤ j_2 ∧ j_2 ≤ 1) → gs_E L (d + 2) 3106 50 [gp_r (some 74), gp_i p0, gp_i p1, gp_i p2, gp_i p3, gp_i p4, gp_n, gp_n, gp_n] [gp_i j_2] s K := by
    intro j_2 hj_3
    refine s_3106_50 _ _ _ _ _ _ _ _ _ ?_
    have jn102_7 : ∀ (j_6 : Int), (0 ≤ j_6 ∧ j_6 ≤ 1) → gs_E L (d + 2) 3106 102 [gp_r (some 74), gp_i p0, gp_i p1, gp_i p2, gp_i p3, gp_i p4, gp_i j_2, gp_n, gp_n] [gp_i j_6] s K := by
      intro j_6 hj_7
      refine s_3106_102 _ _ _ _ _ _ _ _ _ ?_
      refine ⟨fun h_9 => ?_, fun h_9 => ?_⟩
      · refine ⟨fun h_10 => ?_, fun h_10 => ?_⟩
        · have lp_11 : ∀ (n_11 : Nat) (v8_11 : Int) (s_11 : gH), (MI s_11) → (gF [98, 99] [] s s_11) → (0 ≤ v8_11 ∧ v8_11 ≤ 63) → (64 - v8_11).toNat < n_11 → gs_E L (d + 2) 3106 119 [gp_r (some 74), gp_i p0, gp_i p1, gp_i p2, gp_i p3, gp_i p4, gp_i j_2, gp_i j_6, gp_i v8_11] [] s_11 K := by
            intro n_11
            induction n_11 with
            | zero => intro v8_11 s_11 hs_s_11 hf_s_11 hv8_11 hm_11; exact absurd hm_11 (Nat.not_lt_zero _)
            | succ n_11 ih_11 =>
              intro v8_11 s_11 hs_s_11 hf_s_11 hv8_11 hm_11
              refine s_3106_119 _ _ _ _ _ _ _ _ ?_
              refine ⟨fun h_12 => ?_, fun h_12 => ?_⟩
              · try rw [show gp_wr (64 * p2) = 64 * p2 from gp_wr_id (by omega) (by omega)]
                try rw [show gp_wr ((64 * p2) + p3) = (64 * p2) + p3 from gp_wr_id (by omega) (by omega)]
                refine ⟨by omega, ?_⟩
                have b_13 := mr76 hs_s_11 p2 p3 (by omega) (by omega)
                refine vm_has _ _ (by omega) (fun x_14 p_15 p_16 => ⟨_, rfl, ?_⟩)
                refine ⟨fun h_17 => ?_, fun h_17 => ?_⟩
                · have hb_18 := hasF p_16 h_17
                  refine s_3106_162 _ _ _ _ _ _ _ _ ?_
                  try rw [show gp_wr (v8_11 + 1) = v8_11 + 1 from gp_wr_id (by omega) (by omega)]
                  exact ih_11 _ _ hs_s_11 hf_s_11 (by omega) (by omega)
                · have hb_19 := hasT p_16 h_17
                  refine ihL _ _ _ _ _ _ _ _ _ (by omega) hs_s_11 (by omega) (by omega) (by omega) (by omega) (by omega) (by first | omega | assumption) (fun x_20 s_21 hs_22 hf_23 p_24 => ⟨_, rfl, ?_⟩)
                  have hf_25 : gF [98, 99] [] s s_21 := gF.trans hf_s_11 hf_23 rfl rfl
                  refine ⟨fun h_26 => ?_, fun h_26 => ?_⟩
                  · exact k _ s_21 hs_22 hf_25 (by omega)
                  · refine s_3106_162 _ _ _ _ _ _ _ _ ?_
                    try rw [show gp_wr (v8_11 + 1) = v8_11 + 1 from gp_wr_id (by omega) (by omega)]
                    exact ih_11 _ _ hs_22 hf_25 (by omega) (by omega)
              · have lp_27 : ∀ (n_27 : Nat) (v8_27 : Int) (s_27 : gH), (MI s_27) → (gF [98, 99] [] s s_27) → (0 ≤ v8_27 ∧ v8_27 ≤ 63) → (64 - v8_27).toNat < n_27 → gs_E L (d + 2) 3106 171 [gp_r (some 74), gp_i p0, gp_i p1, gp_i p2, gp_i p3, gp_i p4, gp_i j_2, gp_i j_6, gp_i v8_27] [] s_27 K := by
                  intro n_27
                  induction n_27 with
                  | zero => intro v8_27 s_27 hs_s_27 hf_s_27 hv8_27 hm_27; exact absurd hm_27 (Nat.not_lt_zero _)
                  | succ n_27 ih_27 =>
                    intro v8_27 s_27 hs_s_27 hf_s_27 hv8_27 hm_27
                    refine s_3106_171 _ _ _ _ _ _ _ _ ?_
                    refine ⟨fun h_28 => ?_, fun h_28 => ?_⟩
                    · try rw [show gp_wr (64 * p0) = 64 * p0 from gp_wr_id (by omega) (by omega)]
                      try rw [show gp_wr ((64 * p0) + p1) = (64 * p0) + p1 from gp_wr_id (by omega) (by omega)]
                      refine ⟨by omega, ?_⟩
                      have b_29 := mr77 hs_s_27 p0 p1 (by omega) (by omega)
                      refine vm_has _ _ (by omega) (fun x_30 p_31 p_32 => ⟨_, rfl, ?_⟩)
                      refine ⟨fun h_33 => ?_, fun h_33 => ?_⟩
                      · have hb_34 := hasF p_32 h_33
                        refine s_3106_213 _ _ _ _ _ _ _ _ ?_
                        try rw [show gp_wr (v8_27 + 1) = v8_27 + 1 from gp_wr_id (by omega) (by omega)]
                        exact ih_27 _ _ hs_s_27 hf_s_27 (by omega) (by omega)
                      · have hb_35 := hasT p_32 h_33
                        refine ihR _ _ _ _ _ _ _ _ _ (by omega) hs_s_27 (by omega) (by omega) (by omega) (by omega) (by omega) (by first | omega | assumption) (fun x_36 s_37 hs_38 hf_39 p_40 => ⟨_, rfl, ?_⟩)
                        have hf_41 : gF [98, 99] [] s s_37 := gF.trans hf_s_27 hf_39 rfl rfl
                        refine ⟨fun h_42 => ?_, fun h_42 => ?_⟩
                        · exact k _ s_37 hs_38 hf_41 (by omega)
                        · refine s_3106_213 _ _ _ _ _ _ _ _ ?_
                          try rw [show gp_wr (v8_27 + 1) = v8_27 + 1 from gp_wr_id (by omega) (by omega)]
                          exact ih_27 _ _ hs_38 hf_41 (by omega) (by omega)
                    · exact k _ s_27 hs_s_27 hf_s_27 (by omega)
                exact lp_27 _ _ _ hs_s_11 hf_s_11 (by omega) (Nat.lt_succ_self _)
          exact lp_11 _ _ _ hs (gF.refl _ _ _) (by omega) (Nat.lt_succ_self _)
        · refine s_3106_114 _ _ _ _ _ _ _ _ ?_
          exact k _ s hs (gF.refl _ _ _) (by omega)
      · refine s_3106_114 _ _ _ _ _ _ _ _ ?_
        exact k _ s hs (gF.refl _ _ _) (by omega)
    refine ⟨fun h_5 => ?_, fun h_5 => ?_⟩
    · refine ⟨by omega, ?_⟩
      refine ⟨by omega, ?_⟩
      refine ⟨fun h_43 => ?_, fun h_43 => ?_⟩
      · exact jn102_7 _ (by omega)
      · exact jn102_7 _ (by omega)
    · refine ⟨by omega, ?_⟩
      refine ⟨by omega, ?_⟩
      refine ⟨fun h_44 => ?_, fun h_44 => ?_⟩
      · exact jn102_7 _ (by omega)
      · exact jn102_7 _ (by omega)
  refine ⟨fun h_1 => ?_, fun h_1 => ?_⟩
  · refine ⟨by omega, ?_⟩
    refine ⟨by omega, ?_⟩
    refine ⟨fun h_45 => ?_, fun h_45 => ?_⟩
    · exact jn50_3 _ (by omega)
    · exact jn50_3 _ (by omega)
  · refine ⟨by omega, ?_⟩
    refine ⟨by omega, ?_⟩
    refine ⟨fun h_46 => ?_, fun h_46 => ?_⟩
    · exact jn50_3 _ (by omega)
    · exact jn50_3 _ (by omega)
set_option maxRecDepth 100000 in
/-- GatheredPointsModel.atLeast -/
theorem vm_atLeast_g (m : Nat) (ihI : IA_g m) : AL_g m := by
  intro L D K s p0 p1 p2 p3 p4 hD hs h_p0 h_p1 h_p2 h_p3 h_p4 q0 k
  obtain ⟨d, rfl⟩ : ∃ d, D = d + 2 := ⟨D - 2, by omega⟩
  refine s_3105_e _ _ _ _ _ ?_
  refine ⟨fun h_1 => ?_, fun h_1 => ?_⟩
  · refine s_3105_16 _ _ _ _ _ _ _ ?_
    try rw [show gp_wr (64 * p1) = 64 * p1 from gp_wr_id (by omega) (by omega)]
    try rw [show gp_wr ((64 * p1) + p3) = (64 * p1) + p3 from gp_wr_id (by omega) (by omega)]
    refine ⟨98, rfl, ?_⟩
    refine ⟨⟨rfl, by show 0 ≤ (64 * p1) + p3 ∧ (64 * p1) + p3 < 4096; omega⟩, ?_⟩
    have f_5 := mr98 hs (Int.toNat ((64 * p1) + p3))
    refine ⟨fun h_6 => ?_, fun h_6 => ?_⟩
    · try rw [show gp_wr (64 * p1) = 64 * p1 from gp_wr_id (by omega) (by omega)]
      try rw [show gp_wr ((64 * p1) + p3) = (64 * p1) + p3 from gp_wr_id (by omega) (by omega)]
      refine ihI _ _ _ _ _ _ _ _ _ (by omega) hs (by omega) (by omega) (by omega) (by omega) (by omega) (by first | omega | assumption) (fun x_9 s_10 hs_11 hf_12 p_13 => ⟨_, rfl, ?_⟩)
      have hf_14 : gF [98, 99] [] s s_10 := gF.sub hf_12 rfl rfl
      have jn59_21 : ∀ (j_20 : Int), (1 ≤ j_20 ∧ j_20 ≤ 2) → gs_E L (d + 2) 3105 59 [gp_r (some 74), gp_i p0, gp_i p1, gp_i p2, gp_i p3, gp_i p4, gp_r (some 98)] [gp_i j_20, gp_i ((64 * p1) + p3), gp_r (some 98)] s_10 K := by
        intro j_20 hj_21
        refine s_3105_59 _ _ _ _ _ _ _ _ _ ?_
        refine ⟨98, rfl, ?_⟩
        refine ⟨⟨rfl, by show 0 ≤ (64 * p1) + p3 ∧ (64 * p1) + p3 < 4096; omega⟩, ?_⟩
        intro s_23 e_24
        have hs_25 : MI s_23 := by rw [e_24]; exact mw98 hs_11 _ _ (by omega)
        have hf_26 : gF [98, 99] [] s s_23 := by rw [e_24]; exact gF.wI hf_14 (Or.inl rfl)
        refine s_3105_60 _ _ _ _ _ _ ?_
        try rw [show gp_wr (64 * p1) = 64 * p1 from gp_wr_id (by omega) (by omega)]
        try rw [show gp_wr ((64 * p1) + p3) = (64 * p1) + p3 from gp_wr_id (by omega) (by omega)]
        refine ⟨98, rfl, ?_⟩
        refine ⟨⟨rfl, by show 0 ≤ (64 * p1) + p3 ∧ (64 * p1) + p3 < 4096; omega⟩, ?_⟩
        have f_28 := mr98 hs_25 (Int.toNat ((64 * p1) + p3))
        refine ⟨fun h_29 => ?_, fun h_29 => ?_⟩
        · refine s_3105_79 _ _ _ _ _ _ _ ?_
          refine ⟨by omega, ?_⟩
          exact k _ s_23 hs_25 hf_26 (by omega)
        · refine s_3105_79 _ _ _ _ _ _ _ ?_
          refine ⟨by omega, ?_⟩
          exact k _ s_23 hs_25 hf_26 (by omega)
      refine ⟨fun h_15 => ?_, fun h_15 => ?_⟩
      · exact jn59_21 _ (by omega)
      · exact jn59_21 _ (by omega)
    · refine s_3105_60 _ _ _ _ _ _ ?_
      try rw [show gp_wr (64 * p1) = 64 * p1 from gp_wr_id (by omega) (by omega)]
      try rw [show gp_wr ((64 * p1) + p3) = (64 * p1) + p3 from gp_wr_id (by omega) (by omega)]
      refine ⟨98, rfl, ?_⟩
      refine ⟨⟨rfl, by show 0 ≤ (64 * p1) + p3 ∧ (64 * p1) + p3 < 4096; omega⟩, ?_⟩
      have f_37 := mr98 hs (Int.toNat ((64 * p1) + p3))
      refine ⟨fun h_38 => ?_, fun h_38 => ?_⟩
      · refine s_3105_79 _ _ _ _ _ _ _ ?_
        refine ⟨by omega, ?_⟩
        exact k _ s hs (gF.refl _ _ _) (by omega)
      · refine s_3105_79 _ _ _ _ _ _ _ ?_
        refine ⟨by omega, ?_⟩
        exact k _ s hs (gF.refl _ _ _) (by omega)
  · refine s_3105_16 _ _ _ _ _ _ _ ?_
    try rw [show gp_wr (64 * p1) = 64 * p1 from gp_wr_id (by omega) (by omega)]
    try rw [show gp_wr ((64 * p1) + p3) = (64 * p1) + p3 from gp_wr_id (by omega) (by omega)]
    refine ⟨99, rfl, ?_⟩
    refine ⟨⟨rfl, by show 0 ≤ (64 * p1) + p3 ∧ (64 * p1) + p3 < 4096; omega⟩, ?_⟩
    have f_42 := mr99 hs (Int.toNat ((64 * p1) + p3))
    refine ⟨fun h_43 => ?_, fun h_43 => ?_⟩
    · try rw [show gp_wr (64 * p1) = 64 * p1 from gp_wr_id (by omega) (by omega)]
      try rw [show gp_wr ((64 * p1) + p3) = (64 * p1) + p3 from gp_wr_id (by omega) (by omega)]
      refine ihI _ _ _ _ _ _ _ _ _ (by omega) hs (by omega) (by omega) (by omega) (by omega) (by omega) (by first | omega | assumption) (fun x_46 s_47 hs_48 hf_49 p_50 => ⟨_, rfl, ?_⟩)
      have hf_51 : gF [98, 99] [] s s_47 := gF.sub hf_49 rfl rfl
      have jn59_58 : ∀ (j_57 : Int), (1 ≤ j_57 ∧ j_57 ≤ 2) → gs_E L (d + 2) 3105 59 [gp_r (some 74), gp_i p0, gp_i p1, gp_i p2, gp_i p3, gp_i p4, gp_r (some 99)] [gp_i j_57, gp_i ((64 * p1) + p3), gp_r (some 99)] s_47 K := by
        intro j_57 hj_58
        refine s_3105_59 _ _ _ _ _ _ _ _ _ ?_
        refine ⟨99, rfl, ?_⟩
        refine ⟨⟨rfl, by show 0 ≤ (64 * p1) + p3 ∧ (64 * p1) + p3 < 4096; omega⟩, ?_⟩
        intro s_60 e_61
        have hs_62 : MI s_60 := by rw [e_61]; exact mw99 hs_48 _ _ (by omega)
        have hf_63 : gF [98, 99] [] s s_60 := by rw [e_61]; exact gF.wI hf_51 (Or.inl rfl)
        refine s_3105_60 _ _ _ _ _ _ ?_
        try rw [show gp_wr (64 * p1) = 64 * p1 from gp_wr_id (by omega) (by omega)]
        try rw [show gp_wr ((64 * p1) + p3) = (64 * p1) + p3 from gp_wr_id (by omega) (by omega)]
        refine ⟨99, rfl, ?_⟩
        refine ⟨⟨rfl, by show 0 ≤ (64 * p1) + p3 ∧ (64 * p1) + p3 < 4096; omega⟩, ?_⟩
        have f_65 := mr99 hs_62 (Int.toNat ((64 * p1) + p3))
        refine ⟨fun h_66 => ?_, fun h_66 => ?_⟩
        · refine s_3105_79 _ _ _ _ _ _ _ ?_
          refine ⟨by omega, ?_⟩
          exact k _ s_60 hs_62 hf_63 (by omega)
        · refine s_3105_79 _ _ _ _ _ _ _ ?_
          refine ⟨by omega, ?_⟩
          exact k _ s_60 hs_62 hf_63 (by omega)
      refine ⟨fun h_52 => ?_, fun h_52 => ?_⟩
      · exact jn59_58 _ (by omega)
      · exact jn59_58 _ (by omega)
    · refine s_3105_60 _ _ _ _ _ _ ?_
      try rw [show gp_wr (64 * p1) = 64 * p1 from gp_wr_id (by omega) (by omega)]
      try rw [show gp_wr ((64 * p1) + p3) = (64 * p1) + p3 from gp_wr_id (by omega) (by omega)]
      refine ⟨99, rfl, ?_⟩
      refine ⟨⟨rfl, by show 0 ≤ (64 * p1) + p3 ∧ (64 * p1) + p3 < 4096; omega⟩, ?_⟩
      have f_74 := mr99 hs (Int.toNat ((64 * p1) + p3))
      refine ⟨fun h_75 => ?_, fun h_75 => ?_⟩
      · refine s_3105_79 _ _ _ _ _ _ _ ?_
        refine ⟨by omega, ?_⟩
        exact k _ s hs (gF.refl _ _ _) (by omega)
      · refine s_3105_79 _ _ _ _ _ _ _ ?_
        refine ⟨by omega, ?_⟩
        exact k _ s hs (gF.refl _ _ _) (by omega)
theorem AL_g_all : ∀ m, AL_g m
  | 0 => by intro L D K s p0; intros; omega
  | m + 1 => vm_atLeast_g (m + 1) (vm_isAtLeast_g m (vm_answerLeft_g m (AL_g_all m)) (vm_answerRight_g m (AL_g_all m)))
def AL_m (m : Nat) : Prop := ∀ (L D : Nat) (K : Option gV → gH → Prop) (s : gH)  (p1 : Int) (p3 : Int), ((3 * m + 190 ≤ D)) → (MI s) → (0 ≤ p1 ∧ p1 ≤ 63) → (0 ≤ p3 ∧ p3 ≤ 63) → (MDi s) → (p1 ≤ gp_I s 81 20) → (p3 ≤ gp_I s 81 20) → (p1 + p3 < m) → (∀ (r : Int), ∀ (t : gH), MI t → gF [86, 98, 99] [] s t → (0 ≤ r ∧ r ≤ 1) → (MDi t) → K (some (gp_i r)) t) → gs_C L D 3105 7 [gp_r (some 74), gp_i 20, gp_i p1, gp_i 20, gp_i p3, gp_i 0] s K
def IA_m (m : Nat) : Prop := ∀ (L D : Nat) (K : Option gV → gH → Prop) (s : gH)  (p1 : Int) (p3 : Int), ((3 * m + 189 ≤ D)) → (MI s) → (0 ≤ p1 ∧ p1 ≤ 63) → (0 ≤ p3 ∧ p3 ≤ 63) → (MDi s) → (p1 ≤ gp_I s 81 20) → (p3 ≤ gp_I s 81 20) → (p1 + p3 < m) → (∀ (r : Int), ∀ (t : gH), MI t → gF [86, 98, 99] [] s t → (0 ≤ r ∧ r ≤ 1) → (MDi t) → K (some (gp_i r)) t) → gs_C L D 3106 9 [gp_r (some 74), gp_i 20, gp_i p1, gp_i 20, gp_i p3, gp_i 0] s K
def NL_m (m : Nat) : Prop := ∀ (L D : Nat) (K : Option gV → gH → Prop) (s : gH)  (p1 : Int) (p3 : Int), ((3 * m + 191 ≤ D)) → (MI s) → (0 ≤ p1 ∧ p1 ≤ 63) → (0 ≤ p3 ∧ p3 ≤ 63) → (MDi s) → (p1 ≤ gp_I s 81 20) → (p3 ≤ gp_I s 81 20) → (p1 + p3 < m) → (∀ (r : Int), ∀ (t : gH), MI t → gF [86, 98, 99] [] s t → ((-1) ≤ r ∧ r ≤ 164) → (MDi t) → K (some (gp_i r)) t) → gs_C L D 3107 11 [gp_r (some 74), gp_i 20, gp_i p1, gp_i 20, gp_i p3, gp_i 0] s K
def NR_m (m : Nat) : Prop := ∀ (L D : Nat) (K : Option gV → gH → Prop) (s : gH)  (p1 : Int) (p3 : Int), ((3 * m + 191 ≤ D)) → (MI s) → (0 ≤ p1 ∧ p1 ≤ 63) → (0 ≤ p3 ∧ p3 ≤ 63) → (MDi s) → (p1 ≤ gp_I s 81 20) → (p3 ≤ gp_I s 81 20) → (p1 + p3 < m) → (∀ (r : Int), ∀ (t : gH), MI t → gF [86, 98, 99] [] s t → ((-1) ≤ r ∧ r ≤ 164) → (MDi t) → K (some (gp_i r)) t) → gs_C L D 3108 11 [gp_r (some 74), gp_i 20, gp_i p1, gp_i 20, gp_i p3, gp_i 0] s K
set_option maxRecDepth 100000 in
/-- GatheredPointsModel.answerLeft -/
theorem vm_answerLeft_m (m : Nat) (ihA : AL_m m) : NL_m m := by
  intro L D K s p1 p3 hD hs h_p1 h_p3 q0 q1 q2 q3 k
  obtain ⟨d, rfl⟩ : ∃ d, D = d + 185 := ⟨D - 185, by omega⟩
  have f_1 := mr81 hs 20
  refine s_3107_e _ _ _ _ _ ?_
  try rw [show gp_wr (64 * 20) = 64 * 20 from gp_wr_id (by omega) (by omega)]
  try rw [show gp_wr ((64 * 20) + p1) = (64 * 20) + p1 from gp_wr_id (by omega) (by omega)]
  refine ⟨by omega, ?_⟩
  have b_2 := mr76 hs 20 p1 (by omega) (by omega)
  have lp_3 : ∀ (n_3 : Nat) (v8_3 : Int) (v9_3 : gV) (v10_3 : gV) (s_3 : gH), (MI s_3) → (gF [86, 98, 99] [] s s_3) → (MDi s_3) → (0 ≤ v8_3 ∧ v8_3 ≤ 64) → (gp_I s_3 81 20 = gp_I s 81 20) → (65 - v8_3).toNat < n_3 → gs_E L (d + 185) 3107 16 [gp_r (some 74), gp_i 20, gp_i p1, gp_i 20, gp_i p3, gp_i 0, gp_l (gp_L s 76 (Int.toNat ((64 * 20) + p1))), gp_n, gp_i v8_3, v9_3, v10_3] [] s_3 K := by
    intro n_3
    induction n_3 with
    | zero => intro v8_3 v9_3 v10_3 s_3 hs_s_3 hf_s_3 MDi_s_3 hv8_3 tk0_3 hm_3; exact absurd hm_3 (Nat.not_lt_zero _)
    | succ n_3 ih_3 =>
      intro v8_3 v9_3 v10_3 s_3 hs_s_3 hf_s_3 MDi_s_3 hv8_3 tk0_3 hm_3
      refine s_3107_16 _ _ _ _ _ _ _ _ _ ?_
      refine vm_size _ (fun x_4 p_5 p_6 => ⟨_, rfl, ?_⟩)
      refine ⟨fun h_7 => ?_, fun h_7 => ?_⟩
      · refine vm_optioni _ _ hs_s_3 (by omega) (MDi_s_3) (by first | assumption | exact bd_le (by assumption) (by omega) | exact bd_0 _) (by first | omega | assumption) (fun x_8 s_9 hs_10 hf_11 p_12 p_13 p_14 => ⟨_, rfl, ?_⟩)
        have hf_15 : gF [86, 98, 99] [] s s_9 := gF.trans hf_s_3 hf_11 rfl rfl
        have q_16 := (hf_11.2 81 20 rfl (fun h => absurd h (by decide))).1
        have hb1 := ‹bd _ p1› _ (‹BitVec.getLsbD _ _ = true›)
        refine ihA _ _ _ _ _ _ (by omega) hs_10 (by omega) (by omega) (p_13) (by first | omega | assumption) (by first | omega | assumption) (by first | omega | assumption) (fun x_17 s_18 hs_19 hf_20 p_21 p_22 => ⟨_, rfl, ?_⟩)
        have hf_23 : gF [86, 98, 99] [] s s_18 := gF.trans hf_15 hf_20 rfl rfl
        have q_24 := (hf_20.2 81 20 rfl (fun h => absurd h (by decide))).1
        refine ⟨fun h_25 => ?_, fun h_25 => ?_⟩
        · try rw [show gp_wr (v8_3 + 1) = v8_3 + 1 from gp_wr_id (by omega) (by omega)]
          exact ih_3 _ _ _ _ hs_19 hf_23 p_22 (by omega) (by first | rfl | omega) (by omega)
        · exact k _ s_18 hs_19 hf_23 (by omega) (p_22)
      · try rw [show gp_wr (64 * 20) = 64 * 20 from gp_wr_id (by omega) (by omega)]
        try rw [show gp_wr ((64 * 20) + p3) = (64 * 20) + p3 from gp_wr_id (by omega) (by omega)]
        refine ⟨by omega, ?_⟩
        have b_26 := mr77 hs_s_3 20 p3 (by omega) (by omega)
        have lp_27 : ∀ (n_27 : Nat) (v10_27 : Int) (s_27 : gH), (MI s_27) → (gF [86, 98, 99] [] s s_27) → (MDi s_27) → (0 ≤ v10_27 ∧ v10_27 ≤ 64) → (gp_I s_27 81 20 = gp_I s_3 81 20) → (65 - v10_27).toNat < n_27 → gs_E L (d + 185) 3107 74 [gp_r (some 74), gp_i 20, gp_i p1, gp_i 20, gp_i p3, gp_i 0, gp_l (gp_L s 76 (Int.toNat ((64 * 20) + p1))), gp_n, gp_l (gp_L s_3 77 (Int.toNat ((64 * 20) + p3))), gp_n, gp_i v10_27] [] s_27 K := by
          intro n_27
          induction n_27 with
          | zero => intro v10_27 s_27 hs_s_27 hf_s_27 MDi_s_27 hv10_27 tk0_27 hm_27; exact absurd hm_27 (Nat.not_lt_zero _)
          | succ n_27 ih_27 =>
            intro v10_27 s_27 hs_s_27 hf_s_27 MDi_s_27 hv10_27 tk0_27 hm_27
            refine s_3107_74 _ _ _ _ _ _ _ _ ?_
            refine vm_size _ (fun x_28 p_29 p_30 => ⟨_, rfl, ?_⟩)
            refine ⟨fun h_31 => ?_, fun h_31 => ?_⟩
            · refine vm_optioni _ _ hs_s_27 (by omega) (MDi_s_27) (by first | assumption | exact bd_le (by assumption) (by omega) | exact bd_0 _) (by first | omega | assumption) (fun x_32 s_33 hs_34 hf_35 p_36 p_37 p_38 => ⟨_, rfl, ?_⟩)
              have hf_39 : gF [86, 98, 99] [] s s_33 := gF.trans hf_s_27 hf_35 rfl rfl
              have q_40 := (hf_35.2 81 20 rfl (fun h => absurd h (by decide))).1
              have hb2 := ‹bd _ p3› _ (‹BitVec.getLsbD _ _ = true›)
              refine ihA _ _ _ _ _ _ (by omega) hs_34 (by omega) (by omega) (p_37) (by first | omega | assumption) (by first | omega | assumption) (by first | omega | assumption) (fun x_41 s_42 hs_43 hf_44 p_45 p_46 => ⟨_, rfl, ?_⟩)
              have hf_47 : gF [86, 98, 99] [] s s_42 := gF.trans hf_39 hf_44 rfl rfl
              have q_48 := (hf_44.2 81 20 rfl (fun h => absurd h (by decide))).1
              refine ⟨fun h_49 => ?_, fun h_49 => ?_⟩
              · try rw [show gp_wr (v10_27 + 1) = v10_27 + 1 from gp_wr_id (by omega) (by omega)]
                exact ih_27 _ _ hs_43 hf_47 p_46 (by omega) (by first | rfl | omega) (by omega)
              · try rw [show gp_wr (100 + v10_27) = 100 + v10_27 from gp_wr_id (by omega) (by omega)]
                exact k _ s_42 hs_43 hf_47 (by omega) (p_46)
            · exact k _ s_27 hs_s_27 hf_s_27 (by omega) (MDi_s_27)
        exact lp_27 _ _ _ hs_s_3 hf_s_3 MDi_s_3 (by omega) (by first | rfl | omega) (Nat.lt_succ_self _)
  exact lp_3 _ _ _ _ _ hs (gF.refl _ _ _) q0 (by omega) (by first | rfl | omega) (Nat.lt_succ_self _)
set_option maxRecDepth 100000 in
/-- GatheredPointsModel.answerRight -/
theorem vm_answerRight_m (m : Nat) (ihA : AL_m m) : NR_m m := by
  intro L D K s p1 p3 hD hs h_p1 h_p3 q0 q1 q2 q3 k
  obtain ⟨d, rfl⟩ : ∃ d, D = d + 185 := ⟨D - 185, by omega⟩
  have f_1 := mr81 hs 20
  refine s_3108_e _ _ _ _ _ ?_
  try rw [show gp_wr (64 * 20) = 64 * 20 from gp_wr_id (by omega) (by omega)]
  try rw [show gp_wr ((64 * 20) + p3) = (64 * 20) + p3 from gp_wr_id (by omega) (by omega)]
  refine ⟨by omega, ?_⟩
  have b_2 := mr77 hs 20 p3 (by omega) (by omega)
  have lp_3 : ∀ (n_3 : Nat) (v8_3 : Int) (v9_3 : gV) (v10_3 : gV) (s_3 : gH), (MI s_3) → (gF [86, 98, 99] [] s s_3) → (MDi s_3) → (0 ≤ v8_3 ∧ v8_3 ≤ 64) → (gp_I s_3 81 20 = gp_I s 81 20) → (65 - v8_3).toNat < n_3 → gs_E L (d + 185) 3108 17 [gp_r (some 74), gp_i 20, gp_i p1, gp_i 20, gp_i p3, gp_i 0, gp_l (gp_L s 77 (Int.toNat ((64 * 20) + p3))), gp_n, gp_i v8_3, v9_3, v10_3] [] s_3 K := by
    intro n_3
    induction n_3 with
    | zero => intro v8_3 v9_3 v10_3 s_3 hs_s_3 hf_s_3 MDi_s_3 hv8_3 tk0_3 hm_3; exact absurd hm_3 (Nat.not_lt_zero _)
    | succ n_3 ih_3 =>
      intro v8_3 v9_3 v10_3 s_3 hs_s_3 hf_s_3 MDi_s_3 hv8_3 tk0_3 hm_3
      refine s_3108_17 _ _ _ _ _ _ _ _ _ ?_
      refine vm_size _ (fun x_4 p_5 p_6 => ⟨_, rfl, ?_⟩)
      refine ⟨fun h_7 => ?_, fun h_7 => ?_⟩
      · refine vm_optioni _ _ hs_s_3 (by omega) (MDi_s_3) (by first | assumption | exact bd_le (by assumption) (by omega) | exact bd_0 _) (by first | omega | assumption) (fun x_8 s_9 hs_10 hf_11 p_12 p_13 p_14 => ⟨_, rfl, ?_⟩)
        have hf_15 : gF [86, 98, 99] [] s s_9 := gF.trans hf_s_3 hf_11 rfl rfl
        have q_16 := (hf_11.2 81 20 rfl (fun h => absurd h (by decide))).1
        have hb1 := ‹bd _ p3› _ (‹BitVec.getLsbD _ _ = true›)
        refine ihA _ _ _ _ _ _ (by omega) hs_10 (by omega) (by omega) (p_13) (by first | omega | assumption) (by first | omega | assumption) (by first | omega | assumption) (fun x_17 s_18 hs_19 hf_20 p_21 p_22 => ⟨_, rfl, ?_⟩)
        have hf_23 : gF [86, 98, 99] [] s s_18 := gF.trans hf_15 hf_20 rfl rfl
        have q_24 := (hf_20.2 81 20 rfl (fun h => absurd h (by decide))).1
        refine ⟨fun h_25 => ?_, fun h_25 => ?_⟩
        · try rw [show gp_wr (v8_3 + 1) = v8_3 + 1 from gp_wr_id (by omega) (by omega)]
          exact ih_3 _ _ _ _ hs_19 hf_23 p_22 (by omega) (by first | rfl | omega) (by omega)
        · exact k _ s_18 hs_19 hf_23 (by omega) (p_22)
      · try rw [show gp_wr (64 * 20) = 64 * 20 from gp_wr_id (by omega) (by omega)]
        try rw [show gp_wr ((64 * 20) + p1) = (64 * 20) + p1 from gp_wr_id (by omega) (by omega)]
        refine ⟨by omega, ?_⟩
        have b_26 := mr76 hs_s_3 20 p1 (by omega) (by omega)
        have lp_27 : ∀ (n_27 : Nat) (v10_27 : Int) (s_27 : gH), (MI s_27) → (gF [86, 98, 99] [] s s_27) → (MDi s_27) → (0 ≤ v10_27 ∧ v10_27 ≤ 64) → (gp_I s_27 81 20 = gp_I s_3 81 20) → (65 - v10_27).toNat < n_27 → gs_E L (d + 185) 3108 73 [gp_r (some 74), gp_i 20, gp_i p1, gp_i 20, gp_i p3, gp_i 0, gp_l (gp_L s 77 (Int.toNat ((64 * 20) + p3))), gp_n, gp_l (gp_L s_3 76 (Int.toNat ((64 * 20) + p1))), gp_n, gp_i v10_27] [] s_27 K := by
          intro n_27
          induction n_27 with
          | zero => intro v10_27 s_27 hs_s_27 hf_s_27 MDi_s_27 hv10_27 tk0_27 hm_27; exact absurd hm_27 (Nat.not_lt_zero _)
          | succ n_27 ih_27 =>
            intro v10_27 s_27 hs_s_27 hf_s_27 MDi_s_27 hv10_27 tk0_27 hm_27
            refine s_3108_73 _ _ _ _ _ _ _ _ ?_
            refine vm_size _ (fun x_28 p_29 p_30 => ⟨_, rfl, ?_⟩)
            refine ⟨fun h_31 => ?_, fun h_31 => ?_⟩
            · refine vm_optioni _ _ hs_s_27 (by omega) (MDi_s_27) (by first | assumption | exact bd_le (by assumption) (by omega) | exact bd_0 _) (by first | omega | assumption) (fun x_32 s_33 hs_34 hf_35 p_36 p_37 p_38 => ⟨_, rfl, ?_⟩)
              have hf_39 : gF [86, 98, 99] [] s s_33 := gF.trans hf_s_27 hf_35 rfl rfl
              have q_40 := (hf_35.2 81 20 rfl (fun h => absurd h (by decide))).1
              have hb2 := ‹bd _ p1› _ (‹BitVec.getLsbD _ _ = true›)
              refine ihA _ _ _ _ _ _ (by omega) hs_34 (by omega) (by omega) (p_37) (by first | omega | assumption) (by first | omega | assumption) (by first | omega | assumption) (fun x_41 s_42 hs_43 hf_44 p_45 p_46 => ⟨_, rfl, ?_⟩)
              have hf_47 : gF [86, 98, 99] [] s s_42 := gF.trans hf_39 hf_44 rfl rfl
              have q_48 := (hf_44.2 81 20 rfl (fun h => absurd h (by decide))).1
              refine ⟨fun h_49 => ?_, fun h_49 => ?_⟩
              · try rw [show gp_wr (v10_27 + 1) = v10_27 + 1 from gp_wr_id (by omega) (by omega)]
                exact ih_27 _ _ hs_43 hf_47 p_46 (by omega) (by first | rfl | omega) (by omega)
              · try rw [show gp_wr (100 + v10_27) = 100 + v10_27 from gp_wr_id (by omega) (by omega)]
                exact k _ s_42 hs_43 hf_47 (by omega) (p_46)
            · exact k _ s_27 hs_s_27 hf_s_27 (by omega) (MDi_s_27)
        exact lp_27 _ _ _ hs_s_3 hf_s_3 MDi_s_3 (by omega) (by first | rfl | omega) (Nat.lt_succ_self _)
  exact lp_3 _ _ _ _ _ hs (gF.refl _ _ _) q0 (by omega) (by first | rfl | omega) (Nat.lt_succ_self _)
set_option maxRecDepth 100000 in
/-- GatheredPointsModel.isAtLeast -/
theorem vm_isAtLeast_m (m : Nat) (ihL : NL_m m) (ihR : NR_m m) : IA_m (m + 1) := by
  intro L D K s p1 p3 hD hs h_p1 h_p3 q0 q1 q2 q3 k
  obtain ⟨d, rfl⟩ : ∃ d, D = d + 2 := ⟨D - 2, by omega⟩
  have f_1 := mr81 hs 20
  refine s_3106_e _ _ _ _ _ ?_
  refine ⟨fun h_2 => ?_, fun h_2 => ?_⟩
  · refine ⟨by omega, ?_⟩
    refine ⟨by omega, ?_⟩
    have jn50_5 : ∀ (j_4 : Int), (0 ≤ j_4 ∧ j_4 ≤ 1) → gs_E L (d + 2) 3106 50 [gp_r (some 74), gp_i 20, gp_i p1, gp_i 20, gp_i p3, gp_i 0, gp_n, gp_n, gp_n] [gp_i j_4] s K := by
      intro j_4 hj_5
      refine s_3106_50 _ _ _ _ _ _ _ _ _ ?_
      refine ⟨fun h_7 => ?_, fun h_7 => ?_⟩
      · refine ⟨by omega, ?_⟩
        refine ⟨by omega, ?_⟩
        have jn102_10 : ∀ (j_9 : Int), (0 ≤ j_9 ∧ j_9 ≤ 1) → gs_E L (d + 2) 3106 102 [gp_r (some 74), gp_i 20, gp_i p1, gp_i 20, gp_i p3, gp_i 0, gp_i j_4, gp_n, gp_n] [gp_i j_9] s K := by
          intro j_9 hj_10
          refine s_3106_102 _ _ _ _ _ _ _ _ _ ?_
          refine ⟨fun h_12 => ?_, fun h_12 => ?_⟩
          · refine ⟨fun h_13 => ?_, fun h_13 => ?_⟩
            · have lp_14 : ∀ (n_14 : Nat) (v8_14 : Int) (s_14 : gH), (MI s_14) → (gF [86, 98, 99] [] s s_14) → (MDi s_14) → (0 ≤ v8_14 ∧ v8_14 ≤ 63) → (gp_I s_14 81 20 = gp_I s 81 20) → (64 - v8_14).toNat < n_14 → gs_E L (d + 2) 3106 119 [gp_r (some 74), gp_i 20, gp_i p1, gp_i 20, gp_i p3, gp_i 0, gp_i j_4, gp_i j_9, gp_i v8_14] [] s_14 K := by
                intro n_14
                induction n_14 with
                | zero => intro v8_14 s_14 hs_s_14 hf_s_14 MDi_s_14 hv8_14 tk0_14 hm_14; exact absurd hm_14 (Nat.not_lt_zero _)
                | succ n_14 ih_14 =>
                  intro v8_14 s_14 hs_s_14 hf_s_14 MDi_s_14 hv8_14 tk0_14 hm_14
                  refine s_3106_119 _ _ _ _ _ _ _ _ ?_
                  refine ⟨fun h_15 => ?_, fun h_15 => ?_⟩
                  · try rw [show gp_wr (64 * 20) = 64 * 20 from gp_wr_id (by omega) (by omega)]
                    try rw [show gp_wr ((64 * 20) + p3) = (64 * 20) + p3 from gp_wr_id (by omega) (by omega)]
                    refine ⟨by omega, ?_⟩
                    have b_16 := mr76 hs_s_14 20 p3 (by omega) (by omega)
                    refine vm_has _ _ (by omega) (fun x_17 p_18 p_19 => ⟨_, rfl, ?_⟩)
                    refine ⟨fun h_20 => ?_, fun h_20 => ?_⟩
                    · have hb_21 := hasF p_19 h_20
                      refine s_3106_162 _ _ _ _ _ _ _ _ ?_
                      try rw [show gp_wr (v8_14 + 1) = v8_14 + 1 from gp_wr_id (by omega) (by omega)]
                      exact ih_14 _ _ hs_s_14 hf_s_14 MDi_s_14 (by omega) (by first | rfl | omega) (by omega)
                    · have hb_22 := hasT p_19 h_20
                      refine ihL _ _ _ _ _ _ (by omega) hs_s_14 (by omega) (by omega) (MDi_s_14) (by first | omega | assumption) (by first | omega | assumption) (by first | omega | assumption) (fun x_23 s_24 hs_25 hf_26 p_27 p_28 => ⟨_, rfl, ?_⟩)
                      have hf_29 : gF [86, 98, 99] [] s s_24 := gF.trans hf_s_14 hf_26 rfl rfl
                      have q_30 := (hf_26.2 81 20 rfl (fun h => absurd h (by decide))).1
                      refine ⟨fun h_31 => ?_, fun h_31 => ?_⟩
                      · exact k _ s_24 hs_25 hf_29 (by omega) (p_28)
                      · refine s_3106_162 _ _ _ _ _ _ _ _ ?_
                        try rw [show gp_wr (v8_14 + 1) = v8_14 + 1 from gp_wr_id (by omega) (by omega)]
                        exact ih_14 _ _ hs_25 hf_29 p_28 (by omega) (by first | rfl | omega) (by omega)
                  · have lp_32 : ∀ (n_32 : Nat) (v8_32 : Int) (s_32 : gH), (MI s_32) → (gF [86, 98, 99] [] s s_32) → (MDi s_32) → (0 ≤ v8_32 ∧ v8_32 ≤ 63) → (gp_I s_32 81 20 = gp_I s_14 81 20) → (64 - v8_32).toNat < n_32 → gs_E L (d + 2) 3106 171 [gp_r (some 74), gp_i 20, gp_i p1, gp_i 20, gp_i p3, gp_i 0, gp_i j_4, gp_i j_9, gp_i v8_32] [] s_32 K := by
                      intro n_32
                      induction n_32 with
                      | zero => intro v8_32 s_32 hs_s_32 hf_s_32 MDi_s_32 hv8_32 tk0_32 hm_32; exact absurd hm_32 (Nat.not_lt_zero _)
                      | succ n_32 ih_32 =>
                        intro v8_32 s_32 hs_s_32 hf_s_32 MDi_s_32 hv8_32 tk0_32 hm_32
                        refine s_3106_171 _ _ _ _ _ _ _ _ ?_
                        refine ⟨fun h_33 => ?_, fun h_33 => ?_⟩
                        · try rw [show gp_wr (64 * 20) = 64 * 20 from gp_wr_id (by omega) (by omega)]
                          try rw [show gp_wr ((64 * 20) + p1) = (64 * 20) + p1 from gp_wr_id (by omega) (by omega)]
                          refine ⟨by omega, ?_⟩
                          have b_34 := mr77 hs_s_32 20 p1 (by omega) (by omega)
                          refine vm_has _ _ (by omega) (fun x_35 p_36 p_37 => ⟨_, rfl, ?_⟩)
                          refine ⟨fun h_38 => ?_, fun h_38 => ?_⟩
                          · have hb_39 := hasF p_37 h_38
                            refine s_3106_213 _ _ _ _ _ _ _ _ ?_
                            try rw [show gp_wr (v8_32 + 1) = v8_32 + 1 from gp_wr_id (by omega) (by omega)]
                            exact ih_32 _ _ hs_s_32 hf_s_32 MDi_s_32 (by omega) (by first | rfl | omega) (by omega)
                          · have hb_40 := hasT p_37 h_38
                            refine ihR _ _ _ _ _ _ (by omega) hs_s_32 (by omega) (by omega) (MDi_s_32) (by first | omega | assumption) (by first | omega | assumption) (by first | omega | assumption) (fun x_41 s_42 hs_43 hf_44 p_45 p_46 => ⟨_, rfl, ?_⟩)
                            have hf_47 : gF [86, 98, 99] [] s s_42 := gF.trans hf_s_32 hf_44 rfl rfl
                            have q_48 := (hf_44.2 81 20 rfl (fun h => absurd h (by decide))).1
                            refine ⟨fun h_49 => ?_, fun h_49 => ?_⟩
                            · exact k _ s_42 hs_43 hf_47 (by omega) (p_46)
                            · refine s_3106_213 _ _ _ _ _ _ _ _ ?_
                              try rw [show gp_wr (v8_32 + 1) = v8_32 + 1 from gp_wr_id (by omega) (by omega)]
                              exact ih_32 _ _ hs_43 hf_47 p_46 (by omega) (by first | rfl | omega) (by omega)
                        · exact k _ s_32 hs_s_32 hf_s_32 (by omega) (MDi_s_32)
                    exact lp_32 _ _ _ hs_s_14 hf_s_14 MDi_s_14 (by omega) (by first | rfl | omega) (Nat.lt_succ_self _)
              exact lp_14 _ _ _ hs (gF.refl _ _ _) q0 (by omega) (by first | rfl | omega) (Nat.lt_succ_self _)
            · refine s_3106_114 _ _ _ _ _ _ _ _ ?_
              exact k _ s hs (gF.refl _ _ _) (by omega) (q0)
          · refine s_3106_114 _ _ _ _ _ _ _ _ ?_
            exact k _ s hs (gF.refl _ _ _) (by omega) (q0)
        refine ⟨fun h_8 => ?_, fun h_8 => ?_⟩
        · exact jn102_10 _ (by omega)
        · exact jn102_10 _ (by omega)
      · exfalso; omega
    refine ⟨fun h_3 => ?_, fun h_3 => ?_⟩
    · exact jn50_5 _ (by omega)
    · exact jn50_5 _ (by omega)
  · exfalso; omega
set_option maxRecDepth 100000 in
/-- GatheredPointsModel.atLeast -/
theorem vm_atLeast_m (m : Nat) (ihI : IA_m m) : AL_m m := by
  intro L D K s p1 p3 hD hs h_p1 h_p3 q0 q1 q2 q3 k
  obtain ⟨d, rfl⟩ : ∃ d, D = d + 2 := ⟨D - 2, by omega⟩
  have f_1 := mr81 hs 20
  refine s_3105_e _ _ _ _ _ ?_
  refine ⟨fun h_2 => ?_, fun h_2 => ?_⟩
  · refine s_3105_16 _ _ _ _ _ _ _ ?_
    try rw [show gp_wr (64 * p1) = 64 * p1 from gp_wr_id (by omega) (by omega)]
    try rw [show gp_wr ((64 * p1) + p3) = (64 * p1) + p3 from gp_wr_id (by omega) (by omega)]
    refine ⟨98, rfl, ?_⟩
    refine ⟨⟨rfl, by show 0 ≤ (64 * p1) + p3 ∧ (64 * p1) + p3 < 4096; omega⟩, ?_⟩
    have f_4 := mr98 hs (Int.toNat ((64 * p1) + p3))
    refine ⟨fun h_5 => ?_, fun h_5 => ?_⟩
    · try rw [show gp_wr (64 * p1) = 64 * p1 from gp_wr_id (by omega) (by omega)]
      try rw [show gp_wr ((64 * p1) + p3) = (64 * p1) + p3 from gp_wr_id (by omega) (by omega)]
      refine ihI _ _ _ _ _ _ (by omega) hs (by omega) (by omega) (q0) (by first | omega | assumption) (by first | omega | assumption) (by first | omega | assumption) (fun x_8 s_9 hs_10 hf_11 p_12 p_13 => ⟨_, rfl, ?_⟩)
      have hf_14 : gF [86, 98, 99] [] s s_9 := gF.sub hf_11 rfl rfl
      have q_15 := (hf_11.2 81 20 rfl (fun h => absurd h (by decide))).1
      have jn59_22 : ∀ (j_21 : Int), (1 ≤ j_21 ∧ j_21 ≤ 2) → gs_E L (d + 2) 3105 59 [gp_r (some 74), gp_i 20, gp_i p1, gp_i 20, gp_i p3, gp_i 0, gp_r (some 98)] [gp_i j_21, gp_i ((64 * p1) + p3), gp_r (some 98)] s_9 K := by
        intro j_21 hj_22
        refine s_3105_59 _ _ _ _ _ _ _ _ _ ?_
        refine ⟨98, rfl, ?_⟩
        refine ⟨⟨rfl, by show 0 ≤ (64 * p1) + p3 ∧ (64 * p1) + p3 < 4096; omega⟩, ?_⟩
        intro s_24 e_25
        have hs_26 : MI s_24 := by rw [e_25]; exact mw98 hs_10 _ _ (by omega)
        have hf_27 : gF [86, 98, 99] [] s s_24 := by rw [e_25]; exact gF.wI hf_14 (Or.inl rfl)
        have q_28 : gp_I s_24 81 20 = gp_I s_9 81 20 := by rw [e_25] <;> rfl
        have pd_29 : MDi s_24 := by rw [e_25]; exact MDi_fr p_13 (gF.wI (gF.refl [98] [] _) (Or.inl rfl)) rfl rfl rfl rfl rfl rfl rfl
        refine s_3105_60 _ _ _ _ _ _ ?_
        try rw [show gp_wr (64 * p1) = 64 * p1 from gp_wr_id (by omega) (by omega)]
        try rw [show gp_wr ((64 * p1) + p3) = (64 * p1) + p3 from gp_wr_id (by omega) (by omega)]
        refine ⟨98, rfl, ?_⟩
        refine ⟨⟨rfl, by show 0 ≤ (64 * p1) + p3 ∧ (64 * p1) + p3 < 4096; omega⟩, ?_⟩
        have f_31 := mr98 hs_26 (Int.toNat ((64 * p1) + p3))
        refine ⟨fun h_32 => ?_, fun h_32 => ?_⟩
        · refine s_3105_79 _ _ _ _ _ _ _ ?_
          refine ⟨by omega, ?_⟩
          exact k _ s_24 hs_26 hf_27 (by omega) (pd_29)
        · refine s_3105_79 _ _ _ _ _ _ _ ?_
          refine ⟨by omega, ?_⟩
          exact k _ s_24 hs_26 hf_27 (by omega) (pd_29)
      refine ⟨fun h_16 => ?_, fun h_16 => ?_⟩
      · exact jn59_22 _ (by omega)
      · exact jn59_22 _ (by omega)
    · refine s_3105_60 _ _ _ _ _ _ ?_
      try rw [show gp_wr (64 * p1) = 64 * p1 from gp_wr_id (by omega) (by omega)]
      try rw [show gp_wr ((64 * p1) + p3) = (64 * p1) + p3 from gp_wr_id (by omega) (by omega)]
      refine ⟨98, rfl, ?_⟩
      refine ⟨⟨rfl, by show 0 ≤ (64 * p1) + p3 ∧ (64 * p1) + p3 < 4096; omega⟩, ?_⟩
      have f_40 := mr98 hs (Int.toNat ((64 * p1) + p3))
      refine ⟨fun h_41 => ?_, fun h_41 => ?_⟩
      · refine s_3105_79 _ _ _ _ _ _ _ ?_
        refine ⟨by omega, ?_⟩
        exact k _ s hs (gF.refl _ _ _) (by omega) (q0)
      · refine s_3105_79 _ _ _ _ _ _ _ ?_
        refine ⟨by omega, ?_⟩
        exact k _ s hs (gF.refl _ _ _) (by omega) (q0)
  · exfalso; omega
theorem AL_m_all : ∀ m, AL_m m
  | 0 => by intro L D K s p0; intros; omega
  | m + 1 => vm_atLeast_m (m + 1) (vm_isAtLeast_m m (vm_answerLeft_m m (AL_m_all m)) (vm_answerRight_m m (AL_m_all m)))
