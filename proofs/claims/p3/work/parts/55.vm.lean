set_option maxRecDepth 100000 in
/-- GatheredPointsModel.comes -/
theorem vm_comes  {L d : Nat} {K : Option gV → gH → Prop} {s : gH}  (p0 : Int) (hs : MI s) (h_p0 : 0 ≤ p0 ∧ p0 ≤ 84) (q0 : MDi s) (q1 : p0 ≠ 20) (q2 : 1 ≤ gp_I s 81 p0.toNat) (k : ∀ (r : Int), ∀ (t : gH), MI t → gF [76, 77, 78, 79, 80, 81, 89] [15] s t → (0 ≤ r ∧ r ≤ 63) → (MDi t) → (mOut s t) → (r < gp_I t 81 20) → (gp_I s 81 20 ≤ gp_I t 81 20) → (∀ k : Nat, (k : Int) < gp_I s 81 p0.toNat → gp_I t 89 k < gp_I t 81 20) → K (some (gp_i r)) t) : gs_C L (d + 4) 3096 8 [gp_r (some 74), gp_i p0] s K := by
  have f_1 := mr81 hs 20
  have f_2 := mr81 hs p0.toNat
  refine s_3096_e _ ?_
  have lp_3 : ∀ (n_3 : Nat) (v2_3 : Int) (v3_3 : gV) (v4_3 : gV) (v5_3 : gV) (v6_3 : gV) (v7_3 : gV) (s_3 : gH), (MI s_3) → (gF [76, 77, 78, 79, 80, 81, 89] [15] s s_3) → (MDi s_3) → (mOut s s_3) → (0 ≤ v2_3 ∧ v2_3 ≤ 60) → (∀ k : Nat, (k : Int) < v2_3 → gp_I s_3 89 k < gp_I s_3 81 20) → (v2_3 ≤ gp_I s_3 81 p0.toNat) → (gp_I s 81 20 ≤ gp_I s_3 81 20) → (gp_I s_3 81 p0.toNat = gp_I s 81 p0.toNat) → (61 - v2_3).toNat < n_3 → gs_E L (d + 4) 3096 2 [gp_r (some 74), gp_i p0, gp_i v2_3, v3_3, v4_3, v5_3, v6_3, v7_3] [] s_3 K := by
    intro n_3
    induction n_3 with
    | zero => intro v2_3 v3_3 v4_3 v5_3 v6_3 v7_3 s_3 hs_s_3 hf_s_3 MDi_s_3 mOut_s_3 hv2_3 iv0_3 iv1_3 iv2_3 iv3_3 hm_3; exact absurd hm_3 (Nat.not_lt_zero _)
    | succ n_3 ih_3 =>
      intro v2_3 v3_3 v4_3 v5_3 v6_3 v7_3 s_3 hs_s_3 hf_s_3 MDi_s_3 mOut_s_3 hv2_3 iv0_3 iv1_3 iv2_3 iv3_3 hm_3
      refine s_3096_2 _ _ _ _ _ _ _ ?_
      refine ⟨by omega, ?_⟩
      have f_4 := mr81 hs_s_3 (Int.toNat p0)
      refine ⟨fun h_5 => ?_, fun h_5 => ?_⟩
      · have lp_6 : ∀ (n_6 : Nat) (v3_6 : BitVec 64) (v5_6 : BitVec 64) (v7_6 : Int), (0 ≤ v7_6 ∧ v7_6 ≤ 59) → (bd v3_6 (gp_I s_3 81 20)) → (bd v5_6 (gp_I s_3 81 20)) → (60 - v7_6).toNat < n_6 → gs_E L (d + 4) 3096 20 [gp_r (some 74), gp_i p0, gp_i v2_3, gp_l v3_6, gp_n, gp_l v5_6, gp_n, gp_i v7_6] [] s_3 K := by
          intro n_6
          induction n_6 with
          | zero => intro v3_6 v5_6 v7_6 hv7_6 iv0_6 iv1_6 hm_6; exact absurd hm_6 (Nat.not_lt_zero _)
          | succ n_6 ih_6 =>
            intro v3_6 v5_6 v7_6 hv7_6 iv0_6 iv1_6 hm_6
            refine s_3096_20 _ _ _ _ _ ?_
            refine ⟨fun h_7 => ?_, fun h_7 => ?_⟩
            · try rw [show gp_wr (64 * p0) = 64 * p0 from gp_wr_id (by omega) (by omega)]
              try rw [show gp_wr ((64 * p0) + v2_3) = (64 * p0) + v2_3 from gp_wr_id (by omega) (by omega)]
              refine ⟨by omega, ?_⟩
              have b_8 := mr76 hs_s_3 p0 v2_3 (by omega) (by omega)
              refine vm_has _ _ (by omega) (fun x_9 p_10 p_11 => ⟨_, rfl, ?_⟩)
              refine ⟨fun h_12 => ?_, fun h_12 => ?_⟩
              · have hb_13 := hasF p_11 h_12
                refine s_3096_59 _ _ _ _ _ _ _ ?_
                try rw [show gp_wr (64 * p0) = 64 * p0 from gp_wr_id (by omega) (by omega)]
                try rw [show gp_wr ((64 * p0) + v2_3) = (64 * p0) + v2_3 from gp_wr_id (by omega) (by omega)]
                refine ⟨by omega, ?_⟩
                have b_14 := mr77 hs_s_3 p0 v2_3 (by omega) (by omega)
                refine vm_has _ _ (by omega) (fun x_15 p_16 p_17 => ⟨_, rfl, ?_⟩)
                refine ⟨fun h_18 => ?_, fun h_18 => ?_⟩
                · have hb_19 := hasF p_17 h_18
                  refine s_3096_95 _ _ _ _ _ _ _ ?_
                  try rw [show gp_wr (v7_6 + 1) = v7_6 + 1 from gp_wr_id (by omega) (by omega)]
                  exact ih_6 _ _ _ (by omega) (by first | (refine bd_or (bd_le iv0_6 ?_) (bd_0 _); omega) | (refine bd_or (bd_le iv0_6 ?_) (bd_sh ?_ ?_ ?_) <;> omega)) (by first | (refine bd_or (bd_le iv1_6 ?_) (bd_0 _); omega) | (refine bd_or (bd_le iv1_6 ?_) (bd_sh ?_ ?_ ?_) <;> omega)) (by omega)
                · have hb_20 := hasT p_17 h_18
                  refine ⟨by omega, ?_⟩
                  have f_21 := mr89 hs_s_3 (Int.toNat v7_6)
                  have hnd90 := iv0_3 (Int.toNat v7_6) (by omega)
                  refine s_3096_95 _ _ _ _ _ _ _ ?_
                  try rw [show gp_wr (v7_6 + 1) = v7_6 + 1 from gp_wr_id (by omega) (by omega)]
                  exact ih_6 _ _ _ (by omega) (by first | (refine bd_or (bd_le iv0_6 ?_) (bd_0 _); omega) | (refine bd_or (bd_le iv0_6 ?_) (bd_sh ?_ ?_ ?_) <;> omega)) (by first | (refine bd_or (bd_le iv1_6 ?_) (bd_0 _); omega) | (refine bd_or (bd_le iv1_6 ?_) (bd_sh ?_ ?_ ?_) <;> omega)) (by omega)
              · have hb_22 := hasT p_11 h_12
                refine ⟨by omega, ?_⟩
                have f_23 := mr89 hs_s_3 (Int.toNat v7_6)
                have hnd54 := iv0_3 (Int.toNat v7_6) (by omega)
                refine s_3096_59 _ _ _ _ _ _ _ ?_
                try rw [show gp_wr (64 * p0) = 64 * p0 from gp_wr_id (by omega) (by omega)]
                try rw [show gp_wr ((64 * p0) + v2_3) = (64 * p0) + v2_3 from gp_wr_id (by omega) (by omega)]
                refine ⟨by omega, ?_⟩
                have b_24 := mr77 hs_s_3 p0 v2_3 (by omega) (by omega)
                refine vm_has _ _ (by omega) (fun x_25 p_26 p_27 => ⟨_, rfl, ?_⟩)
                refine ⟨fun h_28 => ?_, fun h_28 => ?_⟩
                · have hb_29 := hasF p_27 h_28
                  refine s_3096_95 _ _ _ _ _ _ _ ?_
                  try rw [show gp_wr (v7_6 + 1) = v7_6 + 1 from gp_wr_id (by omega) (by omega)]
                  exact ih_6 _ _ _ (by omega) (by first | (refine bd_or (bd_le iv0_6 ?_) (bd_0 _); omega) | (refine bd_or (bd_le iv0_6 ?_) (bd_sh ?_ ?_ ?_) <;> omega)) (by first | (refine bd_or (bd_le iv1_6 ?_) (bd_0 _); omega) | (refine bd_or (bd_le iv1_6 ?_) (bd_sh ?_ ?_ ?_) <;> omega)) (by omega)
                · have hb_30 := hasT p_27 h_28
                  refine ⟨by omega, ?_⟩
                  have f_31 := mr89 hs_s_3 (Int.toNat v7_6)
                  have hnd90 := iv0_3 (Int.toNat v7_6) (by omega)
                  refine s_3096_95 _ _ _ _ _ _ _ ?_
                  try rw [show gp_wr (v7_6 + 1) = v7_6 + 1 from gp_wr_id (by omega) (by omega)]
                  exact ih_6 _ _ _ (by omega) (by first | (refine bd_or (bd_le iv0_6 ?_) (bd_0 _); omega) | (refine bd_or (bd_le iv0_6 ?_) (bd_sh ?_ ?_ ?_) <;> omega)) (by first | (refine bd_or (bd_le iv1_6 ?_) (bd_0 _); omega) | (refine bd_or (bd_le iv1_6 ?_) (bd_sh ?_ ?_ ?_) <;> omega)) (by omega)
            · try rw [show gp_wr (64 * p0) = 64 * p0 from gp_wr_id (by omega) (by omega)]
              try rw [show gp_wr ((64 * p0) + v2_3) = (64 * p0) + v2_3 from gp_wr_id (by omega) (by omega)]
              refine ⟨by omega, ?_⟩
              try rw [show gp_wr (64 * p0) = 64 * p0 from gp_wr_id (by omega) (by omega)]
              try rw [show gp_wr ((64 * p0) + v2_3) = (64 * p0) + v2_3 from gp_wr_id (by omega) (by omega)]
              refine ⟨by omega, ?_⟩
              refine vm_made _ _ _ _ hs_s_3 (MDi_s_3) (by first | assumption | exact bd_le (by assumption) (by omega) | exact bd_0 _) (by first | assumption | exact bd_le (by assumption) (by omega) | exact bd_0 _) (fun x_32 s_33 hs_34 hf_35 p_36 p_37 p_38 p_39 p_40 p_41 p_42 => ⟨_, rfl, ?_⟩)
              have hf_43 : gF [76, 77, 78, 79, 80, 81, 89] [15] s s_33 := gF.trans hf_s_3 hf_35 rfl rfl
              have mo_44 : mOut s s_33 := mOut.trans mOut_s_3 p_41
              have q_45 := p_41.1 p0.toNat (by omega)
              refine ⟨by omega, ?_⟩
              intro s_46 e_47
              have hs_48 : MI s_46 := by rw [e_47]; exact mw89 hs_34 _ _ (by omega)
              have hf_49 : gF [76, 77, 78, 79, 80, 81, 89] [15] s s_46 := by rw [e_47]; exact gF.wI hf_43 (Or.inl rfl)
              have q_50 : gp_I s_46 81 20 = gp_I s_33 81 20 := by rw [e_47] <;> rfl
              have q_51 : gp_I s_46 81 p0.toNat = gp_I s_33 81 p0.toNat := by rw [e_47] <;> rfl
              have pd_52 : MDi s_46 := by rw [e_47]; exact MDi_fr p_37 (gF.wI (gF.refl [89] [] _) (Or.inl rfl)) rfl rfl rfl rfl rfl rfl rfl
              have mo_53 : mOut s s_46 := by rw [e_47]; exact mOut_wI mo_44 (by decide)
              try rw [show gp_wr (v2_3 + 1) = v2_3 + 1 from gp_wr_id (by omega) (by omega)]
              exact ih_3 _ _ _ _ _ _ _ hs_48 hf_49 pd_52 mo_53 (by omega) (by subst_vars; exact nd_step (by omega) iv0_3 (by assumption) rfl (by omega) (by omega)) (by first | omega | assumption) (by first | omega | assumption) (by first | omega | assumption) (by omega)
        exact lp_6 _ _ _ _ (by omega) (bd_0 _) (bd_0 _) (Nat.lt_succ_self _)
      · refine ⟨by omega, ?_⟩
        have f_54 := mr81 hs_s_3 (Int.toNat p0)
        try rw [show gp_wr ((gp_I s_3 81 (Int.toNat p0)) - 1) = (gp_I s_3 81 (Int.toNat p0)) - 1 from gp_wr_id (by omega) (by omega)]
        have hnr := iv0_3 (Int.toNat ((gp_I s_3 81 (Int.toNat p0)) - 1)) (by omega)
        refine ⟨by omega, ?_⟩
        have f_55 := mr89 hs_s_3 (Int.toNat ((gp_I s_3 81 (Int.toNat p0)) - 1))
        exact k _ s_3 hs_s_3 hf_s_3 (by omega) (MDi_s_3) mOut_s_3 (by first | omega | assumption) (by first | omega | assumption) (fun k hk => iv0_3 k (by omega))
  exact lp_3 _ _ _ _ _ _ _ _ hs (gF.refl _ _ _) q0 (mOut.refl _) (by omega) (fun k hk => absurd hk (by omega)) (by first | omega | assumption) (by first | omega | assumption) (by first | omega | assumption) (Nat.lt_succ_self _)
set_option maxRecDepth 100000 in
/-- GatheredPointsModel.negates -/
theorem vm_negates  {L d : Nat} {K : Option gV → gH → Prop} {s : gH}  (p0 : Int) (hs : MI s) (h_p0 : 0 ≤ p0 ∧ p0 ≤ 84) (q0 : p0 ≠ 20) (q1 : 1 ≤ gp_I s 81 p0.toNat) (k : ∀ (t : gH), MI t → gF [76, 77, 78, 79, 80, 81, 86, 87, 88, 89] [15] s t → (1 ≤ gp_I t 81 19 ∧ gp_I t 81 19 ≤ 60) → (mK s t) → K none t) : gs_C L (d + 185) 3121 8 [gp_r (some 74), gp_i p0] s K := by
  have f_1 := mr81 hs 20
  have f_2 := mr81 hs p0.toNat
  refine s_3121_e _ ?_
  refine vm_begins2 hs (fun s_3 hs_4 hf_5 p_6 p_7 p_8 p_9 => ⟨rfl, ?_⟩)
  have hf_10 : gF [76, 77, 78, 79, 80, 81, 86, 87, 88, 89] [15] s s_3 := gF.sub hf_5 rfl rfl
  have mo_11 : mOut s s_3 := mOut.trans (mOut.refl _) p_9
  have mb_12 : mK s s_3 := mK.trans (mK.refl _) (mK_o p_9)
  have q_13 := p_9.1 p0.toNat (by omega)
  have lp_14 : ∀ (n_14 : Nat) (v2_14 : Int) (v3_14 : gV) (v4_14 : gV) (v5_14 : gV) (v6_14 : gV) (v7_14 : gV) (s_14 : gH), (MI s_14) → (gF [76, 77, 78, 79, 80, 81, 86, 87, 88, 89] [15] s s_14) → (MDi s_14) → (mOut s s_14) → (mK s s_14) → (0 ≤ v2_14 ∧ v2_14 ≤ 60) → (∀ k : Nat, (k : Int) < v2_14 → gp_I s_14 89 k < gp_I s_14 81 20) → (v2_14 ≤ gp_I s_14 81 p0.toNat) → (gp_I s_14 81 p0.toNat = gp_I s 81 p0.toNat) → (61 - v2_14).toNat < n_14 → gs_E L (d + 185) 3121 6 [gp_r (some 74), gp_i p0, gp_i v2_14, v3_14, v4_14, v5_14, v6_14, v7_14] [] s_14 K := by
    intro n_14
    induction n_14 with
    | zero => intro v2_14 v3_14 v4_14 v5_14 v6_14 v7_14 s_14 hs_s_14 hf_s_14 MDi_s_14 mOut_s_14 mK_s_14 hv2_14 iv0_14 iv1_14 iv2_14 hm_14; exact absurd hm_14 (Nat.not_lt_zero _)
    | succ n_14 ih_14 =>
      intro v2_14 v3_14 v4_14 v5_14 v6_14 v7_14 s_14 hs_s_14 hf_s_14 MDi_s_14 mOut_s_14 mK_s_14 hv2_14 iv0_14 iv1_14 iv2_14 hm_14
      refine s_3121_6 _ _ _ _ _ _ _ ?_
      refine ⟨by omega, ?_⟩
      have f_15 := mr81 hs_s_14 (Int.toNat p0)
      refine ⟨fun h_16 => ?_, fun h_16 => ?_⟩
      · have lp_17 : ∀ (n_17 : Nat) (v3_17 : BitVec 64) (v5_17 : BitVec 64) (v7_17 : Int), (0 ≤ v7_17 ∧ v7_17 ≤ 59) → (bd v3_17 (gp_I s_14 81 20)) → (bd v5_17 (gp_I s_14 81 20)) → (60 - v7_17).toNat < n_17 → gs_E L (d + 185) 3121 24 [gp_r (some 74), gp_i p0, gp_i v2_14, gp_l v3_17, gp_n, gp_l v5_17, gp_n, gp_i v7_17] [] s_14 K := by
          intro n_17
          induction n_17 with
          | zero => intro v3_17 v5_17 v7_17 hv7_17 iv0_17 iv1_17 hm_17; exact absurd hm_17 (Nat.not_lt_zero _)
          | succ n_17 ih_17 =>
            intro v3_17 v5_17 v7_17 hv7_17 iv0_17 iv1_17 hm_17
            refine s_3121_24 _ _ _ _ _ ?_
            refine ⟨fun h_18 => ?_, fun h_18 => ?_⟩
            · try rw [show gp_wr (64 * p0) = 64 * p0 from gp_wr_id (by omega) (by omega)]
              try rw [show gp_wr ((64 * p0) + v2_14) = (64 * p0) + v2_14 from gp_wr_id (by omega) (by omega)]
              refine ⟨by omega, ?_⟩
              have b_19 := mr77 hs_s_14 p0 v2_14 (by omega) (by omega)
              refine vm_has _ _ (by omega) (fun x_20 p_21 p_22 => ⟨_, rfl, ?_⟩)
              refine ⟨fun h_23 => ?_, fun h_23 => ?_⟩
              · have hb_24 := hasF p_22 h_23
                refine s_3121_63 _ _ _ _ _ _ _ ?_
                try rw [show gp_wr (64 * p0) = 64 * p0 from gp_wr_id (by omega) (by omega)]
                try rw [show gp_wr ((64 * p0) + v2_14) = (64 * p0) + v2_14 from gp_wr_id (by omega) (by omega)]
                refine ⟨by omega, ?_⟩
                have b_25 := mr76 hs_s_14 p0 v2_14 (by omega) (by omega)
                refine vm_has _ _ (by omega) (fun x_26 p_27 p_28 => ⟨_, rfl, ?_⟩)
                refine ⟨fun h_29 => ?_, fun h_29 => ?_⟩
                · have hb_30 := hasF p_28 h_29
                  refine s_3121_99 _ _ _ _ _ _ _ ?_
                  try rw [show gp_wr (v7_17 + 1) = v7_17 + 1 from gp_wr_id (by omega) (by omega)]
                  exact ih_17 _ _ _ (by omega) (by first | (refine bd_or (bd_le iv0_17 ?_) (bd_0 _); omega) | (refine bd_or (bd_le iv0_17 ?_) (bd_sh ?_ ?_ ?_) <;> omega)) (by first | (refine bd_or (bd_le iv1_17 ?_) (bd_0 _); omega) | (refine bd_or (bd_le iv1_17 ?_) (bd_sh ?_ ?_ ?_) <;> omega)) (by omega)
                · have hb_31 := hasT p_28 h_29
                  refine ⟨by omega, ?_⟩
                  have f_32 := mr89 hs_s_14 (Int.toNat v7_17)
                  have hnd94 := iv0_14 (Int.toNat v7_17) (by omega)
                  refine s_3121_99 _ _ _ _ _ _ _ ?_
                  try rw [show gp_wr (v7_17 + 1) = v7_17 + 1 from gp_wr_id (by omega) (by omega)]
                  exact ih_17 _ _ _ (by omega) (by first | (refine bd_or (bd_le iv0_17 ?_) (bd_0 _); omega) | (refine bd_or (bd_le iv0_17 ?_) (bd_sh ?_ ?_ ?_) <;> omega)) (by first | (refine bd_or (bd_le iv1_17 ?_) (bd_0 _); omega) | (refine bd_or (bd_le iv1_17 ?_) (bd_sh ?_ ?_ ?_) <;> omega)) (by omega)
              · have hb_33 := hasT p_22 h_23
                refine ⟨by omega, ?_⟩
                have f_34 := mr89 hs_s_14 (Int.toNat v7_17)
                have hnd58 := iv0_14 (Int.toNat v7_17) (by omega)
                refine s_3121_63 _ _ _ _ _ _ _ ?_
                try rw [show gp_wr (64 * p0) = 64 * p0 from gp_wr_id (by omega) (by omega)]
                try rw [show gp_wr ((64 * p0) + v2_14) = (64 * p0) + v2_14 from gp_wr_id (by omega) (by omega)]
                refine ⟨by omega, ?_⟩
                have b_35 := mr76 hs_s_14 p0 v2_14 (by omega) (by omega)
                refine vm_has _ _ (by omega) (fun x_36 p_37 p_38 => ⟨_, rfl, ?_⟩)
                refine ⟨fun h_39 => ?_, fun h_39 => ?_⟩
                · have hb_40 := hasF p_38 h_39
                  refine s_3121_99 _ _ _ _ _ _ _ ?_
                  try rw [show gp_wr (v7_17 + 1) = v7_17 + 1 from gp_wr_id (by omega) (by omega)]
                  exact ih_17 _ _ _ (by omega) (by first | (refine bd_or (bd_le iv0_17 ?_) (bd_0 _); omega) | (refine bd_or (bd_le iv0_17 ?_) (bd_sh ?_ ?_ ?_) <;> omega)) (by first | (refine bd_or (bd_le iv1_17 ?_) (bd_0 _); omega) | (refine bd_or (bd_le iv1_17 ?_) (bd_sh ?_ ?_ ?_) <;> omega)) (by omega)
                · have hb_41 := hasT p_38 h_39
                  refine ⟨by omega, ?_⟩
                  have f_42 := mr89 hs_s_14 (Int.toNat v7_17)
                  have hnd94 := iv0_14 (Int.toNat v7_17) (by omega)
                  refine s_3121_99 _ _ _ _ _ _ _ ?_
                  try rw [show gp_wr (v7_17 + 1) = v7_17 + 1 from gp_wr_id (by omega) (by omega)]
                  exact ih_17 _ _ _ (by omega) (by first | (refine bd_or (bd_le iv0_17 ?_) (bd_0 _); omega) | (refine bd_or (bd_le iv0_17 ?_) (bd_sh ?_ ?_ ?_) <;> omega)) (by first | (refine bd_or (bd_le iv1_17 ?_) (bd_0 _); omega) | (refine bd_or (bd_le iv1_17 ?_) (bd_sh ?_ ?_ ?_) <;> omega)) (by omega)
            · try rw [show gp_wr (64 * p0) = 64 * p0 from gp_wr_id (by omega) (by omega)]
              try rw [show gp_wr ((64 * p0) + v2_14) = (64 * p0) + v2_14 from gp_wr_id (by omega) (by omega)]
              refine ⟨by omega, ?_⟩
              have w_43 := wr_rng (-(gp_I s_14 79 (Int.toNat ((64 * p0) + v2_14))))
              try rw [show gp_wr (64 * p0) = 64 * p0 from gp_wr_id (by omega) (by omega)]
              try rw [show gp_wr ((64 * p0) + v2_14) = (64 * p0) + v2_14 from gp_wr_id (by omega) (by omega)]
              refine ⟨by omega, ?_⟩
              have w_44 := wr_rng (-(gp_I s_14 78 (Int.toNat ((64 * p0) + v2_14))))
              refine vm_made _ _ _ _ hs_s_14 (MDi_s_14) (by first | assumption | exact bd_le (by assumption) (by omega) | exact bd_0 _) (by first | assumption | exact bd_le (by assumption) (by omega) | exact bd_0 _) (fun x_45 s_46 hs_47 hf_48 p_49 p_50 p_51 p_52 p_53 p_54 p_55 => ⟨_, rfl, ?_⟩)
              have hf_56 : gF [76, 77, 78, 79, 80, 81, 86, 87, 88, 89] [15] s s_46 := gF.trans hf_s_14 hf_48 rfl rfl
              have mo_57 : mOut s s_46 := mOut.trans mOut_s_14 p_54
              have mb_58 : mK s s_46 := mK.trans mK_s_14 (mK_o p_54)
              have q_59 := p_54.1 p0.toNat (by omega)
              refine ⟨by omega, ?_⟩
              intro s_60 e_61
              have hs_62 : MI s_60 := by rw [e_61]; exact mw89 hs_47 _ _ (by omega)
              have hf_63 : gF [76, 77, 78, 79, 80, 81, 86, 87, 88, 89] [15] s s_60 := by rw [e_61]; exact gF.wI hf_56 (Or.inl rfl)
              have q_64 : gp_I s_60 81 20 = gp_I s_46 81 20 := by rw [e_61] <;> rfl
              have q_65 : gp_I s_60 81 p0.toNat = gp_I s_46 81 p0.toNat := by rw [e_61] <;> rfl
              have pd_66 : MDi s_60 := by rw [e_61]; exact MDi_fr p_50 (gF.wI (gF.refl [89] [] _) (Or.inl rfl)) rfl rfl rfl rfl rfl rfl rfl
              have mo_67 : mOut s s_60 := by rw [e_61]; exact mOut_wI mo_57 (by decide)
              have mb_68 : mK s s_60 := by rw [e_61]; exact mK_wI mb_58 (by decide)
              try rw [show gp_wr (v2_14 + 1) = v2_14 + 1 from gp_wr_id (by omega) (by omega)]
              exact ih_14 _ _ _ _ _ _ _ hs_62 hf_63 pd_66 mo_67 mb_68 (by omega) (by subst_vars; exact nd_step (by omega) iv0_14 (by assumption) rfl (by omega) (by omega)) (by first | omega | assumption) (by first | omega | assumption) (by omega)
        exact lp_17 _ _ _ _ (by omega) (bd_0 _) (bd_0 _) (Nat.lt_succ_self _)
      · refine ⟨by omega, ?_⟩
        have f_69 := mr81 hs_s_14 (Int.toNat p0)
        try rw [show gp_wr ((gp_I s_14 81 (Int.toNat p0)) - 1) = (gp_I s_14 81 (Int.toNat p0)) - 1 from gp_wr_id (by omega) (by omega)]
        have hnr := iv0_14 (Int.toNat ((gp_I s_14 81 (Int.toNat p0)) - 1)) (by omega)
        refine ⟨by omega, ?_⟩
        have f_70 := mr89 hs_s_14 (Int.toNat ((gp_I s_14 81 (Int.toNat p0)) - 1))
        refine vm_ends _ hs_s_14 (by omega) (MDi_s_14) (by first | omega | assumption) (fun s_71 hs_72 hf_73 p_74 p_75 => ⟨rfl, ?_⟩)
        have hf_76 : gF [76, 77, 78, 79, 80, 81, 86, 87, 88, 89] [15] s s_71 := gF.trans hf_s_14 hf_73 rfl rfl
        have mb_77 : mK s s_71 := mK.trans mK_s_14 p_75
        exact k s_71 hs_72 hf_76 (by first | omega | assumption) mb_77
  exact lp_14 _ _ _ _ _ _ _ _ hs_4 hf_10 p_8 mo_11 mb_12 (by omega) (fun k hk => absurd hk (by omega)) (by first | omega | assumption) (by first | omega | assumption) (Nat.lt_succ_self _)
set_option maxRecDepth 100000 in
/-- GatheredPointsModel.waitsOf -/
theorem vm_waitsOf  {L d : Nat} {K : Option gV → gH → Prop} {s : gH}  (p0 : Int) (hs : MI s) (h_p0 : 0 ≤ p0 ∧ p0 ≤ 20)  (k : ∀ (t : gH), MI t → gF [76, 77, 78, 79, 80, 81, 86, 87, 88] [15] s t → (1 ≤ gp_I t 81 19 ∧ gp_I t 81 19 ≤ 60) → (mK s t) → K none t) : gs_C L (d + 185) 3122 4 [gp_r (some 74), gp_i p0] s K := by
  have f_1 := mr81 hs 20
  have f_2 := mr81 hs 19
  refine s_3122_e _ ?_
  refine vm_begins2 hs (fun s_3 hs_4 hf_5 p_6 p_7 p_8 p_9 => ⟨rfl, ?_⟩)
  have hf_10 : gF [76, 77, 78, 79, 80, 81, 86, 87, 88] [15] s s_3 := gF.sub hf_5 rfl rfl
  have mb_11 : mK s s_3 := mK.trans (mK.refl _) (mK_o p_9)
  have q_12 := p_9.1 19 (by omega)
  refine vm_made _ _ _ _ hs_4 (p_8) (bd_0 _) (bd_0 _) (fun x_13 s_14 hs_15 hf_16 p_17 p_18 p_19 p_20 p_21 p_22 p_23 => ⟨_, rfl, ?_⟩)
  have hf_24 : gF [76, 77, 78, 79, 80, 81, 86, 87, 88] [15] s s_14 := gF.trans hf_10 hf_16 rfl rfl
  have mb_25 : mK s s_14 := mK.trans mb_11 (mK_o p_22)
  have q_26 := p_22.1 19 (by omega)
  have lp_27 : ∀ (n_27 : Nat) (v2_27 : Int) (v3_27 : Int) (s_27 : gH), (MI s_27) → (gF [76, 77, 78, 79, 80, 81, 86, 87, 88] [15] s s_27) → (MDi s_27) → (mK s s_27) → (0 ≤ v2_27 ∧ v2_27 ≤ 63) → (0 ≤ v3_27 ∧ v3_27 ≤ 20) → (v2_27 < gp_I s_27 81 20) → (21 - v3_27).toNat < n_27 → gs_E L (d + 185) 3122 15 [gp_r (some 74), gp_i p0, gp_i v2_27, gp_i v3_27] [] s_27 K := by
    intro n_27
    induction n_27 with
    | zero => intro v2_27 v3_27 s_27 hs_s_27 hf_s_27 MDi_s_27 mK_s_27 hv2_27 hv3_27 iv0_27 hm_27; exact absurd hm_27 (Nat.not_lt_zero _)
    | succ n_27 ih_27 =>
      intro v2_27 v3_27 s_27 hs_s_27 hf_s_27 MDi_s_27 mK_s_27 hv2_27 hv3_27 iv0_27 hm_27
      refine s_3122_15 _ _ _ ?_
      refine ⟨fun h_28 => ?_, fun h_28 => ?_⟩
      · refine vm_made _ _ _ _ hs_s_27 (MDi_s_27) (bd_sh (by omega) (by omega) (by omega)) (bd_0 _) (fun x_29 s_30 hs_31 hf_32 p_33 p_34 p_35 p_36 p_37 p_38 p_39 => ⟨_, rfl, ?_⟩)
        have hf_40 : gF [76, 77, 78, 79, 80, 81, 86, 87, 88] [15] s s_30 := gF.trans hf_s_27 hf_32 rfl rfl
        have mb_41 : mK s s_30 := mK.trans mK_s_27 (mK_o p_38)
        have q_42 := p_38.1 19 (by omega)
        try rw [show gp_wr (v3_27 + 1) = v3_27 + 1 from gp_wr_id (by omega) (by omega)]
        exact ih_27 _ _ _ hs_31 hf_40 p_34 mb_41 (by omega) (by omega) (by first | omega | assumption) (by omega)
      · refine vm_ends _ hs_s_27 (by omega) (MDi_s_27) (by first | omega | assumption) (fun s_43 hs_44 hf_45 p_46 p_47 => ⟨rfl, ?_⟩)
        have hf_48 : gF [76, 77, 78, 79, 80, 81, 86, 87, 88] [15] s s_43 := gF.trans hf_s_27 hf_45 rfl rfl
        have mb_49 : mK s s_43 := mK.trans mK_s_27 p_47
        exact k s_43 hs_44 hf_48 (by first | omega | assumption) mb_49
  exact lp_27 _ _ _ _ hs_15 hf_24 p_18 mb_25 (by omega) (by omega) (by first | omega | assumption) (Nat.lt_succ_self _)
set_option maxRecDepth 100000 in
/-- GatheredPointsModel.results -/
theorem vm_results  {L d : Nat} {K : Option gV → gH → Prop} {s : gH}  (p0 : Int) (hs : MI s) (h_p0 : 0 ≤ p0 ∧ p0 ≤ 63) (q0 : MDi s) (q1 : p0 < gp_I s 81 20) (k : ∀ (r : Int), ∀ (t : gH), MI t → gF [76, 77, 78, 79, 80, 81, 86, 87, 88] [] s t → (0 ≤ r ∧ r ≤ 6) → (r ≠ 4 → 1 ≤ gp_I t 81 19 ∧ gp_I t 81 19 ≤ 60) → (r = 4 ∨ r = 6 ∨ r = 0) → (r = 4 → gp_I s 74 15 ≠ 0) → (mK s t) → K (some (gp_i r)) t) : gs_C L (d + 185) 3119 2 [gp_r (some 74), gp_i p0] s K := by
  have f_1 := mr81 hs 20
  have f_2 := mr81 hs 19
  refine s_3119_e _ ?_
  have f_3 := mr74_15 hs
  refine ⟨fun h_4 => ?_, fun h_4 => ?_⟩
  · refine vm_ends _ hs (by omega) (by assumption) (by first | omega | assumption) (fun s_5 hs_6 hf_7 p_8 p_9 => ⟨rfl, ?_⟩)
    have hf_10 : gF [76, 77, 78, 79, 80, 81, 86, 87, 88] [] s s_5 := gF.sub hf_7 rfl rfl
    have mb_11 : mK s s_5 := mK.trans (mK.refl _) p_9
    refine vm_isBig _ hs_6 (by omega) (fun x_12 p_13 => ⟨_, rfl, ?_⟩)
    refine ⟨fun h_14 => ?_, fun h_14 => ?_⟩
    · refine s_3119_31 _ _ ?_
      exact k _ s_5 hs_6 hf_10 (by omega) (by first | omega | assumption) (by first | omega | assumption) (by first | omega | assumption) mb_11
    · refine s_3119_31 _ _ ?_
      exact k _ s_5 hs_6 hf_10 (by omega) (by first | omega | assumption) (by first | omega | assumption) (by first | omega | assumption) mb_11
  · exact k _ s hs (gF.refl _ _ _) (by omega) (by first | omega | assumption) (by first | omega | assumption) (by first | omega | assumption) (mK.refl _)
set_option maxRecDepth 100000 in
/-- GatheredPointsModel.holdsPart -/
theorem vm_holdsPart  {L d : Nat} {K : Option gV → gH → Prop} {s : gH}  (p0 : Int) (p1 : Int) (p2 : Int) (hs : MI s) (h_p0 : 0 ≤ p0 ∧ p0 ≤ 18) (h_p1 : 0 ≤ p1 ∧ p1 ≤ 63) (h_p2 : 0 ≤ p2 ∧ p2 ≤ 7) (q0 : p1 < gp_I s 81 p0.toNat) (k : ∀ (r : Int), ∀ (t : gH), MI t → gF [76, 77, 78, 79, 80, 81, 86, 87, 88, 89] [15] s t → (0 ≤ r ∧ r ≤ 64) → (mK s t) → K (some (gp_i r)) t) : gs_C L (d + 185) 3148 4 [gp_r (some 74), gp_i p0, gp_i p1, gp_i p2] s K := by
  have f_1 := mr81 hs 20
  have f_2 := mr81 hs 19
  have f_3 := mr81 hs p0.toNat
  refine s_3148_e _ _ _ ?_
  refine vm_begins2 hs (fun s_4 hs_5 hf_6 p_7 p_8 p_9 p_10 => ⟨rfl, ?_⟩)
  have hf_11 : gF [76, 77, 78, 79, 80, 81, 86, 87, 88, 89] [15] s s_4 := gF.sub hf_6 rfl rfl
  have mb_12 : mK s s_4 := mK.trans (mK.refl _) (mK_o p_10)
  have q_13 := p_10.1 19 (by omega)
  have q_14 := p_10.1 p0.toNat (by omega)
  refine vm_comes _ hs_5 (by omega) (p_9) (by first | omega | assumption) (by first | omega | assumption) (fun x_15 s_16 hs_17 hf_18 p_19 p_20 p_21 p_22 p_23 p_24 => ⟨_, rfl, ?_⟩)
  have hf_25 : gF [76, 77, 78, 79, 80, 81, 86, 87, 88, 89] [15] s s_16 := gF.trans hf_11 hf_18 rfl rfl
  have mb_26 : mK s s_16 := mK.trans mb_12 (mK_o p_21)
  have q_27 := p_21.1 19 (by omega)
  have q_28 := p_21.1 p0.toNat (by omega)
  have hnr := ‹∀ k : Nat, _ → gp_I _ 89 k < _› (Int.toNat p1) (by omega)
  refine ⟨by omega, ?_⟩
  have f_29 := mr89 hs_17 (Int.toNat p1)
  refine vm_ends _ hs_17 (by omega) (p_20) (by first | omega | assumption) (fun s_30 hs_31 hf_32 p_33 p_34 => ⟨rfl, ?_⟩)
  have hf_35 : gF [76, 77, 78, 79, 80, 81, 86, 87, 88, 89] [15] s s_30 := gF.trans hf_25 hf_32 rfl rfl
  have mb_36 : mK s s_30 := mK.trans mb_26 p_34
  refine vm_holds _ hs_31 (by omega) (by first | omega | assumption) (fun x_37 s_38 hs_39 hf_40 p_41 p_42 p_43 => ⟨_, rfl, ?_⟩)
  have hf_44 : gF [76, 77, 78, 79, 80, 81, 86, 87, 88, 89] [15] s s_38 := gF.trans hf_35 hf_40 rfl rfl
  have mb_45 : mK s s_38 := mK.trans mb_36 p_43
  exact k _ s_38 hs_39 hf_44 (by omega) mb_45
def SUM (m : Nat) : Prop := ∀ (L D : Nat) (K : Option gV → gH → Prop) (s : gH)  (p0 : Int) (p1 : Int) (p2 : Int) (p3 : Int), ((m + 6 ≤ D)) → (MI s) → (0 ≤ p0 ∧ p0 ≤ 84) → (0 ≤ p1 ∧ p1 ≤ 63) → (0 ≤ p2 ∧ p2 ≤ 84) → (0 ≤ p3 ∧ p3 ≤ 63) → (MDi s) → (SumP s) → (p1 + p3 < m) → (∀ (r : Int), ∀ (t : gH), MI t → gF [76, 77, 78, 79, 80, 81, 105] [15] s t → (0 ≤ r ∧ r ≤ 63) → (MDi t) → (SumP t) → (r < gp_I t 81 20) → (gp_I s 81 20 ≤ gp_I t 81 20) → (mOut s t) → K (some (gp_i r)) t) → gs_C L D 3118 11 [gp_r (some 74), gp_i p0, gp_i p1, gp_i p2, gp_i p3] s K
set_option maxRecDepth 100000 in
/-- GatheredPointsModel.sum -/
theorem vm_sum (m : Nat) (ihU : SUM m) : SUM (m + 1) := by
  intro L D K s p0 p1 p2 p3 hD hs h_p0 h_p1 h_p2 h_p3 q0 q1 q2 k
  obtain ⟨d, rfl⟩ : ∃ d, D = d + 6 := ⟨D - 6, by omega⟩
  have f_1 := mr81 hs 20
  have f_2 := mr105 hs (Int.toNat (64 * p1 + p3))
  refine s_3118_e _ _ _ _ ?_
  have hsp := q1.1 (Int.toNat (64 * p1 + p3)) (by omega)
  try rw [show gp_wr (64 * p1) = 64 * p1 from gp_wr_id (by omega) (by omega)]
  try rw [show gp_wr ((64 * p1) + p3) = (64 * p1) + p3 from gp_wr_id (by omega) (by omega)]
  refine ⟨by omega, ?_⟩
  have f_3 := mr105 hs (Int.toNat ((64 * p1) + p3))
  refine ⟨fun h_4 => ?_, fun h_4 => ?_⟩
  · have lp_5 : ∀ (n_5 : Nat) (v5_5 : BitVec 64) (v7_5 : BitVec 64) (v9_5 : Int) (v10_5 : gV) (s_5 : gH), (MI s_5) → (gF [76, 77, 78, 79, 80, 81, 105] [15] s s_5) → (MDi s_5) → (SumP s_5) → (mOut s s_5) → (0 ≤ v9_5 ∧ v9_5 ≤ 63) → (bd v5_5 (gp_I s_5 81 20)) → (bd v7_5 (gp_I s_5 81 20)) → (gp_I s 81 20 ≤ gp_I s_5 81 20) → (64 - v9_5).toNat < n_5 → gs_E L (d + 6) 3118 24 [gp_r (some 74), gp_i p0, gp_i p1, gp_i p2, gp_i p3, gp_l v5_5, gp_n, gp_l v7_5, gp_n, gp_i v9_5, v10_5] [] s_5 K := by
      intro n_5
      induction n_5 with
      | zero => intro v5_5 v7_5 v9_5 v10_5 s_5 hs_s_5 hf_s_5 MDi_s_5 SumP_s_5 mOut_s_5 hv9_5 iv0_5 iv1_5 iv2_5 hm_5; exact absurd hm_5 (Nat.not_lt_zero _)
      | succ n_5 ih_5 =>
        intro v5_5 v7_5 v9_5 v10_5 s_5 hs_s_5 hf_s_5 MDi_s_5 SumP_s_5 mOut_s_5 hv9_5 iv0_5 iv1_5 iv2_5 hm_5
        refine s_3118_24 _ _ _ _ _ _ _ _ ?_
        refine ⟨fun h_6 => ?_, fun h_6 => ?_⟩
        · try rw [show gp_wr (64 * p0) = 64 * p0 from gp_wr_id (by omega) (by omega)]
          try rw [show gp_wr ((64 * p0) + p1) = (64 * p0) + p1 from gp_wr_id (by omega) (by omega)]
          refine ⟨by omega, ?_⟩
          have b_7 := mr76 hs_s_5 p0 p1 (by omega) (by omega)
          refine vm_has _ _ (by omega) (fun x_8 p_9 p_10 => ⟨_, rfl, ?_⟩)
          refine ⟨fun h_11 => ?_, fun h_11 => ?_⟩
          · have hb_12 := hasF p_10 h_11
            refine s_3118_67 _ _ _ _ _ _ _ _ _ _ ?_
            try rw [show gp_wr (64 * p0) = 64 * p0 from gp_wr_id (by omega) (by omega)]
            try rw [show gp_wr ((64 * p0) + p1) = (64 * p0) + p1 from gp_wr_id (by omega) (by omega)]
            refine ⟨by omega, ?_⟩
            have b_13 := mr77 hs_s_5 p0 p1 (by omega) (by omega)
            refine vm_has _ _ (by omega) (fun x_14 p_15 p_16 => ⟨_, rfl, ?_⟩)
            refine ⟨fun h_17 => ?_, fun h_17 => ?_⟩
            · have hb_18 := hasF p_16 h_17
              refine s_3118_107 _ _ _ _ _ _ _ _ _ _ ?_
              try rw [show gp_wr (v9_5 + 1) = v9_5 + 1 from gp_wr_id (by omega) (by omega)]
              exact ih_5 _ _ _ _ _ hs_s_5 hf_s_5 MDi_s_5 SumP_s_5 mOut_s_5 (by omega) (by first | (refine bd_or (bd_le iv0_5 ?_) (bd_0 _); omega) | (refine bd_or (bd_le iv0_5 ?_) (bd_sh ?_ ?_ ?_) <;> omega)) (by first | (refine bd_or (bd_le iv1_5 ?_) (bd_0 _); omega) | (refine bd_or (bd_le iv1_5 ?_) (bd_sh ?_ ?_ ?_) <;> omega)) (by first | omega | assumption) (by omega)
            · have hb_19 := hasT p_16 h_17
              refine ihU _ _ _ _ _ _ _ _ (by omega) hs_s_5 (by omega) (by omega) (by omega) (by omega) (MDi_s_5) (SumP_s_5) (by first | omega | assumption) (fun x_20 s_21 hs_22 hf_23 p_24 p_25 p_26 p_27 p_28 p_29 => ⟨_, rfl, ?_⟩)
              have hf_30 : gF [76, 77, 78, 79, 80, 81, 105] [15] s s_21 := gF.trans hf_s_5 hf_23 rfl rfl
              have mo_31 : mOut s s_21 := mOut.trans mOut_s_5 p_29
              refine s_3118_107 _ _ _ _ _ _ _ _ _ _ ?_
              try rw [show gp_wr (v9_5 + 1) = v9_5 + 1 from gp_wr_id (by omega) (by omega)]
              exact ih_5 _ _ _ _ _ hs_22 hf_30 p_25 p_26 mo_31 (by omega) (by first | (refine bd_or (bd_le iv0_5 ?_) (bd_0 _); omega) | (refine bd_or (bd_le iv0_5 ?_) (bd_sh ?_ ?_ ?_) <;> omega)) (by first | (refine bd_or (bd_le iv1_5 ?_) (bd_0 _); omega) | (refine bd_or (bd_le iv1_5 ?_) (bd_sh ?_ ?_ ?_) <;> omega)) (by first | omega | assumption) (by omega)
          · have hb_32 := hasT p_10 h_11
            refine ihU _ _ _ _ _ _ _ _ (by omega) hs_s_5 (by omega) (by omega) (by omega) (by omega) (MDi_s_5) (SumP_s_5) (by first | omega | assumption) (fun x_33 s_34 hs_35 hf_36 p_37 p_38 p_39 p_40 p_41 p_42 => ⟨_, rfl, ?_⟩)
            have hf_43 : gF [76, 77, 78, 79, 80, 81, 105] [15] s s_34 := gF.trans hf_s_5 hf_36 rfl rfl
            have mo_44 : mOut s s_34 := mOut.trans mOut_s_5 p_42
            refine s_3118_67 _ _ _ _ _ _ _ _ _ _ ?_
            try rw [show gp_wr (64 * p0) = 64 * p0 from gp_wr_id (by omega) (by omega)]
            try rw [show gp_wr ((64 * p0) + p1) = (64 * p0) + p1 from gp_wr_id (by omega) (by omega)]
            refine ⟨by omega, ?_⟩
            have b_45 := mr77 hs_35 p0 p1 (by omega) (by omega)
            refine vm_has _ _ (by omega) (fun x_46 p_47 p_48 => ⟨_, rfl, ?_⟩)
            refine ⟨fun h_49 => ?_, fun h_49 => ?_⟩
            · have hb_50 := hasF p_48 h_49
              refine s_3118_107 _ _ _ _ _ _ _ _ _ _ ?_
              try rw [show gp_wr (v9_5 + 1) = v9_5 + 1 from gp_wr_id (by omega) (by omega)]
              exact ih_5 _ _ _ _ _ hs_35 hf_43 p_38 p_39 mo_44 (by omega) (by first | (refine bd_or (bd_le iv0_5 ?_) (bd_0 _); omega) | (refine bd_or (bd_le iv0_5 ?_) (bd_sh ?_ ?_ ?_) <;> omega)) (by first | (refine bd_or (bd_le iv1_5 ?_) (bd_0 _); omega) | (refine bd_or (bd_le iv1_5 ?_) (bd_sh ?_ ?_ ?_) <;> omega)) (by first | omega | assumption) (by omega)
            · have hb_51 := hasT p_48 h_49
              refine ihU _ _ _ _ _ _ _ _ (by omega) hs_35 (by omega) (by omega) (by omega) (by omega) (p_38) (p_39) (by first | omega | assumption) (fun x_52 s_53 hs_54 hf_55 p_56 p_57 p_58 p_59 p_60 p_61 => ⟨_, rfl, ?_⟩)
              have hf_62 : gF [76, 77, 78, 79, 80, 81, 105] [15] s s_53 := gF.trans hf_43 hf_55 rfl rfl
              have mo_63 : mOut s s_53 := mOut.trans mo_44 p_61
              refine s_3118_107 _ _ _ _ _ _ _ _ _ _ ?_
              try rw [show gp_wr (v9_5 + 1) = v9_5 + 1 from gp_wr_id (by omega) (by omega)]
              exact ih_5 _ _ _ _ _ hs_54 hf_62 p_57 p_58 mo_63 (by omega) (by first | (refine bd_or (bd_le iv0_5 ?_) (bd_0 _); omega) | (refine bd_or (bd_le iv0_5 ?_) (bd_sh ?_ ?_ ?_) <;> omega)) (by first | (refine bd_or (bd_le iv1_5 ?_) (bd_0 _); omega) | (refine bd_or (bd_le iv1_5 ?_) (bd_sh ?_ ?_ ?_) <;> omega)) (by first | omega | assumption) (by omega)
        · have lp_64 : ∀ (n_64 : Nat) (v5_64 : BitVec 64) (v7_64 : BitVec 64) (v9_64 : Int) (v10_64 : gV) (s_64 : gH), (MI s_64) → (gF [76, 77, 78, 79, 80, 81, 105] [15] s s_64) → (MDi s_64) → (SumP s_64) → (mOut s s_64) → (0 ≤ v9_64 ∧ v9_64 ≤ 63) → (bd v5_64 (gp_I s_64 81 20)) → (bd v7_64 (gp_I s_64 81 20)) → (gp_I s 81 20 ≤ gp_I s_64 81 20) → (64 - v9_64).toNat < n_64 → gs_E L (d + 6) 3118 119 [gp_r (some 74), gp_i p0, gp_i p1, gp_i p2, gp_i p3, gp_l v5_64, gp_n, gp_l v7_64, gp_n, gp_i v9_64, v10_64] [] s_64 K := by
            intro n_64
            induction n_64 with
            | zero => intro v5_64 v7_64 v9_64 v10_64 s_64 hs_s_64 hf_s_64 MDi_s_64 SumP_s_64 mOut_s_64 hv9_64 iv0_64 iv1_64 iv2_64 hm_64; exact absurd hm_64 (Nat.not_lt_zero _)
            | succ n_64 ih_64 =>
              intro v5_64 v7_64 v9_64 v10_64 s_64 hs_s_64 hf_s_64 MDi_s_64 SumP_s_64 mOut_s_64 hv9_64 iv0_64 iv1_64 iv2_64 hm_64
              refine s_3118_119 _ _ _ _ _ _ _ _ ?_
              refine ⟨fun h_65 => ?_, fun h_65 => ?_⟩
              · try rw [show gp_wr (64 * p2) = 64 * p2 from gp_wr_id (by omega) (by omega)]
                try rw [show gp_wr ((64 * p2) + p3) = (64 * p2) + p3 from gp_wr_id (by omega) (by omega)]
                refine ⟨by omega, ?_⟩
                have b_66 := mr76 hs_s_64 p2 p3 (by omega) (by omega)
                refine vm_has _ _ (by omega) (fun x_67 p_68 p_69 => ⟨_, rfl, ?_⟩)
                refine ⟨fun h_70 => ?_, fun h_70 => ?_⟩
                · have hb_71 := hasF p_69 h_70
                  refine s_3118_163 _ _ _ _ _ _ _ _ _ _ ?_
                  try rw [show gp_wr (64 * p2) = 64 * p2 from gp_wr_id (by omega) (by omega)]
                  try rw [show gp_wr ((64 * p2) + p3) = (64 * p2) + p3 from gp_wr_id (by omega) (by omega)]
                  refine ⟨by omega, ?_⟩
                  have b_72 := mr77 hs_s_64 p2 p3 (by omega) (by omega)
                  refine vm_has _ _ (by omega) (fun x_73 p_74 p_75 => ⟨_, rfl, ?_⟩)
                  refine ⟨fun h_76 => ?_, fun h_76 => ?_⟩
                  · have hb_77 := hasF p_75 h_76
                    refine s_3118_203 _ _ _ _ _ _ _ _ _ _ ?_
                    try rw [show gp_wr (v9_64 + 1) = v9_64 + 1 from gp_wr_id (by omega) (by omega)]
                    exact ih_64 _ _ _ _ _ hs_s_64 hf_s_64 MDi_s_64 SumP_s_64 mOut_s_64 (by omega) (by first | (refine bd_or (bd_le iv0_64 ?_) (bd_0 _); omega) | (refine bd_or (bd_le iv0_64 ?_) (bd_sh ?_ ?_ ?_) <;> omega)) (by first | (refine bd_or (bd_le iv1_64 ?_) (bd_0 _); omega) | (refine bd_or (bd_le iv1_64 ?_) (bd_sh ?_ ?_ ?_) <;> omega)) (by first | omega | assumption) (by omega)
                  · have hb_78 := hasT p_75 h_76
                    refine ihU _ _ _ _ _ _ _ _ (by omega) hs_s_64 (by omega) (by omega) (by omega) (by omega) (MDi_s_64) (SumP_s_64) (by first | omega | assumption) (fun x_79 s_80 hs_81 hf_82 p_83 p_84 p_85 p_86 p_87 p_88 => ⟨_, rfl, ?_⟩)
                    have hf_89 : gF [76, 77, 78, 79, 80, 81, 105] [15] s s_80 := gF.trans hf_s_64 hf_82 rfl rfl
                    have mo_90 : mOut s s_80 := mOut.trans mOut_s_64 p_88
                    refine s_3118_203 _ _ _ _ _ _ _ _ _ _ ?_
                    try rw [show gp_wr (v9_64 + 1) = v9_64 + 1 from gp_wr_id (by omega) (by omega)]
                    exact ih_64 _ _ _ _ _ hs_81 hf_89 p_84 p_85 mo_90 (by omega) (by first | (refine bd_or (bd_le iv0_64 ?_) (bd_0 _); omega) | (refine bd_or (bd_le iv0_64 ?_) (bd_sh ?_ ?_ ?_) <;> omega)) (by first | (refine bd_or (bd_le iv1_64 ?_) (bd_0 _); omega) | (refine bd_or (bd_le iv1_64 ?_) (bd_sh ?_ ?_ ?_) <;> omega)) (by first | omega | assumption) (by omega)
                · have hb_91 := hasT p_69 h_70
                  refine ihU _ _ _ _ _ _ _ _ (by omega) hs_s_64 (by omega) (by omega) (by omega) (by omega) (MDi_s_64) (SumP_s_64) (by first | omega | assumption) (fun x_92 s_93 hs_94 hf_95 p_96 p_97 p_98 p_99 p_100 p_101 => ⟨_, rfl, ?_⟩)
                  have hf_102 : gF [76, 77, 78, 79, 80, 81, 105] [15] s s_93 := gF.trans hf_s_64 hf_95 rfl rfl
                  have mo_103 : mOut s s_93 := mOut.trans mOut_s_64 p_101
                  refine s_3118_163 _ _ _ _ _ _ _ _ _ _ ?_
                  try rw [show gp_wr (64 * p2) = 64 * p2 from gp_wr_id (by omega) (by omega)]
                  try rw [show gp_wr ((64 * p2) + p3) = (64 * p2) + p3 from gp_wr_id (by omega) (by omega)]
                  refine ⟨by omega, ?_⟩
                  have b_104 := mr77 hs_94 p2 p3 (by omega) (by omega)
                  refine vm_has _ _ (by omega) (fun x_105 p_106 p_107 => ⟨_, rfl, ?_⟩)
                  refine ⟨fun h_108 => ?_, fun h_108 => ?_⟩
                  · have hb_109 := hasF p_107 h_108
                    refine s_3118_203 _ _ _ _ _ _ _ _ _ _ ?_
                    try rw [show gp_wr (v9_64 + 1) = v9_64 + 1 from gp_wr_id (by omega) (by omega)]
                    exact ih_64 _ _ _ _ _ hs_94 hf_102 p_97 p_98 mo_103 (by omega) (by first | (refine bd_or (bd_le iv0_64 ?_) (bd_0 _); omega) | (refine bd_or (bd_le iv0_64 ?_) (bd_sh ?_ ?_ ?_) <;> omega)) (by first | (refine bd_or (bd_le iv1_64 ?_) (bd_0 _); omega) | (refine bd_or (bd_le iv1_64 ?_) (bd_sh ?_ ?_ ?_) <;> omega)) (by first | omega | assumption) (by omega)
                  · have hb_110 := hasT p_107 h_108
                    refine ihU _ _ _ _ _ _ _ _ (by omega) hs_94 (by omega) (by omega) (by omega) (by omega) (p_97) (p_98) (by first | omega | assumption) (fun x_111 s_112 hs_113 hf_114 p_115 p_116 p_117 p_118 p_119 p_120 => ⟨_, rfl, ?_⟩)
                    have hf_121 : gF [76, 77, 78, 79, 80, 81, 105] [15] s s_112 := gF.trans hf_102 hf_114 rfl rfl
                    have mo_122 : mOut s s_112 := mOut.trans mo_103 p_120
                    refine s_3118_203 _ _ _ _ _ _ _ _ _ _ ?_
                    try rw [show gp_wr (v9_64 + 1) = v9_64 + 1 from gp_wr_id (by omega) (by omega)]
                    exact ih_64 _ _ _ _ _ hs_113 hf_121 p_116 p_117 mo_122 (by omega) (by first | (refine bd_or (bd_le iv0_64 ?_) (bd_0 _); omega) | (refine bd_or (bd_le iv0_64 ?_) (bd_sh ?_ ?_ ?_) <;> omega)) (by first | (refine bd_or (bd_le iv1_64 ?_) (bd_0 _); omega) | (refine bd_or (bd_le iv1_64 ?_) (bd_sh ?_ ?_ ?_) <;> omega)) (by first | omega | assumption) (by omega)
              · try rw [show gp_wr (64 * p0) = 64 * p0 from gp_wr_id (by omega) (by omega)]
                try rw [show gp_wr ((64 * p0) + p1) = (64 * p0) + p1 from gp_wr_id (by omega) (by omega)]
                refine ⟨by omega, ?_⟩
                try rw [show gp_wr (64 * p2) = 64 * p2 from gp_wr_id (by omega) (by omega)]
                try rw [show gp_wr ((64 * p2) + p3) = (64 * p2) + p3 from gp_wr_id (by omega) (by omega)]
                refine ⟨by omega, ?_⟩
                have w_123 := wr_rng ((gp_I s_64 78 (Int.toNat ((64 * p0) + p1))) + (gp_I s_64 78 (Int.toNat ((64 * p2) + p3))))
                try rw [show gp_wr (64 * p0) = 64 * p0 from gp_wr_id (by omega) (by omega)]
                try rw [show gp_wr ((64 * p0) + p1) = (64 * p0) + p1 from gp_wr_id (by omega) (by omega)]
                refine ⟨by omega, ?_⟩
                try rw [show gp_wr (64 * p2) = 64 * p2 from gp_wr_id (by omega) (by omega)]
                try rw [show gp_wr ((64 * p2) + p3) = (64 * p2) + p3 from gp_wr_id (by omega) (by omega)]
                refine ⟨by omega, ?_⟩
                have w_124 := wr_rng ((gp_I s_64 79 (Int.toNat ((64 * p0) + p1))) + (gp_I s_64 79 (Int.toNat ((64 * p2) + p3))))
                try rw [show gp_wr (64 * p1) = 64 * p1 from gp_wr_id (by omega) (by omega)]
                try rw [show gp_wr ((64 * p1) + p3) = (64 * p1) + p3 from gp_wr_id (by omega) (by omega)]
                have f_125 := mr74_15 hs_s_64
                refine ⟨fun h_126 => ?_, fun h_126 => ?_⟩
                · refine vm_made _ _ _ _ hs_s_64 (MDi_s_64) (by first | assumption | exact bd_le (by assumption) (by omega) | exact bd_0 _) (by first | assumption | exact bd_le (by assumption) (by omega) | exact bd_0 _) (fun x_127 s_128 hs_129 hf_130 p_131 p_132 p_133 p_134 p_135 p_136 p_137 => ⟨_, rfl, ?_⟩)
                  have hf_138 : gF [76, 77, 78, 79, 80, 81, 105] [15] s s_128 := gF.trans hf_s_64 hf_130 rfl rfl
                  have q_139 := (hf_130.2 105 (Int.toNat (64 * p1 + p3)) rfl (fun h => absurd h (by decide))).1
                  have mo_140 : mOut s s_128 := mOut.trans mOut_s_64 p_136
                  refine s_3118_299 _ _ _ _ _ _ _ _ _ _ _ ?_
                  have hsm : SumP s_128 := by first | assumption | exact SumP_up (by assumption) hf_130 rfl (by omega) (by omega)
                  have hv1 : (1 : Int) + x_127 ≤ gp_I s_128 81 20 := by first | omega | (have := hsm.2 (by omega); omega)
                  try rw [show gp_wr (1 + x_127) = 1 + x_127 from gp_wr_id (by omega) (by omega)]
                  refine ⟨by omega, ?_⟩
                  intro s_141 e_142
                  have hs_143 : MI s_141 := by rw [e_142]; exact mw105 hs_129 _ _ (by omega)
                  have hf_144 : gF [76, 77, 78, 79, 80, 81, 105] [15] s s_141 := by rw [e_142]; exact gF.wI hf_138 (Or.inl rfl)
                  have q_145 : gp_I s_141 81 20 = gp_I s_128 81 20 := by rw [e_142] <;> rfl
                  have q_146 := gz_rw s_128 105 (Int.toNat ((64 * p1) + p3)) (Int.toNat (64 * p1 + p3)) (1 + x_127); rw [← e_142] at q_146
                  have pd_147 : MDi s_141 := by rw [e_142]; exact MDi_fr p_132 (gF.wI (gF.refl [105] [] _) (Or.inl rfl)) rfl rfl rfl rfl rfl rfl rfl
                  have mo_148 : mOut s s_141 := by rw [e_142]; exact mOut_wI mo_140 (by decide)
                  refine s_3118_301 _ _ _ _ _ _ _ _ _ _ ?_
                  try rw [show gp_wr (64 * p1) = 64 * p1 from gp_wr_id (by omega) (by omega)]
                  try rw [show gp_wr ((64 * p1) + p3) = (64 * p1) + p3 from gp_wr_id (by omega) (by omega)]
                  refine ⟨by omega, ?_⟩
                  have f_149 := mr105 hs_143 (Int.toNat ((64 * p1) + p3))
                  try rw [show gp_wr ((gp_I s_141 105 (Int.toNat ((64 * p1) + p3))) - 1) = (gp_I s_141 105 (Int.toNat ((64 * p1) + p3))) - 1 from gp_wr_id (by omega) (by omega)]
                  exact k _ s_141 hs_143 hf_144 (by omega) (pd_147) (by first | assumption | (subst_vars; exact SumP_w hsm hv1)) (by first | omega | assumption) (by first | omega | assumption) mo_148
                · refine s_3118_299 _ _ _ _ _ _ _ _ _ _ _ ?_
                  have hsm : SumP s_64 := by first | assumption | exact SumP_up (by assumption) {cf} rfl (by omega) (by omega)
                  have hv1 : (1 : Int) + 0 ≤ gp_I s_64 81 20 := by first | omega | (have := hsm.2 (by omega); omega)
                  try rw [show gp_wr (1 + 0) = 1 + 0 from gp_wr_id (by omega) (by omega)]
                  refine ⟨by omega, ?_⟩
                  intro s_150 e_151
                  have hs_152 : MI s_150 := by rw [e_151]; exact mw105 hs_s_64 _ _ (by omega)
                  have hf_153 : gF [76, 77, 78, 79, 80, 81, 105] [15] s s_150 := by rw [e_151]; exact gF.wI hf_s_64 (Or.inl rfl)
                  have q_154 : gp_I s_150 81 20 = gp_I s_64 81 20 := by rw [e_151] <;> rfl
                  have q_155 := gz_rw s_64 105 (Int.toNat ((64 * p1) + p3)) (Int.toNat (64 * p1 + p3)) (1 + 0); rw [← e_151] at q_155
                  have pd_156 : MDi s_150 := by rw [e_151]; exact MDi_fr MDi_s_64 (gF.wI (gF.refl [105] [] _) (Or.inl rfl)) rfl rfl rfl rfl rfl rfl rfl
                  have mo_157 : mOut s s_150 := by rw [e_151]; exact mOut_wI mOut_s_64 (by decide)
                  refine s_3118_301 _ _ _ _ _ _ _ _ _ _ ?_
                  try rw [show gp_wr (64 * p1) = 64 * p1 from gp_wr_id (by omega) (by omega)]
                  try rw [show gp_wr ((64 * p1) + p3) = (64 * p1) + p3 from gp_wr_id (by omega) (by omega)]
                  refine ⟨by omega, ?_⟩
                  have f_158 := mr105 hs_152 (Int.toNat ((64 * p1) + p3))
                  try rw [show gp_wr ((gp_I s_150 105 (Int.toNat ((64 * p1) + p3))) - 1) = (gp_I s_150 105 (Int.toNat ((64 * p1) + p3))) - 1 from gp_wr_id (by omega) (by omega)]
                  exact k _ s_150 hs_152 hf_153 (by omega) (pd_156) (by first | assumption | (subst_vars; exact SumP_w hsm hv1)) (by first | omega | assumption) (by first | omega | assumption) mo_157
          exact lp_64 _ _ _ _ _ _ hs_s_5 hf_s_5 MDi_s_5 SumP_s_5 mOut_s_5 (by omega) (iv0_5) (iv1_5) (by first | omega | assumption) (Nat.lt_succ_self _)
    exact lp_5 _ _ _ _ _ _ hs (gF.refl _ _ _) q0 q1 (mOut.refl _) (by omega) (bd_0 _) (bd_0 _) (by first | omega | assumption) (Nat.lt_succ_self _)
  · refine s_3118_301 _ _ _ _ _ _ _ _ _ _ ?_
    try rw [show gp_wr (64 * p1) = 64 * p1 from gp_wr_id (by omega) (by omega)]
    try rw [show gp_wr ((64 * p1) + p3) = (64 * p1) + p3 from gp_wr_id (by omega) (by omega)]
    refine ⟨by omega, ?_⟩
    have f_159 := mr105 hs (Int.toNat ((64 * p1) + p3))
    try rw [show gp_wr ((gp_I s 105 (Int.toNat ((64 * p1) + p3))) - 1) = (gp_I s 105 (Int.toNat ((64 * p1) + p3))) - 1 from gp_wr_id (by omega) (by omega)]
    exact k _ s hs (gF.refl _ _ _) (by omega) (q0) (by first | assumption | (subst_vars; exact SumP_w hsm hv1)) (by first | omega | assumption) (by first | omega | assumption) (mOut.refl _)
