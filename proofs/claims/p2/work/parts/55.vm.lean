set_option maxRecDepth 100000 in
/-- GatheredPointsModel.comes -/
theorem vm_comes  {L d : Nat} {K : Option gV → gH → Prop} {s : gH}  (p0 : Int) (hs : MI s) (h_p0 : 0 ≤ p0 ∧ p0 ≤ 84) (q0 : MDi s) (q1 : p0 ≠ 20) (q2 : 1 ≤ gp_I s 81 p0.toNat) (k : ∀ (r : Int), ∀ (t : gH), MI t → gF [76, 77, 78, 79, 80, 81, 89] [15] s t → (0 ≤ r ∧ r ≤ 63) → (MDi t) → (mOut s t) → (r < gp_I t 81 20) → (gp_I s 81 20 ≤ gp_I t 81 20) → (∀ k : Nat, (k : Int) < gp_I s 81 p0.toNat → gp_I t 89 k < gp_I t 81 20) → K (some (gp_i r)) t) : gs_C L (d + 4) 3096 8 [gp_r (some 74), gp_i p0] s K := by
  have f_1 := mr81 hs 20
  have f_2 := mr81 hs p0.toNat
  refine s_3096_e _ ?_
  have lp_3 : ∀ (n_3 : Nat) (v2_3 : Int) (v3_3 : gV) (v4_3 : gV) (v5_3 : gV) (v6_3 : gV) (v7_3 : gV) (s_3 : gH), (MI s_3) → (gF [76, 77, 78, 79, 80, 81, 89] [15] s s_3) → (MDi s_3) → (mOut s s_3) → (0 ≤ v2_3 ∧ v2_3 ≤ 60) → (∀ k : Nat, (k : Int) < v2_3 → gp_I s_3 89 k < gp_I s_3 81 20) → (v2_3 ≤ gp_I s_3 81 p0.toNat) → (gp_I s 81 20 ≤ gp_I s_3 81 20) → (gp_I s_3 81 p0.toNat = gp_I s 81 p0.toNat) → (61 - v2_3).toNat < n_3 → gs_E L (d + 4) 3096 2 [gp_r (some 74), gp_i p0, gp_i v2_3, v3_3, v4_3, v5_3, v6_3, v7_3] [] s_3 K := by
    intro n_3
    induction n_3 with
    | zero => intro v2_3 v3_3 v4_3 v5_3 v6_3 v7_3 s_3 hs_s_3 hf_s_3 MDi_s_3 mOut_s_3 hv2_3 iv0_3 iv1_3 iv2_3 iv3_3 hm_3; exact absurd hm_3 (Nat.not_lt_zero _)
    | succ n_3 ih_3 =>
      intro v2_3 v3_3 v4_3 v5_3 v6_3 v7_3 s_3 hs_s_3 hf_s_3 MDi_s_3 mOut_s_3 hv2_3 iv0_3 iv1_3 iv2_3 iv3_3 hm_3
      refine s_3096_2 _ _ _ _ _ _ _ ?_
      refine ⟨by omega, ?_⟩
      have f_4 := mr81 hs_s_3 (Int.toNat p0)
      refine ⟨fun h_5 => ?_, fun h_5 => ?_⟩
      · have lp_6 : ∀ (n_6 : Nat) (v3_6 : BitVec 64) (v5_6 : BitVec 64) (v7_6 : Int), (0 ≤ v7_6 ∧ v7_6 ≤ 59) → (bd v3_6 (gp_I s_3 81 20)) → (bd v5_6 (gp_I s_3 81 20)) → (60 - v7_6).toNat < n_6 → gs_E L (d + 4) 3096 20 [gp_r (some 74), gp_i p0, gp_i v2_3, gp_l v3_6, gp_n, gp_l v5_6, gp_n, gp_i v7_6] [] s_3 K := by
          intro n_6
          induction n_6 with
          | zero => intro v3_6 v5_6 v7_6 hv7_6 iv0_6 iv1_6 hm_6; exact absurd hm_6 (Nat.not_lt_zero _)
          | succ n_6 ih_6 =>
            intro v3_6 v5_6 v7_6 hv7_6 iv0_6 iv1_6 hm_6
            refine s_3096_20 _ _ _ _ _ ?_
            refine ⟨fun h_7 => ?_, fun h_7 => ?_⟩
            · try rw [show gp_wr (64 * p0) = 64 * p0 from gp_wr_id (by omega) (by omega)]
              try rw [show gp_wr ((64 * p0) + v2_3) = (64 * p0) + v2_3 from gp_wr_id (by omega) (by omega)]
              refine ⟨by omega, ?_⟩
              have b_8 := mr76 hs_s_3 p0 v2_3 (by omega) (by omega)
              refine vm_has _ _ (by omega) (fun x_9 p_10 p_11 => ⟨_, rfl, ?_⟩)
              refine ⟨fun h_12 => ?_, fun h_12 => ?_⟩
              · have hb_13 := hasF p_11 h_12
                refine s_3096_59 _ _ _ _ _ _ _ ?_
                try rw [show gp_wr (64 * p0) = 64 * p0 from gp_wr_id (by omega) (by omega)]
                try rw [show gp_wr ((64 * p0) + v2_3) = (64 * p0) + v2_3 from gp_wr_id (by omega) (by omega)]
                refine ⟨by omega, ?_⟩
                have b_14 := mr77 hs_s_3 p0 v2_3 (by omega) (by omega)
                refine vm_has _ _ (by omega) (fun x_15 p_16 p_17 => ⟨_, rfl, ?_⟩)
                refine ⟨fun h_18 => ?_, fun h_18 => ?_⟩
                · have hb_19 := hasF p_17 h_18
                  refine s_3096_95 _ _ _ _ _ _ _ ?_
                  try rw [show gp_wr (v7_6 + 1) = v7_6 + 1 from gp_wr_id (by omega) (by omega)]
                  exact ih_6 _ _ _ (by omega) (by first | (refine bd_or (bd_le iv0_6 ?_) (bd_0 _); omega) | (refine bd_or (bd_le iv0_6 ?_) (bd_sh ?_ ?_ ?_) <;> omega)) (by first | (refine bd_or (bd_le iv1_6 ?_) (bd_0 _); omega) | (refine bd_or (bd_le iv1_6 ?_) (bd_sh ?_ ?_ ?_) <;> omega)) (by omega)
                · have hb_20 := hasT p_17 h_18
                  refine ⟨by omega, ?_⟩
                  have f_21 := mr89 hs_s_3 (Int.toNat v7_6)
                  have hnd90 := iv0_3 (Int.toNat v7_6) (by omega)
                  refine s_3096_95 _ _ _ _ _ _ _ ?_
                  try rw [show gp_wr (v7_6 + 1) = v7_6 + 1 from gp_wr_id (by omega) (by omega)]
                  exact ih_6 _ _ _ (by omega) (by first | (refine bd_or (bd_le iv0_6 ?_) (bd_0 _); omega) | (refine bd_or (bd_le iv0_6 ?_) (bd_sh ?_ ?_ ?_) <;> omega)) (by first | (refine bd_or (bd_le iv1_6 ?_) (bd_0 _); omega) | (refine bd_or (bd_le iv1_6 ?_) (bd_sh ?_ ?_ ?_) <;> omega)) (by omega)
              · have hb_22 := hasT p_11 h_12
                refine ⟨by omega, ?_⟩
                have f_23 := mr89 hs_s_3 (Int.toNat v7_6)
                have hnd54 := iv0_3 (Int.toNat v7_6) (by omega)
                refine s_3096_59 _ _ _ _ _ _ _ ?_
                try rw [show gp_wr (64 * p0) = 64 * p0 from gp_wr_id (by omega) (by omega)]
                try rw [show gp_wr ((64 * p0) + v2_3) = (64 * p0) + v2_3 from gp_wr_id (by omega) (by omega)]
                refine ⟨by omega, ?_⟩
                have b_24 := mr77 hs_s_3 p0 v2_3 (by omega) (by omega)
                refine vm_has _ _ (by omega) (fun x_25 p_26 p_27 => ⟨_, rfl, ?_⟩)
                refine ⟨fun h_28 => ?_, fun h_28 => ?_⟩
                · have hb_29 := hasF p_27 h_28
                  refine s_3096_95 _ _ _ _ _ _ _ ?_
                  try rw [show gp_wr (v7_6 + 1) = v7_6 + 1 from gp_wr_id (by omega) (by omega)]
                  exact ih_6 _ _ _ (by omega) (by first | (refine bd_or (bd_le iv0_6 ?_) (bd_0 _); omega) | (refine bd_or (bd_le iv0_6 ?_) (bd_sh ?_ ?_ ?_) <;> omega)) (by first | (refine bd_or (bd_le iv1_6 ?_) (bd_0 _); omega) | (refine bd_or (bd_le iv1_6 ?_) (bd_sh ?_ ?_ ?_) <;> omega)) (by omega)
                · have hb_30 := hasT p_27 h_28
                  refine ⟨by omega, ?_⟩
                  have f_31 := mr89 hs_s_3 (Int.toNat v7_6)
                  have hnd90 := iv0_3 (Int.toNat v7_6) (by omega)
                  refine s_3096_95 _ _ _ _ _ _ _ ?_
                  try rw [show gp_wr (v7_6 + 1) = v7_6 + 1 from gp_wr_id (by omega) (by omega)]
                  exact ih_6 _ _ _ (by omega) (by first | (refine bd_or (bd_le iv0_6 ?_) (bd_0 _); omega) | (refine bd_or (bd_le iv0_6 ?_) (bd_sh ?_ ?_ ?_) <;> omega)) (by first | (refine bd_or (bd_le iv1_6 ?_) (bd_0 _); omega) | (refine bd_or (bd_le iv1_6 ?_) (bd_sh ?_ ?_ ?_) <;> omega)) (by omega)
            · try rw [show gp_wr (64 * p0) = 64 * p0 from gp_wr_id (by omega) (by omega)]
              try rw [show gp_wr ((64 * p0) + v2_3) = (64 * p0) + v2_3 from gp_wr_id (by omega) (by omega)]
              refine ⟨by omega, ?_⟩
              try rw [show gp_wr (64 * p0) = 64 * p0 from gp_wr_id (by omega) (by omega)]
              try rw [show gp_wr ((64 * p0) + v2_3) = (64 * p0) + v2_3 from gp_wr_id (by omega) (by omega)]
              refine ⟨by omega, ?_⟩
              refine vm_made _ _ _ _ hs_s_3 (MDi_s_3) (by first | assumption | exact bd_le (by assumption) (by omega) | exact bd_0 _) (by first | assumption | exact bd_le (by assumption) (by omega) | exact bd_0 _) (fun x_32 s_33 hs_34 hf_35 p_36 p_37 p_38 p_39 p_40 p_41 p_42 => ⟨_, rfl, ?_⟩)
              have hf_43 : gF [76, 77, 78, 79, 80, 81, 89] [15] s s_33 := gF.trans hf_s_3 hf_35 rfl rfl
              have mo_44 : mOut s s_33 := mOut.trans mOut_s_3 p_41
              have q_45 := p_41.1 p0.toNat (by omega)
              refine ⟨by omega, ?_⟩
              intro s_46 e_47
              have hs_48 : MI s_46 := by rw [e_47]; exact mw89 hs_34 _ _ (by omega)
              have hf_49 : gF [76, 77, 78, 79, 80, 81, 89] [15] s s_46 := by rw [e_47]; exact gF.wI hf_43 (Or.inl rfl)
              have q_50 : gp_I s_46 81 20 = gp_I s_33 81 20 := by rw [e_47] <;> rfl
              have q_51 : gp_I s_46 81 p0.toNat = gp_I s_33 81 p0.toNat := by rw [e_47] <;> rfl
              have pd_52 : MDi s_46 := by rw [e_47]; exact MDi_fr p_37 (gF.wI (gF.refl [89] [] _) (Or.inl rfl)) rfl rfl rfl rfl rfl rfl rfl
              have mo_53 : mOut s s_46 := by rw [e_47]; exact mOut_wI mo_44 (by decide)
              try rw [show gp_wr (v2_3 + 1) = v2_3 + 1 from gp_wr_id (by omega) (by omega)]
              exact ih_3 _ _ _ _ _ _ _ hs_48 hf_49 pd_52 mo_53 (by omega) (by subst_vars; exact nd_step (by omega) iv0_3 (by assumption) rfl (by omega) (by omega)) (by first | omega | assumption) (by first | omega | assumption) (by first | omega | assumption) (by omega)
        exact lp_6 _ _ _ _ (by omega) (bd_0 _) (bd_0 _) (Nat.lt_succ_self _)
      · refine ⟨by omega, ?_⟩
        have f_54 := mr81 hs_s_3 (Int.toNat p0)
        try rw [show gp_wr ((gp_I s_3 81 (Int.toNat p0)) - 1) = (gp_I s_3 81 (Int.toNat p0)) - 1 from gp_wr_id (by omega) (by omega)]
        have hnr := iv0_3 (Int.toNat ((gp_I s_3 81 (Int.toNat p0)) - 1)) (by omega)
        refine ⟨by omega, ?_⟩
        have f_55 := mr89 hs_s_3 (Int.toNat ((gp_I s_3 81 (Int.toNat p0)) - 1))
        exact k _ s_3 hs_s_3 hf_s_3 (by omega) (MDi_s_3) mOut_s_3 (by first | omega | assumption) (by first | omega | assumption) (fun k hk => iv0_3 k (by omega))
  exact lp_3 _ _ _ _ _ _ _ _ hs (gF.refl _ _ _) q0 (mOut.refl _) (by omega) (fun k hk => absurd hk (by omega)) (by first | omega | assumption) (by first | omega | assumption) (by first | omega | assumption) (Nat.lt_succ_self _)
set_option maxRecDepth 100000 in
/-- GatheredPointsModel.negates -/
theorem vm_negates  {L d : Nat} {K : Option gV → gH → Prop} {s : gH}  (p0 : Int) (hs : MI s) (h_p0 : 0 ≤ p0 ∧ p0 ≤ 84) (q0 : p0 ≠ 20) (q1 : 1 ≤ gp_I s 81 p0.toNat) (k : ∀ (t : gH), MI t → gF [76, 77, 78, 79, 80, 81, 86, 87, 88, 89] [15] s t → (1 ≤ gp_I t 81 19 ∧ gp_I t 81 19 ≤ 60) → K none t) : gs_C L (d + 185) 3121 8 [gp_r (some 74), gp_i p0] s K := by
  have f_1 := mr81 hs 20
  have f_2 := mr81 hs p0.toNat
  refine s_3121_e _ ?_
  refine vm_begins2 hs (fun s_3 hs_4 hf_5 p_6 p_7 p_8 p_9 => ⟨rfl, ?_⟩)
  have hf_10 : gF [76, 77, 78, 79, 80, 81, 86, 87, 88, 89] [15] s s_3 := gF.sub hf_5 rfl rfl
  have mo_11 : mOut s s_3 := mOut.trans (mOut.refl _) p_9
  have q_12 := p_9.1 p0.toNat (by omega)
  have lp_13 : ∀ (n_13 : Nat) (v2_13 : Int) (v3_13 : gV) (v4_13 : gV) (v5_13 : gV) (v6_13 : gV) (v7_13 : gV) (s_13 : gH), (MI s_13) → (gF [76, 77, 78, 79, 80, 81, 86, 87, 88, 89] [15] s s_13) → (MDi s_13) → (mOut s s_13) → (0 ≤ v2_13 ∧ v2_13 ≤ 60) → (∀ k : Nat, (k : Int) < v2_13 → gp_I s_13 89 k < gp_I s_13 81 20) → (v2_13 ≤ gp_I s_13 81 p0.toNat) → (gp_I s_13 81 p0.toNat = gp_I s 81 p0.toNat) → (61 - v2_13).toNat < n_13 → gs_E L (d + 185) 3121 6 [gp_r (some 74), gp_i p0, gp_i v2_13, v3_13, v4_13, v5_13, v6_13, v7_13] [] s_13 K := by
    intro n_13
    induction n_13 with
    | zero => intro v2_13 v3_13 v4_13 v5_13 v6_13 v7_13 s_13 hs_s_13 hf_s_13 MDi_s_13 mOut_s_13 hv2_13 iv0_13 iv1_13 iv2_13 hm_13; exact absurd hm_13 (Nat.not_lt_zero _)
    | succ n_13 ih_13 =>
      intro v2_13 v3_13 v4_13 v5_13 v6_13 v7_13 s_13 hs_s_13 hf_s_13 MDi_s_13 mOut_s_13 hv2_13 iv0_13 iv1_13 iv2_13 hm_13
      refine s_3121_6 _ _ _ _ _ _ _ ?_
      refine ⟨by omega, ?_⟩
      have f_14 := mr81 hs_s_13 (Int.toNat p0)
      refine ⟨fun h_15 => ?_, fun h_15 => ?_⟩
      · have lp_16 : ∀ (n_16 : Nat) (v3_16 : BitVec 64) (v5_16 : BitVec 64) (v7_16 : Int), (0 ≤ v7_16 ∧ v7_16 ≤ 59) → (bd v3_16 (gp_I s_13 81 20)) → (bd v5_16 (gp_I s_13 81 20)) → (60 - v7_16).toNat < n_16 → gs_E L (d + 185) 3121 24 [gp_r (some 74), gp_i p0, gp_i v2_13, gp_l v3_16, gp_n, gp_l v5_16, gp_n, gp_i v7_16] [] s_13 K := by
          intro n_16
          induction n_16 with
          | zero => intro v3_16 v5_16 v7_16 hv7_16 iv0_16 iv1_16 hm_16; exact absurd hm_16 (Nat.not_lt_zero _)
          | succ n_16 ih_16 =>
            intro v3_16 v5_16 v7_16 hv7_16 iv0_16 iv1_16 hm_16
            refine s_3121_24 _ _ _ _ _ ?_
            refine ⟨fun h_17 => ?_, fun h_17 => ?_⟩
            · try rw [show gp_wr (64 * p0) = 64 * p0 from gp_wr_id (by omega) (by omega)]
              try rw [show gp_wr ((64 * p0) + v2_13) = (64 * p0) + v2_13 from gp_wr_id (by omega) (by omega)]
              refine ⟨by omega, ?_⟩
              have b_18 := mr77 hs_s_13 p0 v2_13 (by omega) (by omega)
              refine vm_has _ _ (by omega) (fun x_19 p_20 p_21 => ⟨_, rfl, ?_⟩)
              refine ⟨fun h_22 => ?_, fun h_22 => ?_⟩
              · have hb_23 := hasF p_21 h_22
                refine s_3121_63 _ _ _ _ _ _ _ ?_
                try rw [show gp_wr (64 * p0) = 64 * p0 from gp_wr_id (by omega) (by omega)]
                try rw [show gp_wr ((64 * p0) + v2_13) = (64 * p0) + v2_13 from gp_wr_id (by omega) (by omega)]
                refine ⟨by omega, ?_⟩
                have b_24 := mr76 hs_s_13 p0 v2_13 (by omega) (by omega)
                refine vm_has _ _ (by omega) (fun x_25 p_26 p_27 => ⟨_, rfl, ?_⟩)
                refine ⟨fun h_28 => ?_, fun h_28 => ?_⟩
                · have hb_29 := hasF p_27 h_28
                  refine s_3121_99 _ _ _ _ _ _ _ ?_
                  try rw [show gp_wr (v7_16 + 1) = v7_16 + 1 from gp_wr_id (by omega) (by omega)]
                  exact ih_16 _ _ _ (by omega) (by first | (refine bd_or (bd_le iv0_16 ?_) (bd_0 _); omega) | (refine bd_or (bd_le iv0_16 ?_) (bd_sh ?_ ?_ ?_) <;> omega)) (by first | (refine bd_or (bd_le iv1_16 ?_) (bd_0 _); omega) | (refine bd_or (bd_le iv1_16 ?_) (bd_sh ?_ ?_ ?_) <;> omega)) (by omega)
                · have hb_30 := hasT p_27 h_28
                  refine ⟨by omega, ?_⟩
                  have f_31 := mr89 hs_s_13 (Int.toNat v7_16)
                  have hnd94 := iv0_13 (Int.toNat v7_16) (by omega)
                  refine s_3121_99 _ _ _ _ _ _ _ ?_
                  try rw [show gp_wr (v7_16 + 1) = v7_16 + 1 from gp_wr_id (by omega) (by omega)]
                  exact ih_16 _ _ _ (by omega) (by first | (refine bd_or (bd_le iv0_16 ?_) (bd_0 _); omega) | (refine bd_or (bd_le iv0_16 ?_) (bd_sh ?_ ?_ ?_) <;> omega)) (by first | (refine bd_or (bd_le iv1_16 ?_) (bd_0 _); omega) | (refine bd_or (bd_le iv1_16 ?_) (bd_sh ?_ ?_ ?_) <;> omega)) (by omega)
              · have hb_32 := hasT p_21 h_22
                refine ⟨by omega, ?_⟩
                have f_33 := mr89 hs_s_13 (Int.toNat v7_16)
                have hnd58 := iv0_13 (Int.toNat v7_16) (by omega)
                refine s_3121_63 _ _ _ _ _ _ _ ?_
                try rw [show gp_wr (64 * p0) = 64 * p0 from gp_wr_id (by omega) (by omega)]
                try rw [show gp_wr ((64 * p0) + v2_13) = (64 * p0) + v2_13 from gp_wr_id (by omega) (by omega)]
                refine ⟨by omega, ?_⟩
                have b_34 := mr76 hs_s_13 p0 v2_13 (by omega) (by omega)
                refine vm_has _ _ (by omega) (fun x_35 p_36 p_37 => ⟨_, rfl, ?_⟩)
                refine ⟨fun h_38 => ?_, fun h_38 => ?_⟩
                · have hb_39 := hasF p_37 h_38
                  refine s_3121_99 _ _ _ _ _ _ _ ?_
                  try rw [show gp_wr (v7_16 + 1) = v7_16 + 1 from gp_wr_id (by omega) (by omega)]
                  exact ih_16 _ _ _ (by omega) (by first | (refine bd_or (bd_le iv0_16 ?_) (bd_0 _); omega) | (refine bd_or (bd_le iv0_16 ?_) (bd_sh ?_ ?_ ?_) <;> omega)) (by first | (refine bd_or (bd_le iv1_16 ?_) (bd_0 _); omega) | (refine bd_or (bd_le iv1_16 ?_) (bd_sh ?_ ?_ ?_) <;> omega)) (by omega)
                · have hb_40 := hasT p_37 h_38
                  refine ⟨by omega, ?_⟩
                  have f_41 := mr89 hs_s_13 (Int.toNat v7_16)
                  have hnd94 := iv0_13 (Int.toNat v7_16) (by omega)
                  refine s_3121_99 _ _ _ _ _ _ _ ?_
                  try rw [show gp_wr (v7_16 + 1) = v7_16 + 1 from gp_wr_id (by omega) (by omega)]
                  exact ih_16 _ _ _ (by omega) (by first | (refine bd_or (bd_le iv0_16 ?_) (bd_0 _); omega) | (refine bd_or (bd_le iv0_16 ?_) (bd_sh ?_ ?_ ?_) <;> omega)) (by first | (refine bd_or (bd_le iv1_16 ?_) (bd_0 _); omega) | (refine bd_or (bd_le iv1_16 ?_) (bd_sh ?_ ?_ ?_) <;> omega)) (by omega)
            · try rw [show gp_wr (64 * p0) = 64 * p0 from gp_wr_id (by omega) (by omega)]
              try rw [show gp_wr ((64 * p0) + v2_13) = (64 * p0) + v2_13 from gp_wr_id (by omega) (by omega)]
              refine ⟨by omega, ?_⟩
              try rw [show gp_wr (64 * p0) = 64 * p0 from gp_wr_id (by omega) (by omega)]
              try rw [show gp_wr ((64 * p0) + v2_13) = (64 * p0) + v2_13 from gp_wr_id (by omega) (by omega)]
              refine ⟨by omega, ?_⟩
              refine vm_made _ _ _ _ hs_s_13 (MDi_s_13) (by first | assumption | exact bd_le (by assumption) (by omega) | exact bd_0 _) (by first | assumption | exact bd_le (by assumption) (by omega) | exact bd_0 _) (fun x_42 s_43 hs_44 hf_45 p_46 p_47 p_48 p_49 p_50 p_51 p_52 => ⟨_, rfl, ?_⟩)
              have hf_53 : gF [76, 77, 78, 79, 80, 81, 86, 87, 88, 89] [15] s s_43 := gF.trans hf_s_13 hf_45 rfl rfl
              have mo_54 : mOut s s_43 := mOut.trans mOut_s_13 p_51
              have q_55 := p_51.1 p0.toNat (by omega)
              refine ⟨by omega, ?_⟩
              intro s_56 e_57
              have hs_58 : MI s_56 := by rw [e_57]; exact mw89 hs_44 _ _ (by omega)
              have hf_59 : gF [76, 77, 78, 79, 80, 81, 86, 87, 88, 89] [15] s s_56 := by rw [e_57]; exact gF.wI hf_53 (Or.inl rfl)
              have q_60 : gp_I s_56 81 20 = gp_I s_43 81 20 := by rw [e_57] <;> rfl
              have q_61 : gp_I s_56 81 p0.toNat = gp_I s_43 81 p0.toNat := by rw [e_57] <;> rfl
              have pd_62 : MDi s_56 := by rw [e_57]; exact MDi_fr p_47 (gF.wI (gF.refl [89] [] _) (Or.inl rfl)) rfl rfl rfl rfl rfl rfl rfl
              have mo_63 : mOut s s_56 := by rw [e_57]; exact mOut_wI mo_54 (by decide)
              try rw [show gp_wr (v2_13 + 1) = v2_13 + 1 from gp_wr_id (by omega) (by omega)]
              exact ih_13 _ _ _ _ _ _ _ hs_58 hf_59 pd_62 mo_63 (by omega) (by subst_vars; exact nd_step (by omega) iv0_13 (by assumption) rfl (by omega) (by omega)) (by first | omega | assumption) (by first | omega | assumption) (by omega)
        exact lp_16 _ _ _ _ (by omega) (bd_0 _) (bd_0 _) (Nat.lt_succ_self _)
      · refine ⟨by omega, ?_⟩
        have f_64 := mr81 hs_s_13 (Int.toNat p0)
        try rw [show gp_wr ((gp_I s_13 81 (Int.toNat p0)) - 1) = (gp_I s_13 81 (Int.toNat p0)) - 1 from gp_wr_id (by omega) (by omega)]
        have hnr := iv0_13 (Int.toNat ((gp_I s_13 81 (Int.toNat p0)) - 1)) (by omega)
        refine ⟨by omega, ?_⟩
        have f_65 := mr89 hs_s_13 (Int.toNat ((gp_I s_13 81 (Int.toNat p0)) - 1))
        refine vm_ends _ hs_s_13 (by omega) (MDi_s_13) (by first | omega | assumption) (fun s_66 hs_67 hf_68 p_69 => ⟨rfl, ?_⟩)
        have hf_70 : gF [76, 77, 78, 79, 80, 81, 86, 87, 88, 89] [15] s s_66 := gF.trans hf_s_13 hf_68 rfl rfl
        exact k s_66 hs_67 hf_70 (by first | omega | assumption)
  exact lp_13 _ _ _ _ _ _ _ _ hs_4 hf_10 p_8 mo_11 (by omega) (fun k hk => absurd hk (by omega)) (by first | omega | assumption) (by first | omega | assumption) (Nat.lt_succ_self _)
set_option maxRecDepth 100000 in
/-- GatheredPointsModel.waitsOf -/
theorem vm_waitsOf  {L d : Nat} {K : Option gV → gH → Prop} {s : gH}  (p0 : Int) (hs : MI s) (h_p0 : 0 ≤ p0 ∧ p0 ≤ 20)  (k : ∀ (t : gH), MI t → gF [76, 77, 78, 79, 80, 81, 86, 87, 88] [15] s t → (1 ≤ gp_I t 81 19 ∧ gp_I t 81 19 ≤ 60) → K none t) : gs_C L (d + 185) 3122 4 [gp_r (some 74), gp_i p0] s K := by
  have f_1 := mr81 hs 20
  have f_2 := mr81 hs 19
  refine s_3122_e _ ?_
  refine vm_begins2 hs (fun s_3 hs_4 hf_5 p_6 p_7 p_8 p_9 => ⟨rfl, ?_⟩)
  have hf_10 : gF [76, 77, 78, 79, 80, 81, 86, 87, 88] [15] s s_3 := gF.sub hf_5 rfl rfl
  have q_11 := p_9.1 19 (by omega)
  refine vm_made _ _ _ _ hs_4 (p_8) (bd_0 _) (bd_0 _) (fun x_12 s_13 hs_14 hf_15 p_16 p_17 p_18 p_19 p_20 p_21 p_22 => ⟨_, rfl, ?_⟩)
  have hf_23 : gF [76, 77, 78, 79, 80, 81, 86, 87, 88] [15] s s_13 := gF.trans hf_10 hf_15 rfl rfl
  have q_24 := p_21.1 19 (by omega)
  have lp_25 : ∀ (n_25 : Nat) (v2_25 : Int) (v3_25 : Int) (s_25 : gH), (MI s_25) → (gF [76, 77, 78, 79, 80, 81, 86, 87, 88] [15] s s_25) → (MDi s_25) → (0 ≤ v2_25 ∧ v2_25 ≤ 63) → (0 ≤ v3_25 ∧ v3_25 ≤ 20) → (v2_25 < gp_I s_25 81 20) → (21 - v3_25).toNat < n_25 → gs_E L (d + 185) 3122 15 [gp_r (some 74), gp_i p0, gp_i v2_25, gp_i v3_25] [] s_25 K := by
    intro n_25
    induction n_25 with
    | zero => intro v2_25 v3_25 s_25 hs_s_25 hf_s_25 MDi_s_25 hv2_25 hv3_25 iv0_25 hm_25; exact absurd hm_25 (Nat.not_lt_zero _)
    | succ n_25 ih_25 =>
      intro v2_25 v3_25 s_25 hs_s_25 hf_s_25 MDi_s_25 hv2_25 hv3_25 iv0_25 hm_25
      refine s_3122_15 _ _ _ ?_
      refine ⟨fun h_26 => ?_, fun h_26 => ?_⟩
      · refine vm_made _ _ _ _ hs_s_25 (MDi_s_25) (bd_sh (by omega) (by omega) (by omega)) (bd_0 _) (fun x_27 s_28 hs_29 hf_30 p_31 p_32 p_33 p_34 p_35 p_36 p_37 => ⟨_, rfl, ?_⟩)
        have hf_38 : gF [76, 77, 78, 79, 80, 81, 86, 87, 88] [15] s s_28 := gF.trans hf_s_25 hf_30 rfl rfl
        have q_39 := p_36.1 19 (by omega)
        try rw [show gp_wr (v3_25 + 1) = v3_25 + 1 from gp_wr_id (by omega) (by omega)]
        exact ih_25 _ _ _ hs_29 hf_38 p_32 (by omega) (by omega) (by first | omega | assumption) (by omega)
      · refine vm_ends _ hs_s_25 (by omega) (MDi_s_25) (by first | omega | assumption) (fun s_40 hs_41 hf_42 p_43 => ⟨rfl, ?_⟩)
        have hf_44 : gF [76, 77, 78, 79, 80, 81, 86, 87, 88] [15] s s_40 := gF.trans hf_s_25 hf_42 rfl rfl
        exact k s_40 hs_41 hf_44 (by first | omega | assumption)
  exact lp_25 _ _ _ _ hs_14 hf_23 p_17 (by omega) (by omega) (by first | omega | assumption) (Nat.lt_succ_self _)
set_option maxRecDepth 100000 in
/-- GatheredPointsModel.results -/
theorem vm_results  {L d : Nat} {K : Option gV → gH → Prop} {s : gH}  (p0 : Int) (hs : MI s) (h_p0 : 0 ≤ p0 ∧ p0 ≤ 63) (q0 : MDi s) (q1 : p0 < gp_I s 81 20) (k : ∀ (r : Int), ∀ (t : gH), MI t → gF [76, 77, 78, 79, 80, 81, 86, 87, 88] [] s t → (0 ≤ r ∧ r ≤ 6) → (r ≠ 4 → 1 ≤ gp_I t 81 19 ∧ gp_I t 81 19 ≤ 60) → (r = 4 ∨ r = 6 ∨ r = 0) → (r = 4 → gp_I s 74 15 ≠ 0) → K (some (gp_i r)) t) : gs_C L (d + 185) 3119 2 [gp_r (some 74), gp_i p0] s K := by
  have f_1 := mr81 hs 20
  have f_2 := mr81 hs 19
  refine s_3119_e _ ?_
  have f_3 := mr74_15 hs
  refine ⟨fun h_4 => ?_, fun h_4 => ?_⟩
  · refine vm_ends _ hs (by omega) (by assumption) (by first | omega | assumption) (fun s_5 hs_6 hf_7 p_8 => ⟨rfl, ?_⟩)
    have hf_9 : gF [76, 77, 78, 79, 80, 81, 86, 87, 88] [] s s_5 := gF.sub hf_7 rfl rfl
    refine vm_isBig _ hs_6 (by omega) (fun x_10 p_11 => ⟨_, rfl, ?_⟩)
    refine ⟨fun h_12 => ?_, fun h_12 => ?_⟩
    · refine s_3119_31 _ _ ?_
      exact k _ s_5 hs_6 hf_9 (by omega) (by first | omega | assumption) (by first | omega | assumption) (by first | omega | assumption)
    · refine s_3119_31 _ _ ?_
      exact k _ s_5 hs_6 hf_9 (by omega) (by first | omega | assumption) (by first | omega | assumption) (by first | omega | assumption)
  · exact k _ s hs (gF.refl _ _ _) (by omega) (by first | omega | assumption) (by first | omega | assumption) (by first | omega | assumption)
set_option maxRecDepth 100000 in
/-- GatheredPointsModel.holdsPart -/
theorem vm_holdsPart  {L d : Nat} {K : Option gV → gH → Prop} {s : gH}  (p0 : Int) (p1 : Int) (p2 : Int) (hs : MI s) (h_p0 : 0 ≤ p0 ∧ p0 ≤ 18) (h_p1 : 0 ≤ p1 ∧ p1 ≤ 63) (h_p2 : 0 ≤ p2 ∧ p2 ≤ 7) (q0 : p1 < gp_I s 81 p0.toNat) (k : ∀ (r : Int), ∀ (t : gH), MI t → gF [76, 77, 78, 79, 80, 81, 86, 87, 88, 89] [15] s t → (0 ≤ r ∧ r ≤ 64) → K (some (gp_i r)) t) : gs_C L (d + 185) 3148 4 [gp_r (some 74), gp_i p0, gp_i p1, gp_i p2] s K := by
  have f_1 := mr81 hs 20
  have f_2 := mr81 hs 19
  have f_3 := mr81 hs p0.toNat
  refine s_3148_e _ _ _ ?_
  refine vm_begins2 hs (fun s_4 hs_5 hf_6 p_7 p_8 p_9 p_10 => ⟨rfl, ?_⟩)
  have hf_11 : gF [76, 77, 78, 79, 80, 81, 86, 87, 88, 89] [15] s s_4 := gF.sub hf_6 rfl rfl
  have q_12 := p_10.1 19 (by omega)
  have q_13 := p_10.1 p0.toNat (by omega)
  refine vm_comes _ hs_5 (by omega) (p_9) (by first | omega | assumption) (by first | omega | assumption) (fun x_14 s_15 hs_16 hf_17 p_18 p_19 p_20 p_21 p_22 p_23 => ⟨_, rfl, ?_⟩)
  have hf_24 : gF [76, 77, 78, 79, 80, 81, 86, 87, 88, 89] [15] s s_15 := gF.trans hf_11 hf_17 rfl rfl
  have q_25 := p_20.1 19 (by omega)
  have q_26 := p_20.1 p0.toNat (by omega)
  have hnr := ‹∀ k : Nat, _ → gp_I _ 89 k < _› (Int.toNat p1) (by omega)
  refine ⟨by omega, ?_⟩
  have f_27 := mr89 hs_16 (Int.toNat p1)
  refine vm_ends _ hs_16 (by omega) (p_19) (by first | omega | assumption) (fun s_28 hs_29 hf_30 p_31 => ⟨rfl, ?_⟩)
  have hf_32 : gF [76, 77, 78, 79, 80, 81, 86, 87, 88, 89] [15] s s_28 := gF.trans hf_24 hf_30 rfl rfl
  refine vm_holds _ hs_29 (by omega) (by first | omega | assumption) (fun x_33 s_34 hs_35 hf_36 p_37 => ⟨_, rfl, ?_⟩)
  have hf_38 : gF [76, 77, 78, 79, 80, 81, 86, 87, 88, 89] [15] s s_34 := gF.trans hf_32 hf_36 rfl rfl
  exact k _ s_34 hs_35 hf_38 (by omega)
def SUM (m : Nat) : Prop := ∀ (L D : Nat) (K : Option gV → gH → Prop) (s : gH)  (p0 : Int) (p1 : Int) (p2 : Int) (p3 : Int), ((m + 6 ≤ D)) → (MI s) → (0 ≤ p0 ∧ p0 ≤ 84) → (0 ≤ p1 ∧ p1 ≤ 63) → (0 ≤ p2 ∧ p2 ≤ 84) → (0 ≤ p3 ∧ p3 ≤ 63) → (MDi s) → (SumP s) → (p1 + p3 < m) → (∀ (r : Int), ∀ (t : gH), MI t → gF [76, 77, 78, 79, 80, 81, 105] [15] s t → (0 ≤ r ∧ r ≤ 63) → (MDi t) → (SumP t) → (r < gp_I t 81 20) → (gp_I s 81 20 ≤ gp_I t 81 20) → (mOut s t) → K (some (gp_i r)) t) → gs_C L D 3118 11 [gp_r (some 74), gp_i p0, gp_i p1, gp_i p2, gp_i p3] s K
set_option maxRecDepth 100000 in
/-- GatheredPointsModel.sum -/
theorem vm_sum (m : Nat) (ihU : SUM m) : SUM (m + 1) := by
  intro L D K s p0 p1 p2 p3 hD hs h_p0 h_p1 h_p2 h_p3 q0 q1 q2 k
  obtain ⟨d, rfl⟩ : ∃ d, D = d + 6 := ⟨D - 6, by omega⟩
  have f_1 := mr81 hs 20
  have f_2 := mr105 hs (Int.toNat (64 * p1 + p3))
  refine s_3118_e _ _ _ _ ?_
  have hsp := q1.1 (Int.toNat (64 * p1 + p3)) (by omega)
  try rw [show gp_wr (64 * p1) = 64 * p1 from gp_wr_id (by omega) (by omega)]
  try rw [show gp_wr ((64 * p1) + p3) = (64 * p1) + p3 from gp_wr_id (by omega) (by omega)]
  refine ⟨by omega, ?_⟩
  have f_3 := mr105 hs (Int.toNat ((64 * p1) + p3))
  refine ⟨fun h_4 => ?_, fun h_4 => ?_⟩
  · have lp_5 : ∀ (n_5 : Nat) (v5_5 : BitVec 64) (v7_5 : BitVec 64) (v9_5 : Int) (v10_5 : gV) (s_5 : gH), (MI s_5) → (gF [76, 77, 78, 79, 80, 81, 105] [15] s s_5) → (MDi s_5) → (SumP s_5) → (mOut s s_5) → (0 ≤ v9_5 ∧ v9_5 ≤ 63) → (bd v5_5 (gp_I s_5 81 20)) → (bd v7_5 (gp_I s_5 81 20)) → (gp_I s 81 20 ≤ gp_I s_5 81 20) → (64 - v9_5).toNat < n_5 → gs_E L (d + 6) 3118 24 [gp_r (some 74), gp_i p0, gp_i p1, gp_i p2, gp_i p3, gp_l v5_5, gp_n, gp_l v7_5, gp_n, gp_i v9_5, v10_5] [] s_5 K := by
      intro n_5
      induction n_5 with
      | zero => intro v5_5 v7_5 v9_5 v10_5 s_5 hs_s_5 hf_s_5 MDi_s_5 SumP_s_5 mOut_s_5 hv9_5 iv0_5 iv1_5 iv2_5 hm_5; exact absurd hm_5 (Nat.not_lt_zero _)
      | succ n_5 ih_5 =>
        intro v5_5 v7_5 v9_5 v10_5 s_5 hs_s_5 hf_s_5 MDi_s_5 SumP_s_5 mOut_s_5 hv9_5 iv0_5 iv1_5 iv2_5 hm_5
        refine s_3118_24 _ _ _ _ _ _ _ _ ?_
        refine ⟨fun h_6 => ?_, fun h_6 => ?_⟩
        · try rw [show gp_wr (64 * p0) = 64 * p0 from gp_wr_id (by omega) (by omega)]
          try rw [show gp_wr ((64 * p0) + p1) = (64 * p0) + p1 from gp_wr_id (by omega) (by omega)]
          refine ⟨by omega, ?_⟩
          have b_7 := mr76 hs_s_5 p0 p1 (by omega) (by omega)
          refine vm_has _ _ (by omega) (fun x_8 p_9 p_10 => ⟨_, rfl, ?_⟩)
          refine ⟨fun h_11 => ?_, fun h_11 => ?_⟩
          · have hb_12 := hasF p_10 h_11
            refine s_3118_67 _ _ _ _ _ _ _ _ _ _ ?_
            try rw [show gp_wr (64 * p0) = 64 * p0 from gp_wr_id (by omega) (by omega)]
            try rw [show gp_wr ((64 * p0) + p1) = (64 * p0) + p1 from gp_wr_id (by omega) (by omega)]
            refine ⟨by omega, ?_⟩
            have b_13 := mr77 hs_s_5 p0 p1 (by omega) (by omega)
            refine vm_has _ _ (by omega) (fun x_14 p_15 p_16 => ⟨_, rfl, ?_⟩)
            refine ⟨fun h_17 => ?_, fun h_17 => ?_⟩
            · have hb_18 := hasF p_16 h_17
              refine s_3118_107 _ _ _ _ _ _ _ _ _ _ ?_
              try rw [show gp_wr (v9_5 + 1) = v9_5 + 1 from gp_wr_id (by omega) (by omega)]
              exact ih_5 _ _ _ _ _ hs_s_5 hf_s_5 MDi_s_5 SumP_s_5 mOut_s_5 (by omega) (by first | (refine bd_or (bd_le iv0_5 ?_) (bd_0 _); omega) | (refine bd_or (bd_le iv0_5 ?_) (bd_sh ?_ ?_ ?_) <;> omega)) (by first | (refine bd_or (bd_le iv1_5 ?_) (bd_0 _); omega) | (refine bd_or (bd_le iv1_5 ?_) (bd_sh ?_ ?_ ?_) <;> omega)) (by first | omega | assumption) (by omega)
            · have hb_19 := hasT p_16 h_17
              refine ihU _ _ _ _ _ _ _ _ (by omega) hs_s_5 (by omega) (by omega) (by omega) (by omega) (MDi_s_5) (SumP_s_5) (by first | omega | assumption) (fun x_20 s_21 hs_22 hf_23 p_24 p_25 p_26 p_27 p_28 p_29 => ⟨_, rfl, ?_⟩)
              have hf_30 : gF [76, 77, 78, 79, 80, 81, 105] [15] s s_21 := gF.trans hf_s_5 hf_23 rfl rfl
              have mo_31 : mOut s s_21 := mOut.trans mOut_s_5 p_29
              refine s_3118_107 _ _ _ _ _ _ _ _ _ _ ?_
              try rw [show gp_wr (v9_5 + 1) = v9_5 + 1 from gp_wr_id (by omega) (by omega)]
              exact ih_5 _ _ _ _ _ hs_22 hf_30 p_25 p_26 mo_31 (by omega) (by first | (refine bd_or (bd_le iv0_5 ?_) (bd_0 _); omega) | (refine bd_or (bd_le iv0_5 ?_) (bd_sh ?_ ?_ ?_) <;> omega)) (by first | (refine bd_or (bd_le iv1_5 ?_) (bd_0 _); omega) | (refine bd_or (bd_le iv1_5 ?_) (bd_sh ?_ ?_ ?_) <;> omega)) (by first | omega | assumption) (by omega)
          · have hb_32 := hasT p_10 h_11
            refine ihU _ _ _ _ _ _ _ _ (by omega) hs_s_5 (by omega) (by omega) (by omega) (by omega) (MDi_s_5) (SumP_s_5) (by first | omega | assumption) (fun x_33 s_34 hs_35 hf_36 p_37 p_38 p_39 p_40 p_41 p_42 => ⟨_, rfl, ?_⟩)
            have hf_43 : gF [76, 77, 78, 79, 80, 81, 105] [15] s s_34 := gF.trans hf_s_5 hf_36 rfl rfl
            have mo_44 : mOut s s_34 := mOut.trans mOut_s_5 p_42
            refine s_3118_67 _ _ _ _ _ _ _ _ _ _ ?_
            try rw [show gp_wr (64 * p0) = 64 * p0 from gp_wr_id (by omega) (by omega)]
            try rw [show gp_wr ((64 * p0) + p1) = (64 * p0) + p1 from gp_wr_id (by omega) (by omega)]
            refine ⟨by omega, ?_⟩
            have b_45 := mr77 hs_35 p0 p1 (by omega) (by omega)
            refine vm_has _ _ (by omega) (fun x_46 p_47 p_48 => ⟨_, rfl, ?_⟩)
            refine ⟨fun h_49 => ?_, fun h_49 => ?_⟩
            · have hb_50 := hasF p_48 h_49
              refine s_3118_107 _ _ _ _ _ _ _ _ _ _ ?_
              try rw [show gp_wr (v9_5 + 1) = v9_5 + 1 from gp_wr_id (by omega) (by omega)]
              exact ih_5 _ _ _ _ _ hs_35 hf_43 p_38 p_39 mo_44 (by omega) (by first | (refine bd_or (bd_le iv0_5 ?_) (bd_0 _); omega) | (refine bd_or (bd_le iv0_5 ?_) (bd_sh ?_ ?_ ?_) <;> omega)) (by first | (refine bd_or (bd_le iv1_5 ?_) (bd_0 _); omega) | (refine bd_or (bd_le iv1_5 ?_) (bd_sh ?_ ?_ ?_) <;> omega)) (by first | omega | assumption) (by omega)
            · have hb_51 := hasT p_48 h_49
              refine ihU _ _ _ _ _ _ _ _ (by omega) hs_35 (by omega) (by omega) (by omega) (by omega) (p_38) (p_39) (by first | omega | assumption) (fun x_52 s_53 hs_54 hf_55 p_56 p_57 p_58 p_59 p_60 p_61 => ⟨_, rfl, ?_⟩)
              have hf_62 : gF [76, 77, 78, 79, 80, 81, 105] [15] s s_53 := gF.trans hf_43 hf_55 rfl rfl
              have mo_63 : mOut s s_53 := mOut.trans mo_44 p_61
              refine s_3118_107 _ _ _ _ _ _ _ _ _ _ ?_
              try rw [show gp_wr (v9_5 + 1) = v9_5 + 1 from gp_wr_id (by omega) (by omega)]
              exact ih_5 _ _ _ _ _ hs_54 hf_62 p_57 p_58 mo_63 (by omega) (by first | (refine bd_or (bd_le iv0_5 ?_) (bd_0 _); omega) | (refine bd_or (bd_le iv0_5 ?_) (bd_sh ?_ ?_ ?_) <;> omega)) (by first | (refine bd_or (bd_le iv1_5 ?_) (bd_0 _); omega) | (refine bd_or (bd_le iv1_5 ?_) (bd_sh ?_ ?_ ?_) <;> omega)) (by first | omega | assumption) (by omega)
        · have lp_64 : ∀ (n_64 : Nat) (v5_64 : BitVec 64) (v7_64 : BitVec 64) (v9_64 : Int) (v10_64 : gV) (s_64 : gH), (MI s_64) → (gF [76, 77, 78, 79, 80, 81, 105] [15] s s_64) → (MDi s_64) → (SumP s_64) → (mOut s s_64) → (0 ≤ v9_64 ∧ v9_64 ≤ 63) → (bd v5_64 (gp_I s_64 81 20)) → (bd v7_64 (gp_I s_64 81 20)) → (gp_I s 81 20 ≤ gp_I s_64 81 20) → (64 - v9_64).toNat < n_64 → gs_E L (d + 6) 3118 119 [gp_r (some 74), gp_i p0, gp_i p1, gp_i p2, gp_i p3, gp_l v5_64, gp_n, gp_l v7_64, gp_n, gp_i v9_64, v10_64] [] s_64 K := by
            intro n_64
            induction n_64 with
            | zero => intro v5_64 v7_64 v9_64 v10_64 s_64 hs_s_64 hf_s_64 MDi_s_64 SumP_s_64 mOut_s_64 hv9_64 iv0_64 iv1_64 iv2_64 hm_64; exact absurd hm_64 (Nat.not_lt_zero _)
            | succ n_64 ih_64 =>
              intro v5_64 v7_64 v9_64 v10_64 s_64 hs_s_64 hf_s_64 MDi_s_64 SumP_s_64 mOut_s_64 hv9_64 iv0_64 iv1_64 iv2_64 hm_64
              refine s_3118_119 _ _ _ _ _ _ _ _ ?_
              refine ⟨fun h_65 => ?_, fun h_65 => ?_⟩
              · try rw [show gp_wr (64 * p2) = 64 * p2 from gp_wr_id (by omega) (by omega)]
                try rw [show gp_wr ((64 * p2) + p3) = (64 * p2) + p3 from gp_wr_id (by omega) (by omega)]
                refine ⟨by omega, ?_⟩
                have b_66 := mr76 hs_s_64 p2 p3 (by omega) (by omega)
                refine vm_has _ _ (by omega) (fun x_67 p_68 p_69 => ⟨_, rfl, ?_⟩)
                refine ⟨fun h_70 => ?_, fun h_70 => ?_⟩
                · have hb_71 := hasF p_69 h_70
                  refine s_3118_163 _ _ _ _ _ _ _ _ _ _ ?_
                  try rw [show gp_wr (64 * p2) = 64 * p2 from gp_wr_id (by omega) (by omega)]
                  try rw [show gp_wr ((64 * p2) + p3) = (64 * p2) + p3 from gp_wr_id (by omega) (by omega)]
                  refine ⟨by omega, ?_⟩
                  have b_72 := mr77 hs_s_64 p2 p3 (by omega) (by omega)
                  refine vm_has _ _ (by omega) (fun x_73 p_74 p_75 => ⟨_, rfl, ?_⟩)
                  refine ⟨fun h_76 => ?_, fun h_76 => ?_⟩
                  · have hb_77 := hasF p_75 h_76
                    refine s_3118_203 _ _ _ _ _ _ _ _ _ _ ?_
                    try rw [show gp_wr (v9_64 + 1) = v9_64 + 1 from gp_wr_id (by omega) (by omega)]
                    exact ih_64 _ _ _ _ _ hs_s_64 hf_s_64 MDi_s_64 SumP_s_64 mOut_s_64 (by omega) (by first | (refine bd_or (bd_le iv0_64 ?_) (bd_0 _); omega) | (refine bd_or (bd_le iv0_64 ?_) (bd_sh ?_ ?_ ?_) <;> omega)) (by first | (refine bd_or (bd_le iv1_64 ?_) (bd_0 _); omega) | (refine bd_or (bd_le iv1_64 ?_) (bd_sh ?_ ?_ ?_) <;> omega)) (by first | omega | assumption) (by omega)
                  · have hb_78 := hasT p_75 h_76
                    refine ihU _ _ _ _ _ _ _ _ (by omega) hs_s_64 (by omega) (by omega) (by omega) (by omega) (MDi_s_64) (SumP_s_64) (by first | omega | assumption) (fun x_79 s_80 hs_81 hf_82 p_83 p_84 p_85 p_86 p_87 p_88 => ⟨_, rfl, ?_⟩)
                    have hf_89 : gF [76, 77, 78, 79, 80, 81, 105] [15] s s_80 := gF.trans hf_s_64 hf_82 rfl rfl
                    have mo_90 : mOut s s_80 := mOut.trans mOut_s_64 p_88
                    refine s_3118_203 _ _ _ _ _ _ _ _ _ _ ?_
                    try rw [show gp_wr (v9_64 + 1) = v9_64 + 1 from gp_wr_id (by omega) (by omega)]
                    exact ih_64 _ _ _ _ _ hs_81 hf_89 p_84 p_85 mo_90 (by omega) (by first | (refine bd_or (bd_le iv0_64 ?_) (bd_0 _); omega) | (refine bd_or (bd_le iv0_64 ?_) (bd_sh ?_ ?_ ?_) <;> omega)) (by first | (refine bd_or (bd_le iv1_64 ?_) (bd_0 _); omega) | (refine bd_or (bd_le iv1_64 ?_) (bd_sh ?_ ?_ ?_) <;> omega)) (by first | omega | assumption) (by omega)
                · have hb_91 := hasT p_69 h_70
                  refine ihU _ _ _ _ _ _ _ _ (by omega) hs_s_64 (by omega) (by omega) (by omega) (by omega) (MDi_s_64) (SumP_s_64) (by first | omega | assumption) (fun x_92 s_93 hs_94 hf_95 p_96 p_97 p_98 p_99 p_100 p_101 => ⟨_, rfl, ?_⟩)
                  have hf_102 : gF [76, 77, 78, 79, 80, 81, 105] [15] s s_93 := gF.trans hf_s_64 hf_95 rfl rfl
                  have mo_103 : mOut s s_93 := mOut.trans mOut_s_64 p_101
                  refine s_3118_163 _ _ _ _ _ _ _ _ _ _ ?_
                  try rw [show gp_wr (64 * p2) = 64 * p2 from gp_wr_id (by omega) (by omega)]
                  try rw [show gp_wr ((64 * p2) + p3) = (64 * p2) + p3 from gp_wr_id (by omega) (by omega)]
                  refine ⟨by omega, ?_⟩
                  have b_104 := mr77 hs_94 p2 p3 (by omega) (by omega)
                  refine vm_has _ _ (by omega) (fun x_105 p_106 p_107 => ⟨_, rfl, ?_⟩)
                  refine ⟨fun h_108 => ?_, fun h_108 => ?_⟩
                  · have hb_109 := hasF p_107 h_108
                    refine s_3118_203 _ _ _ _ _ _ _ _ _ _ ?_
                    try rw [show gp_wr (v9_64 + 1) = v9_64 + 1 from gp_wr_id (by omega) (by omega)]
                    exact ih_64 _ _ _ _ _ hs_94 hf_102 p_97 p_98 mo_103 (by omega) (by first | (refine bd_or (bd_le iv0_64 ?_) (bd_0 _); omega) | (refine bd_or (bd_le iv0_64 ?_) (bd_sh ?_ ?_ ?_) <;> omega)) (by first | (refine bd_or (bd_le iv1_64 ?_) (bd_0 _); omega) | (refine bd_or (bd_le iv1_64 ?_) (bd_sh ?_ ?_ ?_) <;> omega)) (by first | omega | assumption) (by omega)
                  · have hb_110 := hasT p_107 h_108
                    refine ihU _ _ _ _ _ _ _ _ (by omega) hs_94 (by omega) (by omega) (by omega) (by omega) (p_97) (p_98) (by first | omega | assumption) (fun x_111 s_112 hs_113 hf_114 p_115 p_116 p_117 p_118 p_119 p_120 => ⟨_, rfl, ?_⟩)
                    have hf_121 : gF [76, 77, 78, 79, 80, 81, 105] [15] s s_112 := gF.trans hf_102 hf_114 rfl rfl
                    have mo_122 : mOut s s_112 := mOut.trans mo_103 p_120
                    refine s_3118_203 _ _ _ _ _ _ _ _ _ _ ?_
                    try rw [show gp_wr (v9_64 + 1) = v9_64 + 1 from gp_wr_id (by omega) (by omega)]
                    exact ih_64 _ _ _ _ _ hs_113 hf_121 p_116 p_117 mo_122 (by omega) (by first | (refine bd_or (bd_le iv0_64 ?_) (bd_0 _); omega) | (refine bd_or (bd_le iv0_64 ?_) (bd_sh ?_ ?_ ?_) <;> omega)) (by first | (refine bd_or (bd_le iv1_64 ?_) (bd_0 _); omega) | (refine bd_or (bd_le iv1_64 ?_) (bd_sh ?_ ?_ ?_) <;> omega)) (by first | omega | assumption) (by omega)
              · try rw [show gp_wr (64 * p0) = 64 * p0 from gp_wr_id (by omega) (by omega)]
                try rw [show gp_wr ((64 * p0) + p1) = (64 * p0) + p1 from gp_wr_id (by omega) (by omega)]
                refine ⟨by omega, ?_⟩
                try rw [show gp_wr (64 * p2) = 64 * p2 from gp_wr_id (by omega) (by omega)]
                try rw [show gp_wr ((64 * p2) + p3) = (64 * p2) + p3 from gp_wr_id (by omega) (by omega)]
                refine ⟨by omega, ?_⟩
                try rw [show gp_wr (64 * p0) = 64 * p0 from gp_wr_id (by omega) (by omega)]
                try rw [show gp_wr ((64 * p0) + p1) = (64 * p0) + p1 from gp_wr_id (by omega) (by omega)]
                refine ⟨by omega, ?_⟩
                try rw [show gp_wr (64 * p2) = 64 * p2 from gp_wr_id (by omega) (by omega)]
                try rw [show gp_wr ((64 * p2) + p3) = (64 * p2) + p3 from gp_wr_id (by omega) (by omega)]
                refine ⟨by omega, ?_⟩
                try rw [show gp_wr (64 * p1) = 64 * p1 from gp_wr_id (by omega) (by omega)]
                try rw [show gp_wr ((64 * p1) + p3) = (64 * p1) + p3 from gp_wr_id (by omega) (by omega)]
                have f_123 := mr74_15 hs_s_64
                refine ⟨fun h_124 => ?_, fun h_124 => ?_⟩
                · refine vm_made _ _ _ _ hs_s_64 (MDi_s_64) (by first | assumption | exact bd_le (by assumption) (by omega) | exact bd_0 _) (by first | assumption | exact bd_le (by assumption) (by omega) | exact bd_0 _) (fun x_125 s_126 hs_127 hf_128 p_129 p_130 p_131 p_132 p_133 p_134 p_135 => ⟨_, rfl, ?_⟩)
                  have hf_136 : gF [76, 77, 78, 79, 80, 81, 105] [15] s s_126 := gF.trans hf_s_64 hf_128 rfl rfl
                  have q_137 := (hf_128.2 105 (Int.toNat (64 * p1 + p3)) rfl (fun h => absurd h (by decide))).1
                  have mo_138 : mOut s s_126 := mOut.trans mOut_s_64 p_134
                  refine s_3118_299 _ _ _ _ _ _ _ _ _ _ _ ?_
                  have hsm : SumP s_126 := by first | assumption | exact SumP_up (by assumption) hf_128 rfl (by omega) (by omega)
                  have hv1 : (1 : Int) + x_125 ≤ gp_I s_126 81 20 := by first | omega | (have := hsm.2 (by omega); omega)
                  try rw [show gp_wr (1 + x_125) = 1 + x_125 from gp_wr_id (by omega) (by omega)]
                  refine ⟨by omega, ?_⟩
                  intro s_139 e_140
                  have hs_141 : MI s_139 := by rw [e_140]; exact mw105 hs_127 _ _ (by omega)
                  have hf_142 : gF [76, 77, 78, 79, 80, 81, 105] [15] s s_139 := by rw [e_140]; exact gF.wI hf_136 (Or.inl rfl)
                  have q_143 : gp_I s_139 81 20 = gp_I s_126 81 20 := by rw [e_140] <;> rfl
                  have q_144 := gz_rw s_126 105 (Int.toNat ((64 * p1) + p3)) (Int.toNat (64 * p1 + p3)) (1 + x_125); rw [← e_140] at q_144
                  have pd_145 : MDi s_139 := by rw [e_140]; exact MDi_fr p_130 (gF.wI (gF.refl [105] [] _) (Or.inl rfl)) rfl rfl rfl rfl rfl rfl rfl
                  have mo_146 : mOut s s_139 := by rw [e_140]; exact mOut_wI mo_138 (by decide)
                  refine s_3118_301 _ _ _ _ _ _ _ _ _ _ ?_
                  try rw [show gp_wr (64 * p1) = 64 * p1 from gp_wr_id (by omega) (by omega)]
                  try rw [show gp_wr ((64 * p1) + p3) = (64 * p1) + p3 from gp_wr_id (by omega) (by omega)]
                  refine ⟨by omega, ?_⟩
                  have f_147 := mr105 hs_141 (Int.toNat ((64 * p1) + p3))
                  try rw [show gp_wr ((gp_I s_139 105 (Int.toNat ((64 * p1) + p3))) - 1) = (gp_I s_139 105 (Int.toNat ((64 * p1) + p3))) - 1 from gp_wr_id (by omega) (by omega)]
                  exact k _ s_139 hs_141 hf_142 (by omega) (pd_145) (by first | assumption | (subst_vars; exact SumP_w hsm hv1)) (by first | omega | assumption) (by first | omega | assumption) mo_146
                · refine s_3118_299 _ _ _ _ _ _ _ _ _ _ _ ?_
                  have hsm : SumP s_64 := by first | assumption | exact SumP_up (by assumption) {cf} rfl (by omega) (by omega)
                  have hv1 : (1 : Int) + 0 ≤ gp_I s_64 81 20 := by first | omega | (have := hsm.2 (by omega); omega)
                  try rw [show gp_wr (1 + 0) = 1 + 0 from gp_wr_id (by omega) (by omega)]
                  refine ⟨by omega, ?_⟩
                  intro s_148 e_149
                  have hs_150 : MI s_148 := by rw [e_149]; exact mw105 hs_s_64 _ _ (by omega)
                  have hf_151 : gF [76, 77, 78, 79, 80, 81, 105] [15] s s_148 := by rw [e_149]; exact gF.wI hf_s_64 (Or.inl rfl)
                  have q_152 : gp_I s_148 81 20 = gp_I s_64 81 20 := by rw [e_149] <;> rfl
                  have q_153 := gz_rw s_64 105 (Int.toNat ((64 * p1) + p3)) (Int.toNat (64 * p1 + p3)) (1 + 0); rw [← e_149] at q_153
                  have pd_154 : MDi s_148 := by rw [e_149]; exact MDi_fr MDi_s_64 (gF.wI (gF.refl [105] [] _) (Or.inl rfl)) rfl rfl rfl rfl rfl rfl rfl
                  have mo_155 : mOut s s_148 := by rw [e_149]; exact mOut_wI mOut_s_64 (by decide)
                  refine s_3118_301 _ _ _ _ _ _ _ _ _ _ ?_
                  try rw [show gp_wr (64 * p1) = 64 * p1 from gp_wr_id (by omega) (by omega)]
                  try rw [show gp_wr ((64 * p1) + p3) = (64 * p1) + p3 from gp_wr_id (by omega) (by omega)]
                  refine ⟨by omega, ?_⟩
                  have f_156 := mr105 hs_150 (Int.toNat ((64 * p1) + p3))
                  try rw [show gp_wr ((gp_I s_148 105 (Int.toNat ((64 * p1) + p3))) - 1) = (gp_I s_148 105 (Int.toNat ((64 * p1) + p3))) - 1 from gp_wr_id (by omega) (by omega)]
                  exact k _ s_148 hs_150 hf_151 (by omega) (pd_154) (by first | assumption | (subst_vars; exact SumP_w hsm hv1)) (by first | omega | assumption) (by first | omega | assumption) mo_155
          exact lp_64 _ _ _ _ _ _ hs_s_5 hf_s_5 MDi_s_5 SumP_s_5 mOut_s_5 (by omega) (iv0_5) (iv1_5) (by first | omega | assumption) (Nat.lt_succ_self _)
    exact lp_5 _ _ _ _ _ _ hs (gF.refl _ _ _) q0 q1 (mOut.refl _) (by omega) (bd_0 _) (bd_0 _) (by first | omega | assumption) (Nat.lt_succ_self _)
  · refine s_3118_301 _ _ _ _ _ _ _ _ _ _ ?_
    try rw [show gp_wr (64 * p1) = 64 * p1 from gp_wr_id (by omega) (by omega)]
    try rw [show gp_wr ((64 * p1) + p3) = (64 * p1) + p3 from gp_wr_id (by omega) (by omega)]
    refine ⟨by omega, ?_⟩
    have f_157 := mr105 hs (Int.toNat ((64 * p1) + p3))
    try rw [show gp_wr ((gp_I s 105 (Int.toNat ((64 * p1) + p3))) - 1) = (gp_I s 105 (Int.toNat ((64 * p1) + p3))) - 1 from gp_wr_id (by omega) (by omega)]
    exact k _ s hs (gF.refl _ _ _) (by omega) (q0) (by first | assumption | (subst_vars; exact SumP_w hsm hv1)) (by first | omega | assumption) (by first | omega | assumption) (mOut.refl _)
