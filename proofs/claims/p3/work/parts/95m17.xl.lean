theorem vm_madeV {L d : Nat} {K : Option gV → gH → Prop} {s : gH} (p0 : BitVec 64) (p1 : BitVec 64) (p2 : Int) (p3 : Int) (hs : MI s) (q0 : MDi s) (q1 : bd p0 (gp_I s 81 20)) (q2 : bd p1 (gp_I s 81 20)) (q3 : GVM s) (k : ∀ (r : Int), ∀ (t : gH), MI t → gF [76, 77, 78, 79, 80, 81] [15] s t → (0 ≤ r ∧ r ≤ 63) → (MDi t) → (r < gp_I t 81 20) → (gp_I s 81 20 ≤ gp_I t 81 20) → (gp_I t 81 20 ≤ gp_I s 81 20 + 1) → (mOut s t) → (gp_I s 81 20 < 60 → gp_I t 74 15 = gp_I s 74 15) → (MDX s t p0 p1 p2 p3 r) → (gp_I t 74 15 = gp_I s 74 15 ∨ (gp_I t 74 15 = 1 ∧ gp_I s 81 20 = 60 ∧ NOS s p0 p1 p2 p3)) → (gp_I s 81 20 = 60 → NOS s p0 p1 p2 p3 → gp_I t 74 15 = 1) → (AVM s t p0 p1 p2 p3 r) → K (some (gp_i r)) t) : gs_C L (d + 3) 3088 9 [gp_r (some 74), gp_l p0, gp_l p1, gp_i p2, gp_i p3] s K := vm_madeY _ _ _ _ hs q0 q1 q2 (fun r t g0 g1 g2 z0 z1 z2 z3 z4 z5 z6 z7 z8 => k r t g0 g1 g2 z0 z1 z2 z3 z4 z5 z6 z7 z8 (AVM_of ((mr81 hs 20).1) q3 z6 q1 q2 z7 z8))
set_option maxRecDepth 100000 in
/-- GatheredPointsModel.placed -/
theorem vm_placedV  {L d : Nat} {K : Option gV → gH → Prop} {s : gH} (N : Int) (p0 : BitVec 64) (hs : MI s)  (q0 : ∀ w : Nat, p0.getLsbD w = true → gp_I s 88 w < N) (k : ∀ (r : BitVec 64), (bd r N) → (r = 0#64 ↔ p0 = 0#64) → (CAR p0 r (fun j => (gp_I s 88 j).toNat)) → K (some (gp_l r)) s) : gs_C L (d + 1) 3094 6 [gp_r (some 74), gp_l p0] s K := by
  refine s_3094_e _ ?_
  have lp_1 : ∀ (n_1 : Nat) (v3_1 : BitVec 64) (v5_1 : Int), (0 ≤ v5_1 ∧ v5_1 ≤ 64) → (bd v3_1 N) → (PLZ v3_1 p0 v5_1) → (PCI (fun j => (gp_I s 88 j).toNat) p0 v5_1 v3_1) → (65 - v5_1).toNat < n_1 → gs_E L (d + 1) 3094 5 [gp_r (some 74), gp_l p0, gp_n, gp_l v3_1, gp_n, gp_i v5_1] [] s K := by
    intro n_1
    induction n_1 with
    | zero => intro v3_1 v5_1 hv5_1 iv0_1 iv1_1 iv2_1 hm_1; exact absurd hm_1 (Nat.not_lt_zero _)
    | succ n_1 ih_1 =>
      intro v3_1 v5_1 hv5_1 iv0_1 iv1_1 iv2_1 hm_1
      refine s_3094_5 _ _ _ ?_
      refine ⟨fun h_2 => ?_, fun h_2 => ?_⟩
      · refine vm_has _ _ (by omega) (fun x_3 p_4 p_5 => ⟨_, rfl, ?_⟩)
        refine ⟨fun h_6 => ?_, fun h_6 => ?_⟩
        · have hb_7 := hasF p_5 h_6
          refine s_3094_35 _ _ _ _ _ ?_
          try rw [show gp_wr (v5_1 + 1) = v5_1 + 1 from gp_wr_id (by omega) (by omega)]
          exact ih_1 _ _ (by omega) (by first | (refine bd_or (by assumption) ?_; exact bd_0 _) | (refine bd_or (by assumption) (bd_sh ?_ ?_ ?_) <;> omega)) (by first | exact PLZ_y (by omega) (by assumption) (sh_ne0 (by omega)) | exact PLZ_n iv1_1 (by omega) (by assumption)) (by first | exact PCI_n2 iv2_1 (by omega) (by assumption) rfl | exact PCI_y2 (z := gp_I s 88 (Int.toNat v5_1)) iv2_1 (by omega) (by assumption) rfl (by omega) (by omega)) (by omega)
        · have hb_8 := hasT p_5 h_6
          refine ⟨by omega, ?_⟩
          have f_9 := mr88 hs (Int.toNat v5_1)
          have hq0 := q0 (Int.toNat v5_1) (by assumption)
          refine s_3094_35 _ _ _ _ _ ?_
          try rw [show gp_wr (v5_1 + 1) = v5_1 + 1 from gp_wr_id (by omega) (by omega)]
          exact ih_1 _ _ (by omega) (by first | (refine bd_or (by assumption) ?_; exact bd_0 _) | (refine bd_or (by assumption) (bd_sh ?_ ?_ ?_) <;> omega)) (by first | exact PLZ_y (by omega) (by assumption) (sh_ne0 (by omega)) | exact PLZ_n iv1_1 (by omega) (by assumption)) (by first | exact PCI_n2 iv2_1 (by omega) (by assumption) rfl | exact PCI_y2 (z := gp_I s 88 (Int.toNat v5_1)) iv2_1 (by omega) (by assumption) rfl (by omega) (by omega)) (by omega)
      · exact k _ (by first | assumption | exact bd_le (by assumption) (by omega) | exact bd_0 _) (PLZ_e iv1_1 (by omega)) (PCI_e iv2_1 (by omega))
  exact lp_1 _ _ _ (by omega) (bd_0 _) (PLZ_0 _) (PCI_0) (Nat.lt_succ_self _)
set_option maxRecDepth 100000 in
/-- GatheredPointsModel.ends -/
theorem vm_endsV  {L d : Nat} {K : Option gV → gH → Prop} {s : gH}  (p0 : Int) (hs : MI s) (h_p0 : 0 ≤ p0 ∧ p0 ≤ 63) (q0 : MDi s) (q1 : p0 < gp_I s 81 20) (q2 : GVM s) (k : ∀ (t : gH), MI t → gF [76, 77, 78, 79, 80, 81, 86, 87, 88] [] s t → (1 ≤ gp_I t 81 19 ∧ gp_I t 81 19 ≤ 60) → (mK s t) → (gp_I t 81 19 = (gm_cnt (CLM s p0) 64 : Nat)) → (RSL s t (CLM s p0) (gp_I t 81 19)) → (bd (CLM s p0) (p0 + 1)) → (ENV s t p0) → (CK s t) → K none t) : gs_C L (d + 184) 3093 9 [gp_r (some 74), gp_i p0, gp_i 19] s K := by
  have f_1 := mr81 hs 20
  have f_2 := mr81 hs 19
  refine s_3093_e _ _ ?_
  obtain ⟨o, hms, hmc⟩ := q0
  have h60 := mr81m hs
  obtain ⟨N, hN⟩ : ∃ N : Nat, gp_I s 81 20 = N := ⟨_, (Int.toNat_of_nonneg (by omega)).symm⟩
  rw [hN] at hms hmc
  rw [Int.toNat_natCast] at hms hmc
  refine vm_forgets hs (fun s_3 hs_4 hf_5 p_6 => ⟨rfl, ?_⟩)
  have hf_7 : gF [76, 77, 78, 79, 80, 81, 86, 87, 88] [] s s_3 := gF.sub hf_5 rfl rfl
  have mb_8 : mK s s_3 := mK_fr (mK.refl _) hf_5 rfl
  have q_9 := (hf_5.2 81 20 rfl (fun h => absurd h (by decide))).1
  have q_10 := (hf_5.2 81 19 rfl (fun h => absurd h (by decide))).1
  have hms1 := MS_fr hms hf_5 rfl rfl rfl rfl rfl
  have hmc1 : MC s_3 N o := MC_z (by assumption)
  have hcf4 := hf_5
  have lp_11 : ∀ (n_11 : Nat) (v3_11 : BitVec 64) (v5_11 : Int) (v6_11 : gV) (v7_11 : gV) (v8_11 : gV), ((-1) ≤ v5_11 ∧ v5_11 ≤ 63) → (bd v3_11 (p0 + 1)) → ((v3_11).getLsbD p0.toNat = true) → (∀ i j : Nat, v5_11 < i → (v3_11).getLsbD i = true → ((mL s_3 i).getLsbD j = true ∨ (mR s_3 i).getLsbD j = true) → (v3_11).getLsbD j = true) → (v5_11 ≤ p0) → (cin (fun k => mL s_3 k ||| mR s_3 k) v5_11 v3_11 (CLM s_3 p0)) → (v5_11 + 2).toNat < n_11 → gs_E L (d + 184) 3093 11 [gp_r (some 74), gp_i p0, gp_i 19, gp_l v3_11, gp_n, gp_i v5_11, v6_11, v7_11, v8_11] [] s_3 K := by
    intro n_11
    induction n_11 with
    | zero => intro v3_11 v5_11 v6_11 v7_11 v8_11 hv5_11 iv0_11 iv1_11 iv2_11 iv3_11 iv4_11 hm_11; exact absurd hm_11 (Nat.not_lt_zero _)
    | succ n_11 ih_11 =>
      intro v3_11 v5_11 v6_11 v7_11 v8_11 hv5_11 iv0_11 iv1_11 iv2_11 iv3_11 iv4_11 hm_11
      refine s_3093_11 _ _ _ _ _ _ _ ?_
      refine ⟨fun h_12 => ?_, fun h_12 => ?_⟩
      · have hcl : ClP s_3 v3_11 := fun i j => iv2_11 i j (by omega)
        have hc1 := cnt_pos iv1_11
        have hc2 := cnt_bd iv0_11 (by omega)
        have hSN : bd v3_11 N := bd_le iv0_11 (by omega)
        have hC9 : v3_11 = CLM s p0 := (cin_end iv4_11 (by omega)).trans (CLM_fr hcf4 rfl rfl p0)
        refine vm_size _ (fun x_13 p_14 p_15 => ⟨_, rfl, ?_⟩)
        have hcz := p_15
        have hb99 := iv0_11
        have lp_16 : ∀ (n_16 : Nat) (v6_16 : Int) (v7_16 : gV) (v8_16 : gV) (s_16 : gH), (MI s_16) → (gF [76, 77, 78, 79, 80, 81, 86, 87, 88] [] s s_16) → (mK s s_16) → (0 ≤ v6_16 ∧ v6_16 ≤ 64) → (gp_I s_16 81 20 = gp_I s_3 81 20) → (gp_I s_16 81 19 = gp_I s_3 81 19) → (MS s_16 N o) → (MC s_16 N o) → (RowP s_16 o v3_11 v6_16) → (ClP s_16 v3_11) → (v6_16 ≤ x_13) → (KMs s s_16) → (CK s s_16) → (65 - v6_16).toNat < n_16 → gs_E L (d + 184) 3093 70 [gp_r (some 74), gp_i p0, gp_i 19, gp_l v3_11, gp_n, gp_i x_13, gp_i v6_16, v7_16, v8_16] [] s_16 K := by
          intro n_16
          induction n_16 with
          | zero => intro v6_16 v7_16 v8_16 s_16 hs_s_16 hf_s_16 mK_s_16 hv6_16 tk0_16 tk1_16 iv0_16 iv1_16 iv2_16 iv3_16 iv4_16 iv5_16 iv6_16 hm_16; exact absurd hm_16 (Nat.not_lt_zero _)
          | succ n_16 ih_16 =>
            intro v6_16 v7_16 v8_16 s_16 hs_s_16 hf_s_16 mK_s_16 hv6_16 tk0_16 tk1_16 iv0_16 iv1_16 iv2_16 iv3_16 iv4_16 iv5_16 iv6_16 hm_16
            refine s_3093_70 _ _ _ _ _ _ _ ?_
            refine ⟨fun h_17 => ?_, fun h_17 => ?_⟩
            · refine vm_option20 N o _ _ hs_s_16 (by omega) (by assumption) (by assumption) (by first | omega | assumption) (by first | assumption | exact bd_le (by assumption) (by omega) | exact bd_0 _) (by first | omega | assumption) (fun x_18 s_19 hs_20 hf_21 p_22 p_23 p_24 p_25 => ⟨_, rfl, ?_⟩)
              have hf_26 : gF [76, 77, 78, 79, 80, 81, 86, 87, 88] [] s s_19 := gF.trans hf_s_16 hf_21 rfl rfl
              have mb_27 : mK s s_19 := mK_fr mK_s_16 hf_21 rfl
              have q_28 := (hf_21.2 81 20 rfl (fun h => absurd h (by decide))).1
              have q_29 := (hf_21.2 81 19 rfl (fun h => absurd h (by decide))).1
              have hrow := RowP_fr iv2_16 hf_21 rfl rfl
              have hcl7 := ClP_fr iv3_16 hf_21 rfl rfl
              have hkm9 := KMs_fr iv5_16 hf_21 rfl rfl rfl rfl
              have hck9 := CK_fr iv6_16 hf_21 rfl rfl rfl rfl
              refine ⟨by omega, ?_⟩
              intro s_30 e_31
              have hs_32 : MI s_30 := by rw [e_31]; exact mw87 hs_20 _ _ (by omega)
              have hf_33 : gF [76, 77, 78, 79, 80, 81, 86, 87, 88] [] s s_30 := by rw [e_31]; exact gF.wI hf_26 (Or.inl rfl)
              have q_34 : gp_I s_30 81 20 = gp_I s_19 81 20 := by rw [e_31] <;> rfl
              have q_35 : gp_I s_30 81 19 = gp_I s_19 81 19 := by rw [e_31] <;> rfl
              have mb_36 : mK s s_30 := by rw [e_31]; exact mK_wI mb_27 (by decide)
              refine ⟨by omega, ?_⟩
              have f_37 := mr87 hs_32 (Int.toNat v6_16)
              refine ⟨by omega, ?_⟩
              intro s_38 e_39
              have hs_40 : MI s_38 := by rw [e_39]; exact mw88 hs_32 _ _ (by omega)
              have hf_41 : gF [76, 77, 78, 79, 80, 81, 86, 87, 88] [] s s_38 := by rw [e_39]; exact gF.wI hf_33 (Or.inl rfl)
              have q_42 : gp_I s_38 81 20 = gp_I s_30 81 20 := by rw [e_39] <;> rfl
              have q_43 : gp_I s_38 81 19 = gp_I s_30 81 19 := by rw [e_39] <;> rfl
              have mb_44 : mK s s_38 := by rw [e_39]; exact mK_wI mb_36 (by decide)
              try rw [show gp_wr (v6_16 + 1) = v6_16 + 1 from gp_wr_id (by omega) (by omega)]
              exact ih_16 _ _ _ _ hs_40 hf_41 mb_44 (by omega) (by first | rfl | omega) (by first | rfl | omega) (by subst_vars; assumption) (by subst_vars; assumption) (by subst_vars; exact RowP_s hrow (by omega) (by assumption) ((gz_rw _ _ _ _ _).1 rfl)) (by subst_vars; exact hcl7) (by first | omega | assumption) (by subst_vars; exact hkm9) (by subst_vars; exact hck9) (by omega)
            · refine ⟨by omega, ?_⟩
              intro s_45 e_46
              have hs_47 : MI s_45 := by rw [e_46]; exact mw81 hs_s_16 _ _ (by omega)
              have hf_48 : gF [76, 77, 78, 79, 80, 81, 86, 87, 88] [] s s_45 := by rw [e_46]; exact gF.wI hf_s_16 (Or.inl rfl)
              have q_49 := gz_rw s_16 81 (Int.toNat 19) 20 x_13; rw [← e_46] at q_49
              have q_50 := gz_rw s_16 81 (Int.toNat 19) 19 x_13; rw [← e_46] at q_50
              have mb_51 : mK s s_45 := by rw [e_46]; exact mK_81 mK_s_16 (by omega)
              have lp_52 : ∀ (n_52 : Nat) (v6_52 : Int) (v7_52 : gV) (v8_52 : gV) (s_52 : gH), (MI s_52) → (gF [76, 77, 78, 79, 80, 81, 86, 87, 88] [] s s_52) → (mK s s_52) → (0 ≤ v6_52 ∧ v6_52 ≤ 64) → (gp_I s_52 81 20 = gp_I s_45 81 20) → (gp_I s_52 81 19 = gp_I s_45 81 19) → (MS s_52 N o) → (RowP s_52 o v3_11 x_13) → (ClP s_52 v3_11) → (KMs s s_52) → (∀ j : Nat, (j : Int) < v6_52 → RW s s_52 j (gp_I s_52 87 j).toNat) → (TOR s s_52 v3_11 v6_52) → (v6_52 ≤ x_13) → (CK s s_52) → (65 - v6_52).toNat < n_52 → gs_E L (d + 184) 3093 124 [gp_r (some 74), gp_i p0, gp_i 19, gp_l v3_11, gp_n, gp_i x_13, gp_i v6_52, v7_52, v8_52] [] s_52 K := by
                intro n_52
                induction n_52 with
                | zero => intro v6_52 v7_52 v8_52 s_52 hs_s_52 hf_s_52 mK_s_52 hv6_52 tk0_52 tk1_52 iv0_52 iv1_52 iv2_52 iv3_52 iv4_52 iv5_52 iv6_52 iv7_52 hm_52; exact absurd hm_52 (Nat.not_lt_zero _)
                | succ n_52 ih_52 =>
                  intro v6_52 v7_52 v8_52 s_52 hs_s_52 hf_s_52 mK_s_52 hv6_52 tk0_52 tk1_52 iv0_52 iv1_52 iv2_52 iv3_52 iv4_52 iv5_52 iv6_52 iv7_52 hm_52
                  refine s_3093_124 _ _ _ _ _ _ _ ?_
                  refine ⟨fun h_53 => ?_, fun h_53 => ?_⟩
                  · refine ⟨by omega, ?_⟩
                    have f_54 := mr87 hs_s_52 (Int.toNat v6_52)
                    try rw [show gp_wr (1280 + (gp_I s_52 87 (Int.toNat v6_52))) = 1280 + (gp_I s_52 87 (Int.toNat v6_52)) from gp_wr_id (by omega) (by omega)]
                    try rw [show gp_wr (64 * 19) = 64 * 19 from gp_wr_id (by omega) (by omega)]
                    try rw [show gp_wr ((64 * 19) + v6_52) = (64 * 19) + v6_52 from gp_wr_id (by omega) (by omega)]
                    refine ⟨by omega, ?_⟩
                    have b_55 := mr76m hs_s_52 (gp_I s_52 87 (Int.toNat v6_52)) (by omega)
                    refine vm_placedV v6_52 _ hs_s_52 (by intro w hw; rw [ix20m (by omega)] at hw; exact place_lt iv0_52 hSN (by first | rfl | assumption) iv1_52 (by omega) iv2_52 (Or.inl hw)) (fun m_56 p_57 p_58 p_59 => ⟨_, rfl, ?_⟩)
                    have hpx := p_58
                    rw [ix20m (by omega)] at hpx
                    have hca := p_59
                    rw [ix20m (by omega)] at hca
                    refine ⟨by omega, ?_⟩
                    intro s_60 e_61
                    have hs_62 : MI s_60 := by rw [e_61]; exact mw76 hs_s_52 _ _ (by exact bd_le (by assumption) (by omega))
                    have hf_63 : gF [76, 77, 78, 79, 80, 81, 86, 87, 88] [] s s_60 := by rw [e_61]; exact gF.wL hf_s_52 (Or.inl rfl)
                    have q_64 : gp_I s_60 81 20 = gp_I s_52 81 20 := by rw [e_61] <;> rfl
                    have q_65 : gp_I s_60 81 19 = gp_I s_52 81 19 := by rw [e_61] <;> rfl
                    have mb_66 : mK s s_60 := by rw [e_61]; exact mK_wL mK_s_52 (by decide)
                    refine ⟨by omega, ?_⟩
                    have b_67 := mr77m hs_62 (gp_I s_52 87 (Int.toNat v6_52)) (by omega)
                    refine vm_placedV v6_52 _ hs_62 (by subst_vars; intro w hw; rw [ix20m (by omega)] at hw; exact place_lt iv0_52 hSN (by first | rfl | assumption) iv1_52 (by omega) iv2_52 (Or.inr hw)) (fun m_68 p_69 p_70 p_71 => ⟨_, rfl, ?_⟩)
                    have hpy := p_70
                    rw [ix20m (by omega)] at hpy
                    have hcb := p_71
                    rw [ix20m (by omega)] at hcb
                    refine ⟨by omega, ?_⟩
                    intro s_72 e_73
                    have hs_74 : MI s_72 := by rw [e_73]; exact mw77 hs_62 _ _ (by exact bd_le (by assumption) (by omega))
                    have hf_75 : gF [76, 77, 78, 79, 80, 81, 86, 87, 88] [] s s_72 := by rw [e_73]; exact gF.wL hf_63 (Or.inl rfl)
                    have q_76 : gp_I s_72 81 20 = gp_I s_60 81 20 := by rw [e_73] <;> rfl
                    have q_77 : gp_I s_72 81 19 = gp_I s_60 81 19 := by rw [e_73] <;> rfl
                    have mb_78 : mK s s_72 := by rw [e_73]; exact mK_wL mb_66 (by decide)
                    refine ⟨by omega, ?_⟩
                    refine ⟨by omega, ?_⟩
                    intro s_79 e_80
                    have hs_81 : MI s_79 := by rw [e_80]; exact mw78 hs_74 _ _
                    have hf_82 : gF [76, 77, 78, 79, 80, 81, 86, 87, 88] [] s s_79 := by rw [e_80]; exact gF.wI hf_75 (Or.inl rfl)
                    have q_83 : gp_I s_79 81 20 = gp_I s_72 81 20 := by rw [e_80] <;> rfl
                    have q_84 : gp_I s_79 81 19 = gp_I s_72 81 19 := by rw [e_80] <;> rfl
                    have mb_85 : mK s s_79 := by rw [e_80]; exact mK_wI mb_78 (by decide)
                    refine ⟨by omega, ?_⟩
                    refine ⟨by omega, ?_⟩
                    intro s_86 e_87
                    have hs_88 : MI s_86 := by rw [e_87]; exact mw79 hs_81 _ _
                    have hf_89 : gF [76, 77, 78, 79, 80, 81, 86, 87, 88] [] s s_86 := by rw [e_87]; exact gF.wI hf_82 (Or.inl rfl)
                    have q_90 : gp_I s_86 81 20 = gp_I s_79 81 20 := by rw [e_87] <;> rfl
                    have q_91 : gp_I s_86 81 19 = gp_I s_79 81 19 := by rw [e_87] <;> rfl
                    have mb_92 : mK s s_86 := by rw [e_87]; exact mK_wI mb_85 (by decide)
                    refine ⟨by omega, ?_⟩
                    have f_93 := mr80 hs_88 (Int.toNat (1280 + (gp_I s_52 87 (Int.toNat v6_52))))
                    refine ⟨by omega, ?_⟩
                    intro s_94 e_95
                    have hs_96 : MI s_94 := by rw [e_95]; exact mw80 hs_88 _ _ (by omega)
                    have hf_97 : gF [76, 77, 78, 79, 80, 81, 86, 87, 88] [] s s_94 := by rw [e_95]; exact gF.wI hf_89 (Or.inl rfl)
                    have q_98 : gp_I s_94 81 20 = gp_I s_86 81 20 := by rw [e_95] <;> rfl
                    have q_99 : gp_I s_94 81 19 = gp_I s_86 81 19 := by rw [e_95] <;> rfl
                    have mb_100 : mK s s_94 := by rw [e_95]; exact mK_wI mb_92 (by decide)
                    have hrw9 : KMs s s_94 ∧ ∀ j : Nat, (j : Int) < v6_52 + 1 → RW s s_94 j (gp_I s_94 87 j).toNat := by subst_vars; exact RW_s iv3_52 iv4_52 (by omega) _ rfl rfl rfl hpx hpy (by (rw [ix20m (by omega)]) <;> rfl) (by (rw [ix20m (by omega)]) <;> rfl)
                    have hck8 : CK s s_94 := by subst_vars; exact CK_5 iv7_52 rfl (by omega)
                    have htr9 : TOR s s_94 v3_11 (v6_52 + 1) := by subst_vars; exact TOR_s iv5_52 iv3_52 q2 iv0_52 hSN (by show (gp_I s 81 20).toNat = _; omega) (by omega) iv1_52 iv2_52 ⟨by omega, by omega, by omega⟩ _ rfl rfl rfl hca hcb (by (rw [ix20m (by omega)]) <;> rfl) (by (rw [ix20m (by omega)]) <;> rfl)
                    try rw [show gp_wr (v6_52 + 1) = v6_52 + 1 from gp_wr_id (by omega) (by omega)]
                    exact ih_52 _ _ _ _ hs_96 hf_97 mb_100 (by omega) (by first | rfl | omega) (by first | rfl | omega) (by subst_vars; exact MS_5 iv0_52 (by omega)) (by subst_vars; exact iv1_52) (by subst_vars; exact ClP_5 iv2_52 (by omega)) (hrw9.1) (hrw9.2) (htr9) (by first | omega | assumption) (hck8) (by omega)
                  · exact k s_52 hs_s_52 hf_s_52 (by first | omega | assumption) mK_s_52 (by rw [← hC9]; omega) (by rw [← hC9, show gp_I s_52 81 19 = x_13 by omega]; exact RSL_of iv0_52.1 hSN hcz iv1_52 (fun j hj => iv4_52 j (by omega))) (by rw [← hC9]; exact hb99) (TOR_e iv5_52 iv3_52 q2 iv0_52 hSN (by show (gp_I s 81 20).toNat = _; omega) (by omega) iv1_52 (by omega) hC9 ⟨by omega, by omega⟩ (by omega) (by omega)) (iv7_52)
              exact lp_52 _ _ _ _ _ hs_47 hf_48 mb_51 (by omega) (by first | rfl | omega) (by first | rfl | omega) (by subst_vars; exact iv0_16) (by subst_vars; exact fun j hj => iv2_16 j (by omega)) (by subst_vars; exact iv3_16) (by subst_vars; exact iv5_16) (fun j hj => by omega) (TOR_0) (by first | omega | assumption) (by subst_vars; exact iv6_16) (Nat.lt_succ_self _)
        exact lp_16 _ _ _ _ _ hs_4 hf_7 mb_8 (by omega) (by first | rfl | omega) (by first | rfl | omega) (by subst_vars; assumption) (by subst_vars; assumption) (fun j hj => absurd hj (by omega)) (hcl) (by first | omega | assumption) (KMs_fr (KMs_r s) hcf4 rfl rfl rfl rfl) (CK_fr (CK_r s) hcf4 rfl rfl rfl rfl) (Nat.lt_succ_self _)
      · refine vm_has _ _ (by omega) (fun x_101 p_102 p_103 => ⟨_, rfl, ?_⟩)
        refine ⟨fun h_104 => ?_, fun h_104 => ?_⟩
        · have hb_105 := hasF p_103 h_104
          refine s_3093_53 _ _ _ _ _ _ _ _ _ ?_
          try rw [show gp_wr (v5_11 + (-1)) = v5_11 + (-1) from gp_wr_id (by omega) (by omega)]
          exact ih_11 _ _ _ _ _ (by omega) (by first | (refine bd_or iv0_11 ?_; exact bd_0 _) | (refine bd_or iv0_11 (bd_or (bd_le (by assumption) ?_) (bd_le (by assumption) ?_)) <;> omega)) (or_bit iv1_11) (by first | (refine cl_3 ?_ ?_ iv2_11 <;> first | omega | assumption) | (refine cl_2 ?_ ?_ ?_ ?_ iv2_11 <;> first | omega | assumption)) (by first | omega | assumption) (by first | (refine cin_s iv4_11 (by omega) ?_; rw [if_pos (by assumption), ix20m (by omega)]) | (refine cin_s iv4_11 (by omega) ?_; rw [if_neg (by simp [*])]; simp)) (by omega)
        · have hb_106 := hasT p_103 h_104
          try rw [show gp_wr (1280 + v5_11) = 1280 + v5_11 from gp_wr_id (by omega) (by omega)]
          refine ⟨by omega, ?_⟩
          have b_107 := mr76m hs_4 v5_11 (by omega)
          try rw [show gp_wr (1280 + v5_11) = 1280 + v5_11 from gp_wr_id (by omega) (by omega)]
          refine ⟨by omega, ?_⟩
          have b_108 := mr77m hs_4 v5_11 (by omega)
          refine s_3093_53 _ _ _ _ _ _ _ _ _ ?_
          try rw [show gp_wr (v5_11 + (-1)) = v5_11 + (-1) from gp_wr_id (by omega) (by omega)]
          exact ih_11 _ _ _ _ _ (by omega) (by first | (refine bd_or iv0_11 ?_; exact bd_0 _) | (refine bd_or iv0_11 (bd_or (bd_le (by assumption) ?_) (bd_le (by assumption) ?_)) <;> omega)) (or_bit iv1_11) (by first | (refine cl_3 ?_ ?_ iv2_11 <;> first | omega | assumption) | (refine cl_2 ?_ ?_ ?_ ?_ iv2_11 <;> first | omega | assumption)) (by first | omega | assumption) (by first | (refine cin_s iv4_11 (by omega) ?_; rw [if_pos (by assumption), ix20m (by omega)]) | (refine cin_s iv4_11 (by omega) ?_; rw [if_neg (by simp [*])]; simp)) (by omega)
  exact lp_11 _ _ _ _ _ _ (by omega) (bd_sh (by omega) (by omega) (by omega)) (one_self (by omega) (by omega)) (fun i j h0 h1 => absurd (bd_sh (n := p0 + 1) (by omega) (by omega) (by omega) i h1) (by omega)) (by first | omega | assumption) (cin_0 (by omega) _) (Nat.lt_succ_self _)
