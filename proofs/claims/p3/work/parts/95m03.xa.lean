set_option maxRecDepth 100000 in
/-- Pool.empty -/
theorem xm_emptyI  {L d : Nat} {K : Option gV → gH → Prop} {s : gH}   (hs : XI L 0 s)   (k : ∀ (t : gH), XI L 0 t → gX L false [1196] s t → (gp_I t 6 4 = 0) → (PO t) → (IK s t) → K none t) : gs_C L d 1025 1 [gp_r (some 6)] s K := by
  have f_1 := xr6_4 hs
  refine s_1025_e ?_
  intro s_2 e_3
  have hs_4 : XI L 0 s_2 := by rw [e_3]; exact xw6_4 hs _ (by omega)
  have hf_5 : gX L false [1196] s s_2 := by rw [e_3]; exact gX.wI (gX.refl _ _ _ _) (Or.inl rfl)
  have q_6 : gp_I s_2 6 4 = 0 := by rw [e_3]; exact (gz_rw _ _ _ _ _).1 rfl
  have pd_7 : IK s s_2 := by rw [e_3]; exact IK_wI (IK_r s) (Or.inl (by decide))
  exact k s_2 hs_4 hf_5 (by first | omega | assumption) (PO_0 (by omega)) (pd_7)
set_option maxRecDepth 100000 in
/-- Pool.sketch -/
theorem xm_sketchI  {L d : Nat} {K : Option gV → gH → Prop} {s : gH}  (p0 : BitVec 64) (p1 : BitVec 64) (p2 : Int) (p3 : Int) (hs : XI L 0 s)  (q0 : PO s) (q1 : bd p0 (gp_I s 6 4)) (q2 : bd p1 (gp_I s 6 4)) (q3 : S2P s) (q4 : DSA s) (k : ∀ (t : gH), XI L 0 t → gX L false [8, 9, 10, 11, 12] s t → (PO t) → (SK t) → (SKX s t p0 p1 p2 p3) → (S2P t) → (DSA t) → (IK s t) → K none t) : gs_C L (d + 2) 1026 10 [gp_r (some 6), gp_l p0, gp_l p1, gp_i p2, gp_i p3] s K := by
  have f_1 := xr6_4 hs
  refine s_1026_e _ _ _ _ ?_
  have f_2 := xr6_4 hs
  refine ⟨by omega, ?_⟩
  intro s_3 e_4
  have hs_5 : XI L 0 s_3 := by rw [e_4]; exact xw8 hs _ _ (by exact bd_le q1 (by omega))
  have hf_6 : gX L false [8, 9, 10, 11, 12] s s_3 := by rw [e_4]; exact gX.wL (gX.refl _ _ _ _) (Or.inl ⟨by decide, rfl⟩)
  have q_7 : gp_I s_3 6 4 = gp_I s 6 4 := by rw [e_4] <;> first | rfl | exact I_ne (by omega)
  have pd_8 : IK s s_3 := by rw [e_4]; exact IK_wL (IK_r s)
  have f_9 := xr6_4 hs_5
  refine ⟨by omega, ?_⟩
  intro s_10 e_11
  have hs_12 : XI L 0 s_10 := by rw [e_11]; exact xw9 hs_5 _ _ (by exact bd_le q2 (by omega))
  have hf_13 : gX L false [8, 9, 10, 11, 12] s s_10 := by rw [e_11]; exact gX.wL hf_6 (Or.inl ⟨by decide, rfl⟩)
  have q_14 : gp_I s_10 6 4 = gp_I s_3 6 4 := by rw [e_11] <;> first | rfl | exact I_ne (by omega)
  have pd_15 : IK s s_10 := by rw [e_11]; exact IK_wL pd_8
  have f_16 := xr6_4 hs_12
  refine ⟨fun h_17 => ?_, fun h_17 => ?_⟩
  · have hz_18 : p0 = 0#64 := (gm_cmp0 _ _).mp h_17
    refine s_1026_49 _ _ _ _ _ _ _ _ _ ?_
    refine ⟨by omega, ?_⟩
    intro s_19 e_20
    have hs_21 : XI L 0 s_19 := by rw [e_20]; exact xw10 hs_12 _ _
    have hf_22 : gX L false [8, 9, 10, 11, 12] s s_19 := by rw [e_20]; exact gX.wI hf_13 (Or.inl rfl)
    have q_23 : gp_I s_19 6 4 = gp_I s_10 6 4 := by rw [e_20] <;> first | rfl | exact I_ne (by omega)
    have pd_24 : IK s s_19 := by rw [e_20]; exact IK_wI pd_15 (Or.inl (by decide))
    have f_25 := xr6_4 hs_21
    refine ⟨fun h_26 => ?_, fun h_26 => ?_⟩
    · have hz_27 : p1 = 0#64 := (gm_cmp0 _ _).mp h_26
      refine s_1026_73 _ _ _ _ _ _ _ _ _ ?_
      refine ⟨by omega, ?_⟩
      intro s_28 e_29
      have hs_30 : XI L 0 s_28 := by rw [e_29]; exact xw11 hs_21 _ _
      have hf_31 : gX L false [8, 9, 10, 11, 12] s s_28 := by rw [e_29]; exact gX.wI hf_22 (Or.inl rfl)
      have q_32 : gp_I s_28 6 4 = gp_I s_19 6 4 := by rw [e_29] <;> first | rfl | exact I_ne (by omega)
      have pd_33 : IK s s_28 := by rw [e_29]; exact IK_wI pd_24 (Or.inl (by decide))
      have lp_34 : ∀ (n_34 : Nat) (v7_34 : Int) (v8_34 : BitVec 64), (0 ≤ v7_34 ∧ v7_34 ≤ 60) → (sub v8_34 (p0 ||| p1)) → (∀ i : Nat, (p0 ||| p1).getLsbD i = true → (v8_34).getLsbD i = true ∨ gp_I s_28 12 i < v7_34) → (v7_34 ≤ gp_I s 6 4) → (v7_34 = 0 ∨ ∃ i : Nat, (p0 ||| p1).getLsbD i = true ∧ v7_34 = gp_I s_28 12 i + 1) → ((v8_34).toNat) < n_34 → gs_E L (d + 2) 1026 82 [gp_r (some 6), gp_l p0, gp_n, gp_l p1, gp_n, gp_i p2, gp_i p3, gp_i v7_34, gp_l v8_34, gp_n] [] s_28 K := by
        intro n_34
        induction n_34 with
        | zero => intro v7_34 v8_34 hv7_34 iv0_34 iv1_34 iv2_34 iv3_34 hm_34; exact absurd hm_34 (Nat.not_lt_zero _)
        | succ n_34 ih_34 =>
          intro v7_34 v8_34 hv7_34 iv0_34 iv1_34 iv2_34 iv3_34 hm_34
          refine s_1026_82 _ _ _ _ _ _ ?_
          refine ⟨fun h_35 => ?_, fun h_35 => ?_⟩
          · have hz_36 : v8_34 = 0#64 := (gm_cmp0 _ _).mp h_35
            have f_37 := xr6_4 hs_30
            refine ⟨by omega, ?_⟩
            intro s_38 e_39
            have hs_40 : XI L 0 s_38 := by rw [e_39]; exact xw12 hs_30 _ _ (by omega)
            have hf_41 : gX L false [8, 9, 10, 11, 12] s s_38 := by rw [e_39]; exact gX.wI hf_31 (Or.inl rfl)
            have q_42 : gp_I s_38 6 4 = gp_I s_28 6 4 := by rw [e_39] <;> first | rfl | exact I_ne (by omega)
            have pd_43 : IK s s_38 := by rw [e_39]; exact IK_wI pd_33 (Or.inl (by decide))
            have hSKX : SKX s s_38 p0 p1 p2 p3 := SKX_of (D := v7_34) (by subst_vars; exact fun k => gz_rwLi s 8 _ _ k) (by subst_vars; exact fun k => gz_rwLi _ 9 _ _ k) (by first | (rw [show nrm p0 p2 = p2 from if_pos (by assumption)]; subst_vars; exact fun k => gz_rwi _ 10 _ _ k) | (rw [show nrm p0 p2 = 0 from if_neg (by assumption)]; subst_vars; exact fun k => gz_rwi _ 10 _ _ k)) (by first | (rw [show nrm p1 p3 = p3 from if_pos (by assumption)]; subst_vars; exact fun k => gz_rwi _ 11 _ _ k) | (rw [show nrm p1 p3 = 0 from if_neg (by assumption)]; subst_vars; exact fun k => gz_rwi _ 11 _ _ k)) (by subst_vars; exact fun k => gz_rwi _ 12 _ _ k) q1 q2 (fun i hi => by have h9 := iv1_34 i hi; rw [‹v8_34 = 0#64›] at h9; simp at h9; subst_vars; exact h9) (by have h9 := iv3_34; subst_vars; exact h9) (xr6_4 hs).1
            exact k s_38 hs_40 hf_41 (PO_sk q0 hs (by omega) (by subst_vars; exact fun k => rfl) (by subst_vars; exact fun k => rfl) (by subst_vars; exact fun k hk => (gz_rwi _ 12 _ _ k).trans (if_neg (show ¬ k = (gp_I s 6 4).toNat by omega))) (by subst_vars; exact fun k hk => (gz_rwLi _ 8 _ _ k).trans (if_neg (show ¬ k = (gp_I s 6 4).toNat by omega))) (by subst_vars; exact fun k hk => (gz_rwLi _ 9 _ _ k).trans (if_neg (show ¬ k = (gp_I s 6 4).toNat by omega)))) (SK_of (s := s) (N := gp_I s 6 4) (D := v7_34) (p0 := p0) (p1 := p1) (xr6_4 hs).1 (by omega) (by subst_vars; exact (gz_rwLi _ 8 _ _ _).trans (if_pos rfl)) (by subst_vars; exact (gz_rwLi _ 9 _ _ _).trans (if_pos rfl)) (by subst_vars; exact fun k hk => (gz_rwi _ 12 _ _ k).trans (if_neg (show ¬ k = (gp_I s 6 4).toNat by omega))) (by subst_vars; exact (gz_rwi _ 12 _ _ _).trans (if_pos rfl)) (fun i hi => by have h9 := iv1_34 i hi; rw [‹v8_34 = 0#64›] at h9; simp at h9; subst_vars; exact h9) q1 q2) (hSKX) (S2_sk hs q0 q3 hSKX (by omega) (by subst_vars; exact fun k => rfl) (by subst_vars; exact fun k => rfl)) (DSA_sk hs q4 hSKX (by omega)) (pd_43)
          · have hz_44 : ¬ v8_34 = 0#64 := fun q => h_35 ((gm_cmp0 _ _).mpr q)
            refine xm_lowest _ (fun x_45 p_46 p_47 => ⟨_, rfl, ?_⟩)
            have hlw := iv0_34.low (by assumption) p_47
            have hbl := (bd_or q1 q2) _ hlw.2.2
            have hlo := p_47
            refine ⟨by omega, ?_⟩
            have f_48 := xr12 hs_30 (Int.toNat x_45)
            try rw [show gp_wr (1 + (gp_I s_28 12 (Int.toNat x_45))) = 1 + (gp_I s_28 12 (Int.toNat x_45)) from gp_wr_id (by omega) (by omega)]
            have w_49 := gz_mx (v7_34) (1 + (gp_I s_28 12 (Int.toNat x_45)))
            exact ih_34 _ _ (by omega) (by first | assumption | exact sub.refl _ | exact sub.rest (by assumption)) (sk_step iv1_34 (by assumption) (by assumption)) (by first | omega | assumption) (sk_s2 iv3_34 iv0_34 (by assumption) hlo) (by have := rest_lt (by assumption : ¬ v8_34 = 0#64); omega)
      exact lp_34 _ _ _ (by omega) (by first | assumption | exact sub.refl _ | exact sub.rest (by assumption)) (fun i hi => Or.inl hi) (by first | omega | assumption) (Or.inl rfl) (Nat.lt_succ_self _)
    · have hz_50 : ¬ p1 = 0#64 := fun q => h_26 ((gm_cmp0 _ _).mpr q)
      refine s_1026_73 _ _ _ _ _ _ _ _ _ ?_
      refine ⟨by omega, ?_⟩
      intro s_51 e_52
      have hs_53 : XI L 0 s_51 := by rw [e_52]; exact xw11 hs_21 _ _
      have hf_54 : gX L false [8, 9, 10, 11, 12] s s_51 := by rw [e_52]; exact gX.wI hf_22 (Or.inl rfl)
      have q_55 : gp_I s_51 6 4 = gp_I s_19 6 4 := by rw [e_52] <;> first | rfl | exact I_ne (by omega)
      have pd_56 : IK s s_51 := by rw [e_52]; exact IK_wI pd_24 (Or.inl (by decide))
      have lp_57 : ∀ (n_57 : Nat) (v7_57 : Int) (v8_57 : BitVec 64), (0 ≤ v7_57 ∧ v7_57 ≤ 60) → (sub v8_57 (p0 ||| p1)) → (∀ i : Nat, (p0 ||| p1).getLsbD i = true → (v8_57).getLsbD i = true ∨ gp_I s_51 12 i < v7_57) → (v7_57 ≤ gp_I s 6 4) → (v7_57 = 0 ∨ ∃ i : Nat, (p0 ||| p1).getLsbD i = true ∧ v7_57 = gp_I s_51 12 i + 1) → ((v8_57).toNat) < n_57 → gs_E L (d + 2) 1026 82 [gp_r (some 6), gp_l p0, gp_n, gp_l p1, gp_n, gp_i p2, gp_i p3, gp_i v7_57, gp_l v8_57, gp_n] [] s_51 K := by
        intro n_57
        induction n_57 with
        | zero => intro v7_57 v8_57 hv7_57 iv0_57 iv1_57 iv2_57 iv3_57 hm_57; exact absurd hm_57 (Nat.not_lt_zero _)
        | succ n_57 ih_57 =>
          intro v7_57 v8_57 hv7_57 iv0_57 iv1_57 iv2_57 iv3_57 hm_57
          refine s_1026_82 _ _ _ _ _ _ ?_
          refine ⟨fun h_58 => ?_, fun h_58 => ?_⟩
          · have hz_59 : v8_57 = 0#64 := (gm_cmp0 _ _).mp h_58
            have f_60 := xr6_4 hs_53
            refine ⟨by omega, ?_⟩
            intro s_61 e_62
            have hs_63 : XI L 0 s_61 := by rw [e_62]; exact xw12 hs_53 _ _ (by omega)
            have hf_64 : gX L false [8, 9, 10, 11, 12] s s_61 := by rw [e_62]; exact gX.wI hf_54 (Or.inl rfl)
            have q_65 : gp_I s_61 6 4 = gp_I s_51 6 4 := by rw [e_62] <;> first | rfl | exact I_ne (by omega)
            have pd_66 : IK s s_61 := by rw [e_62]; exact IK_wI pd_56 (Or.inl (by decide))
            have hSKX : SKX s s_61 p0 p1 p2 p3 := SKX_of (D := v7_57) (by subst_vars; exact fun k => gz_rwLi s 8 _ _ k) (by subst_vars; exact fun k => gz_rwLi _ 9 _ _ k) (by first | (rw [show nrm p0 p2 = p2 from if_pos (by assumption)]; subst_vars; exact fun k => gz_rwi _ 10 _ _ k) | (rw [show nrm p0 p2 = 0 from if_neg (by assumption)]; subst_vars; exact fun k => gz_rwi _ 10 _ _ k)) (by first | (rw [show nrm p1 p3 = p3 from if_pos (by assumption)]; subst_vars; exact fun k => gz_rwi _ 11 _ _ k) | (rw [show nrm p1 p3 = 0 from if_neg (by assumption)]; subst_vars; exact fun k => gz_rwi _ 11 _ _ k)) (by subst_vars; exact fun k => gz_rwi _ 12 _ _ k) q1 q2 (fun i hi => by have h9 := iv1_57 i hi; rw [‹v8_57 = 0#64›] at h9; simp at h9; subst_vars; exact h9) (by have h9 := iv3_57; subst_vars; exact h9) (xr6_4 hs).1
            exact k s_61 hs_63 hf_64 (PO_sk q0 hs (by omega) (by subst_vars; exact fun k => rfl) (by subst_vars; exact fun k => rfl) (by subst_vars; exact fun k hk => (gz_rwi _ 12 _ _ k).trans (if_neg (show ¬ k = (gp_I s 6 4).toNat by omega))) (by subst_vars; exact fun k hk => (gz_rwLi _ 8 _ _ k).trans (if_neg (show ¬ k = (gp_I s 6 4).toNat by omega))) (by subst_vars; exact fun k hk => (gz_rwLi _ 9 _ _ k).trans (if_neg (show ¬ k = (gp_I s 6 4).toNat by omega)))) (SK_of (s := s) (N := gp_I s 6 4) (D := v7_57) (p0 := p0) (p1 := p1) (xr6_4 hs).1 (by omega) (by subst_vars; exact (gz_rwLi _ 8 _ _ _).trans (if_pos rfl)) (by subst_vars; exact (gz_rwLi _ 9 _ _ _).trans (if_pos rfl)) (by subst_vars; exact fun k hk => (gz_rwi _ 12 _ _ k).trans (if_neg (show ¬ k = (gp_I s 6 4).toNat by omega))) (by subst_vars; exact (gz_rwi _ 12 _ _ _).trans (if_pos rfl)) (fun i hi => by have h9 := iv1_57 i hi; rw [‹v8_57 = 0#64›] at h9; simp at h9; subst_vars; exact h9) q1 q2) (hSKX) (S2_sk hs q0 q3 hSKX (by omega) (by subst_vars; exact fun k => rfl) (by subst_vars; exact fun k => rfl)) (DSA_sk hs q4 hSKX (by omega)) (pd_66)
          · have hz_67 : ¬ v8_57 = 0#64 := fun q => h_58 ((gm_cmp0 _ _).mpr q)
            refine xm_lowest _ (fun x_68 p_69 p_70 => ⟨_, rfl, ?_⟩)
            have hlw := iv0_57.low (by assumption) p_70
            have hbl := (bd_or q1 q2) _ hlw.2.2
            have hlo := p_70
            refine ⟨by omega, ?_⟩
            have f_71 := xr12 hs_53 (Int.toNat x_68)
            try rw [show gp_wr (1 + (gp_I s_51 12 (Int.toNat x_68))) = 1 + (gp_I s_51 12 (Int.toNat x_68)) from gp_wr_id (by omega) (by omega)]
            have w_72 := gz_mx (v7_57) (1 + (gp_I s_51 12 (Int.toNat x_68)))
            exact ih_57 _ _ (by omega) (by first | assumption | exact sub.refl _ | exact sub.rest (by assumption)) (sk_step iv1_57 (by assumption) (by assumption)) (by first | omega | assumption) (sk_s2 iv3_57 iv0_57 (by assumption) hlo) (by have := rest_lt (by assumption : ¬ v8_57 = 0#64); omega)
      exact lp_57 _ _ _ (by omega) (by first | assumption | exact sub.refl _ | exact sub.rest (by assumption)) (fun i hi => Or.inl hi) (by first | omega | assumption) (Or.inl rfl) (Nat.lt_succ_self _)
  · have hz_73 : ¬ p0 = 0#64 := fun q => h_17 ((gm_cmp0 _ _).mpr q)
    refine s_1026_49 _ _ _ _ _ _ _ _ _ ?_
    refine ⟨by omega, ?_⟩
    intro s_74 e_75
    have hs_76 : XI L 0 s_74 := by rw [e_75]; exact xw10 hs_12 _ _
    have hf_77 : gX L false [8, 9, 10, 11, 12] s s_74 := by rw [e_75]; exact gX.wI hf_13 (Or.inl rfl)
    have q_78 : gp_I s_74 6 4 = gp_I s_10 6 4 := by rw [e_75] <;> first | rfl | exact I_ne (by omega)
    have pd_79 : IK s s_74 := by rw [e_75]; exact IK_wI pd_15 (Or.inl (by decide))
    have f_80 := xr6_4 hs_76
    refine ⟨fun h_81 => ?_, fun h_81 => ?_⟩
    · have hz_82 : p1 = 0#64 := (gm_cmp0 _ _).mp h_81
      refine s_1026_73 _ _ _ _ _ _ _ _ _ ?_
      refine ⟨by omega, ?_⟩
      intro s_83 e_84
      have hs_85 : XI L 0 s_83 := by rw [e_84]; exact xw11 hs_76 _ _
      have hf_86 : gX L false [8, 9, 10, 11, 12] s s_83 := by rw [e_84]; exact gX.wI hf_77 (Or.inl rfl)
      have q_87 : gp_I s_83 6 4 = gp_I s_74 6 4 := by rw [e_84] <;> first | rfl | exact I_ne (by omega)
      have pd_88 : IK s s_83 := by rw [e_84]; exact IK_wI pd_79 (Or.inl (by decide))
      have lp_89 : ∀ (n_89 : Nat) (v7_89 : Int) (v8_89 : BitVec 64), (0 ≤ v7_89 ∧ v7_89 ≤ 60) → (sub v8_89 (p0 ||| p1)) → (∀ i : Nat, (p0 ||| p1).getLsbD i = true → (v8_89).getLsbD i = true ∨ gp_I s_83 12 i < v7_89) → (v7_89 ≤ gp_I s 6 4) → (v7_89 = 0 ∨ ∃ i : Nat, (p0 ||| p1).getLsbD i = true ∧ v7_89 = gp_I s_83 12 i + 1) → ((v8_89).toNat) < n_89 → gs_E L (d + 2) 1026 82 [gp_r (some 6), gp_l p0, gp_n, gp_l p1, gp_n, gp_i p2, gp_i p3, gp_i v7_89, gp_l v8_89, gp_n] [] s_83 K := by
        intro n_89
        induction n_89 with
        | zero => intro v7_89 v8_89 hv7_89 iv0_89 iv1_89 iv2_89 iv3_89 hm_89; exact absurd hm_89 (Nat.not_lt_zero _)
        | succ n_89 ih_89 =>
          intro v7_89 v8_89 hv7_89 iv0_89 iv1_89 iv2_89 iv3_89 hm_89
          refine s_1026_82 _ _ _ _ _ _ ?_
          refine ⟨fun h_90 => ?_, fun h_90 => ?_⟩
          · have hz_91 : v8_89 = 0#64 := (gm_cmp0 _ _).mp h_90
            have f_92 := xr6_4 hs_85
            refine ⟨by omega, ?_⟩
            intro s_93 e_94
            have hs_95 : XI L 0 s_93 := by rw [e_94]; exact xw12 hs_85 _ _ (by omega)
            have hf_96 : gX L false [8, 9, 10, 11, 12] s s_93 := by rw [e_94]; exact gX.wI hf_86 (Or.inl rfl)
            have q_97 : gp_I s_93 6 4 = gp_I s_83 6 4 := by rw [e_94] <;> first | rfl | exact I_ne (by omega)
            have pd_98 : IK s s_93 := by rw [e_94]; exact IK_wI pd_88 (Or.inl (by decide))
            have hSKX : SKX s s_93 p0 p1 p2 p3 := SKX_of (D := v7_89) (by subst_vars; exact fun k => gz_rwLi s 8 _ _ k) (by subst_vars; exact fun k => gz_rwLi _ 9 _ _ k) (by first | (rw [show nrm p0 p2 = p2 from if_pos (by assumption)]; subst_vars; exact fun k => gz_rwi _ 10 _ _ k) | (rw [show nrm p0 p2 = 0 from if_neg (by assumption)]; subst_vars; exact fun k => gz_rwi _ 10 _ _ k)) (by first | (rw [show nrm p1 p3 = p3 from if_pos (by assumption)]; subst_vars; exact fun k => gz_rwi _ 11 _ _ k) | (rw [show nrm p1 p3 = 0 from if_neg (by assumption)]; subst_vars; exact fun k => gz_rwi _ 11 _ _ k)) (by subst_vars; exact fun k => gz_rwi _ 12 _ _ k) q1 q2 (fun i hi => by have h9 := iv1_89 i hi; rw [‹v8_89 = 0#64›] at h9; simp at h9; subst_vars; exact h9) (by have h9 := iv3_89; subst_vars; exact h9) (xr6_4 hs).1
            exact k s_93 hs_95 hf_96 (PO_sk q0 hs (by omega) (by subst_vars; exact fun k => rfl) (by subst_vars; exact fun k => rfl) (by subst_vars; exact fun k hk => (gz_rwi _ 12 _ _ k).trans (if_neg (show ¬ k = (gp_I s 6 4).toNat by omega))) (by subst_vars; exact fun k hk => (gz_rwLi _ 8 _ _ k).trans (if_neg (show ¬ k = (gp_I s 6 4).toNat by omega))) (by subst_vars; exact fun k hk => (gz_rwLi _ 9 _ _ k).trans (if_neg (show ¬ k = (gp_I s 6 4).toNat by omega)))) (SK_of (s := s) (N := gp_I s 6 4) (D := v7_89) (p0 := p0) (p1 := p1) (xr6_4 hs).1 (by omega) (by subst_vars; exact (gz_rwLi _ 8 _ _ _).trans (if_pos rfl)) (by subst_vars; exact (gz_rwLi _ 9 _ _ _).trans (if_pos rfl)) (by subst_vars; exact fun k hk => (gz_rwi _ 12 _ _ k).trans (if_neg (show ¬ k = (gp_I s 6 4).toNat by omega))) (by subst_vars; exact (gz_rwi _ 12 _ _ _).trans (if_pos rfl)) (fun i hi => by have h9 := iv1_89 i hi; rw [‹v8_89 = 0#64›] at h9; simp at h9; subst_vars; exact h9) q1 q2) (hSKX) (S2_sk hs q0 q3 hSKX (by omega) (by subst_vars; exact fun k => rfl) (by subst_vars; exact fun k => rfl)) (DSA_sk hs q4 hSKX (by omega)) (pd_98)
          · have hz_99 : ¬ v8_89 = 0#64 := fun q => h_90 ((gm_cmp0 _ _).mpr q)
            refine xm_lowest _ (fun x_100 p_101 p_102 => ⟨_, rfl, ?_⟩)
            have hlw := iv0_89.low (by assumption) p_102
            have hbl := (bd_or q1 q2) _ hlw.2.2
            have hlo := p_102
            refine ⟨by omega, ?_⟩
            have f_103 := xr12 hs_85 (Int.toNat x_100)
            try rw [show gp_wr (1 + (gp_I s_83 12 (Int.toNat x_100))) = 1 + (gp_I s_83 12 (Int.toNat x_100)) from gp_wr_id (by omega) (by omega)]
            have w_104 := gz_mx (v7_89) (1 + (gp_I s_83 12 (Int.toNat x_100)))
            exact ih_89 _ _ (by omega) (by first | assumption | exact sub.refl _ | exact sub.rest (by assumption)) (sk_step iv1_89 (by assumption) (by assumption)) (by first | omega | assumption) (sk_s2 iv3_89 iv0_89 (by assumption) hlo) (by have := rest_lt (by assumption : ¬ v8_89 = 0#64); omega)
      exact lp_89 _ _ _ (by omega) (by first | assumption | exact sub.refl _ | exact sub.rest (by assumption)) (fun i hi => Or.inl hi) (by first | omega | assumption) (Or.inl rfl) (Nat.lt_succ_self _)
    · have hz_105 : ¬ p1 = 0#64 := fun q => h_81 ((gm_cmp0 _ _).mpr q)
      refine s_1026_73 _ _ _ _ _ _ _ _ _ ?_
      refine ⟨by omega, ?_⟩
      intro s_106 e_107
      have hs_108 : XI L 0 s_106 := by rw [e_107]; exact xw11 hs_76 _ _
      have hf_109 : gX L false [8, 9, 10, 11, 12] s s_106 := by rw [e_107]; exact gX.wI hf_77 (Or.inl rfl)
      have q_110 : gp_I s_106 6 4 = gp_I s_74 6 4 := by rw [e_107] <;> first | rfl | exact I_ne (by omega)
      have pd_111 : IK s s_106 := by rw [e_107]; exact IK_wI pd_79 (Or.inl (by decide))
      have lp_112 : ∀ (n_112 : Nat) (v7_112 : Int) (v8_112 : BitVec 64), (0 ≤ v7_112 ∧ v7_112 ≤ 60) → (sub v8_112 (p0 ||| p1)) → (∀ i : Nat, (p0 ||| p1).getLsbD i = true → (v8_112).getLsbD i = true ∨ gp_I s_106 12 i < v7_112) → (v7_112 ≤ gp_I s 6 4) → (v7_112 = 0 ∨ ∃ i : Nat, (p0 ||| p1).getLsbD i = true ∧ v7_112 = gp_I s_106 12 i + 1) → ((v8_112).toNat) < n_112 → gs_E L (d + 2) 1026 82 [gp_r (some 6), gp_l p0, gp_n, gp_l p1, gp_n, gp_i p2, gp_i p3, gp_i v7_112, gp_l v8_112, gp_n] [] s_106 K := by
        intro n_112
        induction n_112 with
        | zero => intro v7_112 v8_112 hv7_112 iv0_112 iv1_112 iv2_112 iv3_112 hm_112; exact absurd hm_112 (Nat.not_lt_zero _)
        | succ n_112 ih_112 =>
          intro v7_112 v8_112 hv7_112 iv0_112 iv1_112 iv2_112 iv3_112 hm_112
          refine s_1026_82 _ _ _ _ _ _ ?_
          refine ⟨fun h_113 => ?_, fun h_113 => ?_⟩
          · have hz_114 : v8_112 = 0#64 := (gm_cmp0 _ _).mp h_113
            have f_115 := xr6_4 hs_108
            refine ⟨by omega, ?_⟩
            intro s_116 e_117
            have hs_118 : XI L 0 s_116 := by rw [e_117]; exact xw12 hs_108 _ _ (by omega)
            have hf_119 : gX L false [8, 9, 10, 11, 12] s s_116 := by rw [e_117]; exact gX.wI hf_109 (Or.inl rfl)
            have q_120 : gp_I s_116 6 4 = gp_I s_106 6 4 := by rw [e_117] <;> first | rfl | exact I_ne (by omega)
            have pd_121 : IK s s_116 := by rw [e_117]; exact IK_wI pd_111 (Or.inl (by decide))
            have hSKX : SKX s s_116 p0 p1 p2 p3 := SKX_of (D := v7_112) (by subst_vars; exact fun k => gz_rwLi s 8 _ _ k) (by subst_vars; exact fun k => gz_rwLi _ 9 _ _ k) (by first | (rw [show nrm p0 p2 = p2 from if_pos (by assumption)]; subst_vars; exact fun k => gz_rwi _ 10 _ _ k) | (rw [show nrm p0 p2 = 0 from if_neg (by assumption)]; subst_vars; exact fun k => gz_rwi _ 10 _ _ k)) (by first | (rw [show nrm p1 p3 = p3 from if_pos (by assumption)]; subst_vars; exact fun k => gz_rwi _ 11 _ _ k) | (rw [show nrm p1 p3 = 0 from if_neg (by assumption)]; subst_vars; exact fun k => gz_rwi _ 11 _ _ k)) (by subst_vars; exact fun k => gz_rwi _ 12 _ _ k) q1 q2 (fun i hi => by have h9 := iv1_112 i hi; rw [‹v8_112 = 0#64›] at h9; simp at h9; subst_vars; exact h9) (by have h9 := iv3_112; subst_vars; exact h9) (xr6_4 hs).1
            exact k s_116 hs_118 hf_119 (PO_sk q0 hs (by omega) (by subst_vars; exact fun k => rfl) (by subst_vars; exact fun k => rfl) (by subst_vars; exact fun k hk => (gz_rwi _ 12 _ _ k).trans (if_neg (show ¬ k = (gp_I s 6 4).toNat by omega))) (by subst_vars; exact fun k hk => (gz_rwLi _ 8 _ _ k).trans (if_neg (show ¬ k = (gp_I s 6 4).toNat by omega))) (by subst_vars; exact fun k hk => (gz_rwLi _ 9 _ _ k).trans (if_neg (show ¬ k = (gp_I s 6 4).toNat by omega)))) (SK_of (s := s) (N := gp_I s 6 4) (D := v7_112) (p0 := p0) (p1 := p1) (xr6_4 hs).1 (by omega) (by subst_vars; exact (gz_rwLi _ 8 _ _ _).trans (if_pos rfl)) (by subst_vars; exact (gz_rwLi _ 9 _ _ _).trans (if_pos rfl)) (by subst_vars; exact fun k hk => (gz_rwi _ 12 _ _ k).trans (if_neg (show ¬ k = (gp_I s 6 4).toNat by omega))) (by subst_vars; exact (gz_rwi _ 12 _ _ _).trans (if_pos rfl)) (fun i hi => by have h9 := iv1_112 i hi; rw [‹v8_112 = 0#64›] at h9; simp at h9; subst_vars; exact h9) q1 q2) (hSKX) (S2_sk hs q0 q3 hSKX (by omega) (by subst_vars; exact fun k => rfl) (by subst_vars; exact fun k => rfl)) (DSA_sk hs q4 hSKX (by omega)) (pd_121)
          · have hz_122 : ¬ v8_112 = 0#64 := fun q => h_113 ((gm_cmp0 _ _).mpr q)
            refine xm_lowest _ (fun x_123 p_124 p_125 => ⟨_, rfl, ?_⟩)
            have hlw := iv0_112.low (by assumption) p_125
            have hbl := (bd_or q1 q2) _ hlw.2.2
            have hlo := p_125
            refine ⟨by omega, ?_⟩
            have f_126 := xr12 hs_108 (Int.toNat x_123)
            try rw [show gp_wr (1 + (gp_I s_106 12 (Int.toNat x_123))) = 1 + (gp_I s_106 12 (Int.toNat x_123)) from gp_wr_id (by omega) (by omega)]
            have w_127 := gz_mx (v7_112) (1 + (gp_I s_106 12 (Int.toNat x_123)))
            exact ih_112 _ _ (by omega) (by first | assumption | exact sub.refl _ | exact sub.rest (by assumption)) (sk_step iv1_112 (by assumption) (by assumption)) (by first | omega | assumption) (sk_s2 iv3_112 iv0_112 (by assumption) hlo) (by have := rest_lt (by assumption : ¬ v8_112 = 0#64); omega)
      exact lp_112 _ _ _ (by omega) (by first | assumption | exact sub.refl _ | exact sub.rest (by assumption)) (fun i hi => Or.inl hi) (by first | omega | assumption) (Or.inl rfl) (Nat.lt_succ_self _)
set_option maxRecDepth 100000 in
/-- Pool.settle -/
theorem xm_settleI  {L d : Nat} {K : Option gV → gH → Prop} {s : gH}   (hs : XI L 0 s)  (q0 : PO s) (q1 : SK s) (q2 : S2P s) (k : ∀ (r : Int), ∀ (t : gH), XI L 0 t → gX L false [13, 14, 1196] s t → ((-1) ≤ r ∧ r ≤ 59) → (PO t) → ((r = -1 ∧ gp_I t 6 4 = gp_I s 6 4 ∧ gp_I s 6 4 = 60) ∨ (0 ≤ r ∧ r < gp_I t 6 4 ∧ gp_I s 6 4 ≤ gp_I t 6 4 ∧ gp_I t 6 4 ≤ gp_I s 6 4 + 1)) → (S2P t) → (STX s t r) → (IK s t) → K (some (gp_i r)) t) : gs_C L (d + 3) 1027 6 [gp_r (some 6)] s K := by
  have f_1 := xr6_4 hs
  refine s_1027_e ?_
  have f_2 := xr6_4 hs
  have lp_3 : ∀ (n_3 : Nat) (v1_3 : Int) (v2_3 : Int) (v3_3 : gV) (v4_3 : gV) (v5_3 : gV), (0 ≤ v1_3 ∧ v1_3 ≤ 60) → (0 ≤ v2_3 ∧ v2_3 ≤ 60) → (v1_3 ≤ v2_3) → (v2_3 ≤ gp_I s 6 4) → (∀ q : Nat, v2_3 ≤ q → (q : Int) < gp_I s 6 4 → LtNs s (gp_I s 6 4).toNat (gp_I s 14 q).toNat) → (∀ q : Nat, (q : Int) < v1_3 → LtNs s (gp_I s 14 q).toNat (gp_I s 6 4).toNat) → (Int.toNat (v2_3 - v1_3)) < n_3 → gs_E L (d + 3) 1027 7 [gp_r (some 6), gp_i v1_3, gp_i v2_3, v3_3, v4_3, v5_3] [] s K := by
    intro n_3
    induction n_3 with
    | zero => intro v1_3 v2_3 v3_3 v4_3 v5_3 hv1_3 hv2_3 iv0_3 iv1_3 iv2_3 iv3_3 hm_3; exact absurd hm_3 (Nat.not_lt_zero _)
    | succ n_3 ih_3 =>
      intro v1_3 v2_3 v3_3 v4_3 v5_3 hv1_3 hv2_3 iv0_3 iv1_3 iv2_3 iv3_3 hm_3
      refine s_1027_7 _ _ _ _ _ ?_
      refine ⟨fun h_4 => ?_, fun h_4 => ?_⟩
      · try rw [show gp_wr (v1_3 + v2_3) = v1_3 + v2_3 from gp_wr_id (by omega) (by omega)]
        have w_5 : gp_ushr (v1_3 + v2_3) 1 = (v1_3 + v2_3) / 2 := gz_ush (v1_3 + v2_3) 1 2 (by decide) (by omega) (by decide)
        refine ⟨by omega, ?_⟩
        have f_6 := xr14 hs (Int.toNat (gp_ushr (v1_3 + v2_3) 1))
        have hpo := q0.1 (Int.toNat (gp_ushr (v1_3 + v2_3) 1)) (by omega)
        have f_7 := xr6_4 hs
        refine ⟨by omega, ?_⟩
        have f_8 := xr12 hs (Int.toNat (gp_I s 6 4))
        refine ⟨by omega, ?_⟩
        have f_9 := xr12 hs (Int.toNat (gp_I s 14 (Int.toNat (gp_ushr (v1_3 + v2_3) 1))))
        refine xm_cmp _ _ (fun x_10 p_11 p_12 => ⟨_, rfl, ?_⟩)
        have hd9 := p_12
        refine ⟨fun h_13 => ?_, fun h_13 => ?_⟩
        · have f_14 := xr6_4 hs
          refine xm_sideWayX _ _ _ hs (by omega) (by omega) (fun x_15 p_16 p_17 => ⟨_, rfl, ?_⟩)
          refine s_1027_74 _ _ _ _ _ _ ?_
          have hs09 := p_17
          refine ⟨fun h_18 => ?_, fun h_18 => ?_⟩
          · have f_19 := xr6_4 hs
            refine xm_sideWayX _ _ _ hs (by omega) (by omega) (fun x_20 p_21 p_22 => ⟨_, rfl, ?_⟩)
            refine s_1027_97 _ _ _ _ _ _ ?_
            have hs19 := p_22
            have hway : WAYP s (gp_I s 14 (Int.toNat (gp_ushr (v1_3 + v2_3) 1))) x_20 := by first | exact WY_a hd9 (by assumption) | exact WY_b hd9 (by assumption) hs09 (by assumption) | exact WY_c hd9 (by assumption) hs09 (by assumption) hs19 | (exfalso; omega)
            refine ⟨fun h_23 => ?_, fun h_23 => ?_⟩
            · exact k _ s hs (gX.refl _ _ _ _) (by omega) (by assumption) (by first | omega | assumption) (by assumption) (Or.inl ⟨Int.toNat (gp_I s 14 (Int.toNat (gp_ushr (v1_3 + v2_3) 1))), by omega, by omega, (by rcases hway with q | q | q; omega; exact q.2; omega), rfl⟩) ((IK_r s))
            · refine ⟨fun h_24 => ?_, fun h_24 => ?_⟩
              · refine s_1027_121 _ _ _ _ _ ?_
                exact ih_3 _ _ _ _ _ (by omega) (by omega) (by first | omega | assumption) (by first | omega | assumption) (by first | exact iv2_3 | exact up_lt (to := 0) hs q0 q2 hway (by omega) rfl (by omega)) (by first | exact iv3_3 | exact dn_lt hs q0 q2 hway (by omega) rfl (by omega)) (by omega)
              · try rw [show gp_wr ((gp_ushr (v1_3 + v2_3) 1) + 1) = (gp_ushr (v1_3 + v2_3) 1) + 1 from gp_wr_id (by omega) (by omega)]
                refine s_1027_121 _ _ _ _ _ ?_
                exact ih_3 _ _ _ _ _ (by omega) (by omega) (by first | omega | assumption) (by first | omega | assumption) (by first | exact iv2_3 | exact up_lt (to := 0) hs q0 q2 hway (by omega) rfl (by omega)) (by first | exact iv3_3 | exact dn_lt hs q0 q2 hway (by omega) rfl (by omega)) (by omega)
          · refine s_1027_97 _ _ _ _ _ _ ?_
            have hs19 := p_17
            have hway : WAYP s (gp_I s 14 (Int.toNat (gp_ushr (v1_3 + v2_3) 1))) x_15 := by first | exact WY_a hd9 (by assumption) | exact WY_b hd9 (by assumption) hs09 (by assumption) | exact WY_c hd9 (by assumption) hs09 (by assumption) hs19 | (exfalso; omega)
            refine ⟨fun h_25 => ?_, fun h_25 => ?_⟩
            · exact k _ s hs (gX.refl _ _ _ _) (by omega) (by assumption) (by first | omega | assumption) (by assumption) (Or.inl ⟨Int.toNat (gp_I s 14 (Int.toNat (gp_ushr (v1_3 + v2_3) 1))), by omega, by omega, (by rcases hway with q | q | q; omega; exact q.2; omega), rfl⟩) ((IK_r s))
            · refine ⟨fun h_26 => ?_, fun h_26 => ?_⟩
              · refine s_1027_121 _ _ _ _ _ ?_
                exact ih_3 _ _ _ _ _ (by omega) (by omega) (by first | omega | assumption) (by first | omega | assumption) (by first | exact iv2_3 | exact up_lt (to := 0) hs q0 q2 hway (by omega) rfl (by omega)) (by first | exact iv3_3 | exact dn_lt hs q0 q2 hway (by omega) rfl (by omega)) (by omega)
              · try rw [show gp_wr ((gp_ushr (v1_3 + v2_3) 1) + 1) = (gp_ushr (v1_3 + v2_3) 1) + 1 from gp_wr_id (by omega) (by omega)]
                refine s_1027_121 _ _ _ _ _ ?_
                exact ih_3 _ _ _ _ _ (by omega) (by omega) (by first | omega | assumption) (by first | omega | assumption) (by first | exact iv2_3 | exact up_lt (to := 0) hs q0 q2 hway (by omega) rfl (by omega)) (by first | exact iv3_3 | exact dn_lt hs q0 q2 hway (by omega) rfl (by omega)) (by omega)
        · refine s_1027_74 _ _ _ _ _ _ ?_
          have hs09 := p_12
          refine ⟨fun h_27 => ?_, fun h_27 => ?_⟩
          · have f_28 := xr6_4 hs
            refine xm_sideWayX _ _ _ hs (by omega) (by omega) (fun x_29 p_30 p_31 => ⟨_, rfl, ?_⟩)
            refine s_1027_97 _ _ _ _ _ _ ?_
            have hs19 := p_31
            have hway : WAYP s (gp_I s 14 (Int.toNat (gp_ushr (v1_3 + v2_3) 1))) x_29 := by first | exact WY_a hd9 (by assumption) | exact WY_b hd9 (by assumption) hs09 (by assumption) | exact WY_c hd9 (by assumption) hs09 (by assumption) hs19 | (exfalso; omega)
            refine ⟨fun h_32 => ?_, fun h_32 => ?_⟩
            · exact k _ s hs (gX.refl _ _ _ _) (by omega) (by assumption) (by first | omega | assumption) (by assumption) (Or.inl ⟨Int.toNat (gp_I s 14 (Int.toNat (gp_ushr (v1_3 + v2_3) 1))), by omega, by omega, (by rcases hway with q | q | q; omega; exact q.2; omega), rfl⟩) ((IK_r s))
            · refine ⟨fun h_33 => ?_, fun h_33 => ?_⟩
              · refine s_1027_121 _ _ _ _ _ ?_
                exact ih_3 _ _ _ _ _ (by omega) (by omega) (by first | omega | assumption) (by first | omega | assumption) (by first | exact iv2_3 | exact up_lt (to := 0) hs q0 q2 hway (by omega) rfl (by omega)) (by first | exact iv3_3 | exact dn_lt hs q0 q2 hway (by omega) rfl (by omega)) (by omega)
              · try rw [show gp_wr ((gp_ushr (v1_3 + v2_3) 1) + 1) = (gp_ushr (v1_3 + v2_3) 1) + 1 from gp_wr_id (by omega) (by omega)]
                refine s_1027_121 _ _ _ _ _ ?_
                exact ih_3 _ _ _ _ _ (by omega) (by omega) (by first | omega | assumption) (by first | omega | assumption) (by first | exact iv2_3 | exact up_lt (to := 0) hs q0 q2 hway (by omega) rfl (by omega)) (by first | exact iv3_3 | exact dn_lt hs q0 q2 hway (by omega) rfl (by omega)) (by omega)
          · refine s_1027_97 _ _ _ _ _ _ ?_
            have hs19 := p_12
            have hway : WAYP s (gp_I s 14 (Int.toNat (gp_ushr (v1_3 + v2_3) 1))) x_10 := by first | exact WY_a hd9 (by assumption) | exact WY_b hd9 (by assumption) hs09 (by assumption) | exact WY_c hd9 (by assumption) hs09 (by assumption) hs19 | (exfalso; omega)
            refine ⟨fun h_34 => ?_, fun h_34 => ?_⟩
            · exact k _ s hs (gX.refl _ _ _ _) (by omega) (by assumption) (by first | omega | assumption) (by assumption) (Or.inl ⟨Int.toNat (gp_I s 14 (Int.toNat (gp_ushr (v1_3 + v2_3) 1))), by omega, by omega, (by rcases hway with q | q | q; omega; exact q.2; omega), rfl⟩) ((IK_r s))
            · refine ⟨fun h_35 => ?_, fun h_35 => ?_⟩
              · refine s_1027_121 _ _ _ _ _ ?_
                exact ih_3 _ _ _ _ _ (by omega) (by omega) (by first | omega | assumption) (by first | omega | assumption) (by first | exact iv2_3 | exact up_lt (to := 0) hs q0 q2 hway (by omega) rfl (by omega)) (by first | exact iv3_3 | exact dn_lt hs q0 q2 hway (by omega) rfl (by omega)) (by omega)
              · try rw [show gp_wr ((gp_ushr (v1_3 + v2_3) 1) + 1) = (gp_ushr (v1_3 + v2_3) 1) + 1 from gp_wr_id (by omega) (by omega)]
                refine s_1027_121 _ _ _ _ _ ?_
                exact ih_3 _ _ _ _ _ (by omega) (by omega) (by first | omega | assumption) (by first | omega | assumption) (by first | exact iv2_3 | exact up_lt (to := 0) hs q0 q2 hway (by omega) rfl (by omega)) (by first | exact iv3_3 | exact dn_lt hs q0 q2 hway (by omega) rfl (by omega)) (by omega)
      · have hno := ST_no (f := v1_3) q0 (fun q a b => iv2_3 q (by omega) b) iv3_3 (fun k => (xr13 hs k).1)
        have f_36 := xr6_4 hs
        refine ⟨fun h_37 => ?_, fun h_37 => ?_⟩
        · have f_38 := xr6_4 hs
          have lp_39 : ∀ (n_39 : Nat) (v3_39 : Int) (v4_39 : gV) (v5_39 : gV) (s_39 : gH), (XI L 0 s_39) → (gX L false [13, 14, 1196] s s_39) → (IK s s_39) → (0 ≤ v3_39 ∧ v3_39 ≤ 60) → (gp_I s_39 6 4 = gp_I s 6 4) → (SH s s_39 v3_39) → (v1_3 ≤ v3_39) → (v3_39 ≤ gp_I s 6 4) → (v3_39 + 1).toNat < n_39 → gs_E L (d + 3) 1027 140 [gp_r (some 6), gp_i v1_3, gp_i v2_3, gp_i v3_39, v4_39, v5_39] [] s_39 K := by
            intro n_39
            induction n_39 with
            | zero => intro v3_39 v4_39 v5_39 s_39 hs_s_39 hf_s_39 IK_s_s_39 hv3_39 tk0_39 iv0_39 iv1_39 iv2_39 hm_39; exact absurd hm_39 (Nat.not_lt_zero _)
            | succ n_39 ih_39 =>
              intro v3_39 v4_39 v5_39 s_39 hs_s_39 hf_s_39 IK_s_s_39 hv3_39 tk0_39 iv0_39 iv1_39 iv2_39 hm_39
              refine s_1027_140 _ _ _ _ _ ?_
              refine ⟨fun h_40 => ?_, fun h_40 => ?_⟩
              · try rw [show gp_wr (v3_39 - 1) = v3_39 - 1 from gp_wr_id (by omega) (by omega)]
                refine ⟨by omega, ?_⟩
                have f_41 := xr14 hs_s_39 (Int.toNat (v3_39 - 1))
                refine ⟨by omega, ?_⟩
                intro s_42 e_43
                have hs_44 : XI L 0 s_42 := by rw [e_43]; exact xw14 hs_s_39 _ _ (by omega)
                have hf_45 : gX L false [13, 14, 1196] s s_42 := by rw [e_43]; exact gX.wI hf_s_39 (Or.inl rfl)
                have q_46 : gp_I s_42 6 4 = gp_I s_39 6 4 := by rw [e_43] <;> first | rfl | exact I_ne (by omega)
                have pd_47 : IK s s_42 := by rw [e_43]; exact IK_wI IK_s_s_39 (Or.inl (by decide))
                refine ⟨by omega, ?_⟩
                have f_48 := xr14 hs_44 (Int.toNat v3_39)
                refine ⟨by omega, ?_⟩
                intro s_49 e_50
                have hs_51 : XI L 0 s_49 := by rw [e_50]; exact xw13 hs_44 _ _ (by omega)
                have hf_52 : gX L false [13, 14, 1196] s s_49 := by rw [e_50]; exact gX.wI hf_45 (Or.inl rfl)
                have q_53 : gp_I s_49 6 4 = gp_I s_42 6 4 := by rw [e_50] <;> first | rfl | exact I_ne (by omega)
                have pd_54 : IK s s_49 := by rw [e_50]; exact IK_wI pd_47 (Or.inl (by decide))
                try rw [show gp_wr (v3_39 + (-1)) = v3_39 + (-1) from gp_wr_id (by omega) (by omega)]
                exact ih_39 _ _ _ _ hs_51 hf_52 pd_54 (by omega) (by first | rfl | omega) (SH_s2 q0 hs iv0_39 (by omega) (by omega) (by assumption) (by assumption)) (by first | omega | assumption) (by first | omega | assumption) (by omega)
              · have hSH : SH s s_39 v1_3 := by rw [show v1_3 = v3_39 by omega]; exact iv0_39
                have f_55 := xr6_4 hs_s_39
                refine ⟨by omega, ?_⟩
                intro s_56 e_57
                have hs_58 : XI L 0 s_56 := by rw [e_57]; exact xw14 hs_s_39 _ _ (by omega)
                have hf_59 : gX L false [13, 14, 1196] s s_56 := by rw [e_57]; exact gX.wI hf_s_39 (Or.inl rfl)
                have q_60 : gp_I s_56 6 4 = gp_I s_39 6 4 := by rw [e_57] <;> first | rfl | exact I_ne (by omega)
                have pd_61 : IK s s_56 := by rw [e_57]; exact IK_wI IK_s_s_39 (Or.inl (by decide))
                have f_62 := xr6_4 hs_58
                refine ⟨by omega, ?_⟩
                intro s_63 e_64
                have hs_65 : XI L 0 s_63 := by rw [e_64]; exact xw13 hs_58 _ _ (by omega)
                have hf_66 : gX L false [13, 14, 1196] s s_63 := by rw [e_64]; exact gX.wI hf_59 (Or.inl rfl)
                have q_67 : gp_I s_63 6 4 = gp_I s_56 6 4 := by rw [e_64] <;> first | rfl | exact I_ne (by omega)
                have pd_68 : IK s s_63 := by rw [e_64]; exact IK_wI pd_61 (Or.inl (by decide))
                have f_69 := xr6_4 hs_65
                try rw [show gp_wr ((gp_I s_63 6 4) + 1) = (gp_I s_63 6 4) + 1 from gp_wr_id (by omega) (by omega)]
                intro s_70 e_71
                have hs_72 : XI L 0 s_70 := by rw [e_71]; exact xw6_4 hs_65 _ (by omega)
                have hf_73 : gX L false [13, 14, 1196] s s_70 := by rw [e_71]; exact gX.wI hf_66 (Or.inl rfl)
                have q_74 : gp_I s_70 6 4 = (gp_I s_63 6 4) + 1 := by rw [e_71]; exact (gz_rw _ _ _ _ _).1 rfl
                have pd_75 : IK s s_70 := by rw [e_71]; exact IK_wI pd_68 (Or.inl (by decide))
                have f_76 := xr6_4 hs_72
                try rw [show gp_wr ((gp_I s_70 6 4) - 1) = (gp_I s_70 6 4) - 1 from gp_wr_id (by omega) (by omega)]
                exact k _ s_70 hs_72 hf_73 (by omega) (PO_ins2 q0 q1 hs hSH (by omega) (by omega) (fun q a b => (by have h9 := iv2_3 q (by omega) b; rcases h9 with h8 | h8 <;> omega)) (fun q a => (by have h9 := iv3_3 q a; rcases h9 with h8 | h8 <;> omega)) hf_s_39 (by omega) (by assumption) (by assumption) (by assumption)) (by first | omega | assumption) (S2_ins q0 q2 hs hSH (by omega) (by omega) (fun q a b => iv2_3 q (by omega) b) iv3_3 hf_s_39 (by omega) (by assumption) (by assumption) (by assumption)) (Or.inr ⟨hno, Or.inr ⟨by omega, by omega, by omega⟩⟩) (pd_75)
          exact lp_39 _ _ _ _ _ hs (gX.refl _ _ _ _) (IK_r s) (by omega) (by first | rfl | omega) (SH_0 q0) (by first | omega | assumption) (by first | omega | assumption) (Nat.lt_succ_self _)
        · exact k _ s hs (gX.refl _ _ _ _) (by omega) (by assumption) (by first | omega | assumption) (by assumption) (Or.inr ⟨hno, Or.inl ⟨rfl, by omega, rfl⟩⟩) ((IK_r s))
  exact lp_3 _ _ _ _ _ _ (by omega) (by omega) (by first | omega | assumption) (by first | omega | assumption) (fun q h1 h2 => by omega) (fun q h1 => by omega) (Nat.lt_succ_self _)
set_option maxRecDepth 100000 in
/-- Pool.add -/
theorem xm_addI  {L d : Nat} {K : Option gV → gH → Prop} {s : gH}  (p0 : BitVec 64) (p1 : BitVec 64) (p2 : Int) (p3 : Int) (hs : XI L 0 s)  (q0 : PO s) (q1 : bd p0 (gp_I s 6 4)) (q2 : bd p1 (gp_I s 6 4)) (q3 : S2P s) (q4 : DSA s) (q5 : GVC s) (k : ∀ (r : Int), ∀ (t : gH), XI L 0 t → gX L false [8, 9, 10, 11, 12, 13, 14, 1196] s t → ((-1) ≤ r ∧ r ≤ 59) → (PO t) → ((r = -1 ∧ gp_I t 6 4 = gp_I s 6 4 ∧ gp_I s 6 4 = 60) ∨ (0 ≤ r ∧ r < gp_I t 6 4 ∧ gp_I s 6 4 ≤ gp_I t 6 4 ∧ gp_I t 6 4 ≤ gp_I s 6 4 + 1)) → (S2P t) → (ADX s t p0 p1 p2 p3 r) → (DSA t) → (IK s t) → (AV s t p0 p1 p2 p3 r) → K (some (gp_i r)) t) : gs_C L (d + 4) 1028 7 [gp_r (some 6), gp_l p0, gp_l p1, gp_i p2, gp_i p3] s K := by
  have f_1 := xr6_4 hs
  refine s_1028_e _ _ _ _ ?_
  refine xm_sketchI _ _ _ _ hs (q0) (by first | assumption | exact bd_le (by assumption) (by omega) | exact bd_0 _) (by first | assumption | exact bd_le (by assumption) (by omega) | exact bd_0 _) (by assumption) (by assumption) (fun s_2 hs_3 hf_4 p_5 p_6 p_7 p_8 p_9 p_10 => ⟨rfl, ?_⟩)
  have hf_11 : gX L false [8, 9, 10, 11, 12, 13, 14, 1196] s s_2 := gX.sub hf_4 rfl rfl
  have q_12 : gp_I s_2 6 4 = gp_I s 6 4 := (hf_4.2.2.1 6 4 (by decide) (by decide) rfl).1
  have pd_13 : IK s s_2 := IK_t (IK_r s) p_10 ((gX.refl L true [] s).1.1)
  have hSKX := p_7
  have hS2 := p_8
  have hDS := p_9
  have hsu := hs_3
  refine xm_settleI hs_3 (p_5) (p_6) (by assumption) (fun x_14 s_15 hs_16 hf_17 p_18 p_19 p_20 p_21 p_22 p_23 => ⟨_, rfl, ?_⟩)
  have hf_24 : gX L false [8, 9, 10, 11, 12, 13, 14, 1196] s s_15 := gX.trans hf_11 hf_17 rfl rfl
  have pd_25 : IK s s_15 := IK_t pd_13 p_23 ((hf_11).1.1)
  have hAD := ADX_of hsu hSKX hDS (by omega) (xr6_4 hs).1 p_22 hf_17
  have hS9 := p_21
  have hAV := AV_of (s := s) hs hs_16 q5 hAD.1 q1 q2
  exact k _ s_15 hs_16 hf_24 (by omega) (p_19) (by first | omega | assumption) (hS9) (hAD.1) (hAD.2) (pd_25) (hAV)
set_option maxRecDepth 100000 in
/-- GatheredPoints.carried -/
theorem xm_carried15X  {L d : Nat} {K : Option gV → gH → Prop} {s : gH} (N M : Int) (p0 : BitVec 64) (hs : XI L 0 s)  (q0 : bd p0 M) (q1 : M ≤ 61) (q2 : N ≤ 61) (q3 : ∀ k : Nat, p0.getLsbD k = true → 0 ≤ gp_I s 15 k ∧ gp_I s 15 k < N) (k : ∀ (r : BitVec 64), (bd r N) → (CAR p0 r (fun j => (gp_I s 15 j).toNat)) → K (some (gp_l r)) s) : gs_C L (d + 2) 2863 7 [gp_l p0, gp_r (some 15)] s K := by
  refine s_2863_e _ _ ?_
  have lp_2 : ∀ (n_2 : Nat) (v3_2 : BitVec 64) (v5_2 : BitVec 64), (bd v3_2 N) → (sub v5_2 p0) → (CRI (fun j => (gp_I s 15 j).toNat) p0 v5_2 v3_2) → ((v5_2).toNat) < n_2 → gs_E L (d + 2) 2863 5 [gp_l p0, gp_n, gp_r (some 15), gp_l v3_2, gp_n, gp_l v5_2, gp_n] [] s K := by
    intro n_2
    induction n_2 with
    | zero => intro v3_2 v5_2 iv0_2 iv1_2 iv2_2 hm_2; exact absurd hm_2 (Nat.not_lt_zero _)
    | succ n_2 ih_2 =>
      intro v3_2 v5_2 iv0_2 iv1_2 iv2_2 hm_2
      refine s_2863_5 _ _ _ _ ?_
      refine ⟨fun h_3 => ?_, fun h_3 => ?_⟩
      · have hz_4 : v5_2 = 0#64 := (gm_cmp0 _ _).mp h_3
        exact k _ (by first | assumption | exact bd_le (by assumption) (by omega) | exact bd_0 _) (CRI_e iv2_2 (by assumption))
      · have hz_5 : ¬ v5_2 = 0#64 := fun q => h_3 ((gm_cmp0 _ _).mpr q)
        refine xm_lowest _ (fun x_6 p_7 p_8 => ⟨_, rfl, ?_⟩)
        have hlw := iv1_2.low (by assumption) p_8
        have hq3 := q3 (Int.toNat x_6) hlw.2.2
        have hq0 := q0 _ hlw.2.2
        refine ⟨15, rfl, ?_⟩
        refine ⟨⟨rfl, by show 0 ≤ x_6 ∧ x_6 < 61; omega⟩, ?_⟩
        have f_9 := xr15 hs (Int.toNat x_6)
        exact ih_2 _ _ (by refine bd_or iv0_2 (bd_sh ?_ ?_ ?_) <;> omega) (by first | assumption | exact sub.refl _ | exact sub.rest (by assumption)) (CRI_s iv2_2 iv1_2 (by assumption) (by assumption) (by omega) (by omega)) (by have := rest_lt (by assumption : ¬ v5_2 = 0#64); omega)
  exact lp_2 _ _ _ (bd_0 _) (by first | assumption | exact sub.refl _ | exact sub.rest (by assumption)) (CRI_0) (Nat.lt_succ_self _)
set_option maxRecDepth 100000 in
/-- GatheredPoints.carried -/
theorem xm_carried21X  {L d : Nat} {K : Option gV → gH → Prop} {s : gH} (N M : Int) (p0 : BitVec 64) (hs : XI L 0 s)  (q0 : bd p0 M) (q1 : M ≤ 61) (q2 : N ≤ 61) (q3 : ∀ k : Nat, p0.getLsbD k = true → 0 ≤ gp_I s 21 k ∧ gp_I s 21 k < N) (k : ∀ (r : BitVec 64), (bd r N) → (CAR p0 r (fun j => (gp_I s 21 j).toNat)) → K (some (gp_l r)) s) : gs_C L (d + 2) 2863 7 [gp_l p0, gp_r (some 21)] s K := by
  refine s_2863_e _ _ ?_
  have lp_2 : ∀ (n_2 : Nat) (v3_2 : BitVec 64) (v5_2 : BitVec 64), (bd v3_2 N) → (sub v5_2 p0) → (CRI (fun j => (gp_I s 21 j).toNat) p0 v5_2 v3_2) → ((v5_2).toNat) < n_2 → gs_E L (d + 2) 2863 5 [gp_l p0, gp_n, gp_r (some 21), gp_l v3_2, gp_n, gp_l v5_2, gp_n] [] s K := by
    intro n_2
    induction n_2 with
    | zero => intro v3_2 v5_2 iv0_2 iv1_2 iv2_2 hm_2; exact absurd hm_2 (Nat.not_lt_zero _)
    | succ n_2 ih_2 =>
      intro v3_2 v5_2 iv0_2 iv1_2 iv2_2 hm_2
      refine s_2863_5 _ _ _ _ ?_
      refine ⟨fun h_3 => ?_, fun h_3 => ?_⟩
      · have hz_4 : v5_2 = 0#64 := (gm_cmp0 _ _).mp h_3
        exact k _ (by first | assumption | exact bd_le (by assumption) (by omega) | exact bd_0 _) (CRI_e iv2_2 (by assumption))
      · have hz_5 : ¬ v5_2 = 0#64 := fun q => h_3 ((gm_cmp0 _ _).mpr q)
        refine xm_lowest _ (fun x_6 p_7 p_8 => ⟨_, rfl, ?_⟩)
        have hlw := iv1_2.low (by assumption) p_8
        have hq3 := q3 (Int.toNat x_6) hlw.2.2
        have hq0 := q0 _ hlw.2.2
        refine ⟨21, rfl, ?_⟩
        refine ⟨⟨rfl, by show 0 ≤ x_6 ∧ x_6 < 61; omega⟩, ?_⟩
        have f_9 := xr21 hs (Int.toNat x_6)
        exact ih_2 _ _ (by refine bd_or iv0_2 (bd_sh ?_ ?_ ?_) <;> omega) (by first | assumption | exact sub.refl _ | exact sub.rest (by assumption)) (CRI_s iv2_2 iv1_2 (by assumption) (by assumption) (by omega) (by omega)) (by have := rest_lt (by assumption : ¬ v5_2 = 0#64); omega)
  exact lp_2 _ _ _ (bd_0 _) (by first | assumption | exact sub.refl _ | exact sub.rest (by assumption)) (CRI_0) (Nat.lt_succ_self _)
set_option maxRecDepth 100000 in
/-- Maker.pairMask -/
theorem xm_pairMaskX  {L d : Nat} {K : Option gV → gH → Prop} {s : gH} (N : Int) (p0 : BitVec 64) (p1 : BitVec 64) (p2 : Int) (p3 : Int) (hs : XI L 0 s) (h_p2 : 0 ≤ p2 ∧ p2 ≤ 59) (h_p3 : 0 ≤ p3 ∧ p3 ≤ 59) (q0 : bd p0 p2) (q1 : bd p1 p3) (q2 : N ≤ 61) (q3 : ∀ a : Nat, p0.getLsbD a = true → 0 ≤ gp_I s 22 (a * 60 + Int.toNat p3) ∧ gp_I s 22 (a * 60 + Int.toNat p3) < N) (q4 : ∀ b : Nat, p1.getLsbD b = true → 0 ≤ gp_I s 22 (Int.toNat p2 * 60 + b) ∧ gp_I s 22 (Int.toNat p2 * 60 + b) < N) (k : ∀ (r : BitVec 64), (bd r N) → (PMK p0 p1 (fun j => (gp_I s 22 j).toNat) (Int.toNat p2) (Int.toNat p3) r) → K (some (gp_l r)) s) : gs_C L (d + 2) 263 11 [gp_r (some 20), gp_l p0, gp_l p1, gp_i p2, gp_i p3] s K := by
  refine s_263_e _ _ _ _ ?_
  have lp_1 : ∀ (n_1 : Nat) (v7_1 : BitVec 64) (v9_1 : BitVec 64), (bd v7_1 N) → (sub v9_1 p0) → (PMI (fun j => (gp_I s 22 j).toNat) p0 v9_1 p1 p1 (Int.toNat p2) (Int.toNat p3) v7_1) → ((v9_1).toNat) < n_1 → gs_E L (d + 2) 263 6 [gp_r (some 20), gp_l p0, gp_n, gp_l p1, gp_n, gp_i p2, gp_i p3, gp_l v7_1, gp_n, gp_l v9_1, gp_n] [] s K := by
    intro n_1
    induction n_1 with
    | zero => intro v7_1 v9_1 iv0_1 iv1_1 iv2_1 hm_1; exact absurd hm_1 (Nat.not_lt_zero _)
    | succ n_1 ih_1 =>
      intro v7_1 v9_1 iv0_1 iv1_1 iv2_1 hm_1
      refine s_263_6 _ _ _ _ _ _ ?_
      refine ⟨fun h_2 => ?_, fun h_2 => ?_⟩
      · have hz_3 : v9_1 = 0#64 := (gm_cmp0 _ _).mp h_2
        have lp_4 : ∀ (n_4 : Nat) (v7_4 : BitVec 64) (v9_4 : BitVec 64), (bd v7_4 N) → (sub v9_4 p1) → (PMI (fun j => (gp_I s 22 j).toNat) p0 0#64 p1 v9_4 (Int.toNat p2) (Int.toNat p3) v7_4) → ((v9_4).toNat) < n_4 → gs_E L (d + 2) 263 51 [gp_r (some 20), gp_l p0, gp_n, gp_l p1, gp_n, gp_i p2, gp_i p3, gp_l v7_4, gp_n, gp_l v9_4, gp_n] [] s K := by
          intro n_4
          induction n_4 with
          | zero => intro v7_4 v9_4 iv0_4 iv1_4 iv2_4 hm_4; exact absurd hm_4 (Nat.not_lt_zero _)
          | succ n_4 ih_4 =>
            intro v7_4 v9_4 iv0_4 iv1_4 iv2_4 hm_4
            refine s_263_51 _ _ _ _ _ _ ?_
            refine ⟨fun h_5 => ?_, fun h_5 => ?_⟩
            · have hz_6 : v9_4 = 0#64 := (gm_cmp0 _ _).mp h_5
              exact k _ (by first | assumption | exact bd_le (by assumption) (by omega) | exact bd_0 _) (PMI_e iv2_4 rfl (by assumption))
            · have hz_7 : ¬ v9_4 = 0#64 := fun q => h_5 ((gm_cmp0 _ _).mpr q)
              try rw [show gp_wr (p2 * 60) = p2 * 60 from gp_wr_id (by omega) (by omega)]
              refine xm_lowest _ (fun x_8 p_9 p_10 => ⟨_, rfl, ?_⟩)
              have hlw := iv1_4.low (by assumption) p_10
              have hl0 := q1 _ hlw.2.2
              obtain ⟨z9, hz9⟩ : ∃ z, z = x_8 := ⟨_, rfl⟩
              try rw [show gp_wr ((p2 * 60) + x_8) = (p2 * 60) + x_8 from gp_wr_id (by omega) (by omega)]
              have hq4 := q4 _ hlw.2.2
              have hix : ∀ a : Nat, a = Int.toNat ((p2 * 60) + x_8) → 0 ≤ gp_I s 22 a → gp_I s 22 a < N → 0 ≤ gp_I s 22 (Int.toNat ((p2 * 60) + x_8)) ∧ gp_I s 22 (Int.toNat ((p2 * 60) + x_8)) < N := fun a e h1 h2 => by subst e; exact ⟨h1, h2⟩
              have hq9 := hix _ (by omega) hq4.1 hq4.2
              have hq8 : gp_I s 22 (Int.toNat p2 * 60 + Int.toNat z9) = gp_I s 22 (Int.toNat (((p2 * 60) + x_8))) := by rw [show Int.toNat p2 * 60 + Int.toNat z9 = Int.toNat (((p2 * 60) + x_8)) by omega]
              refine ⟨by omega, ?_⟩
              have f_11 := xr22 hs (Int.toNat ((p2 * 60) + x_8))
              exact ih_4 _ _ (by refine bd_or iv0_4 (bd_sh ?_ ?_ ?_) <;> omega) (by first | assumption | exact sub.refl _ | exact sub.rest (by assumption)) (PMI_y (z := z9) iv2_4 iv1_4 (by assumption) (by omega) (by omega) (by omega)) (by have := rest_lt (by assumption : ¬ v9_4 = 0#64); omega)
        exact lp_4 _ _ _ (iv0_1) (by first | assumption | exact sub.refl _ | exact sub.rest (by assumption)) (by have h9 := iv2_1; rw [show v9_1 = 0#64 by assumption] at h9; exact h9) (Nat.lt_succ_self _)
      · have hz_12 : ¬ v9_1 = 0#64 := fun q => h_2 ((gm_cmp0 _ _).mpr q)
        refine xm_lowest _ (fun x_13 p_14 p_15 => ⟨_, rfl, ?_⟩)
        have hlw := iv1_1.low (by assumption) p_15
        have hl0 := q0 _ hlw.2.2
        obtain ⟨z9, hz9⟩ : ∃ z, z = x_13 := ⟨_, rfl⟩
        try rw [show gp_wr (x_13 * 60) = x_13 * 60 from gp_wr_id (by omega) (by omega)]
        try rw [show gp_wr ((x_13 * 60) + p3) = (x_13 * 60) + p3 from gp_wr_id (by omega) (by omega)]
        have hq3 := q3 _ hlw.2.2
        have hix : ∀ a : Nat, a = Int.toNat ((x_13 * 60) + p3) → 0 ≤ gp_I s 22 a → gp_I s 22 a < N → 0 ≤ gp_I s 22 (Int.toNat ((x_13 * 60) + p3)) ∧ gp_I s 22 (Int.toNat ((x_13 * 60) + p3)) < N := fun a e h1 h2 => by subst e; exact ⟨h1, h2⟩
        have hq9 := hix _ (by omega) hq3.1 hq3.2
        have hq8 : gp_I s 22 (Int.toNat z9 * 60 + Int.toNat p3) = gp_I s 22 (Int.toNat (((x_13 * 60) + p3))) := by rw [show Int.toNat z9 * 60 + Int.toNat p3 = Int.toNat (((x_13 * 60) + p3)) by omega]
        refine ⟨by omega, ?_⟩
        have f_16 := xr22 hs (Int.toNat ((x_13 * 60) + p3))
        exact ih_1 _ _ (by refine bd_or iv0_1 (bd_sh ?_ ?_ ?_) <;> omega) (by first | assumption | exact sub.refl _ | exact sub.rest (by assumption)) (PMI_x (z := z9) iv2_1 iv1_1 (by assumption) (by omega) (by omega) (by omega)) (by have := rest_lt (by assumption : ¬ v9_1 = 0#64); omega)
  exact lp_1 _ _ _ (bd_0 _) (by first | assumption | exact sub.refl _ | exact sub.rest (by assumption)) (PMI_0) (Nat.lt_succ_self _)
