set_option maxRecDepth 100000 in
/-- Reader.readSide -/
theorem xm_readSideV (m : Nat) (ihS : RSV m) : RDV m := by
  intro L D K s p0 hD hs h_p0 q0 q1 q2 q3 q4 k
  obtain ⟨d, rfl⟩ : ∃ d, D = d + 18 := ⟨D - 18, by omega⟩
  have f_1 := xr46_3 hs
  have f_2 := xr46_5 hs
  have f_3 := xr46_6 hs
  have f_4 := xr46_7 hs
  have f_5 := xr46_8 hs
  refine s_1288_e _ ?_
  have hRK0 : RK L s s := fun _ _ => rfl
  have hR3 : SRC s (G3 s) (gp_I s 46 5) := ⟨rfl, rfl⟩
  refine xm_next hs (q0) (fun x_6 p_7 p_8 p_9 => ⟨_, rfl, ?_⟩)
  have hnx := p_8
  refine ⟨fun h_10 => ?_, fun h_10 => ?_⟩
  · have f_11 := xr46_6 hs
    try rw [show gp_wr ((gp_I s 46 6) + 1) = (gp_I s 46 6) + 1 from gp_wr_id (by omega) (by omega)]
    intro s_12 e_13
    have hs_14 : XI L 0 s_12 := by rw [e_13]; exact xw46_6 hs _ (by omega)
    have hf_15 : gX L true [8, 9, 10, 11, 12, 13, 14, 15, 21, 22, 47, 1196, 2475, 2478, 2479, 2480] s s_12 := by rw [e_13]; exact gX.wI (gX.refl _ _ _ _) (Or.inl rfl)
    have z_16 : gp_sz s_12 = gp_sz s ∧ gp_us s_12 = gp_us s := by rw [e_13]; exact ⟨rfl, rfl⟩
    have q_17 : gp_I s_12 46 3 = gp_I s 46 3 := by rw [e_13] <;> first | rfl | exact I_ne (by omega)
    have q_18 : gp_I s_12 46 5 = gp_I s 46 5 := by rw [e_13] <;> first | rfl | exact I_ne (by omega)
    have q_19 : gp_I s_12 46 6 = (gp_I s 46 6) + 1 := by rw [e_13]; exact (gz_rw _ _ _ _ _).1 rfl
    have q_20 : gp_I s_12 46 7 = gp_I s 46 7 := by rw [e_13] <;> first | rfl | exact I_ne (by omega)
    have q_21 : gp_I s_12 46 8 = gp_I s 46 8 := by rw [e_13] <;> first | rfl | exact I_ne (by omega)
    have pd_22 : RTX L s_12 := by rw [e_13]; exact RTX_fr q0 (gX.wI (gX.refl L true [2478] _) (Or.inl rfl)) rfl
    have pd_23 : RV L s_12 := by rw [e_13]; exact RV_fr q1 (gX.wI (gX.refl L true [2478] _) (Or.inl rfl)) rfl rfl
    have pd_24 : IK s s_12 := by rw [e_13]; exact IK_wI (IK_r s) (Or.inl (by decide))
    have pd_25 : RK L s s_12 := by rw [e_13]; exact RK_fr hRK0 (gX.wI (gX.refl L true [2478] _) (Or.inl rfl)) rfl
    have hSu : SRC s_12 (G3 s) (gp_I s 46 5) := ⟨G3_fr hf_15 rfl, by omega⟩
    have hEu : gp_I s_12 46 6 = gp_I s 46 6 + 1 ∧ gp_I s_12 46 7 = gp_I s 46 7 ∧ gp_I s_12 46 8 = gp_I s 46 8 := ⟨by omega, by omega, by omega⟩
    refine xm_next hs_14 (pd_22) (fun x_26 p_27 p_28 p_29 => ⟨_, rfl, ?_⟩)
    have hny := p_28
    refine ⟨fun h_30 => ?_, fun h_30 => ?_⟩
    · have f_31 := xr46_6 hs_14
      try rw [show gp_wr ((gp_I s_12 46 6) + 1) = (gp_I s_12 46 6) + 1 from gp_wr_id (by omega) (by omega)]
      intro s_32 e_33
      have hs_34 : XI L 0 s_32 := by rw [e_33]; exact xw46_6 hs_14 _ (by omega)
      have hf_35 : gX L true [8, 9, 10, 11, 12, 13, 14, 15, 21, 22, 47, 1196, 2475, 2478, 2479, 2480] s s_32 := by rw [e_33]; exact gX.wI hf_15 (Or.inl rfl)
      have z_36 : gp_sz s_32 = gp_sz s_12 ∧ gp_us s_32 = gp_us s_12 := by rw [e_33]; exact ⟨rfl, rfl⟩
      have q_37 : gp_I s_32 46 3 = gp_I s_12 46 3 := by rw [e_33] <;> first | rfl | exact I_ne (by omega)
      have q_38 : gp_I s_32 46 5 = gp_I s_12 46 5 := by rw [e_33] <;> first | rfl | exact I_ne (by omega)
      have q_39 : gp_I s_32 46 6 = (gp_I s_12 46 6) + 1 := by rw [e_33]; exact (gz_rw _ _ _ _ _).1 rfl
      have q_40 : gp_I s_32 46 7 = gp_I s_12 46 7 := by rw [e_33] <;> first | rfl | exact I_ne (by omega)
      have q_41 : gp_I s_32 46 8 = gp_I s_12 46 8 := by rw [e_33] <;> first | rfl | exact I_ne (by omega)
      have pd_42 : RTX L s_32 := by rw [e_33]; exact RTX_fr pd_22 (gX.wI (gX.refl L true [2478] _) (Or.inl rfl)) rfl
      have pd_43 : RV L s_32 := by rw [e_33]; exact RV_fr pd_23 (gX.wI (gX.refl L true [2478] _) (Or.inl rfl)) rfl rfl
      have pd_44 : IK s s_32 := by rw [e_33]; exact IK_wI pd_24 (Or.inl (by decide))
      have pd_45 : RK L s s_32 := by rw [e_33]; exact RK_fr pd_25 (gX.wI (gX.refl L true [2478] _) (Or.inl rfl)) rfl
      have hSw : SRC s_32 (G3 s) (gp_I s 46 5) := ⟨G3_fr hf_35 rfl, by omega⟩
      refine xm_readDigitsV _ hs_34 (by omega) (pd_42) (by first | omega | assumption) (fun x_46 s_47 hs_48 hf_49 p_50 p_51 p_52 p_53 p_54 p_55 p_56 p_57 => ⟨_, rfl, ?_⟩)
      have hf_58 : gX L true [8, 9, 10, 11, 12, 13, 14, 15, 21, 22, 47, 1196, 2475, 2478, 2479, 2480] s s_47 := gX.trans hf_35 hf_49 rfl rfl
      have pd_59 : RV L s_47 := RV_fr pd_43 hf_49 rfl rfl
      have pd_60 : RK L s s_47 := RK_fr pd_45 hf_49 rfl
      have q_61 : gp_I s_47 46 3 = gp_I s_32 46 3 := (hf_49.2.2.1 46 3 (by decide) (by decide) rfl).1
      have q_62 : gp_I s_47 46 5 = gp_I s_32 46 5 := (hf_49.2.2.1 46 5 (by decide) (by decide) rfl).1
      have q_63 : gp_I s_47 46 8 = gp_I s_32 46 8 := (hf_49.2.2.1 46 8 (by decide) (by decide) rfl).1
      have z_64 : gp_sz s_47 = gp_sz s_32 ∧ gp_us s_47 = gp_us s_32 := hf_49.2.1 rfl
      have pd_65 : IK s s_47 := IK_t pd_44 p_55 ((hf_35).1.1)
      have hDG := p_56
      try rw [show gp_wr (-x_46) = -x_46 from gp_wr_id (by omega) (by omega)]
      exact k _ s_47 hs_48 hf_58 (by first | omega | assumption) (p_52) (pd_59) (by first | omega | assumption) (by first | omega | assumption) (pd_65) (S_num (p := gp_I s 46 6 + 2) (sg := -1) hR3 hSu hSw hnx (by omega) ⟨by omega, by omega⟩ hny (Or.inl ⟨by omega, rfl, rfl⟩) ⟨by omega, by omega, by omega⟩ hDG (by omega) (by omega) (by omega) (by omega) (by omega)) (pd_60) (by first | omega | assumption) (fun h9 => by have h8 := q4 h9.1; omega)
    · refine xm_readDigitsV _ hs_14 (by omega) (pd_22) (by first | omega | assumption) (fun x_66 s_67 hs_68 hf_69 p_70 p_71 p_72 p_73 p_74 p_75 p_76 p_77 => ⟨_, rfl, ?_⟩)
      have hf_78 : gX L true [8, 9, 10, 11, 12, 13, 14, 15, 21, 22, 47, 1196, 2475, 2478, 2479, 2480] s s_67 := gX.trans hf_15 hf_69 rfl rfl
      have pd_79 : RV L s_67 := RV_fr pd_23 hf_69 rfl rfl
      have pd_80 : RK L s s_67 := RK_fr pd_25 hf_69 rfl
      have q_81 : gp_I s_67 46 3 = gp_I s_12 46 3 := (hf_69.2.2.1 46 3 (by decide) (by decide) rfl).1
      have q_82 : gp_I s_67 46 5 = gp_I s_12 46 5 := (hf_69.2.2.1 46 5 (by decide) (by decide) rfl).1
      have q_83 : gp_I s_67 46 8 = gp_I s_12 46 8 := (hf_69.2.2.1 46 8 (by decide) (by decide) rfl).1
      have z_84 : gp_sz s_67 = gp_sz s_12 ∧ gp_us s_67 = gp_us s_12 := hf_69.2.1 rfl
      have pd_85 : IK s s_67 := IK_t pd_24 p_75 ((hf_15).1.1)
      have hDG := p_76
      exact k _ s_67 hs_68 hf_78 (by first | omega | assumption) (p_72) (pd_79) (by first | omega | assumption) (by first | omega | assumption) (pd_85) (S_num (p := gp_I s 46 6 + 1) (sg := 1) hR3 hSu hSu hnx (by omega) ⟨by omega, by omega⟩ hny (Or.inr ⟨by omega, rfl, rfl⟩) ⟨by omega, by omega, by omega⟩ hDG (by omega) (by omega) (by omega) (by omega) (by omega)) (pd_80) (by first | omega | assumption) (fun h9 => by have h8 := q4 h9.1; omega)
  · have hRKo := hRK0
    refine ihS _ _ _ _ _ (by omega) hs (by omega) (q0) (q1) (by first | omega | assumption) (by first | omega | assumption) (by first | omega | assumption) (fun o_86 s_87 hs_88 hf_89 p_90 p_91 p_92 p_93 p_94 p_95 p_96 p_97 p_98 p_99 => ⟨_, rfl, ?_⟩)
    have hf_100 : gX L true [8, 9, 10, 11, 12, 13, 14, 15, 21, 22, 47, 1196, 2475, 2478, 2479, 2480] s s_87 := gX.sub hf_89 rfl rfl
    have q_101 : gp_I s_87 46 5 = gp_I s 46 5 := (hf_89.2.2.1 46 5 (by decide) (by decide) rfl).1
    have pd_102 : IK s s_87 := IK_t (IK_r s) p_96 ((gX.refl L true [] s).1.1)
    obtain ⟨a_103, n_104, rfl, kt_105, hn_106⟩ := p_90
    have hn_a_103 := kt_105.n hs_88
    have hUN := RTW_c p_97 hR3 rfl rfl
    have hGW := p_99
    have hRKn : RK L s s_87 := RK_t hRKo p_98 (by omega)
    refine xm_hangV n_104 _ hs_88 (by first | assumption | exact kT7 hs_88.1.1 | exact kT25 hs_88.1.1) (by first | omega | assumption) (p_93) (fun s_107 hs_108 hf_109 p_110 p_111 p_112 p_113 p_114 => ⟨rfl, ?_⟩)
    have hf_115 : gX L true [8, 9, 10, 11, 12, 13, 14, 15, 21, 22, 47, 1196, 2475, 2478, 2479, 2480] s s_107 := gX.trans hf_100 hf_109 rfl rfl
    have kt_116 : kT L s_107 a_103 n_104 := kt_105.fr hf_109.1
    have pd_117 : RTX L s_107 := RTX_fr p_92 hf_109 rfl
    have q_118 : gp_I s_107 46 5 = gp_I s_87 46 5 := (hf_109.2.2.1 46 5 (by decide) (by decide) rfl).1
    have q_119 : gp_I s_107 46 6 = gp_I s_87 46 6 := (hf_109.2.2.1 46 6 (by decide) (by decide) rfl).1
    have q_120 : gp_I s_107 46 7 = gp_I s_87 46 7 := (hf_109.2.2.1 46 7 (by decide) (by decide) rfl).1
    have q_121 : gp_I s_107 46 8 = gp_I s_87 46 8 := (hf_109.2.2.1 46 8 (by decide) (by decide) rfl).1
    have z_122 : gp_sz s_107 = gp_sz s_87 ∧ gp_us s_107 = gp_us s_87 := hf_109.2.1 rfl
    have pd_123 : IK s s_107 := IK_t pd_102 p_112 ((hf_100).1.1)
    have hHG := p_113
    have hRKh : RK L s s_107 := RK_t hRKn hHG.1 (by omega)
    have hw9 : gp_I s_107 46 7 < 0 → gp_I s_107 46 3 ≤ gp_I s_107 46 6 := fun h9 => by have h8 := RTW_f hUN (by omega); have h7 := q4 h8; have h6 := hGW ⟨h8, by omega⟩; have h5 := (hHG.2 (by omega)).1; omega
    have hT0 := TSW_0 hR3 hnx (by omega) hUN ⟨by omega, by omega⟩ (fun h9 => by have h8 := q4 h9.1; have h7 := hGW h9; omega) hHG ⟨by omega, by omega, by omega⟩ (fun x h => GT_fr h hf_109 p_112)
    have lp_124 : ∀ (n_124 : Nat) (v2_124 : Int) (s_124 : gH), (XI L 0 s_124) → (gX L true [8, 9, 10, 11, 12, 13, 14, 15, 21, 22, 47, 1196, 2475, 2478, 2479, 2480] s s_124) → (RTX L s_124) → (RV L s_124) → (IK s s_124) → (RK L s s_124) → (kT L s_124 a_103 n_104) → ((gp_sz s_124 : Int) ≤ gp_sz s + 6 * (gp_I s_124 46 6 - gp_I s 46 6) ∧ (gp_us s_124 : Int) ≤ gp_us s + 310 * (gp_I s_124 46 6 - gp_I s 46 6)) → (0 ≤ v2_124 ∧ v2_124 ≤ 100) → (gp_I s_124 46 5 = gp_I s_107 46 5) → (gp_I s 46 6 ≤ gp_I s_124 46 6 ∧ gp_I s_124 46 6 ≤ gp_I s_124 46 5) → (gp_I s 46 3 ≤ gp_I s_124 46 3) → (TSW L (G3 s) (gp_I s 46 5) s s_124 p0) → (v2_124 ≤ gp_I s_124 46 6) → (gp_I s_124 46 5 = gp_I s 46 5) → (gp_I s 46 7 < 0 ∧ gp_I s_124 46 7 < 0 → gp_I s 46 6 + 1 ≤ gp_I s_124 46 6) → (gp_I s_124 46 7 < 0 → gp_I s_124 46 3 ≤ gp_I s_124 46 6) → (101 - v2_124).toNat < n_124 → gs_E L (d + 18) 1288 62 [gp_r (some 46), gp_i p0, gp_i v2_124] [] s_124 K := by
      intro n_124
      induction n_124 with
      | zero => intro v2_124 s_124 hs_s_124 hf_s_124 RTX_L_s_124 RV_L_s_124 IK_s_s_124 RK_L_s_s_124 kt_a_103_s_124 rm_s_124 hv2_124 tk0_124 iv0_124 iv1_124 iv2_124 iv3_124 iv4_124 iv5_124 iv6_124 hm_124; exact absurd hm_124 (Nat.not_lt_zero _)
      | succ n_124 ih_124 =>
        intro v2_124 s_124 hs_s_124 hf_s_124 RTX_L_s_124 RV_L_s_124 IK_s_s_124 RK_L_s_s_124 kt_a_103_s_124 rm_s_124 hv2_124 tk0_124 iv0_124 iv1_124 iv2_124 iv3_124 iv4_124 iv5_124 iv6_124 hm_124
        refine s_1288_62 _ _ ?_
        refine ⟨fun h_125 => ?_, fun h_125 => ?_⟩
        · refine xm_next hs_s_124 (RTX_L_s_124) (fun x_126 p_127 p_128 p_129 => ⟨_, rfl, ?_⟩)
          have hnx := p_128
          refine ⟨fun h_130 => ?_, fun h_130 => ?_⟩
          · have f_131 := xr46_6 hs_s_124
            try rw [show gp_wr ((gp_I s_124 46 6) + 1) = (gp_I s_124 46 6) + 1 from gp_wr_id (by omega) (by omega)]
            intro s_132 e_133
            have hs_134 : XI L 0 s_132 := by rw [e_133]; exact xw46_6 hs_s_124 _ (by omega)
            have hf_135 : gX L true [8, 9, 10, 11, 12, 13, 14, 15, 21, 22, 47, 1196, 2475, 2478, 2479, 2480] s s_132 := by rw [e_133]; exact gX.wI hf_s_124 (Or.inl rfl)
            have kt_136 : kT L s_132 a_103 n_104 := by rw [e_133]; exact kt_a_103_s_124
            have z_137 : gp_sz s_132 = gp_sz s_124 ∧ gp_us s_132 = gp_us s_124 := by rw [e_133]; exact ⟨rfl, rfl⟩
            have q_138 : gp_I s_132 46 3 = gp_I s_124 46 3 := by rw [e_133] <;> first | rfl | exact I_ne (by omega)
            have q_139 : gp_I s_132 46 5 = gp_I s_124 46 5 := by rw [e_133] <;> first | rfl | exact I_ne (by omega)
            have q_140 : gp_I s_132 46 6 = (gp_I s_124 46 6) + 1 := by rw [e_133]; exact (gz_rw _ _ _ _ _).1 rfl
            have q_141 : gp_I s_132 46 7 = gp_I s_124 46 7 := by rw [e_133] <;> first | rfl | exact I_ne (by omega)
            have q_142 : gp_I s_132 46 8 = gp_I s_124 46 8 := by rw [e_133] <;> first | rfl | exact I_ne (by omega)
            have pd_143 : RTX L s_132 := by rw [e_133]; exact RTX_fr RTX_L_s_124 (gX.wI (gX.refl L true [2478] _) (Or.inl rfl)) rfl
            have pd_144 : RV L s_132 := by rw [e_133]; exact RV_fr RV_L_s_124 (gX.wI (gX.refl L true [2478] _) (Or.inl rfl)) rfl rfl
            have pd_145 : IK s s_132 := by rw [e_133]; exact IK_wI IK_s_s_124 (Or.inl (by decide))
            have pd_146 : RK L s s_132 := by rw [e_133]; exact RK_fr RK_L_s_s_124 (gX.wI (gX.refl L true [2478] _) (Or.inl rfl)) rfl
            have hSu : SRC s_132 (G3 s) (gp_I s 46 5) := ⟨G3_fr hf_135 rfl, by omega⟩
            have hEu : gp_I s_132 46 6 = gp_I s_124 46 6 + 1 ∧ gp_I s_132 46 7 = gp_I s_124 46 7 ∧ gp_I s_132 46 8 = gp_I s_124 46 8 := ⟨by omega, by omega, by omega⟩
            have hf9 := TSW_f iv2_124
            have hSs : SRC s_124 (G3 s) (gp_I s 46 5) := ⟨G3_fr hf_s_124 rfl, by omega⟩
            have hRu : ∀ k, gp_R (gp_mk L s_132) 47 k = gp_R (gp_mk L s_124) 47 k := fun k => by rw [‹s_132 = gp_wI s_124 46 6 _›]; rfl
            have hRKo := pd_146
            refine ihS _ _ _ _ _ (by omega) hs_134 (by omega) (pd_143) (pd_144) (by first | omega | assumption) (by first | omega | assumption) (by first | omega | assumption) (fun o_147 s_148 hs_149 hf_150 p_151 p_152 p_153 p_154 p_155 p_156 p_157 p_158 p_159 p_160 => ⟨_, rfl, ?_⟩)
            have hf_161 : gX L true [8, 9, 10, 11, 12, 13, 14, 15, 21, 22, 47, 1196, 2475, 2478, 2479, 2480] s s_148 := gX.trans hf_135 hf_150 rfl rfl
            have kt_162 : kT L s_148 a_103 n_104 := kt_136.fr hf_150.1
            have q_163 : gp_I s_148 46 5 = gp_I s_132 46 5 := (hf_150.2.2.1 46 5 (by decide) (by decide) rfl).1
            have pd_164 : IK s s_148 := IK_t pd_145 p_157 ((hf_135).1.1)
            obtain ⟨a_165, n_166, rfl, kt_167, hn_168⟩ := p_151
            have hn_a_165 := kt_167.n hs_149
            have hUN := RTW_c p_158 hSu rfl rfl
            have hGW := p_160
            have hRKd := p_159
            have hgp : ∀ r x, GT L s_124 r x → GT L s_148 r x := fun r x h => GT_fr (GT_wI h ‹_ = gp_wI s_124 46 6 _› (by decide)) hf_150 p_157
            have hRKn : RK L s s_148 := RK_t hRKo p_159 (by omega)
            refine xm_hangV n_166 _ hs_149 (by first | assumption | exact kT7 hs_149.1.1 | exact kT25 hs_149.1.1) (by first | omega | assumption) (p_154) (fun s_169 hs_170 hf_171 p_172 p_173 p_174 p_175 p_176 => ⟨rfl, ?_⟩)
            have hf_177 : gX L true [8, 9, 10, 11, 12, 13, 14, 15, 21, 22, 47, 1196, 2475, 2478, 2479, 2480] s s_169 := gX.trans hf_161 hf_171 rfl rfl
            have kt_178 : kT L s_169 a_103 n_104 := kt_162.fr hf_171.1
            have kt_179 : kT L s_169 a_165 n_166 := kt_167.fr hf_171.1
            have pd_180 : RTX L s_169 := RTX_fr p_153 hf_171 rfl
            have q_181 : gp_I s_169 46 5 = gp_I s_148 46 5 := (hf_171.2.2.1 46 5 (by decide) (by decide) rfl).1
            have q_182 : gp_I s_169 46 6 = gp_I s_148 46 6 := (hf_171.2.2.1 46 6 (by decide) (by decide) rfl).1
            have q_183 : gp_I s_169 46 7 = gp_I s_148 46 7 := (hf_171.2.2.1 46 7 (by decide) (by decide) rfl).1
            have q_184 : gp_I s_169 46 8 = gp_I s_148 46 8 := (hf_171.2.2.1 46 8 (by decide) (by decide) rfl).1
            have z_185 : gp_sz s_169 = gp_sz s_148 ∧ gp_us s_169 = gp_us s_148 := hf_171.2.1 rfl
            have pd_186 : IK s s_169 := IK_t pd_164 p_174 ((hf_161).1.1)
            have hHG := p_175
            have hRKh : RK L s s_169 := RK_t hRKn hHG.1 (by omega)
            have hw9 : gp_I s_169 46 7 < 0 → gp_I s_169 46 3 ≤ gp_I s_169 46 6 := fun h9 => by have h8 := RTW_f hUN (by omega); have h7 := iv6_124 (by omega); have h6 := hGW ⟨h8, by omega⟩; have h5 := (hHG.2 (by omega)).1; omega
            have hfr : ∀ (k x : Nat), (k : Int) < gp_I s_124 46 3 → PGT L s_124 k x → PGT L s_169 k x := fun k x hk h => by unfold PGT at h ⊢; rw [(hHG.1 k (by omega)).trans ((hRKd k (by omega)).trans (hRu k))]; exact GT_fr (hgp _ _ h) hf_171 p_174
            try rw [show gp_wr (v2_124 + 1) = v2_124 + 1 from gp_wr_id (by omega) (by omega)]
            exact ih_124 _ _ hs_170 hf_177 pd_180 p_172 pd_186 hRKh kt_178 (by omega) (by omega) (by first | rfl | omega) (by first | omega | assumption) (by first | omega | assumption) (TSW_s iv2_124 hSs hnx (by omega) hEu hUN ⟨by omega, by omega, by omega⟩ (fun h9 => by have h8 := iv6_124 (by omega); have h7 := hGW h9; omega) hHG ⟨by omega, by omega, by omega⟩ (fun x h => GT_fr h hf_171 p_174) hfr) (by first | omega | assumption) (by first | omega | assumption) (by first | omega | assumption) (hw9) (by omega)
          · refine s_1288_102 _ _ ?_
            exact k _ s_124 hs_s_124 hf_s_124 (by first | omega | assumption) (RTX_L_s_124) (RV_L_s_124) (by first | omega | assumption) (by first | omega | assumption) (IK_s_s_124) (TSW_e iv2_124 ⟨G3_fr hf_s_124 rfl, by omega⟩ (by omega)) (RK_L_s_s_124) (by first | omega | assumption) (fun h9 => iv6_124 h9.2)
        · refine s_1288_102 _ _ ?_
          exact k _ s_124 hs_s_124 hf_s_124 (by first | omega | assumption) (RTX_L_s_124) (RV_L_s_124) (by first | omega | assumption) (by first | omega | assumption) (IK_s_s_124) (TSW_e iv2_124 ⟨G3_fr hf_s_124 rfl, by omega⟩ (by omega)) (RK_L_s_s_124) (by first | omega | assumption) (fun h9 => iv6_124 h9.2)
    exact lp_124 _ _ _ hs_108 hf_115 pd_117 p_110 pd_123 hRKh kt_116 (by omega) (by omega) (by first | rfl | omega) (by first | omega | assumption) (by first | omega | assumption) (hT0) (by first | omega | assumption) (by first | omega | assumption) (by first | omega | assumption) (hw9) (Nat.lt_succ_self _)
set_option maxRecDepth 100000 in
/-- Reader.readFrame -/
theorem xm_readFrameV (m : Nat) (ihD : RDV m) : RFV m := by
  intro L D K s p0 hD hs h_p0 q0 q1 q2 q3 q4 k
  obtain ⟨d, rfl⟩ : ∃ d, D = d + 18 := ⟨D - 18, by omega⟩
  have f_1 := xr46_3 hs
  have f_2 := xr46_5 hs
  have f_3 := xr46_6 hs
  have f_4 := xr46_7 hs
  have f_5 := xr46_8 hs
  refine s_1287_e _ ?_
  have hRK0 : RK L s s := fun _ _ => rfl
  have hR3 : SRC s (G3 s) (gp_I s 46 5) := ⟨rfl, rfl⟩
  have f_6 := xr46_3 hs
  have hRKo := hRK0
  refine ihD _ _ _ _ _ (by omega) hs (by omega) (q0) (q1) (by first | omega | assumption) (by first | omega | assumption) (by first | omega | assumption) (fun x_7 s_8 hs_9 hf_10 p_11 p_12 p_13 p_14 p_15 p_16 p_17 p_18 p_19 p_20 => ⟨_, rfl, ?_⟩)
  have hf_21 : gX L true [8, 9, 10, 11, 12, 13, 14, 15, 21, 22, 47, 1196, 2475, 2478, 2479, 2480] s s_8 := gX.sub hf_10 rfl rfl
  have q_22 : gp_I s_8 46 5 = gp_I s 46 5 := (hf_10.2.2.1 46 5 (by decide) (by decide) rfl).1
  have pd_23 : IK s s_8 := IK_t (IK_r s) p_16 ((gX.refl L true [] s).1.1)
  have hSA := SDW_c p_17 hR3 rfl rfl
  have hWA := p_20
  have hf0 := SDW_f hSA
  have hp1 := xr46_6 hs_9
  have hS1 : SRC s_8 (G3 s) (gp_I s 46 5) := ⟨G3_fr hf_21 rfl, by omega⟩
  have hRKn : RK L s s_8 := RK_t hRKo p_18 (by omega)
  have f_24 := xr46_3 hs_9
  refine xm_expectV _ hs_9 (by omega) (p_12) (by first | omega | assumption) (fun s_25 hs_26 hf_27 p_28 p_29 p_30 p_31 p_32 => ⟨rfl, ?_⟩)
  have hf_33 : gX L true [8, 9, 10, 11, 12, 13, 14, 15, 21, 22, 47, 1196, 2475, 2478, 2479, 2480] s s_25 := gX.trans hf_21 hf_27 rfl rfl
  have pd_34 : RV L s_25 := RV_fr p_13 hf_27 rfl rfl
  have pd_35 : RK L s s_25 := RK_fr hRKn hf_27 rfl
  have q_36 : gp_I s_25 46 3 = gp_I s_8 46 3 := (hf_27.2.2.1 46 3 (by decide) (by decide) rfl).1
  have q_37 : gp_I s_25 46 5 = gp_I s_8 46 5 := (hf_27.2.2.1 46 5 (by decide) (by decide) rfl).1
  have q_38 : gp_I s_25 46 8 = gp_I s_8 46 8 := (hf_27.2.2.1 46 8 (by decide) (by decide) rfl).1
  have z_39 : gp_sz s_25 = gp_sz s_8 ∧ gp_us s_25 = gp_us s_8 := hf_27.2.1 rfl
  have pd_40 : IK s s_25 := IK_t pd_23 p_30 ((hf_21).1.1)
  have hX1 := p_31
  have hf1 := EXW_f hX1 hp1.1
  have hfa : ∀ (k x : Nat), PGT L s_8 k x → PGT L s_25 k x := fun k x h => PGT_fr h hf_27 p_30 (R47 hf_27 rfl k)
  have hS2 : SRC s_25 (G3 s) (gp_I s 46 5) := ⟨G3_fr hf_33 rfl, by omega⟩
  have hRKo := pd_35
  refine ihD _ _ _ _ _ (by omega) hs_26 (by omega) (p_29) (pd_34) (by first | omega | assumption) (by first | omega | assumption) (by first | omega | assumption) (fun x_41 s_42 hs_43 hf_44 p_45 p_46 p_47 p_48 p_49 p_50 p_51 p_52 p_53 p_54 => ⟨_, rfl, ?_⟩)
  have hf_55 : gX L true [8, 9, 10, 11, 12, 13, 14, 15, 21, 22, 47, 1196, 2475, 2478, 2479, 2480] s s_42 := gX.trans hf_33 hf_44 rfl rfl
  have q_56 : gp_I s_42 46 5 = gp_I s_25 46 5 := (hf_44.2.2.1 46 5 (by decide) (by decide) rfl).1
  have pd_57 : IK s s_42 := IK_t pd_40 p_50 ((hf_33).1.1)
  have hSB := SDW_c p_51 hS2 rfl rfl
  have hp3 := xr46_6 hs_43
  have hS3 : SRC s_42 (G3 s) (gp_I s 46 5) := ⟨G3_fr hf_55 rfl, by omega⟩
  have hf3 := SDW_f hSB
  have hfb : ∀ (k x : Nat), (k : Int) < gp_I s_25 46 3 → PGT L s_8 k x → PGT L s_42 k x := fun k x hk h => PGT_fr (hfa k x h) hf_44 p_50 (p_52 k hk)
  have hRKn : RK L s s_42 := RK_t hRKo p_52 (by omega)
  refine xm_expectV _ hs_43 (by omega) (p_46) (by first | omega | assumption) (fun s_58 hs_59 hf_60 p_61 p_62 p_63 p_64 p_65 => ⟨rfl, ?_⟩)
  have hf_66 : gX L true [8, 9, 10, 11, 12, 13, 14, 15, 21, 22, 47, 1196, 2475, 2478, 2479, 2480] s s_58 := gX.trans hf_55 hf_60 rfl rfl
  have pd_67 : RV L s_58 := RV_fr p_47 hf_60 rfl rfl
  have pd_68 : RK L s s_58 := RK_fr hRKn hf_60 rfl
  have q_69 : gp_I s_58 46 3 = gp_I s_42 46 3 := (hf_60.2.2.1 46 3 (by decide) (by decide) rfl).1
  have q_70 : gp_I s_58 46 5 = gp_I s_42 46 5 := (hf_60.2.2.1 46 5 (by decide) (by decide) rfl).1
  have q_71 : gp_I s_58 46 8 = gp_I s_42 46 8 := (hf_60.2.2.1 46 8 (by decide) (by decide) rfl).1
  have z_72 : gp_sz s_58 = gp_sz s_42 ∧ gp_us s_58 = gp_us s_42 := hf_60.2.1 rfl
  have pd_73 : IK s s_58 := IK_t pd_57 p_63 ((hf_55).1.1)
  have hX2 := p_64
  have hf2 := EXW_f hX2 hp3.1
  have hfd : ∀ (k x : Nat), PGT L s_42 k x → PGT L s_58 k x := fun k x h => PGT_fr h hf_60 p_63 (R47 hf_60 rfl k)
  have hfe : ∀ (k x : Nat), (k : Int) < gp_I s_8 46 3 → PGT L s_8 k x → PGT L s_58 k x := fun k x hk h => hfd k x (hfb k x (by omega) h)
  refine xm_framedV _ _ _ _ hs_59 (by omega) (by omega) (pd_67) (fun h9 => by have h8 : gp_I s 46 7 < 0 := (by omega); obtain ⟨_, _, _, _, _, _, _, _, _, _, _, _, _, _, h7, _⟩ := F_ok hS1 hS3 hSA hX1 ⟨by omega, by omega⟩ hSB hX2 ⟨by omega, by omega⟩ hp1.1 hp3.1 hfe hfd ⟨by omega, by omega⟩ h9 h8; exact h7) (by first | omega | assumption) (fun o_74 s_75 hs_76 hf_77 p_78 p_79 p_80 p_81 p_82 p_83 => ⟨_, rfl, ?_⟩)
  have hf_84 : gX L true [8, 9, 10, 11, 12, 13, 14, 15, 21, 22, 47, 1196, 2475, 2478, 2479, 2480] s s_75 := gX.trans hf_66 hf_77 rfl rfl
  have pd_85 : RTX L s_75 := RTX_fr p_62 hf_77 rfl
  have pd_86 : RV L s_75 := RV_fr pd_67 hf_77 rfl rfl
  have pd_87 : RK L s s_75 := RK_fr pd_68 hf_77 rfl
  have q_88 : gp_I s_75 46 3 = gp_I s_58 46 3 := (hf_77.2.2.1 46 3 (by decide) (by decide) rfl).1
  have q_89 : gp_I s_75 46 5 = gp_I s_58 46 5 := (hf_77.2.2.1 46 5 (by decide) (by decide) rfl).1
  have q_90 : gp_I s_75 46 6 = gp_I s_58 46 6 := (hf_77.2.2.1 46 6 (by decide) (by decide) rfl).1
  have q_91 : gp_I s_75 46 7 = gp_I s_58 46 7 := (hf_77.2.2.1 46 7 (by decide) (by decide) rfl).1
  have pd_92 : IK s s_75 := IK_t pd_73 p_81 ((hf_66).1.1)
  obtain ⟨a_93, n_94, rfl, kt_95, hn_96⟩ := p_78
  have hn_a_93 := kt_95.n hs_76
  have hFM := p_82
  have hFT := p_83
  have hFR := F_ret hS1 hS3 hSA hX1 ⟨by omega, by omega⟩ hSB hX2 ⟨by omega, by omega⟩ hp1.1 hp3.1 hfe hfd ⟨by omega, by omega⟩ hFM hFT ⟨by omega, by omega⟩
  have hRV9 := pd_86
  intro s_97 e_98
  have hs_99 : XI L 0 s_97 := by rw [e_98]; exact xw46_3 hs_76 _ (by omega)
  have hf_100 : gX L true [8, 9, 10, 11, 12, 13, 14, 15, 21, 22, 47, 1196, 2475, 2478, 2479, 2480] s s_97 := by rw [e_98]; exact gX.wI hf_84 (Or.inl rfl)
  have kt_101 : kT L s_97 a_93 n_94 := by rw [e_98]; exact kt_95
  have z_102 : gp_sz s_97 = gp_sz s_75 ∧ gp_us s_97 = gp_us s_75 := by rw [e_98]; exact ⟨rfl, rfl⟩
  have q_103 : gp_I s_97 46 3 = gp_I s 46 3 := by rw [e_98]; exact (gz_rw _ _ _ _ _).1 rfl
  have q_104 : gp_I s_97 46 5 = gp_I s_75 46 5 := by rw [e_98] <;> first | rfl | exact I_ne (by omega)
  have q_105 : gp_I s_97 46 6 = gp_I s_75 46 6 := by rw [e_98] <;> first | rfl | exact I_ne (by omega)
  have q_106 : gp_I s_97 46 7 = gp_I s_75 46 7 := by rw [e_98] <;> first | rfl | exact I_ne (by omega)
  have q_107 : gp_I s_97 46 8 = gp_I s_75 46 8 := by rw [e_98] <;> first | rfl | exact I_ne (by omega)
  have pd_108 : RTX L s_97 := by rw [e_98]; exact RTX_fr pd_85 (gX.wI (gX.refl L true [2475] _) (Or.inl rfl)) rfl
  have pd_109 : IK s s_97 := by rw [e_98]; exact IK_wI pd_92 (Or.inl (by decide))
  have pd_110 : RK L s s_97 := by rw [e_98]; exact RK_fr pd_87 (gX.wI (gX.refl L true [2475] _) (Or.inl rfl)) rfl
  have hRV8 : RV L s_97 := by rw [‹s_97 = gp_wI _ 46 3 _›]; exact RV_le hRV9 (gX.wI (gX.refl L true [2475] _) (Or.inl rfl)) rfl (by rw [(gz_rw _ _ _ _ _).1 rfl]; omega)
  exact k _ s_97 hs_99 hf_100 (⟨_, _, rfl, by assumption, by omega⟩) (by first | omega | assumption) (pd_108) (hRV8) (by first | omega | assumption) (by first | omega | assumption) (pd_109) (RTW_w hFR (by assumption)) (pd_110) (by first | omega | assumption)
theorem RUV_all : ∀ m, RUV m
  | 0 => by intro L D K s p0; intros; omega
  | m + 1 => xm_readUnitV m (RUV_all m) (xm_readFrameV m (xm_readSideV m (xm_readSumV m (RUV_all m))))
