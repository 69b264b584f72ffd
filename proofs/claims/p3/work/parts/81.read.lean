def RU (m : Nat) : Prop := ∀ (L D : Nat) (K : Option gV → gH → Prop) (s : gH)  (p0 : Int), ((4 * m + 20 ≤ D)) → (XI L 0 s) → (0 ≤ p0 ∧ p0 ≤ 8) → (RTX L s) → (RV L s) → (9 ≤ p0 + m) → (gp_I s 46 6 ≤ gp_I s 46 5) → (∀ (r : Option Nat), ∀ (t : gH), XI L 0 t → gX L true [8, 9, 10, 11, 12, 13, 14, 15, 21, 22, 47, 1196, 2475, 2478, 2479, 2480] s t → (∃ a n, r = some a ∧ kT L t a n ∧ n ≤ 60) → (gp_I s 46 6 ≤ gp_I t 46 6 ∧ gp_I t 46 6 ≤ gp_I t 46 5) → (RTX L t) → (RV L t) → (gp_I t 46 3 = gp_I s 46 3) → ((gp_sz t : Int) ≤ gp_sz s + 6 * (gp_I t 46 6 - gp_I s 46 6) ∧ (gp_us t : Int) ≤ gp_us s + 310 * (gp_I t 46 6 - gp_I s 46 6)) → K (some (gp_r r)) t) → gs_C L D 1286 3 [gp_r (some 46), gp_i p0] s K
def RS (m : Nat) : Prop := ∀ (L D : Nat) (K : Option gV → gH → Prop) (s : gH)  (p0 : Int), ((4 * m + 21 ≤ D)) → (XI L 0 s) → (0 ≤ p0 ∧ p0 ≤ 8) → (RTX L s) → (RV L s) → (9 ≤ p0 + m) → (gp_I s 46 6 ≤ gp_I s 46 5) → (∀ (r : Option Nat), ∀ (t : gH), XI L 0 t → gX L true [8, 9, 10, 11, 12, 13, 14, 15, 21, 22, 47, 1196, 2475, 2478, 2479, 2480] s t → (∃ a n, r = some a ∧ kT L t a n ∧ n ≤ 60) → (gp_I s 46 6 ≤ gp_I t 46 6 ∧ gp_I t 46 6 ≤ gp_I t 46 5) → (RTX L t) → (RV L t) → (gp_I t 46 3 = gp_I s 46 3) → ((gp_sz t : Int) ≤ gp_sz s + 6 * (gp_I t 46 6 - gp_I s 46 6) ∧ (gp_us t : Int) ≤ gp_us s + 310 * (gp_I t 46 6 - gp_I s 46 6)) → K (some (gp_r r)) t) → gs_C L D 1285 5 [gp_r (some 46), gp_i p0] s K
def RD (m : Nat) : Prop := ∀ (L D : Nat) (K : Option gV → gH → Prop) (s : gH)  (p0 : Int), ((4 * m + 22 ≤ D)) → (XI L 0 s) → (0 ≤ p0 ∧ p0 ≤ 8) → (RTX L s) → (RV L s) → (9 ≤ p0 + m) → (gp_I s 46 6 ≤ gp_I s 46 5) → (∀ (r : Int), ∀ (t : gH), XI L 0 t → gX L true [8, 9, 10, 11, 12, 13, 14, 15, 21, 22, 47, 1196, 2475, 2478, 2479, 2480] s t → (gp_I s 46 6 ≤ gp_I t 46 6 ∧ gp_I t 46 6 ≤ gp_I t 46 5) → (RTX L t) → (RV L t) → (gp_I s 46 3 ≤ gp_I t 46 3) → ((gp_sz t : Int) ≤ gp_sz s + 6 * (gp_I t 46 6 - gp_I s 46 6) ∧ (gp_us t : Int) ≤ gp_us s + 310 * (gp_I t 46 6 - gp_I s 46 6)) → K (some (gp_i r)) t) → gs_C L D 1288 3 [gp_r (some 46), gp_i p0] s K
def RF (m : Nat) : Prop := ∀ (L D : Nat) (K : Option gV → gH → Prop) (s : gH)  (p0 : Int), ((4 * m + 23 ≤ D)) → (XI L 0 s) → (0 ≤ p0 ∧ p0 ≤ 8) → (RTX L s) → (RV L s) → (9 ≤ p0 + m) → (gp_I s 46 6 ≤ gp_I s 46 5) → (∀ (r : Option Nat), ∀ (t : gH), XI L 0 t → gX L true [8, 9, 10, 11, 12, 13, 14, 15, 21, 22, 47, 1196, 2475, 2478, 2479, 2480] s t → (∃ a n, r = some a ∧ kT L t a n ∧ n ≤ 60) → (gp_I s 46 6 ≤ gp_I t 46 6 ∧ gp_I t 46 6 ≤ gp_I t 46 5) → (RTX L t) → (RV L t) → (gp_I t 46 3 = gp_I s 46 3) → ((gp_sz t : Int) ≤ gp_sz s + 6 * (gp_I t 46 6 - gp_I s 46 6) + 6 ∧ (gp_us t : Int) ≤ gp_us s + 310 * (gp_I t 46 6 - gp_I s 46 6) + 310) → K (some (gp_r r)) t) → gs_C L D 1287 7 [gp_r (some 46), gp_i p0] s K
set_option maxRecDepth 100000 in
/-- Reader.readUnit -/
theorem xm_readUnit (m : Nat) (ihU : RU m) (ihF : RF m) : RU (m + 1) := by
  intro L D K s p0 hD hs h_p0 q0 q1 q2 q3 k
  obtain ⟨d, rfl⟩ : ∃ d, D = d + 18 := ⟨D - 18, by omega⟩
  have f_1 := xr46_5 hs
  have f_2 := xr46_6 hs
  have f_3 := xr46_7 hs
  have f_4 := xr46_3 hs
  refine s_1286_e _ ?_
  refine xm_next hs (q0) (fun x_5 p_6 p_7 p_8 => ⟨_, rfl, ?_⟩)
  refine ⟨fun h_9 => ?_, fun h_9 => ?_⟩
  · have f_10 := xr46_6 hs
    try rw [show gp_wr ((gp_I s 46 6) + 1) = (gp_I s 46 6) + 1 from gp_wr_id (by omega) (by omega)]
    intro s_11 e_12
    have hs_13 : XI L 0 s_11 := by rw [e_12]; exact xw46_6 hs _ (by omega)
    have hf_14 : gX L true [8, 9, 10, 11, 12, 13, 14, 15, 21, 22, 47, 1196, 2475, 2478, 2479, 2480] s s_11 := by rw [e_12]; exact gX.wI (gX.refl _ _ _ _) (Or.inl rfl)
    have z_15 : gp_sz s_11 = gp_sz s ∧ gp_us s_11 = gp_us s := by rw [e_12]; exact ⟨rfl, rfl⟩
    have q_16 : gp_I s_11 46 5 = gp_I s 46 5 := by rw [e_12] <;> first | rfl | exact I_ne (by omega)
    have q_17 : gp_I s_11 46 6 = (gp_I s 46 6) + 1 := by rw [e_12]; exact (gz_rw _ _ _ _ _).1 rfl
    have q_18 : gp_I s_11 46 7 = gp_I s 46 7 := by rw [e_12] <;> first | rfl | exact I_ne (by omega)
    have q_19 : gp_I s_11 46 3 = gp_I s 46 3 := by rw [e_12] <;> first | rfl | exact I_ne (by omega)
    have pd_20 : RTX L s_11 := by rw [e_12]; exact RTX_fr q0 (gX.wI (gX.refl L true [2478] _) (Or.inl rfl)) rfl
    have pd_21 : RV L s_11 := by rw [e_12]; exact RV_fr q1 (gX.wI (gX.refl L true [2478] _) (Or.inl rfl)) rfl rfl
    refine xm_readDigits _ hs_13 (by omega) (pd_20) (by first | omega | assumption) (fun x_22 s_23 hs_24 hf_25 p_26 p_27 p_28 p_29 p_30 => ⟨_, rfl, ?_⟩)
    have hf_31 : gX L true [8, 9, 10, 11, 12, 13, 14, 15, 21, 22, 47, 1196, 2475, 2478, 2479, 2480] s s_23 := gX.trans hf_14 hf_25 rfl rfl
    have pd_32 : RV L s_23 := RV_fr pd_21 hf_25 rfl rfl
    have q_33 : gp_I s_23 46 5 = gp_I s_11 46 5 := (hf_25.2.2.1 46 5 (by decide) (by decide) rfl).1
    have q_34 : gp_I s_23 46 3 = gp_I s_11 46 3 := (hf_25.2.2.1 46 3 (by decide) (by decide) rfl).1
    have z_35 : gp_sz s_23 = gp_sz s_11 ∧ gp_us s_23 = gp_us s_11 := hf_25.2.1 rfl
    refine xm_pauses _ hs_24 (by omega) (fun o_36 s_37 hs_38 hf_39 p_40 p_41 p_42 => ⟨_, rfl, ?_⟩)
    have hf_43 : gX L true [8, 9, 10, 11, 12, 13, 14, 15, 21, 22, 47, 1196, 2475, 2478, 2479, 2480] s s_37 := gX.trans hf_31 hf_39 rfl rfl
    have pd_44 : RTX L s_37 := RTX_fr p_28 hf_39 rfl
    have pd_45 : RV L s_37 := RV_fr pd_32 hf_39 rfl rfl
    have q_46 : gp_I s_37 46 5 = gp_I s_23 46 5 := (hf_39.2.2.1 46 5 (by decide) (by decide) rfl).1
    have q_47 : gp_I s_37 46 6 = gp_I s_23 46 6 := (hf_39.2.2.1 46 6 (by decide) (by decide) rfl).1
    have q_48 : gp_I s_37 46 7 = gp_I s_23 46 7 := (hf_39.2.2.1 46 7 (by decide) (by decide) rfl).1
    have q_49 : gp_I s_37 46 3 = gp_I s_23 46 3 := (hf_39.2.2.1 46 3 (by decide) (by decide) rfl).1
    obtain ⟨a_50, n_51, rfl, kt_52, hn_53⟩ := p_40
    have hn_a_50 := kt_52.n hs_38
    exact k _ s_37 hs_38 hf_43 (⟨_, _, rfl, by assumption, by omega⟩) (by first | omega | assumption) (pd_44) (pd_45) (by first | omega | assumption) (by first | omega | assumption)
  · refine xm_digit _ (fun x_54 p_55 p_56 => ⟨_, rfl, ?_⟩)
    refine ⟨fun h_57 => ?_, fun h_57 => ?_⟩
    · refine ⟨fun h_58 => ?_, fun h_58 => ?_⟩
      · refine s_1286_66 _ _ ?_
        refine ⟨fun h_59 => ?_, fun h_59 => ?_⟩
        · have f_60 := xr46_6 hs
          try rw [show gp_wr ((gp_I s 46 6) + 1) = (gp_I s 46 6) + 1 from gp_wr_id (by omega) (by omega)]
          intro s_61 e_62
          have hs_63 : XI L 0 s_61 := by rw [e_62]; exact xw46_6 hs _ (by omega)
          have hf_64 : gX L true [8, 9, 10, 11, 12, 13, 14, 15, 21, 22, 47, 1196, 2475, 2478, 2479, 2480] s s_61 := by rw [e_62]; exact gX.wI (gX.refl _ _ _ _) (Or.inl rfl)
          have z_65 : gp_sz s_61 = gp_sz s ∧ gp_us s_61 = gp_us s := by rw [e_62]; exact ⟨rfl, rfl⟩
          have q_66 : gp_I s_61 46 5 = gp_I s 46 5 := by rw [e_62] <;> first | rfl | exact I_ne (by omega)
          have q_67 : gp_I s_61 46 6 = (gp_I s 46 6) + 1 := by rw [e_62]; exact (gz_rw _ _ _ _ _).1 rfl
          have q_68 : gp_I s_61 46 7 = gp_I s 46 7 := by rw [e_62] <;> first | rfl | exact I_ne (by omega)
          have q_69 : gp_I s_61 46 3 = gp_I s 46 3 := by rw [e_62] <;> first | rfl | exact I_ne (by omega)
          have pd_70 : RTX L s_61 := by rw [e_62]; exact RTX_fr q0 (gX.wI (gX.refl L true [2478] _) (Or.inl rfl)) rfl
          have pd_71 : RV L s_61 := by rw [e_62]; exact RV_fr q1 (gX.wI (gX.refl L true [2478] _) (Or.inl rfl)) rfl rfl
          refine ⟨fun h_72 => ?_, fun h_72 => ?_⟩
          · try rw [show gp_wr (p0 + 1) = p0 + 1 from gp_wr_id (by omega) (by omega)]
            refine ihU _ _ _ _ _ (by omega) hs_63 (by omega) (pd_70) (pd_71) (by first | omega | assumption) (by first | omega | assumption) (fun o_73 s_74 hs_75 hf_76 p_77 p_78 p_79 p_80 p_81 p_82 => ⟨_, rfl, ?_⟩)
            have hf_83 : gX L true [8, 9, 10, 11, 12, 13, 14, 15, 21, 22, 47, 1196, 2475, 2478, 2479, 2480] s s_74 := gX.trans hf_64 hf_76 rfl rfl
            have q_84 : gp_I s_74 46 5 = gp_I s_61 46 5 := (hf_76.2.2.1 46 5 (by decide) (by decide) rfl).1
            obtain ⟨a_85, n_86, rfl, kt_87, hn_88⟩ := p_77
            have hn_a_85 := kt_87.n hs_75
            refine xm_negated n_86 _ hs_75 (by first | assumption | exact kT7 hs_75.1.1 | exact kT25 hs_75.1.1) (by first | omega | assumption) (fun o_89 s_90 hs_91 hf_92 p_93 p_94 p_95 => ⟨_, rfl, ?_⟩)
            have hf_96 : gX L true [8, 9, 10, 11, 12, 13, 14, 15, 21, 22, 47, 1196, 2475, 2478, 2479, 2480] s s_90 := gX.trans hf_83 hf_92 rfl rfl
            have kt_97 : kT L s_90 a_85 n_86 := kt_87.fr hf_92.1
            have pd_98 : RTX L s_90 := RTX_fr p_79 hf_92 rfl
            have pd_99 : RV L s_90 := RV_fr p_80 hf_92 rfl rfl
            have q_100 : gp_I s_90 46 5 = gp_I s_74 46 5 := (hf_92.2.2.1 46 5 (by decide) (by decide) rfl).1
            have q_101 : gp_I s_90 46 6 = gp_I s_74 46 6 := (hf_92.2.2.1 46 6 (by decide) (by decide) rfl).1
            have q_102 : gp_I s_90 46 7 = gp_I s_74 46 7 := (hf_92.2.2.1 46 7 (by decide) (by decide) rfl).1
            have q_103 : gp_I s_90 46 3 = gp_I s_74 46 3 := (hf_92.2.2.1 46 3 (by decide) (by decide) rfl).1
            obtain ⟨a_104, n_105, rfl, kt_106, hn_107⟩ := p_93
            have hn_a_104 := kt_106.n hs_91
            refine s_1286_124 _ _ _ ?_
            exact k _ s_90 hs_91 hf_96 (⟨_, _, rfl, by assumption, by omega⟩) (by first | omega | assumption) (pd_98) (pd_99) (by first | omega | assumption) (by first | omega | assumption)
          · exfalso; omega
        · refine s_1286_72 _ _ ?_
          refine xm_fail hs (fun s_109 hs_110 hf_111 => ⟨rfl, ?_⟩)
          have hf_112 : gX L true [8, 9, 10, 11, 12, 13, 14, 15, 21, 22, 47, 1196, 2475, 2478, 2479, 2480] s s_109 := gX.sub hf_111 rfl rfl
          have pd_113 : RTX L s_109 := RTX_fr q0 hf_111 rfl
          have pd_114 : RV L s_109 := RV_fr q1 hf_111 rfl rfl
          have q_115 : gp_I s_109 46 5 = gp_I s 46 5 := (hf_111.2.2.1 46 5 (by decide) (by decide) rfl).1
          have q_116 : gp_I s_109 46 6 = gp_I s 46 6 := (hf_111.2.2.1 46 6 (by decide) (by decide) rfl).1
          have q_117 : gp_I s_109 46 3 = gp_I s 46 3 := (hf_111.2.2.1 46 3 (by decide) (by decide) rfl).1
          have z_118 : gp_sz s_109 = gp_sz s ∧ gp_us s_109 = gp_us s := hf_111.2.1 rfl
          exact k _ s_109 hs_110 hf_112 (⟨25, 1, rfl, kT25 hs_110.1.1, by omega⟩) (by first | omega | assumption) (pd_113) (pd_114) (by first | omega | assumption) (by first | omega | assumption)
      · refine ⟨fun h_119 => ?_, fun h_119 => ?_⟩
        · refine s_1286_66 _ _ ?_
          refine ⟨fun h_120 => ?_, fun h_120 => ?_⟩
          · have f_121 := xr46_6 hs
            try rw [show gp_wr ((gp_I s 46 6) + 1) = (gp_I s 46 6) + 1 from gp_wr_id (by omega) (by omega)]
            intro s_122 e_123
            have hs_124 : XI L 0 s_122 := by rw [e_123]; exact xw46_6 hs _ (by omega)
            have hf_125 : gX L true [8, 9, 10, 11, 12, 13, 14, 15, 21, 22, 47, 1196, 2475, 2478, 2479, 2480] s s_122 := by rw [e_123]; exact gX.wI (gX.refl _ _ _ _) (Or.inl rfl)
            have z_126 : gp_sz s_122 = gp_sz s ∧ gp_us s_122 = gp_us s := by rw [e_123]; exact ⟨rfl, rfl⟩
            have q_127 : gp_I s_122 46 5 = gp_I s 46 5 := by rw [e_123] <;> first | rfl | exact I_ne (by omega)
            have q_128 : gp_I s_122 46 6 = (gp_I s 46 6) + 1 := by rw [e_123]; exact (gz_rw _ _ _ _ _).1 rfl
            have q_129 : gp_I s_122 46 7 = gp_I s 46 7 := by rw [e_123] <;> first | rfl | exact I_ne (by omega)
            have q_130 : gp_I s_122 46 3 = gp_I s 46 3 := by rw [e_123] <;> first | rfl | exact I_ne (by omega)
            have pd_131 : RTX L s_122 := by rw [e_123]; exact RTX_fr q0 (gX.wI (gX.refl L true [2478] _) (Or.inl rfl)) rfl
            have pd_132 : RV L s_122 := by rw [e_123]; exact RV_fr q1 (gX.wI (gX.refl L true [2478] _) (Or.inl rfl)) rfl rfl
            refine ⟨fun h_133 => ?_, fun h_133 => ?_⟩
            · exfalso; omega
            · try rw [show gp_wr (p0 + 1) = p0 + 1 from gp_wr_id (by omega) (by omega)]
              refine ihF _ _ _ _ _ (by omega) hs_124 (by omega) (pd_131) (pd_132) (by first | omega | assumption) (by first | omega | assumption) (fun o_134 s_135 hs_136 hf_137 p_138 p_139 p_140 p_141 p_142 p_143 => ⟨_, rfl, ?_⟩)
              have hf_144 : gX L true [8, 9, 10, 11, 12, 13, 14, 15, 21, 22, 47, 1196, 2475, 2478, 2479, 2480] s s_135 := gX.trans hf_125 hf_137 rfl rfl
              have q_145 : gp_I s_135 46 5 = gp_I s_122 46 5 := (hf_137.2.2.1 46 5 (by decide) (by decide) rfl).1
              obtain ⟨a_146, n_147, rfl, kt_148, hn_149⟩ := p_138
              have hn_a_146 := kt_148.n hs_136
              refine s_1286_124 _ _ _ ?_
              exact k _ s_135 hs_136 hf_144 (⟨_, _, rfl, by assumption, by omega⟩) (by first | omega | assumption) (p_140) (p_141) (by first | omega | assumption) (by first | omega | assumption)
          · refine s_1286_72 _ _ ?_
            refine xm_fail hs (fun s_151 hs_152 hf_153 => ⟨rfl, ?_⟩)
            have hf_154 : gX L true [8, 9, 10, 11, 12, 13, 14, 15, 21, 22, 47, 1196, 2475, 2478, 2479, 2480] s s_151 := gX.sub hf_153 rfl rfl
            have pd_155 : RTX L s_151 := RTX_fr q0 hf_153 rfl
            have pd_156 : RV L s_151 := RV_fr q1 hf_153 rfl rfl
            have q_157 : gp_I s_151 46 5 = gp_I s 46 5 := (hf_153.2.2.1 46 5 (by decide) (by decide) rfl).1
            have q_158 : gp_I s_151 46 6 = gp_I s 46 6 := (hf_153.2.2.1 46 6 (by decide) (by decide) rfl).1
            have q_159 : gp_I s_151 46 3 = gp_I s 46 3 := (hf_153.2.2.1 46 3 (by decide) (by decide) rfl).1
            have z_160 : gp_sz s_151 = gp_sz s ∧ gp_us s_151 = gp_us s := hf_153.2.1 rfl
            exact k _ s_151 hs_152 hf_154 (⟨25, 1, rfl, kT25 hs_152.1.1, by omega⟩) (by first | omega | assumption) (pd_155) (pd_156) (by first | omega | assumption) (by first | omega | assumption)
        · refine s_1286_72 _ _ ?_
          refine xm_fail hs (fun s_161 hs_162 hf_163 => ⟨rfl, ?_⟩)
          have hf_164 : gX L true [8, 9, 10, 11, 12, 13, 14, 15, 21, 22, 47, 1196, 2475, 2478, 2479, 2480] s s_161 := gX.sub hf_163 rfl rfl
          have pd_165 : RTX L s_161 := RTX_fr q0 hf_163 rfl
          have pd_166 : RV L s_161 := RV_fr q1 hf_163 rfl rfl
          have q_167 : gp_I s_161 46 5 = gp_I s 46 5 := (hf_163.2.2.1 46 5 (by decide) (by decide) rfl).1
          have q_168 : gp_I s_161 46 6 = gp_I s 46 6 := (hf_163.2.2.1 46 6 (by decide) (by decide) rfl).1
          have q_169 : gp_I s_161 46 3 = gp_I s 46 3 := (hf_163.2.2.1 46 3 (by decide) (by decide) rfl).1
          have z_170 : gp_sz s_161 = gp_sz s ∧ gp_us s_161 = gp_us s := hf_163.2.1 rfl
          exact k _ s_161 hs_162 hf_164 (⟨25, 1, rfl, kT25 hs_162.1.1, by omega⟩) (by first | omega | assumption) (pd_165) (pd_166) (by first | omega | assumption) (by first | omega | assumption)
    · refine xm_readDigits _ hs (by omega) (q0) (by first | omega | assumption) (fun x_171 s_172 hs_173 hf_174 p_175 p_176 p_177 p_178 p_179 => ⟨_, rfl, ?_⟩)
      have hf_180 : gX L true [8, 9, 10, 11, 12, 13, 14, 15, 21, 22, 47, 1196, 2475, 2478, 2479, 2480] s s_172 := gX.sub hf_174 rfl rfl
      have pd_181 : RV L s_172 := RV_fr q1 hf_174 rfl rfl
      have q_182 : gp_I s_172 46 5 = gp_I s 46 5 := (hf_174.2.2.1 46 5 (by decide) (by decide) rfl).1
      have q_183 : gp_I s_172 46 3 = gp_I s 46 3 := (hf_174.2.2.1 46 3 (by decide) (by decide) rfl).1
      have z_184 : gp_sz s_172 = gp_sz s ∧ gp_us s_172 = gp_us s := hf_174.2.1 rfl
      refine xm_plain _ hs_173 (fun o_185 s_186 hs_187 hf_188 p_189 p_190 p_191 => ⟨_, rfl, ?_⟩)
      have hf_192 : gX L true [8, 9, 10, 11, 12, 13, 14, 15, 21, 22, 47, 1196, 2475, 2478, 2479, 2480] s s_186 := gX.trans hf_180 hf_188 rfl rfl
      have pd_193 : RTX L s_186 := RTX_fr p_177 hf_188 rfl
      have pd_194 : RV L s_186 := RV_fr pd_181 hf_188 rfl rfl
      have q_195 : gp_I s_186 46 5 = gp_I s_172 46 5 := (hf_188.2.2.1 46 5 (by decide) (by decide) rfl).1
      have q_196 : gp_I s_186 46 6 = gp_I s_172 46 6 := (hf_188.2.2.1 46 6 (by decide) (by decide) rfl).1
      have q_197 : gp_I s_186 46 7 = gp_I s_172 46 7 := (hf_188.2.2.1 46 7 (by decide) (by decide) rfl).1
      have q_198 : gp_I s_186 46 3 = gp_I s_172 46 3 := (hf_188.2.2.1 46 3 (by decide) (by decide) rfl).1
      obtain ⟨a_199, n_200, rfl, kt_201, hn_202⟩ := p_189
      have hn_a_199 := kt_201.n hs_187
      exact k _ s_186 hs_187 hf_192 (⟨_, _, rfl, by assumption, by omega⟩) (by first | omega | assumption) (pd_193) (pd_194) (by first | omega | assumption) (by first | omega | assumption)
set_option maxRecDepth 100000 in
/-- Reader.readSum -/
theorem xm_readSum (m : Nat) (ihU : RU m) : RS m := by
  intro L D K s p0 hD hs h_p0 q0 q1 q2 q3 k
  obtain ⟨d, rfl⟩ : ∃ d, D = d + 18 := ⟨D - 18, by omega⟩
  have f_1 := xr46_5 hs
  have f_2 := xr46_6 hs
  have f_3 := xr46_7 hs
  have f_4 := xr46_3 hs
  refine s_1285_e _ ?_
  refine ihU _ _ _ _ _ (by omega) hs (by omega) (q0) (q1) (by first | omega | assumption) (by first | omega | assumption) (fun o_5 s_6 hs_7 hf_8 p_9 p_10 p_11 p_12 p_13 p_14 => ⟨_, rfl, ?_⟩)
  have hf_15 : gX L true [8, 9, 10, 11, 12, 13, 14, 15, 21, 22, 47, 1196, 2475, 2478, 2479, 2480] s s_6 := gX.sub hf_8 rfl rfl
  have q_16 : gp_I s_6 46 5 = gp_I s 46 5 := (hf_8.2.2.1 46 5 (by decide) (by decide) rfl).1
  obtain ⟨a_17, n_18, rfl, kt_19, hn_20⟩ := p_9
  have hn_a_17 := kt_19.n hs_7
  have lp_22 : ∀ (n_22 : Nat) (v2_22 : Nat) (nv2_22 : Nat) (v3_22 : Int) (v4_22 : gV) (s_22 : gH), (XI L 0 s_22) → (gX L true [8, 9, 10, 11, 12, 13, 14, 15, 21, 22, 47, 1196, 2475, 2478, 2479, 2480] s s_22) → (RTX L s_22) → (RV L s_22) → (kT L s_22 a_17 n_18) → (kT L s_22 v2_22 nv2_22) → ((gp_sz s_22 : Int) ≤ gp_sz s + 6 * (gp_I s_22 46 6 - gp_I s 46 6) ∧ (gp_us s_22 : Int) ≤ gp_us s + 310 * (gp_I s_22 46 6 - gp_I s 46 6)) → (nv2_22 ≤ 60) → (0 ≤ v3_22 ∧ v3_22 ≤ 100) → (gp_I s_22 46 5 = gp_I s_6 46 5) → (gp_I s 46 6 ≤ gp_I s_22 46 6 ∧ gp_I s_22 46 6 ≤ gp_I s_22 46 5) → (gp_I s_22 46 3 = gp_I s 46 3) → (101 - v3_22).toNat < n_22 → gs_E L (d + 18) 1285 8 [gp_r (some 46), gp_i p0, gp_r (some v2_22), gp_i v3_22, v4_22] [] s_22 K := by
    intro n_22
    induction n_22 with
    | zero => intro v2_22 nv2_22 v3_22 v4_22 s_22 hs_s_22 hf_s_22 RTX_L_s_22 RV_L_s_22 kt_a_17_s_22 kt_v2_22_s_22 rm_s_22 hn60_v2_22 hv3_22 tk0_22 iv0_22 iv1_22 hm_22; exact absurd hm_22 (Nat.not_lt_zero _)
    | succ n_22 ih_22 =>
      intro v2_22 nv2_22 v3_22 v4_22 s_22 hs_s_22 hf_s_22 RTX_L_s_22 RV_L_s_22 kt_a_17_s_22 kt_v2_22_s_22 rm_s_22 hn60_v2_22 hv3_22 tk0_22 iv0_22 iv1_22 hm_22
      refine s_1285_8 _ _ _ _ ?_
      refine ⟨fun h_23 => ?_, fun h_23 => ?_⟩
      · refine xm_next hs_s_22 (RTX_L_s_22) (fun x_24 p_25 p_26 p_27 => ⟨_, rfl, ?_⟩)
        refine ⟨fun h_28 => ?_, fun h_28 => ?_⟩
        · have f_29 := xr46_6 hs_s_22
          try rw [show gp_wr ((gp_I s_22 46 6) + 1) = (gp_I s_22 46 6) + 1 from gp_wr_id (by omega) (by omega)]
          intro s_30 e_31
          have hs_32 : XI L 0 s_30 := by rw [e_31]; exact xw46_6 hs_s_22 _ (by omega)
          have hf_33 : gX L true [8, 9, 10, 11, 12, 13, 14, 15, 21, 22, 47, 1196, 2475, 2478, 2479, 2480] s s_30 := by rw [e_31]; exact gX.wI hf_s_22 (Or.inl rfl)
          have kt_34 : kT L s_30 a_17 n_18 := by rw [e_31]; exact kt_a_17_s_22
          have kt_35 : kT L s_30 v2_22 nv2_22 := by rw [e_31]; exact kt_v2_22_s_22
          have z_36 : gp_sz s_30 = gp_sz s_22 ∧ gp_us s_30 = gp_us s_22 := by rw [e_31]; exact ⟨rfl, rfl⟩
          have q_37 : gp_I s_30 46 5 = gp_I s_22 46 5 := by rw [e_31] <;> first | rfl | exact I_ne (by omega)
          have q_38 : gp_I s_30 46 6 = (gp_I s_22 46 6) + 1 := by rw [e_31]; exact (gz_rw _ _ _ _ _).1 rfl
          have q_39 : gp_I s_30 46 7 = gp_I s_22 46 7 := by rw [e_31] <;> first | rfl | exact I_ne (by omega)
          have q_40 : gp_I s_30 46 3 = gp_I s_22 46 3 := by rw [e_31] <;> first | rfl | exact I_ne (by omega)
          have pd_41 : RTX L s_30 := by rw [e_31]; exact RTX_fr RTX_L_s_22 (gX.wI (gX.refl L true [2478] _) (Or.inl rfl)) rfl
          have pd_42 : RV L s_30 := by rw [e_31]; exact RV_fr RV_L_s_22 (gX.wI (gX.refl L true [2478] _) (Or.inl rfl)) rfl rfl
          refine ihU _ _ _ _ _ (by omega) hs_32 (by omega) (pd_41) (pd_42) (by first | omega | assumption) (by first | omega | assumption) (fun o_43 s_44 hs_45 hf_46 p_47 p_48 p_49 p_50 p_51 p_52 => ⟨_, rfl, ?_⟩)
          have hf_53 : gX L true [8, 9, 10, 11, 12, 13, 14, 15, 21, 22, 47, 1196, 2475, 2478, 2479, 2480] s s_44 := gX.trans hf_33 hf_46 rfl rfl
          have kt_54 : kT L s_44 a_17 n_18 := kt_34.fr hf_46.1
          have kt_55 : kT L s_44 v2_22 nv2_22 := kt_35.fr hf_46.1
          have q_56 : gp_I s_44 46 5 = gp_I s_30 46 5 := (hf_46.2.2.1 46 5 (by decide) (by decide) rfl).1
          obtain ⟨a_57, n_58, rfl, kt_59, hn_60⟩ := p_47
          have hn_a_57 := kt_59.n hs_45
          refine xm_unfit hs_45 (fun x_61 p_62 => ⟨_, rfl, ?_⟩)
          refine ⟨fun h_63 => ?_, fun h_63 => ?_⟩
          · refine xm_joined nv2_22 n_58 _ _ hs_45 (by first | assumption | exact kT7 hs_45.1.1 | exact kT25 hs_45.1.1) (by first | omega | assumption) (by first | assumption | exact kT7 hs_45.1.1 | exact kT25 hs_45.1.1) (by first | omega | assumption) (fun o_64 s_65 hs_66 hf_67 p_68 p_69 p_70 => ⟨_, rfl, ?_⟩)
            have hf_71 : gX L true [8, 9, 10, 11, 12, 13, 14, 15, 21, 22, 47, 1196, 2475, 2478, 2479, 2480] s s_65 := gX.trans hf_53 hf_67 rfl rfl
            have kt_72 : kT L s_65 a_17 n_18 := kt_54.fr hf_67.1
            have kt_73 : kT L s_65 v2_22 nv2_22 := kt_55.fr hf_67.1
            have kt_74 : kT L s_65 a_57 n_58 := kt_59.fr hf_67.1
            have pd_75 : RTX L s_65 := RTX_fr p_49 hf_67 rfl
            have pd_76 : RV L s_65 := RV_fr p_50 hf_67 rfl rfl
            have q_77 : gp_I s_65 46 5 = gp_I s_44 46 5 := (hf_67.2.2.1 46 5 (by decide) (by decide) rfl).1
            have q_78 : gp_I s_65 46 6 = gp_I s_44 46 6 := (hf_67.2.2.1 46 6 (by decide) (by decide) rfl).1
            have q_79 : gp_I s_65 46 7 = gp_I s_44 46 7 := (hf_67.2.2.1 46 7 (by decide) (by decide) rfl).1
            have q_80 : gp_I s_65 46 3 = gp_I s_44 46 3 := (hf_67.2.2.1 46 3 (by decide) (by decide) rfl).1
            refine xm_fitting _ hs_66 (by first | assumption | exact kT7 hs_66.1.1 | exact kT25 hs_66.1.1) (fun o_81 s_82 hs_83 hf_84 p_85 => ⟨_, rfl, ?_⟩)
            have hf_86 : gX L true [8, 9, 10, 11, 12, 13, 14, 15, 21, 22, 47, 1196, 2475, 2478, 2479, 2480] s s_82 := gX.trans hf_71 hf_84 rfl rfl
            have kt_87 : kT L s_82 a_17 n_18 := kt_72.fr hf_84.1
            have kt_88 : kT L s_82 v2_22 nv2_22 := kt_73.fr hf_84.1
            have kt_89 : kT L s_82 a_57 n_58 := kt_74.fr hf_84.1
            have pd_90 : RTX L s_82 := RTX_fr pd_75 hf_84 rfl
            have pd_91 : RV L s_82 := RV_fr pd_76 hf_84 rfl rfl
            have q_92 : gp_I s_82 46 5 = gp_I s_65 46 5 := (hf_84.2.2.1 46 5 (by decide) (by decide) rfl).1
            have q_93 : gp_I s_82 46 6 = gp_I s_65 46 6 := (hf_84.2.2.1 46 6 (by decide) (by decide) rfl).1
            have q_94 : gp_I s_82 46 7 = gp_I s_65 46 7 := (hf_84.2.2.1 46 7 (by decide) (by decide) rfl).1
            have q_95 : gp_I s_82 46 3 = gp_I s_65 46 3 := (hf_84.2.2.1 46 3 (by decide) (by decide) rfl).1
            have z_96 : gp_sz s_82 = gp_sz s_65 ∧ gp_us s_82 = gp_us s_65 := hf_84.2.1 rfl
            obtain ⟨a_97, n_98, rfl, kt_99, hn_100⟩ := p_85
            have hn_a_97 := kt_99.n hs_83
            refine s_1285_71 _ _ _ _ _ ?_
            try rw [show gp_wr (v3_22 + 1) = v3_22 + 1 from gp_wr_id (by omega) (by omega)]
            exact ih_22 _ _ _ _ _ hs_83 hf_86 pd_90 pd_91 kt_87 kt_99 (by omega) (by omega) (by omega) (by first | rfl | omega) (by first | omega | assumption) (by first | omega | assumption) (by omega)
          · refine s_1285_71 _ _ _ _ _ ?_
            try rw [show gp_wr (v3_22 + 1) = v3_22 + 1 from gp_wr_id (by omega) (by omega)]
            exact ih_22 _ _ _ _ _ hs_45 hf_53 p_49 p_50 kt_54 (kT25 hs_45.1.1) (by omega) (by omega) (by omega) (by first | rfl | omega) (by first | omega | assumption) (by first | omega | assumption) (by omega)
        · refine s_1285_78 _ _ _ _ ?_
          exact k _ s_22 hs_s_22 hf_s_22 (⟨_, _, rfl, kt_v2_22_s_22, by omega⟩) (by first | omega | assumption) (RTX_L_s_22) (RV_L_s_22) (by first | omega | assumption) (by first | omega | assumption)
      · refine s_1285_78 _ _ _ _ ?_
        exact k _ s_22 hs_s_22 hf_s_22 (⟨_, _, rfl, kt_v2_22_s_22, by omega⟩) (by first | omega | assumption) (RTX_L_s_22) (RV_L_s_22) (by first | omega | assumption) (by first | omega | assumption)
  exact lp_22 _ _ _ _ _ _ hs_7 hf_15 p_11 p_12 kt_19 kt_19 (by omega) (by omega) (by omega) (by first | rfl | omega) (by first | omega | assumption) (by first | omega | assumption) (Nat.lt_succ_self _)
set_option maxRecDepth 100000 in
/-- Reader.readSide -/
theorem xm_readSide (m : Nat) (ihS : RS m) : RD m := by
  intro L D K s p0 hD hs h_p0 q0 q1 q2 q3 k
  obtain ⟨d, rfl⟩ : ∃ d, D = d + 18 := ⟨D - 18, by omega⟩
  have f_1 := xr46_5 hs
  have f_2 := xr46_6 hs
  have f_3 := xr46_7 hs
  have f_4 := xr46_3 hs
  refine s_1288_e _ ?_
  refine xm_next hs (q0) (fun x_5 p_6 p_7 p_8 => ⟨_, rfl, ?_⟩)
  refine ⟨fun h_9 => ?_, fun h_9 => ?_⟩
  · have f_10 := xr46_6 hs
    try rw [show gp_wr ((gp_I s 46 6) + 1) = (gp_I s 46 6) + 1 from gp_wr_id (by omega) (by omega)]
    intro s_11 e_12
    have hs_13 : XI L 0 s_11 := by rw [e_12]; exact xw46_6 hs _ (by omega)
    have hf_14 : gX L true [8, 9, 10, 11, 12, 13, 14, 15, 21, 22, 47, 1196, 2475, 2478, 2479, 2480] s s_11 := by rw [e_12]; exact gX.wI (gX.refl _ _ _ _) (Or.inl rfl)
    have z_15 : gp_sz s_11 = gp_sz s ∧ gp_us s_11 = gp_us s := by rw [e_12]; exact ⟨rfl, rfl⟩
    have q_16 : gp_I s_11 46 5 = gp_I s 46 5 := by rw [e_12] <;> first | rfl | exact I_ne (by omega)
    have q_17 : gp_I s_11 46 6 = (gp_I s 46 6) + 1 := by rw [e_12]; exact (gz_rw _ _ _ _ _).1 rfl
    have q_18 : gp_I s_11 46 7 = gp_I s 46 7 := by rw [e_12] <;> first | rfl | exact I_ne (by omega)
    have q_19 : gp_I s_11 46 3 = gp_I s 46 3 := by rw [e_12] <;> first | rfl | exact I_ne (by omega)
    have pd_20 : RTX L s_11 := by rw [e_12]; exact RTX_fr q0 (gX.wI (gX.refl L true [2478] _) (Or.inl rfl)) rfl
    have pd_21 : RV L s_11 := by rw [e_12]; exact RV_fr q1 (gX.wI (gX.refl L true [2478] _) (Or.inl rfl)) rfl rfl
    refine xm_next hs_13 (pd_20) (fun x_22 p_23 p_24 p_25 => ⟨_, rfl, ?_⟩)
    refine ⟨fun h_26 => ?_, fun h_26 => ?_⟩
    · have f_27 := xr46_6 hs_13
      try rw [show gp_wr ((gp_I s_11 46 6) + 1) = (gp_I s_11 46 6) + 1 from gp_wr_id (by omega) (by omega)]
      intro s_28 e_29
      have hs_30 : XI L 0 s_28 := by rw [e_29]; exact xw46_6 hs_13 _ (by omega)
      have hf_31 : gX L true [8, 9, 10, 11, 12, 13, 14, 15, 21, 22, 47, 1196, 2475, 2478, 2479, 2480] s s_28 := by rw [e_29]; exact gX.wI hf_14 (Or.inl rfl)
      have z_32 : gp_sz s_28 = gp_sz s_11 ∧ gp_us s_28 = gp_us s_11 := by rw [e_29]; exact ⟨rfl, rfl⟩
      have q_33 : gp_I s_28 46 5 = gp_I s_11 46 5 := by rw [e_29] <;> first | rfl | exact I_ne (by omega)
      have q_34 : gp_I s_28 46 6 = (gp_I s_11 46 6) + 1 := by rw [e_29]; exact (gz_rw _ _ _ _ _).1 rfl
      have q_35 : gp_I s_28 46 7 = gp_I s_11 46 7 := by rw [e_29] <;> first | rfl | exact I_ne (by omega)
      have q_36 : gp_I s_28 46 3 = gp_I s_11 46 3 := by rw [e_29] <;> first | rfl | exact I_ne (by omega)
      have pd_37 : RTX L s_28 := by rw [e_29]; exact RTX_fr pd_20 (gX.wI (gX.refl L true [2478] _) (Or.inl rfl)) rfl
      have pd_38 : RV L s_28 := by rw [e_29]; exact RV_fr pd_21 (gX.wI (gX.refl L true [2478] _) (Or.inl rfl)) rfl rfl
      refine xm_readDigits _ hs_30 (by omega) (pd_37) (by first | omega | assumption) (fun x_39 s_40 hs_41 hf_42 p_43 p_44 p_45 p_46 p_47 => ⟨_, rfl, ?_⟩)
      have hf_48 : gX L true [8, 9, 10, 11, 12, 13, 14, 15, 21, 22, 47, 1196, 2475, 2478, 2479, 2480] s s_40 := gX.trans hf_31 hf_42 rfl rfl
      have pd_49 : RV L s_40 := RV_fr pd_38 hf_42 rfl rfl
      have q_50 : gp_I s_40 46 5 = gp_I s_28 46 5 := (hf_42.2.2.1 46 5 (by decide) (by decide) rfl).1
      have q_51 : gp_I s_40 46 3 = gp_I s_28 46 3 := (hf_42.2.2.1 46 3 (by decide) (by decide) rfl).1
      have z_52 : gp_sz s_40 = gp_sz s_28 ∧ gp_us s_40 = gp_us s_28 := hf_42.2.1 rfl
      try rw [show gp_wr (-x_39) = -x_39 from gp_wr_id (by omega) (by omega)]
      exact k _ s_40 hs_41 hf_48 (by first | omega | assumption) (p_45) (pd_49) (by first | omega | assumption) (by first | omega | assumption)
    · refine xm_readDigits _ hs_13 (by omega) (pd_20) (by first | omega | assumption) (fun x_53 s_54 hs_55 hf_56 p_57 p_58 p_59 p_60 p_61 => ⟨_, rfl, ?_⟩)
      have hf_62 : gX L true [8, 9, 10, 11, 12, 13, 14, 15, 21, 22, 47, 1196, 2475, 2478, 2479, 2480] s s_54 := gX.trans hf_14 hf_56 rfl rfl
      have pd_63 : RV L s_54 := RV_fr pd_21 hf_56 rfl rfl
      have q_64 : gp_I s_54 46 5 = gp_I s_11 46 5 := (hf_56.2.2.1 46 5 (by decide) (by decide) rfl).1
      have q_65 : gp_I s_54 46 3 = gp_I s_11 46 3 := (hf_56.2.2.1 46 3 (by decide) (by decide) rfl).1
      have z_66 : gp_sz s_54 = gp_sz s_11 ∧ gp_us s_54 = gp_us s_11 := hf_56.2.1 rfl
      exact k _ s_54 hs_55 hf_62 (by first | omega | assumption) (p_59) (pd_63) (by first | omega | assumption) (by first | omega | assumption)
  · refine ihS _ _ _ _ _ (by omega) hs (by omega) (q0) (q1) (by first | omega | assumption) (by first | omega | assumption) (fun o_67 s_68 hs_69 hf_70 p_71 p_72 p_73 p_74 p_75 p_76 => ⟨_, rfl, ?_⟩)
    have hf_77 : gX L true [8, 9, 10, 11, 12, 13, 14, 15, 21, 22, 47, 1196, 2475, 2478, 2479, 2480] s s_68 := gX.sub hf_70 rfl rfl
    have q_78 : gp_I s_68 46 5 = gp_I s 46 5 := (hf_70.2.2.1 46 5 (by decide) (by decide) rfl).1
    obtain ⟨a_79, n_80, rfl, kt_81, hn_82⟩ := p_71
    have hn_a_79 := kt_81.n hs_69
    refine xm_hang n_80 _ hs_69 (by first | assumption | exact kT7 hs_69.1.1 | exact kT25 hs_69.1.1) (by first | omega | assumption) (p_74) (fun s_83 hs_84 hf_85 p_86 p_87 => ⟨rfl, ?_⟩)
    have hf_88 : gX L true [8, 9, 10, 11, 12, 13, 14, 15, 21, 22, 47, 1196, 2475, 2478, 2479, 2480] s s_83 := gX.trans hf_77 hf_85 rfl rfl
    have kt_89 : kT L s_83 a_79 n_80 := kt_81.fr hf_85.1
    have pd_90 : RTX L s_83 := RTX_fr p_73 hf_85 rfl
    have q_91 : gp_I s_83 46 5 = gp_I s_68 46 5 := (hf_85.2.2.1 46 5 (by decide) (by decide) rfl).1
    have q_92 : gp_I s_83 46 6 = gp_I s_68 46 6 := (hf_85.2.2.1 46 6 (by decide) (by decide) rfl).1
    have q_93 : gp_I s_83 46 7 = gp_I s_68 46 7 := (hf_85.2.2.1 46 7 (by decide) (by decide) rfl).1
    have z_94 : gp_sz s_83 = gp_sz s_68 ∧ gp_us s_83 = gp_us s_68 := hf_85.2.1 rfl
    have lp_95 : ∀ (n_95 : Nat) (v2_95 : Int) (s_95 : gH), (XI L 0 s_95) → (gX L true [8, 9, 10, 11, 12, 13, 14, 15, 21, 22, 47, 1196, 2475, 2478, 2479, 2480] s s_95) → (RTX L s_95) → (RV L s_95) → (kT L s_95 a_79 n_80) → ((gp_sz s_95 : Int) ≤ gp_sz s + 6 * (gp_I s_95 46 6 - gp_I s 46 6) ∧ (gp_us s_95 : Int) ≤ gp_us s + 310 * (gp_I s_95 46 6 - gp_I s 46 6)) → (0 ≤ v2_95 ∧ v2_95 ≤ 100) → (gp_I s_95 46 5 = gp_I s_83 46 5) → (gp_I s 46 6 ≤ gp_I s_95 46 6 ∧ gp_I s_95 46 6 ≤ gp_I s_95 46 5) → (gp_I s 46 3 ≤ gp_I s_95 46 3) → (101 - v2_95).toNat < n_95 → gs_E L (d + 18) 1288 62 [gp_r (some 46), gp_i p0, gp_i v2_95] [] s_95 K := by
      intro n_95
      induction n_95 with
      | zero => intro v2_95 s_95 hs_s_95 hf_s_95 RTX_L_s_95 RV_L_s_95 kt_a_79_s_95 rm_s_95 hv2_95 tk0_95 iv0_95 iv1_95 hm_95; exact absurd hm_95 (Nat.not_lt_zero _)
      | succ n_95 ih_95 =>
        intro v2_95 s_95 hs_s_95 hf_s_95 RTX_L_s_95 RV_L_s_95 kt_a_79_s_95 rm_s_95 hv2_95 tk0_95 iv0_95 iv1_95 hm_95
        refine s_1288_62 _ _ ?_
        refine ⟨fun h_96 => ?_, fun h_96 => ?_⟩
        · refine xm_next hs_s_95 (RTX_L_s_95) (fun x_97 p_98 p_99 p_100 => ⟨_, rfl, ?_⟩)
          refine ⟨fun h_101 => ?_, fun h_101 => ?_⟩
          · have f_102 := xr46_6 hs_s_95
            try rw [show gp_wr ((gp_I s_95 46 6) + 1) = (gp_I s_95 46 6) + 1 from gp_wr_id (by omega) (by omega)]
            intro s_103 e_104
            have hs_105 : XI L 0 s_103 := by rw [e_104]; exact xw46_6 hs_s_95 _ (by omega)
            have hf_106 : gX L true [8, 9, 10, 11, 12, 13, 14, 15, 21, 22, 47, 1196, 2475, 2478, 2479, 2480] s s_103 := by rw [e_104]; exact gX.wI hf_s_95 (Or.inl rfl)
            have kt_107 : kT L s_103 a_79 n_80 := by rw [e_104]; exact kt_a_79_s_95
            have z_108 : gp_sz s_103 = gp_sz s_95 ∧ gp_us s_103 = gp_us s_95 := by rw [e_104]; exact ⟨rfl, rfl⟩
            have q_109 : gp_I s_103 46 5 = gp_I s_95 46 5 := by rw [e_104] <;> first | rfl | exact I_ne (by omega)
            have q_110 : gp_I s_103 46 6 = (gp_I s_95 46 6) + 1 := by rw [e_104]; exact (gz_rw _ _ _ _ _).1 rfl
            have q_111 : gp_I s_103 46 7 = gp_I s_95 46 7 := by rw [e_104] <;> first | rfl | exact I_ne (by omega)
            have q_112 : gp_I s_103 46 3 = gp_I s_95 46 3 := by rw [e_104] <;> first | rfl | exact I_ne (by omega)
            have pd_113 : RTX L s_103 := by rw [e_104]; exact RTX_fr RTX_L_s_95 (gX.wI (gX.refl L true [2478] _) (Or.inl rfl)) rfl
            have pd_114 : RV L s_103 := by rw [e_104]; exact RV_fr RV_L_s_95 (gX.wI (gX.refl L true [2478] _) (Or.inl rfl)) rfl rfl
            refine ihS _ _ _ _ _ (by omega) hs_105 (by omega) (pd_113) (pd_114) (by first | omega | assumption) (by first | omega | assumption) (fun o_115 s_116 hs_117 hf_118 p_119 p_120 p_121 p_122 p_123 p_124 => ⟨_, rfl, ?_⟩)
            have hf_125 : gX L true [8, 9, 10, 11, 12, 13, 14, 15, 21, 22, 47, 1196, 2475, 2478, 2479, 2480] s s_116 := gX.trans hf_106 hf_118 rfl rfl
            have kt_126 : kT L s_116 a_79 n_80 := kt_107.fr hf_118.1
            have q_127 : gp_I s_116 46 5 = gp_I s_103 46 5 := (hf_118.2.2.1 46 5 (by decide) (by decide) rfl).1
            obtain ⟨a_128, n_129, rfl, kt_130, hn_131⟩ := p_119
            have hn_a_128 := kt_130.n hs_117
            refine xm_hang n_129 _ hs_117 (by first | assumption | exact kT7 hs_117.1.1 | exact kT25 hs_117.1.1) (by first | omega | assumption) (p_122) (fun s_132 hs_133 hf_134 p_135 p_136 => ⟨rfl, ?_⟩)
            have hf_137 : gX L true [8, 9, 10, 11, 12, 13, 14, 15, 21, 22, 47, 1196, 2475, 2478, 2479, 2480] s s_132 := gX.trans hf_125 hf_134 rfl rfl
            have kt_138 : kT L s_132 a_79 n_80 := kt_126.fr hf_134.1
            have kt_139 : kT L s_132 a_128 n_129 := kt_130.fr hf_134.1
            have pd_140 : RTX L s_132 := RTX_fr p_121 hf_134 rfl
            have q_141 : gp_I s_132 46 5 = gp_I s_116 46 5 := (hf_134.2.2.1 46 5 (by decide) (by decide) rfl).1
            have q_142 : gp_I s_132 46 6 = gp_I s_116 46 6 := (hf_134.2.2.1 46 6 (by decide) (by decide) rfl).1
            have q_143 : gp_I s_132 46 7 = gp_I s_116 46 7 := (hf_134.2.2.1 46 7 (by decide) (by decide) rfl).1
            have z_144 : gp_sz s_132 = gp_sz s_116 ∧ gp_us s_132 = gp_us s_116 := hf_134.2.1 rfl
            try rw [show gp_wr (v2_95 + 1) = v2_95 + 1 from gp_wr_id (by omega) (by omega)]
            exact ih_95 _ _ hs_133 hf_137 pd_140 p_135 kt_138 (by omega) (by omega) (by first | rfl | omega) (by first | omega | assumption) (by first | omega | assumption) (by omega)
          · refine s_1288_102 _ _ ?_
            exact k _ s_95 hs_s_95 hf_s_95 (by first | omega | assumption) (RTX_L_s_95) (RV_L_s_95) (by first | omega | assumption) (by first | omega | assumption)
        · refine s_1288_102 _ _ ?_
          exact k _ s_95 hs_s_95 hf_s_95 (by first | omega | assumption) (RTX_L_s_95) (RV_L_s_95) (by first | omega | assumption) (by first | omega | assumption)
    exact lp_95 _ _ _ hs_84 hf_88 pd_90 p_86 kt_89 (by omega) (by omega) (by first | rfl | omega) (by first | omega | assumption) (by first | omega | assumption) (Nat.lt_succ_self _)
set_option maxRecDepth 100000 in
/-- Reader.readFrame -/
theorem xm_readFrame (m : Nat) (ihD : RD m) : RF m := by
  intro L D K s p0 hD hs h_p0 q0 q1 q2 q3 k
  obtain ⟨d, rfl⟩ : ∃ d, D = d + 18 := ⟨D - 18, by omega⟩
  have f_1 := xr46_5 hs
  have f_2 := xr46_6 hs
  have f_3 := xr46_7 hs
  have f_4 := xr46_3 hs
  refine s_1287_e _ ?_
  have f_5 := xr46_3 hs
  refine ihD _ _ _ _ _ (by omega) hs (by omega) (q0) (q1) (by first | omega | assumption) (by first | omega | assumption) (fun x_6 s_7 hs_8 hf_9 p_10 p_11 p_12 p_13 p_14 => ⟨_, rfl, ?_⟩)
  have hf_15 : gX L true [8, 9, 10, 11, 12, 13, 14, 15, 21, 22, 47, 1196, 2475, 2478, 2479, 2480] s s_7 := gX.sub hf_9 rfl rfl
  have q_16 : gp_I s_7 46 5 = gp_I s 46 5 := (hf_9.2.2.1 46 5 (by decide) (by decide) rfl).1
  have f_17 := xr46_3 hs_8
  refine xm_expect _ hs_8 (by omega) (p_11) (by first | omega | assumption) (fun s_18 hs_19 hf_20 p_21 p_22 => ⟨rfl, ?_⟩)
  have hf_23 : gX L true [8, 9, 10, 11, 12, 13, 14, 15, 21, 22, 47, 1196, 2475, 2478, 2479, 2480] s s_18 := gX.trans hf_15 hf_20 rfl rfl
  have pd_24 : RV L s_18 := RV_fr p_12 hf_20 rfl rfl
  have q_25 : gp_I s_18 46 5 = gp_I s_7 46 5 := (hf_20.2.2.1 46 5 (by decide) (by decide) rfl).1
  have q_26 : gp_I s_18 46 3 = gp_I s_7 46 3 := (hf_20.2.2.1 46 3 (by decide) (by decide) rfl).1
  have z_27 : gp_sz s_18 = gp_sz s_7 ∧ gp_us s_18 = gp_us s_7 := hf_20.2.1 rfl
  refine ihD _ _ _ _ _ (by omega) hs_19 (by omega) (p_22) (pd_24) (by first | omega | assumption) (by first | omega | assumption) (fun x_28 s_29 hs_30 hf_31 p_32 p_33 p_34 p_35 p_36 => ⟨_, rfl, ?_⟩)
  have hf_37 : gX L true [8, 9, 10, 11, 12, 13, 14, 15, 21, 22, 47, 1196, 2475, 2478, 2479, 2480] s s_29 := gX.trans hf_23 hf_31 rfl rfl
  have q_38 : gp_I s_29 46 5 = gp_I s_18 46 5 := (hf_31.2.2.1 46 5 (by decide) (by decide) rfl).1
  refine xm_expect _ hs_30 (by omega) (p_33) (by first | omega | assumption) (fun s_39 hs_40 hf_41 p_42 p_43 => ⟨rfl, ?_⟩)
  have hf_44 : gX L true [8, 9, 10, 11, 12, 13, 14, 15, 21, 22, 47, 1196, 2475, 2478, 2479, 2480] s s_39 := gX.trans hf_37 hf_41 rfl rfl
  have pd_45 : RV L s_39 := RV_fr p_34 hf_41 rfl rfl
  have q_46 : gp_I s_39 46 5 = gp_I s_29 46 5 := (hf_41.2.2.1 46 5 (by decide) (by decide) rfl).1
  have q_47 : gp_I s_39 46 3 = gp_I s_29 46 3 := (hf_41.2.2.1 46 3 (by decide) (by decide) rfl).1
  have z_48 : gp_sz s_39 = gp_sz s_29 ∧ gp_us s_39 = gp_us s_29 := hf_41.2.1 rfl
  refine xm_framed _ _ _ _ hs_40 (by omega) (by omega) (pd_45) (fun o_49 s_50 hs_51 hf_52 p_53 p_54 p_55 => ⟨_, rfl, ?_⟩)
  have hf_56 : gX L true [8, 9, 10, 11, 12, 13, 14, 15, 21, 22, 47, 1196, 2475, 2478, 2479, 2480] s s_50 := gX.trans hf_44 hf_52 rfl rfl
  have pd_57 : RTX L s_50 := RTX_fr p_43 hf_52 rfl
  have pd_58 : RV L s_50 := RV_fr pd_45 hf_52 rfl rfl
  have q_59 : gp_I s_50 46 5 = gp_I s_39 46 5 := (hf_52.2.2.1 46 5 (by decide) (by decide) rfl).1
  have q_60 : gp_I s_50 46 6 = gp_I s_39 46 6 := (hf_52.2.2.1 46 6 (by decide) (by decide) rfl).1
  have q_61 : gp_I s_50 46 7 = gp_I s_39 46 7 := (hf_52.2.2.1 46 7 (by decide) (by decide) rfl).1
  have q_62 : gp_I s_50 46 3 = gp_I s_39 46 3 := (hf_52.2.2.1 46 3 (by decide) (by decide) rfl).1
  obtain ⟨a_63, n_64, rfl, kt_65, hn_66⟩ := p_53
  have hn_a_63 := kt_65.n hs_51
  have hRV9 := pd_58
  intro s_67 e_68
  have hs_69 : XI L 0 s_67 := by rw [e_68]; exact xw46_3 hs_51 _ (by omega)
  have hf_70 : gX L true [8, 9, 10, 11, 12, 13, 14, 15, 21, 22, 47, 1196, 2475, 2478, 2479, 2480] s s_67 := by rw [e_68]; exact gX.wI hf_56 (Or.inl rfl)
  have kt_71 : kT L s_67 a_63 n_64 := by rw [e_68]; exact kt_65
  have z_72 : gp_sz s_67 = gp_sz s_50 ∧ gp_us s_67 = gp_us s_50 := by rw [e_68]; exact ⟨rfl, rfl⟩
  have q_73 : gp_I s_67 46 5 = gp_I s_50 46 5 := by rw [e_68] <;> first | rfl | exact I_ne (by omega)
  have q_74 : gp_I s_67 46 6 = gp_I s_50 46 6 := by rw [e_68] <;> first | rfl | exact I_ne (by omega)
  have q_75 : gp_I s_67 46 7 = gp_I s_50 46 7 := by rw [e_68] <;> first | rfl | exact I_ne (by omega)
  have q_76 : gp_I s_67 46 3 = gp_I s 46 3 := by rw [e_68]; exact (gz_rw _ _ _ _ _).1 rfl
  have pd_77 : RTX L s_67 := by rw [e_68]; exact RTX_fr pd_57 (gX.wI (gX.refl L true [2475] _) (Or.inl rfl)) rfl
  have hRV8 : RV L s_67 := by rw [‹s_67 = gp_wI _ 46 3 _›]; exact RV_le hRV9 (gX.wI (gX.refl L true [2475] _) (Or.inl rfl)) rfl (by rw [(gz_rw _ _ _ _ _).1 rfl]; omega)
  exact k _ s_67 hs_69 hf_70 (⟨_, _, rfl, by assumption, by omega⟩) (by first | omega | assumption) (pd_77) (hRV8) (by first | omega | assumption) (by first | omega | assumption)
theorem RU_all : ∀ m, RU m
  | 0 => by intro L D K s p0; intros; omega
  | m + 1 => xm_readUnit m (RU_all m) (xm_readFrame m (xm_readSide m (xm_readSum m (RU_all m))))
theorem xm_readSum9 {L d : Nat} {K : Option gV → gH → Prop} {s : gH} (p0 : Int) (hs : XI L 0 s) (h_p0 : 0 ≤ p0 ∧ p0 ≤ 8) (q0 : RTX L s) (q1 : RV L s) (q3 : gp_I s 46 6 ≤ gp_I s 46 5) (k : ∀ (r : Option Nat), ∀ (t : gH), XI L 0 t → gX L true [8, 9, 10, 11, 12, 13, 14, 15, 21, 22, 47, 1196, 2475, 2478, 2479, 2480] s t → (∃ a n, r = some a ∧ kT L t a n ∧ n ≤ 60) → (gp_I s 46 6 ≤ gp_I t 46 6 ∧ gp_I t 46 6 ≤ gp_I t 46 5) → (RTX L t) → (RV L t) → (gp_I t 46 3 = gp_I s 46 3) → ((gp_sz t : Int) ≤ gp_sz s + 6 * (gp_I t 46 6 - gp_I s 46 6) ∧ (gp_us t : Int) ≤ gp_us s + 310 * (gp_I t 46 6 - gp_I s 46 6)) → K (some (gp_r r)) t) : gs_C L (d + 57) 1285 5 [gp_r (some 46), gp_i p0] s K := xm_readSum 9 (RU_all 9) _ _ _ _ _ (by omega) hs h_p0 q0 q1 (by omega) q3 k
set_option maxRecDepth 100000 in
/-- Reader.read -/
theorem xm_read  {L d : Nat} {K : Option gV → gH → Prop} {s : gH}  (p1 : Int) (hs : XI L 0 s) (h_p1 : 0 ≤ p1 ∧ p1 ≤ 100)  (k : ∀ (r : Option Nat), ∀ (t : gH), XI L 0 t → gX L true [8, 9, 10, 11, 12, 13, 14, 15, 21, 22, 47, 1196, 2475, 2476, 2477, 2478, 2479, 2480] s t → (∃ a n, r = some a ∧ kT L t a n ∧ n ≤ 60) → ((gp_sz t : Int) ≤ gp_sz s + 6 * p1 ∧ (gp_us t : Int) ≤ gp_us s + 310 * p1) → K (some (gp_r r)) t) : gs_C L (d + 58) 1281 4 [gp_r (some 46), gp_r (some 3), gp_i p1] s K := by
  have f_1 := xr46_5 hs
  have f_2 := xr46_6 hs
  have f_3 := xr46_7 hs
  have f_4 := xr46_3 hs
  refine s_1281_e _ _ ?_
  intro s_5 e_6
  have hs_7 : XI L 0 s_5 := by rw [e_6]; exact XI.wR hs 46 4 _ (Or.inl (show ¬ (gp_ss 46).1 = 9 by decide))
  have hf_8 : gX L true [8, 9, 10, 11, 12, 13, 14, 15, 21, 22, 47, 1196, 2475, 2476, 2477, 2478, 2479, 2480] s s_5 := by rw [e_6]; exact gX.wR (gX.refl _ _ _ _) (Or.inl rfl) (Or.inl (show ¬ (gp_ss 46).1 = 9 by decide))
  have z_9 : gp_sz s_5 = gp_sz s ∧ gp_us s_5 = gp_us s := by rw [e_6]; exact ⟨rfl, rfl⟩
  have q_10 : gp_I s_5 46 5 = gp_I s 46 5 := by rw [e_6] <;> first | rfl | exact I_ne (by omega)
  have q_11 : gp_I s_5 46 6 = gp_I s 46 6 := by rw [e_6] <;> first | rfl | exact I_ne (by omega)
  have q_12 : gp_I s_5 46 7 = gp_I s 46 7 := by rw [e_6] <;> first | rfl | exact I_ne (by omega)
  have q_13 : gp_I s_5 46 3 = gp_I s 46 3 := by rw [e_6] <;> first | rfl | exact I_ne (by omega)
  have hRT : RTX L s_5 := by rw [‹s_5 = gp_wR _ 46 4 _›]; exact RTX_w
  intro s_14 e_15
  have hs_16 : XI L 0 s_14 := by rw [e_15]; exact xw46_5 hs_7 _ (by omega)
  have hf_17 : gX L true [8, 9, 10, 11, 12, 13, 14, 15, 21, 22, 47, 1196, 2475, 2476, 2477, 2478, 2479, 2480] s s_14 := by rw [e_15]; exact gX.wI hf_8 (Or.inl rfl)
  have z_18 : gp_sz s_14 = gp_sz s_5 ∧ gp_us s_14 = gp_us s_5 := by rw [e_15]; exact ⟨rfl, rfl⟩
  have q_19 : gp_I s_14 46 5 = p1 := by rw [e_15]; exact (gz_rw _ _ _ _ _).1 rfl
  have q_20 : gp_I s_14 46 6 = gp_I s_5 46 6 := by rw [e_15] <;> first | rfl | exact I_ne (by omega)
  have q_21 : gp_I s_14 46 7 = gp_I s_5 46 7 := by rw [e_15] <;> first | rfl | exact I_ne (by omega)
  have q_22 : gp_I s_14 46 3 = gp_I s_5 46 3 := by rw [e_15] <;> first | rfl | exact I_ne (by omega)
  have pd_23 : RTX L s_14 := by rw [e_15]; exact RTX_fr hRT (gX.wI (gX.refl L true [2477] _) (Or.inl rfl)) rfl
  intro s_24 e_25
  have hs_26 : XI L 0 s_24 := by rw [e_25]; exact xw46_6 hs_16 _ (by omega)
  have hf_27 : gX L true [8, 9, 10, 11, 12, 13, 14, 15, 21, 22, 47, 1196, 2475, 2476, 2477, 2478, 2479, 2480] s s_24 := by rw [e_25]; exact gX.wI hf_17 (Or.inl rfl)
  have z_28 : gp_sz s_24 = gp_sz s_14 ∧ gp_us s_24 = gp_us s_14 := by rw [e_25]; exact ⟨rfl, rfl⟩
  have q_29 : gp_I s_24 46 5 = gp_I s_14 46 5 := by rw [e_25] <;> first | rfl | exact I_ne (by omega)
  have q_30 : gp_I s_24 46 6 = 0 := by rw [e_25]; exact (gz_rw _ _ _ _ _).1 rfl
  have q_31 : gp_I s_24 46 7 = gp_I s_14 46 7 := by rw [e_25] <;> first | rfl | exact I_ne (by omega)
  have q_32 : gp_I s_24 46 3 = gp_I s_14 46 3 := by rw [e_25] <;> first | rfl | exact I_ne (by omega)
  have pd_33 : RTX L s_24 := by rw [e_25]; exact RTX_fr pd_23 (gX.wI (gX.refl L true [2478] _) (Or.inl rfl)) rfl
  intro s_34 e_35
  have hs_36 : XI L 0 s_34 := by rw [e_35]; exact xw46_3 hs_26 _ (by omega)
  have hf_37 : gX L true [8, 9, 10, 11, 12, 13, 14, 15, 21, 22, 47, 1196, 2475, 2476, 2477, 2478, 2479, 2480] s s_34 := by rw [e_35]; exact gX.wI hf_27 (Or.inl rfl)
  have z_38 : gp_sz s_34 = gp_sz s_24 ∧ gp_us s_34 = gp_us s_24 := by rw [e_35]; exact ⟨rfl, rfl⟩
  have q_39 : gp_I s_34 46 5 = gp_I s_24 46 5 := by rw [e_35] <;> first | rfl | exact I_ne (by omega)
  have q_40 : gp_I s_34 46 6 = gp_I s_24 46 6 := by rw [e_35] <;> first | rfl | exact I_ne (by omega)
  have q_41 : gp_I s_34 46 7 = gp_I s_24 46 7 := by rw [e_35] <;> first | rfl | exact I_ne (by omega)
  have q_42 : gp_I s_34 46 3 = 0 := by rw [e_35]; exact (gz_rw _ _ _ _ _).1 rfl
  have pd_43 : RTX L s_34 := by rw [e_35]; exact RTX_fr pd_33 (gX.wI (gX.refl L true [2475] _) (Or.inl rfl)) rfl
  have hRV0 : RV L s_34 := RV_0 (by omega)
  intro s_44 e_45
  have hs_46 : XI L 0 s_44 := by rw [e_45]; exact xw46_7 hs_36 _ (by omega)
  have hf_47 : gX L true [8, 9, 10, 11, 12, 13, 14, 15, 21, 22, 47, 1196, 2475, 2476, 2477, 2478, 2479, 2480] s s_44 := by rw [e_45]; exact gX.wI hf_37 (Or.inl rfl)
  have z_48 : gp_sz s_44 = gp_sz s_34 ∧ gp_us s_44 = gp_us s_34 := by rw [e_45]; exact ⟨rfl, rfl⟩
  have q_49 : gp_I s_44 46 5 = gp_I s_34 46 5 := by rw [e_45] <;> first | rfl | exact I_ne (by omega)
  have q_50 : gp_I s_44 46 6 = gp_I s_34 46 6 := by rw [e_45] <;> first | rfl | exact I_ne (by omega)
  have q_51 : gp_I s_44 46 7 = (-1) := by rw [e_45]; exact (gz_rw _ _ _ _ _).1 rfl
  have q_52 : gp_I s_44 46 3 = gp_I s_34 46 3 := by rw [e_45] <;> first | rfl | exact I_ne (by omega)
  have pd_53 : RTX L s_44 := by rw [e_45]; exact RTX_fr pd_43 (gX.wI (gX.refl L true [2479] _) (Or.inl rfl)) rfl
  have pd_54 : RV L s_44 := by rw [e_45]; exact RV_fr hRV0 (gX.wI (gX.refl L true [2479] _) (Or.inl rfl)) rfl rfl
  intro s_55 e_56
  have hs_57 : XI L 0 s_55 := by rw [e_56]; exact xw46_8 hs_46 _ (by omega)
  have hf_58 : gX L true [8, 9, 10, 11, 12, 13, 14, 15, 21, 22, 47, 1196, 2475, 2476, 2477, 2478, 2479, 2480] s s_55 := by rw [e_56]; exact gX.wI hf_47 (Or.inl rfl)
  have z_59 : gp_sz s_55 = gp_sz s_44 ∧ gp_us s_55 = gp_us s_44 := by rw [e_56]; exact ⟨rfl, rfl⟩
  have q_60 : gp_I s_55 46 5 = gp_I s_44 46 5 := by rw [e_56] <;> first | rfl | exact I_ne (by omega)
  have q_61 : gp_I s_55 46 6 = gp_I s_44 46 6 := by rw [e_56] <;> first | rfl | exact I_ne (by omega)
  have q_62 : gp_I s_55 46 7 = gp_I s_44 46 7 := by rw [e_56] <;> first | rfl | exact I_ne (by omega)
  have q_63 : gp_I s_55 46 3 = gp_I s_44 46 3 := by rw [e_56] <;> first | rfl | exact I_ne (by omega)
  have pd_64 : RTX L s_55 := by rw [e_56]; exact RTX_fr pd_53 (gX.wI (gX.refl L true [2480] _) (Or.inl rfl)) rfl
  have pd_65 : RV L s_55 := by rw [e_56]; exact RV_fr pd_54 (gX.wI (gX.refl L true [2480] _) (Or.inl rfl)) rfl rfl
  refine xm_readSum9 _ hs_57 (by omega) (pd_64) (pd_65) (by first | omega | assumption) (fun o_66 s_67 hs_68 hf_69 p_70 p_71 p_72 p_73 p_74 p_75 => ⟨_, rfl, ?_⟩)
  have hf_76 : gX L true [8, 9, 10, 11, 12, 13, 14, 15, 21, 22, 47, 1196, 2475, 2476, 2477, 2478, 2479, 2480] s s_67 := gX.trans hf_58 hf_69 rfl rfl
  have q_77 : gp_I s_67 46 5 = gp_I s_55 46 5 := (hf_69.2.2.1 46 5 (by decide) (by decide) rfl).1
  obtain ⟨a_78, n_79, rfl, kt_80, hn_81⟩ := p_70
  have hn_a_78 := kt_80.n hs_68
  have f_82 := xr46_6 hs_68
  have f_83 := xr46_5 hs_68
  refine ⟨fun h_84 => ?_, fun h_84 => ?_⟩
  · refine xm_fail hs_68 (fun s_85 hs_86 hf_87 => ⟨rfl, ?_⟩)
    have hf_88 : gX L true [8, 9, 10, 11, 12, 13, 14, 15, 21, 22, 47, 1196, 2475, 2476, 2477, 2478, 2479, 2480] s s_85 := gX.trans hf_76 hf_87 rfl rfl
    have kt_89 : kT L s_85 a_78 n_79 := kt_80.fr hf_87.1
    have pd_90 : RTX L s_85 := RTX_fr p_72 hf_87 rfl
    have pd_91 : RV L s_85 := RV_fr p_73 hf_87 rfl rfl
    have q_92 : gp_I s_85 46 5 = gp_I s_67 46 5 := (hf_87.2.2.1 46 5 (by decide) (by decide) rfl).1
    have q_93 : gp_I s_85 46 6 = gp_I s_67 46 6 := (hf_87.2.2.1 46 6 (by decide) (by decide) rfl).1
    have q_94 : gp_I s_85 46 3 = gp_I s_67 46 3 := (hf_87.2.2.1 46 3 (by decide) (by decide) rfl).1
    have z_95 : gp_sz s_85 = gp_sz s_67 ∧ gp_us s_85 = gp_us s_67 := hf_87.2.1 rfl
    refine s_1281_51 _ _ _ ?_
    exact k _ s_85 hs_86 hf_88 (⟨_, _, rfl, kt_89, by omega⟩) (by first | omega | assumption)
  · refine s_1281_51 _ _ _ ?_
    exact k _ s_67 hs_68 hf_76 (⟨_, _, rfl, kt_80, by omega⟩) (by first | omega | assumption)
