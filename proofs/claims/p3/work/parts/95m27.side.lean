set_option maxHeartbeats 12000000 in
set_option maxRecDepth 100000 in
/-- GatheredPointsModel.side -/
theorem vm_sideV (m : Nat) (ihE : EXZ m) : SIZ m := by
  intro L D K s τ n hD hs q0 q1 q2 q3 q4 q5 k
  obtain ⟨d, rfl⟩ : ∃ d, D = d + 188 := ⟨D - 188, by omega⟩
  have f_1 := mr74_38 hs
  have f_2 := mr74_39 hs
  have f_3 := mr74_40 hs
  have f_4 := mr74_41 hs
  have f_5 := mr74_42 hs
  have f_6 := mr74_43 hs
  have f_7 := mr74_44 hs
  have f_8 := mr81 hs 19
  refine s_3135_e ?_
  have hkq0 := kq.refl s
  have hKq0 := KQ.refl s
  refine vm_takes τ n _ hs (by omega) (q0) (by first | omega | assumption) (fun x_9 s_10 hs_11 hf_12 p_13 p_14 p_15 => ⟨_, rfl, ?_⟩)
  have hf_16 : gF [76, 77, 78, 79, 80, 81, 86, 87, 88, 89, 105] [15, 38, 40, 41, 42, 43, 45] s s_10 := gF.sub hf_12 rfl rfl
  have pd_17 : TPn τ n s_10 := TP_fr q0 hf_12 rfl rfl
  have pd_18 : kq s s_10 := kq_fr hkq0 hf_12 rfl
  have pd_19 : KQ s s_10 := KQ_fr hKq0 hf_12 rfl rfl rfl rfl
  have pd_20 : PGM s_10 := PGM_fr q4 hf_12 rfl rfl rfl rfl rfl rfl rfl rfl rfl
  have q_21 := (hf_12.2 74 39 rfl (fun _ => rfl)).1
  have q_22 := (hf_12.2 74 40 rfl (fun _ => rfl)).1
  have q_23 := (hf_12.2 74 41 rfl (fun _ => rfl)).1
  have q_24 := (hf_12.2 74 42 rfl (fun _ => rfl)).1
  have q_25 := (hf_12.2 74 43 rfl (fun _ => rfl)).1
  have q_26 := (hf_12.2 74 44 rfl (fun _ => rfl)).1
  have q_27 := (hf_12.2 81 19 rfl (fun h => absurd h (by decide))).1
  have q_28 := (hf_12.2 74 45 rfl (fun _ => rfl)).1
  refine ⟨fun h_29 => ?_, fun h_29 => ?_⟩
  · have lp_30 : ∀ (n_30 : Nat) (v1_30 : Int) (v2_30 : gV) (s_30 : gH), (MI s_30) → (gF [76, 77, 78, 79, 80, 81, 86, 87, 88, 89, 105] [15, 38, 40, 41, 42, 43, 45] s s_30) → (TPn τ n s_30) → (kq s s_30) → (KQ s s_30) → (PGM s_30) → (0 ≤ v1_30 ∧ v1_30 ≤ 100) → (gp_I s_30 74 39 = gp_I s_10 74 39) → (gp_I s_30 74 44 = gp_I s_10 74 44) → (gp_I s 74 38 ≤ gp_I s_30 74 38 ∧ gp_I s_30 74 38 ≤ gp_I s_30 74 39) → (gp_I s 74 42 ≤ gp_I s_30 74 42 ∧ 2 * gp_I s_30 74 42 ≤ gp_I s_30 74 38) → (gp_I s_30 74 40 < 0 → gp_I s 74 40 < 0) → (gp_I s_30 74 43 = 0 → gp_I s 74 43 = 0) → (gp_I s_30 74 41 = gp_I s 74 41 ∧ gp_I s_30 74 44 = gp_I s 74 44) → (gp_I s_30 74 40 < 0 → gp_I s_30 74 43 = 0 → gp_I s_30 74 42 = gp_I s 74 42 + v1_30) → (gp_I s 74 43 ≠ 0 → gp_I s_30 74 43 = gp_I s 74 43) → (v1_30 ≤ gp_I s_30 74 38) → (ZTH τ n s s_30 v1_30) → (Int.toNat (100 - gp_I s_30 74 38)) < n_30 → gs_E L (d + 188) 3135 50 [gp_r (some 74), gp_i v1_30, v2_30] [] s_30 K := by
      intro n_30
      induction n_30 with
      | zero => intro v1_30 v2_30 s_30 hs_s_30 hf_s_30 TPn_τ_n_s_30 kq_s_s_30 KQ_s_s_30 PGM_s_30 hv1_30 tk0_30 tk1_30 iv0_30 iv1_30 iv2_30 iv3_30 iv4_30 iv5_30 iv6_30 iv7_30 iv8_30 hm_30; exact absurd hm_30 (Nat.not_lt_zero _)
      | succ n_30 ih_30 =>
        intro v1_30 v2_30 s_30 hs_s_30 hf_s_30 TPn_τ_n_s_30 kq_s_s_30 KQ_s_s_30 PGM_s_30 hv1_30 tk0_30 tk1_30 iv0_30 iv1_30 iv2_30 iv3_30 iv4_30 iv5_30 iv6_30 iv7_30 iv8_30 hm_30
        refine s_3135_50 _ _ ?_
        have hk51 := kq_s_s_30
        have hK51 := KQ_s_s_30
        refine ihE _ _ _ _ τ n (by omega) hs_s_30 (TPn_τ_n_s_30) (by first | omega | assumption) (by first | omega | assumption) (by first | omega | assumption) (PGM_s_30) (by first | omega | assumption) (fun s_31 hs_32 hf_33 p_34 p_35 p_36 p_37 p_38 p_39 p_40 p_41 p_42 p_43 p_44 p_45 => ⟨rfl, ?_⟩)
        have hf_46 : gF [76, 77, 78, 79, 80, 81, 86, 87, 88, 89, 105] [15, 38, 40, 41, 42, 43, 45] s s_31 := gF.trans hf_s_30 hf_33 rfl rfl
        have q_47 := (hf_33.2 74 39 rfl (fun _ => rfl)).1
        have q_48 := (hf_33.2 74 44 rfl (fun _ => rfl)).1
        have hk54 : kq s s_31 := kq.trans hk51 p_40 (by omega)
        have hK54 : KQ s s_31 := KQ_t hK51 p_42 (by omega)
        have hzw := p_45
        have hkx := p_40
        have hKx := p_42
        have hZC := ZTC_s iv8_30 (by omega) hzw (by omega) (fun o9 => by have := o9.1; have := o9.2.1; have := o9.2.2; omega) (fun k9 x9 o9 a9 b9 => GTM_q b9 hkx hKx ⟨by omega, by have := o9.1; have := o9.2.1; have := o9.2.2; omega⟩)
        try rw [show gp_wr (v1_30 + 1) = v1_30 + 1 from gp_wr_id (by omega) (by omega)]
        refine vm_takes τ n _ hs_32 (by omega) (p_39) (by first | omega | assumption) (fun x_49 s_50 hs_51 hf_52 p_53 p_54 p_55 => ⟨_, rfl, ?_⟩)
        have hf_56 : gF [76, 77, 78, 79, 80, 81, 86, 87, 88, 89, 105] [15, 38, 40, 41, 42, 43, 45] s s_50 := gF.trans hf_46 hf_52 rfl rfl
        have pd_57 : TPn τ n s_50 := TP_fr p_39 hf_52 rfl rfl
        have pd_58 : kq s s_50 := kq_fr hk54 hf_52 rfl
        have pd_59 : KQ s s_50 := KQ_fr hK54 hf_52 rfl rfl rfl rfl
        have pd_60 : PGM s_50 := PGM_fr p_43 hf_52 rfl rfl rfl rfl rfl rfl rfl rfl rfl
        have q_61 := (hf_52.2 74 39 rfl (fun _ => rfl)).1
        have q_62 := (hf_52.2 74 40 rfl (fun _ => rfl)).1
        have q_63 := (hf_52.2 74 41 rfl (fun _ => rfl)).1
        have q_64 := (hf_52.2 74 42 rfl (fun _ => rfl)).1
        have q_65 := (hf_52.2 74 43 rfl (fun _ => rfl)).1
        have q_66 := (hf_52.2 74 44 rfl (fun _ => rfl)).1
        have q_67 := (hf_52.2 81 19 rfl (fun h => absurd h (by decide))).1
        have q_68 := (hf_52.2 74 45 rfl (fun _ => rfl)).1
        have hgx : ∀ g x, GTM s_31 g x → GTM s_50 g x := fun g x h9 => GTM_fr2 h9 hf_52 rfl rfl rfl rfl rfl
        refine ⟨fun h_69 => ?_, fun h_69 => ?_⟩
        · have hgx : ∀ g x, GTM s_31 g x → GTM s_50 g x := fun g x h9 => GTM_fr2 h9 hf_52 rfl rfl rfl rfl rfl
          exact k _ s_50 hs_51 hf_56 (by omega) (by first | omega | assumption) (by first | omega | assumption) (by first | omega | assumption) (by first | omega | assumption) (by first | omega | assumption) (pd_57) (pd_58) (by first | omega | assumption) (pd_59) (pd_60) (fun h9 => by omega) (ZS_e hZC (by omega) (by omega) (by omega) (by omega) (fun o => okI (by have := o.1; omega) (by have := o.2.1; omega) (by have := o.2.2; omega)) hgx) (fun h9 => by omega)
        · exact ih_30 _ _ _ hs_51 hf_56 pd_57 pd_58 pd_59 pd_60 (by omega) (by first | rfl | omega) (by first | rfl | omega) (by first | omega | assumption) (by first | omega | assumption) (by first | omega | assumption) (by first | omega | assumption) (by first | omega | assumption) (by first | omega | assumption) (by first | omega | assumption) (by first | omega | assumption) (ZTH_s hZC (by omega) (by omega) (by omega) (fun o => okI (by have := o.1; omega) (by have := o.2.1; omega) (by have := o.2.2; omega)) (fun k9 x9 h9 => hgx _ _ h9)) (by omega)
    exact lp_30 _ _ _ _ hs_11 hf_16 pd_17 pd_18 pd_19 pd_20 (by omega) (by first | rfl | omega) (by first | rfl | omega) (by first | omega | assumption) (by first | omega | assumption) (by first | omega | assumption) (by first | omega | assumption) (by first | omega | assumption) (by first | omega | assumption) (by first | omega | assumption) (by first | omega | assumption) (ZTH_0 (fun o9 => by have := o9.1; have := o9.2.1; have := o9.2.2; omega) (fun o => okI (by have := o.1; omega) (by have := o.2.1; omega) (by have := o.2.2; omega)) (by omega)) (Nat.lt_succ_self _)
  · have hA1 : gp_I s_10 74 38 = gp_I s 74 38 + 1 := by omega
    refine vm_takes τ n _ hs_11 (by omega) (pd_17) (by first | omega | assumption) (fun x_70 s_71 hs_72 hf_73 p_74 p_75 p_76 => ⟨_, rfl, ?_⟩)
    have hf_77 : gF [76, 77, 78, 79, 80, 81, 86, 87, 88, 89, 105] [15, 38, 40, 41, 42, 43, 45] s s_71 := gF.trans hf_16 hf_73 rfl rfl
    have pd_78 : TPn τ n s_71 := TP_fr pd_17 hf_73 rfl rfl
    have pd_79 : kq s s_71 := kq_fr pd_18 hf_73 rfl
    have pd_80 : KQ s s_71 := KQ_fr pd_19 hf_73 rfl rfl rfl rfl
    have pd_81 : PGM s_71 := PGM_fr pd_20 hf_73 rfl rfl rfl rfl rfl rfl rfl rfl rfl
    have q_82 := (hf_73.2 74 39 rfl (fun _ => rfl)).1
    have q_83 := (hf_73.2 74 40 rfl (fun _ => rfl)).1
    have q_84 := (hf_73.2 74 41 rfl (fun _ => rfl)).1
    have q_85 := (hf_73.2 74 42 rfl (fun _ => rfl)).1
    have q_86 := (hf_73.2 74 43 rfl (fun _ => rfl)).1
    have q_87 := (hf_73.2 74 44 rfl (fun _ => rfl)).1
    have q_88 := (hf_73.2 81 19 rfl (fun h => absurd h (by decide))).1
    have q_89 := (hf_73.2 74 45 rfl (fun _ => rfl)).1
    have hA2 : (bA τ n (gp_I s_10 74 38) = 45 ∧ gp_I s_71 74 38 = gp_I s_10 74 38 + 1) ∨ (bA τ n (gp_I s_10 74 38) ≠ 45 ∧ gp_I s_71 74 38 = gp_I s_10 74 38) := by omega
    refine vm_goesOn hs_72 (fun x_90 p_91 p_92 => ⟨_, rfl, ?_⟩)
    refine ⟨fun h_93 => ?_, fun h_93 => ?_⟩
    · exfalso; omega
    · refine vm_numberV τ n hs_72 (pd_78) (by first | omega | assumption) (fun x_94 s_95 hs_96 hf_97 p_98 p_99 p_100 p_101 p_102 => ⟨_, rfl, ?_⟩)
      have hf_103 : gF [76, 77, 78, 79, 80, 81, 86, 87, 88, 89, 105] [15, 38, 40, 41, 42, 43, 45] s s_95 := gF.trans hf_77 hf_97 rfl rfl
      have pd_104 : TPn τ n s_95 := TP_fr pd_78 hf_97 rfl rfl
      have pd_105 : kq s s_95 := kq_fr pd_79 hf_97 rfl
      have pd_106 : KQ s s_95 := KQ_fr pd_80 hf_97 rfl rfl rfl rfl
      have q_107 := (hf_97.2 74 39 rfl (fun _ => rfl)).1
      have q_108 := (hf_97.2 74 41 rfl (fun _ => rfl)).1
      have q_109 := (hf_97.2 74 42 rfl (fun _ => rfl)).1
      have q_110 := (hf_97.2 74 43 rfl (fun _ => rfl)).1
      have q_111 := (hf_97.2 74 44 rfl (fun _ => rfl)).1
      have q_112 := (hf_97.2 81 19 rfl (fun h => absurd h (by decide))).1
      have q_113 := (hf_97.2 74 45 rfl (fun _ => rfl)).1
      have hA3 : gp_I s_95 74 38 = aN τ n (gp_I s_71 74 38) := p_99
      have hA4 : (48 ≤ bA τ n (gp_I s_71 74 38) ∧ bA τ n (gp_I s_71 74 38) ≤ 57 ∧ gp_I s_95 74 40 = gp_I s 74 40) ∨ (¬ (48 ≤ bA τ n (gp_I s_71 74 38) ∧ bA τ n (gp_I s_71 74 38) ≤ 57) ∧ gp_I s_95 74 40 = gp_I s_71 74 38) := by omega
      have hNV : x_94 = (ndg τ n 3 (gp_I s_71 74 38) 0).2 := p_101
      have hNB := p_102
      refine s_3135_31 _ _ _ ?_
      refine ⟨fun h_114 => ?_, fun h_114 => ?_⟩
      · refine s_3135_43 _ _ _ ?_
        intro s_115 e_116
        have hs_117 : MI s_115 := by rw [e_116]; exact mw74_45 hs_96 _
        have hf_118 : gF [76, 77, 78, 79, 80, 81, 86, 87, 88, 89, 105] [15, 38, 40, 41, 42, 43, 45] s s_115 := by rw [e_116]; exact gF.wI hf_103 (Or.inr ⟨rfl, rfl⟩)
        have q_119 : gp_I s_115 74 38 = gp_I s_95 74 38 := by rw [e_116] <;> rfl
        have q_120 : gp_I s_115 74 39 = gp_I s_95 74 39 := by rw [e_116] <;> rfl
        have q_121 : gp_I s_115 74 40 = gp_I s_95 74 40 := by rw [e_116] <;> rfl
        have q_122 : gp_I s_115 74 41 = gp_I s_95 74 41 := by rw [e_116] <;> rfl
        have q_123 : gp_I s_115 74 42 = gp_I s_95 74 42 := by rw [e_116] <;> rfl
        have q_124 : gp_I s_115 74 43 = gp_I s_95 74 43 := by rw [e_116] <;> rfl
        have q_125 : gp_I s_115 74 44 = gp_I s_95 74 44 := by rw [e_116] <;> rfl
        have q_126 : gp_I s_115 81 19 = gp_I s_95 81 19 := by rw [e_116] <;> rfl
        have q_127 : gp_I s_115 74 45 = x_94 := by rw [e_116]; exact (gz_rw _ _ _ _ _).1 rfl
        have pd_128 : TPn τ n s_115 := by rw [e_116]; exact TP_fr pd_104 (gF.wI (gF.refl [] [45] _) (Or.inr ⟨rfl, rfl⟩)) rfl rfl
        have pd_129 : kq s s_115 := by rw [e_116]; exact kq_fr pd_105 (gF.wI (gF.refl [] [45] _) (Or.inr ⟨rfl, rfl⟩)) rfl
        have pd_130 : KQ s s_115 := by rw [e_116]; exact KQ_fr pd_106 (gF.wI (gF.refl [] [45] _) (Or.inr ⟨rfl, rfl⟩)) rfl rfl rfl rfl
        have hwr : gp_wr (-x_94) = -x_94 := gp_wr_id (by omega) (by omega)
        have hPG9 : PGM s_115 := by first | exact (by assumption) | exact PGM_q q4 pd_129 pd_130 (fun o => okI (by have := o.1; omega) (by have := o.2.1; omega) (by have := o.2.2; omega)) (fun o9 => by have := o9.1; have := o9.2.1; have := o9.2.2; omega) (fun o9 e9 => by exfalso; omega)
        have hZ9 : ZS τ n s s_115 0 := ZS_d (p := gp_I s_71 74 38) (by omega) (by omega) hA1 (by omega) (fun d9 => (okI (by omega) (by omega) (by omega))) (by omega) hNV
        exact k _ s_115 hs_117 hf_118 (by omega) (by first | omega | assumption) (by first | omega | assumption) (by first | omega | assumption) (by first | omega | assumption) (by first | omega | assumption) (pd_128) (pd_129) (by first | omega | assumption) (pd_130) (hPG9) (fun h9 => by omega) (hZ9) (fun h9 => by omega)
      · have w_131 := wr_rng (-x_94)
        refine s_3135_43 _ _ _ ?_
        intro s_132 e_133
        have hs_134 : MI s_132 := by rw [e_133]; exact mw74_45 hs_96 _
        have hf_135 : gF [76, 77, 78, 79, 80, 81, 86, 87, 88, 89, 105] [15, 38, 40, 41, 42, 43, 45] s s_132 := by rw [e_133]; exact gF.wI hf_103 (Or.inr ⟨rfl, rfl⟩)
        have q_136 : gp_I s_132 74 38 = gp_I s_95 74 38 := by rw [e_133] <;> rfl
        have q_137 : gp_I s_132 74 39 = gp_I s_95 74 39 := by rw [e_133] <;> rfl
        have q_138 : gp_I s_132 74 40 = gp_I s_95 74 40 := by rw [e_133] <;> rfl
        have q_139 : gp_I s_132 74 41 = gp_I s_95 74 41 := by rw [e_133] <;> rfl
        have q_140 : gp_I s_132 74 42 = gp_I s_95 74 42 := by rw [e_133] <;> rfl
        have q_141 : gp_I s_132 74 43 = gp_I s_95 74 43 := by rw [e_133] <;> rfl
        have q_142 : gp_I s_132 74 44 = gp_I s_95 74 44 := by rw [e_133] <;> rfl
        have q_143 : gp_I s_132 81 19 = gp_I s_95 81 19 := by rw [e_133] <;> rfl
        have q_144 : gp_I s_132 74 45 = gp_wr (-x_94) := by rw [e_133]; exact (gz_rw _ _ _ _ _).1 rfl
        have pd_145 : TPn τ n s_132 := by rw [e_133]; exact TP_fr pd_104 (gF.wI (gF.refl [] [45] _) (Or.inr ⟨rfl, rfl⟩)) rfl rfl
        have pd_146 : kq s s_132 := by rw [e_133]; exact kq_fr pd_105 (gF.wI (gF.refl [] [45] _) (Or.inr ⟨rfl, rfl⟩)) rfl
        have pd_147 : KQ s s_132 := by rw [e_133]; exact KQ_fr pd_106 (gF.wI (gF.refl [] [45] _) (Or.inr ⟨rfl, rfl⟩)) rfl rfl rfl rfl
        have hwr : gp_wr (-x_94) = -x_94 := gp_wr_id (by omega) (by omega)
        have hPG9 : PGM s_132 := by first | exact (by assumption) | exact PGM_q q4 pd_146 pd_147 (fun o => okI (by have := o.1; omega) (by have := o.2.1; omega) (by have := o.2.2; omega)) (fun o9 => by have := o9.1; have := o9.2.1; have := o9.2.2; omega) (fun o9 e9 => by exfalso; omega)
        have hZ9 : ZS τ n s s_132 0 := ZS_d (p := gp_I s_71 74 38) (by omega) (by omega) hA1 (by omega) (fun d9 => (okI (by omega) (by omega) (by omega))) (by omega) hNV
        exact k _ s_132 hs_134 hf_135 (by omega) (by first | omega | assumption) (by first | omega | assumption) (by first | omega | assumption) (by first | omega | assumption) (by first | omega | assumption) (pd_145) (pd_146) (by first | omega | assumption) (pd_147) (hPG9) (fun h9 => by omega) (hZ9) (fun h9 => by omega)
