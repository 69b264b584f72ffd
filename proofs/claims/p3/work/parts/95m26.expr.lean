set_option maxHeartbeats 12000000 in
set_option maxRecDepth 100000 in
/-- GatheredPointsModel.expression -/
theorem vm_expressionV (m : Nat) (ihU : UNZ m) : EXZ m := by
  intro L D K s τ n hD hs q0 q1 q2 q3 q4 q5 k
  obtain ⟨d, rfl⟩ : ∃ d, D = d + 188 := ⟨D - 188, by omega⟩
  have f_1 := mr74_38 hs
  have f_2 := mr74_39 hs
  have f_3 := mr74_40 hs
  have f_4 := mr74_41 hs
  have f_5 := mr74_42 hs
  have f_6 := mr74_43 hs
  have f_7 := mr74_44 hs
  have f_8 := mr81 hs 19
  refine s_3137_e ?_
  have hkq0 := kq.refl s
  have hKq0 := KQ.refl s
  refine ihU _ _ _ _ τ n (by omega) hs (q0) (by first | omega | assumption) (by first | omega | assumption) (by first | omega | assumption) (q4) (by first | omega | assumption) (fun s_9 hs_10 hf_11 p_12 p_13 p_14 p_15 p_16 p_17 p_18 p_19 p_20 p_21 p_22 p_23 => ⟨rfl, ?_⟩)
  have hf_24 : gF [76, 77, 78, 79, 80, 81, 86, 87, 88, 89, 105] [15, 38, 40, 41, 42, 43, 45] s s_9 := gF.sub hf_11 rfl rfl
  have q_25 := (hf_11.2 74 39 rfl (fun _ => rfl)).1
  have q_26 := (hf_11.2 74 44 rfl (fun _ => rfl)).1
  have hkq4 : kq s s_9 := p_18
  have hKq4 : KQ s s_9 := p_20
  have hzw4 := p_23
  have lp_27 : ∀ (n_27 : Nat) (s_27 : gH), (MI s_27) → (gF [76, 77, 78, 79, 80, 81, 86, 87, 88, 89, 105] [15, 38, 40, 41, 42, 43, 45] s s_27) → (TPn τ n s_27) → (kq s s_27) → (KQ s s_27) → (PGM s_27) → (gp_I s_27 74 39 = gp_I s_9 74 39) → (gp_I s_27 74 44 = gp_I s_9 74 44) → (gp_I s 74 38 ≤ gp_I s_27 74 38 ∧ gp_I s_27 74 38 ≤ gp_I s_27 74 39) → (gp_I s 74 42 ≤ gp_I s_27 74 42 ∧ 2 * gp_I s_27 74 42 ≤ gp_I s_27 74 38 + 1) → (gp_I s_27 74 40 < 0 → gp_I s 74 40 < 0) → (gp_I s_27 74 43 = 0 → gp_I s 74 43 = 0) → (gp_I s_27 74 41 = gp_I s 74 41 ∧ gp_I s_27 74 44 = gp_I s 74 44) → (gp_I s_27 74 40 < 0 → gp_I s_27 74 43 = 0 → gp_I s_27 74 42 = gp_I s 74 42 + 1) → (gp_I s 74 43 ≠ 0 → gp_I s_27 74 43 = gp_I s 74 43) → (ZLE τ n s s_27) → (Int.toNat (100 - gp_I s_27 74 38)) < n_27 → gs_E L (d + 188) 3137 4 [gp_r (some 74)] [] s_27 K := by
    intro n_27
    induction n_27 with
    | zero => intro s_27 hs_s_27 hf_s_27 TPn_τ_n_s_27 kq_s_s_27 KQ_s_s_27 PGM_s_27 tk0_27 tk1_27 iv0_27 iv1_27 iv2_27 iv3_27 iv4_27 iv5_27 iv6_27 iv7_27 hm_27; exact absurd hm_27 (Nat.not_lt_zero _)
    | succ n_27 ih_27 =>
      intro s_27 hs_s_27 hf_s_27 TPn_τ_n_s_27 kq_s_s_27 KQ_s_s_27 PGM_s_27 tk0_27 tk1_27 iv0_27 iv1_27 iv2_27 iv3_27 iv4_27 iv5_27 iv6_27 iv7_27 hm_27
      refine s_3137_4 ?_
      clear p_14 p_15 p_19 p_22
      refine vm_takes τ n _ hs_s_27 (by omega) (TPn_τ_n_s_27) (by first | omega | assumption) (fun x_28 s_29 hs_30 hf_31 p_32 p_33 p_34 => ⟨_, rfl, ?_⟩)
      have hf_35 : gF [76, 77, 78, 79, 80, 81, 86, 87, 88, 89, 105] [15, 38, 40, 41, 42, 43, 45] s s_29 := gF.trans hf_s_27 hf_31 rfl rfl
      have pd_36 : TPn τ n s_29 := TP_fr TPn_τ_n_s_27 hf_31 rfl rfl
      have pd_37 : kq s s_29 := kq_fr kq_s_s_27 hf_31 rfl
      have pd_38 : KQ s s_29 := KQ_fr KQ_s_s_27 hf_31 rfl rfl rfl rfl
      have pd_39 : PGM s_29 := PGM_fr PGM_s_27 hf_31 rfl rfl rfl rfl rfl rfl rfl rfl rfl
      have q_40 := (hf_31.2 74 39 rfl (fun _ => rfl)).1
      have q_41 := (hf_31.2 74 40 rfl (fun _ => rfl)).1
      have q_42 := (hf_31.2 74 41 rfl (fun _ => rfl)).1
      have q_43 := (hf_31.2 74 42 rfl (fun _ => rfl)).1
      have q_44 := (hf_31.2 74 43 rfl (fun _ => rfl)).1
      have q_45 := (hf_31.2 74 44 rfl (fun _ => rfl)).1
      have q_46 := (hf_31.2 81 19 rfl (fun h => absurd h (by decide))).1
      have hgx : ∀ g x, GTM s_27 g x → GTM s_29 g x := fun g x h9 => GTM_fr2 h9 hf_31 rfl rfl rfl rfl rfl
      refine ⟨fun h_47 => ?_, fun h_47 => ?_⟩
      · have hgx : ∀ g x, GTM s_27 g x → GTM s_29 g x := fun g x h9 => GTM_fr2 h9 hf_31 rfl rfl rfl rfl rfl
        exact k s_29 hs_30 hf_35 (by first | omega | assumption) (by first | omega | assumption) (by first | omega | assumption) (by first | omega | assumption) (by first | omega | assumption) (pd_36) (pd_37) (by first | omega | assumption) (pd_38) (pd_39) (fun h9 => by omega) (ZLE_e iv7_27 (by omega) (by omega) (by omega) (fun o => okI (by have := o.1; omega) (by have := o.2.1; omega) (by have := o.2.2; omega)) hgx)
      · obtain ⟨ha13, hb13, hc13, hd13⟩ : gp_I s_27 74 40 < 0 ∧ gp_I s_27 74 43 = 0 ∧ bA τ n (gp_I s_27 74 38) = 43 ∧ gp_I s_29 74 38 = gp_I s_27 74 38 + 1 := by omega
        have he13 := iv5_27 (by omega) (by omega)
        have hf13 := iv2_27 (by omega)
        have hg13 := iv3_27 (by omega)
        clear p_33 iv2_27 iv3_27 iv5_27 iv6_27
        have hk13 := pd_37
        have hK13 := pd_38
        have hga := hgx
        refine ihU _ _ _ _ τ n (by omega) hs_30 (pd_36) (by first | omega | assumption) (by first | omega | assumption) (by first | omega | assumption) (pd_39) (by first | omega | assumption) (fun s_48 hs_49 hf_50 p_51 p_52 p_53 p_54 p_55 p_56 p_57 p_58 p_59 p_60 p_61 p_62 => ⟨rfl, ?_⟩)
        have hf_63 : gF [76, 77, 78, 79, 80, 81, 86, 87, 88, 89, 105] [15, 38, 40, 41, 42, 43, 45] s s_48 := gF.trans hf_35 hf_50 rfl rfl
        have q_64 := (hf_50.2 74 39 rfl (fun _ => rfl)).1
        have q_65 := (hf_50.2 74 44 rfl (fun _ => rfl)).1
        have hk17 : kq s s_48 := kq.trans hk13 p_57 (by omega)
        have hK17 : KQ s s_48 := KQ_t hK13 p_59 (by omega)
        have hzw := p_62
        have hkx := p_57
        have hKx := p_59
        have hgk : gp_I s_29 74 42 = gp_I s 74 42 + 1 → ∀ x, GTM s_27 (Int.toNat (21 + gp_I s 74 42)) x → GTM s_48 (Int.toNat (21 + gp_I s 74 42)) x := fun e9 x h9 => GTM_q (hga _ _ h9) hkx hKx ⟨by omega, by omega⟩
        have f_66 := mr74_44 hs_49
        refine ⟨fun h_67 => ?_, fun h_67 => ?_⟩
        · exfalso; omega
        · refine vm_goesOn hs_49 (fun x_68 p_69 p_70 => ⟨_, rfl, ?_⟩)
          refine ⟨fun h_71 => ?_, fun h_71 => ?_⟩
          · exact ih_27 _ hs_49 hf_63 p_56 hk17 hK17 p_60 (by first | rfl | omega) (by first | rfl | omega) (by first | omega | assumption) (by first | omega | assumption) (by first | omega | assumption) (by first | omega | assumption) (by first | omega | assumption) (by first | omega | assumption) (by first | omega | assumption) (by first | exact ZLE_1 iv7_27 (by omega) (by omega) (by omega) (by omega) (okI (by omega) (by omega) (by omega)) hzw (by omega) | exact ZLE_2 iv7_27 (by omega) (by omega) (by omega) (by omega) (by omega) (okI (by omega) (by omega) (by omega)) hzw (by omega) (hgk (by omega)) hSR2 rfl (fun e9 => (okI (by omega) (by omega) (by omega))) (by omega)) (by omega)
          · obtain ⟨hx1, hx2⟩ : gp_I s_48 74 40 < 0 ∧ gp_I s_48 74 43 = 0 := by omega
            have hy31 := p_58 hx1 hx2
            clear p_53 p_54 p_58 p_61 p_70
            have f_72 := mr74_42 hs_49
            try rw [show gp_wr (21 + (gp_I s_48 74 42)) = 21 + (gp_I s_48 74 42) from gp_wr_id (by omega) (by omega)]
            try rw [show gp_wr ((21 + (gp_I s_48 74 42)) - 2) = (21 + (gp_I s_48 74 42)) - 2 from gp_wr_id (by omega) (by omega)]
            have f_73 := mr74_42 hs_49
            try rw [show gp_wr (21 + (gp_I s_48 74 42)) = 21 + (gp_I s_48 74 42) from gp_wr_id (by omega) (by omega)]
            try rw [show gp_wr ((21 + (gp_I s_48 74 42)) - 1) = (21 + (gp_I s_48 74 42)) - 1 from gp_wr_id (by omega) (by omega)]
            obtain ⟨xa9, hxa9⟩ := p_60 (okI (by omega) (by omega) (by omega)) (Int.toNat ((21 + (gp_I s_48 74 42)) - 2)) (by omega) (by omega)
            obtain ⟨xb9, hxb9⟩ := p_60 (okI (by omega) (by omega) (by omega)) (Int.toNat ((21 + (gp_I s_48 74 42)) - 1)) (by omega) (by omega)
            have hpa := GTM_1 hxa9
            have hpb := GTM_1 hxb9
            refine vm_sumsV _ _ hs_49 (by omega) (by omega) (by first | omega | assumption) (by first | omega | assumption) (by first | omega | assumption) (by first | omega | assumption) (⟨_, hxa9⟩) (⟨_, hxb9⟩) (fun x_74 s_75 hs_76 hf_77 p_78 p_79 p_80 p_81 p_82 p_83 => ⟨_, rfl, ?_⟩)
            have hf_84 : gF [76, 77, 78, 79, 80, 81, 86, 87, 88, 89, 105] [15, 38, 40, 41, 42, 43, 45] s s_75 := gF.trans hf_63 hf_77 rfl rfl
            have pd_85 : TPn τ n s_75 := TP_fr p_56 hf_77 rfl rfl
            have q_86 := (hf_77.2 74 38 rfl (fun _ => rfl)).1
            have q_87 := (hf_77.2 74 39 rfl (fun _ => rfl)).1
            have q_88 := (hf_77.2 74 40 rfl (fun _ => rfl)).1
            have q_89 := (hf_77.2 74 41 rfl (fun _ => rfl)).1
            have q_90 := (hf_77.2 74 42 rfl (fun _ => rfl)).1
            have q_91 := (hf_77.2 74 43 rfl (fun _ => rfl)).1
            have q_92 := (hf_77.2 74 44 rfl (fun _ => rfl)).1
            have hks : kq s s_75 := kq_K hk17 p_81
            have hKs : KQ s s_75 := KQ_c hK17 p_83
            have hSR := p_82
            intro s_93 e_94
            have hs_95 : MI s_93 := by rw [e_94]; exact mw74_43 hs_76 _ (by omega)
            have hf_96 : gF [76, 77, 78, 79, 80, 81, 86, 87, 88, 89, 105] [15, 38, 40, 41, 42, 43, 45] s s_93 := by rw [e_94]; exact gF.wI hf_84 (Or.inr ⟨rfl, rfl⟩)
            have q_97 : gp_I s_93 74 38 = gp_I s_75 74 38 := by rw [e_94] <;> rfl
            have q_98 : gp_I s_93 74 39 = gp_I s_75 74 39 := by rw [e_94] <;> rfl
            have q_99 : gp_I s_93 74 40 = gp_I s_75 74 40 := by rw [e_94] <;> rfl
            have q_100 : gp_I s_93 74 41 = gp_I s_75 74 41 := by rw [e_94] <;> rfl
            have q_101 : gp_I s_93 74 42 = gp_I s_75 74 42 := by rw [e_94] <;> rfl
            have q_102 : gp_I s_93 74 43 = x_74 := by rw [e_94]; exact (gz_rw _ _ _ _ _).1 rfl
            have q_103 : gp_I s_93 74 44 = gp_I s_75 74 44 := by rw [e_94] <;> rfl
            have q_104 : gp_I s_93 81 19 = gp_I s_75 81 19 := by rw [e_94] <;> rfl
            have pd_105 : TPn τ n s_93 := by rw [e_94]; exact TP_fr pd_85 (gF.wI (gF.refl [] [43] _) (Or.inr ⟨rfl, rfl⟩)) rfl rfl
            have pd_106 : kq s s_93 := by rw [e_94]; exact kq_fr hks (gF.wI (gF.refl [] [43] _) (Or.inr ⟨rfl, rfl⟩)) rfl
            have pd_107 : KQ s s_93 := by rw [e_94]; exact KQ_fr hKs (gF.wI (gF.refl [] [43] _) (Or.inr ⟨rfl, rfl⟩)) rfl rfl rfl rfl
            have hG57 : ∀ x, GTM s_75 19 x → GTM s_93 19 x := fun x h9 => by rw [‹s_93 = gp_wI s_75 74 43 _›]; exact h9
            have f_108 := mr74_42 hs_95
            try rw [show gp_wr ((gp_I s_93 74 42) - 2) = (gp_I s_93 74 42) - 2 from gp_wr_id (by omega) (by omega)]
            intro s_109 e_110
            have hs_111 : MI s_109 := by rw [e_110]; exact mw74_42 hs_95 _ (by omega)
            have hf_112 : gF [76, 77, 78, 79, 80, 81, 86, 87, 88, 89, 105] [15, 38, 40, 41, 42, 43, 45] s s_109 := by rw [e_110]; exact gF.wI hf_96 (Or.inr ⟨rfl, rfl⟩)
            have q_113 : gp_I s_109 74 38 = gp_I s_93 74 38 := by rw [e_110] <;> rfl
            have q_114 : gp_I s_109 74 39 = gp_I s_93 74 39 := by rw [e_110] <;> rfl
            have q_115 : gp_I s_109 74 40 = gp_I s_93 74 40 := by rw [e_110] <;> rfl
            have q_116 : gp_I s_109 74 41 = gp_I s_93 74 41 := by rw [e_110] <;> rfl
            have q_117 : gp_I s_109 74 42 = (gp_I s_93 74 42) - 2 := by rw [e_110]; exact (gz_rw _ _ _ _ _).1 rfl
            have q_118 : gp_I s_109 74 43 = gp_I s_93 74 43 := by rw [e_110] <;> rfl
            have q_119 : gp_I s_109 74 44 = gp_I s_93 74 44 := by rw [e_110] <;> rfl
            have q_120 : gp_I s_109 81 19 = gp_I s_93 81 19 := by rw [e_110] <;> rfl
            have pd_121 : TPn τ n s_109 := by rw [e_110]; exact TP_fr pd_105 (gF.wI (gF.refl [] [42] _) (Or.inr ⟨rfl, rfl⟩)) rfl rfl
            have pd_122 : kq s s_109 := by rw [e_110]; exact kq_fr pd_106 (gF.wI (gF.refl [] [42] _) (Or.inr ⟨rfl, rfl⟩)) rfl
            have pd_123 : KQ s s_109 := by rw [e_110]; exact KQ_fr pd_107 (gF.wI (gF.refl [] [42] _) (Or.inr ⟨rfl, rfl⟩)) rfl rfl rfl rfl
            have hk68 := pd_122
            have hK68 := pd_123
            have hG68 : ∀ x, GTM s_75 19 x → GTM s_109 19 x := fun x h9 => by rw [‹s_109 = gp_wI s_93 74 42 _›]; exact hG57 x h9
            refine vm_pilesV hs_111 (by first | omega | assumption) (fun s_124 hs_125 hf_126 p_127 p_128 p_129 p_130 p_131 => ⟨rfl, ?_⟩)
            have hf_132 : gF [76, 77, 78, 79, 80, 81, 86, 87, 88, 89, 105] [15, 38, 40, 41, 42, 43, 45] s s_124 := gF.trans hf_112 hf_126 rfl rfl
            have pd_133 : TPn τ n s_124 := TP_fr pd_121 hf_126 rfl rfl
            have q_134 := (hf_126.2 74 38 rfl (fun _ => rfl)).1
            have q_135 := (hf_126.2 74 39 rfl (fun _ => rfl)).1
            have q_136 := (hf_126.2 74 40 rfl (fun _ => rfl)).1
            have q_137 := (hf_126.2 74 41 rfl (fun _ => rfl)).1
            have q_138 := (hf_126.2 74 43 rfl (fun _ => rfl)).1
            have q_139 := (hf_126.2 74 44 rfl (fun _ => rfl)).1
            have hk71 : kq s s_124 := kq_p hk68 p_128 (by omega)
            have hK71 : KQ s s_124 := KQ_p hK68 p_131 (by omega)
            have hpl := p_130
            have hSR2 : ∀ x y, GTM s_48 (Int.toNat (21 + gp_I s 74 42)) x → GTM s_48 (Int.toNat (21 + (gp_I s 74 42 + 1))) y → (JFV x y ∧ gp_I s_124 74 43 = 4) ∨ (¬ JFV x y ∧ ∃ z, JSV x y z ∧ ((BIGV z ∧ gp_I s_124 74 43 = 6) ∨ (¬ BIGV z ∧ gp_I s_124 74 43 = 0 ∧ GTM s_124 (Int.toNat (21 + gp_I s 74 42)) z))) := fun x y hx hy => by rcases hSR x y (GTM_i hx (by omega)) (GTM_i hy (by omega)) with ⟨a, b⟩ | ⟨a, z, b, ⟨c, d⟩ | ⟨c, d, e⟩⟩; exact Or.inl ⟨a, by omega⟩; exact Or.inr ⟨a, z, b, Or.inl ⟨c, by omega⟩⟩; exact Or.inr ⟨a, z, b, Or.inr ⟨c, by omega, GTM_i (hpl z (hG68 z e)) (by omega)⟩⟩
            have hPG9 : PGM s_124 := PGM_q q4 hk71 hK71 (fun o => okI (by have := o.1; omega) (by have := o.2.1; omega) (by have := o.2.2; omega)) (fun o9 => by have := o9.1; have := o9.2.1; have := o9.2.2; omega) (fun o9 e9 => by rcases hSR2 xa9 xb9 (GTM_i hxa9 (by omega)) (GTM_i hxb9 (by omega)) with ⟨_, h8⟩ | ⟨_, z9, _, ⟨_, h8⟩ | ⟨_, _, h8⟩⟩; (exfalso; have := o9.2.2; omega); (exfalso; have := o9.2.2; omega); exact ⟨z9, h8⟩)
            exact ih_27 _ hs_125 hf_132 pd_133 hk71 hK71 hPG9 (by first | rfl | omega) (by first | rfl | omega) (by first | omega | assumption) (by first | omega | assumption) (by first | omega | assumption) (by first | omega | assumption) (by first | omega | assumption) (by first | omega | assumption) (by first | omega | assumption) (by first | exact ZLE_1 iv7_27 (by omega) (by omega) (by omega) (by omega) (okI (by omega) (by omega) (by omega)) hzw (by omega) | exact ZLE_2 iv7_27 (by omega) (by omega) (by omega) (by omega) (by omega) (okI (by omega) (by omega) (by omega)) hzw (by omega) (hgk (by omega)) hSR2 rfl (fun e9 => (okI (by omega) (by omega) (by omega))) (by omega)) (by omega)
  exact lp_27 _ _ hs_10 hf_24 p_17 hkq4 hKq4 p_21 (by first | rfl | omega) (by first | rfl | omega) (by first | omega | assumption) (by first | omega | assumption) (by first | omega | assumption) (by first | omega | assumption) (by first | omega | assumption) (by first | omega | assumption) (by first | omega | assumption) (ZLE_0 hzw4) (Nat.lt_succ_self _)
