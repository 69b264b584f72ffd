set_option maxRecDepth 100000 in
/-- GatheredPointsModel.expression -/
theorem vm_expression (m : Nat) (ihU : UN m) : EX m := by
  intro L D K s τ n hD hs q0 q1 q2 q3 q4 k
  obtain ⟨d, rfl⟩ : ∃ d, D = d + 188 := ⟨D - 188, by omega⟩
  have f_1 := mr74_38 hs
  have f_2 := mr74_39 hs
  have f_3 := mr74_40 hs
  have f_4 := mr74_41 hs
  have f_5 := mr74_42 hs
  have f_6 := mr74_43 hs
  have f_7 := mr74_44 hs
  have f_8 := mr81 hs 19
  refine s_3137_e ?_
  have hkq0 := kq.refl s
  refine ihU _ _ _ _ τ n (by omega) hs (q0) (q1) (by first | omega | assumption) (by first | omega | assumption) (by first | omega | assumption) (fun s_9 hs_10 hf_11 p_12 p_13 p_14 p_15 p_16 p_17 p_18 p_19 p_20 p_21 p_22 => ⟨rfl, ?_⟩)
  have hf_23 : gF [76, 77, 78, 79, 80, 81, 86, 87, 88, 89, 105] [15, 38, 40, 41, 42, 43, 45] s s_9 := gF.sub hf_11 rfl rfl
  have q_24 := (hf_11.2 74 39 rfl (fun _ => rfl)).1
  have q_25 := (hf_11.2 74 44 rfl (fun _ => rfl)).1
  have hkq4 : kq s s_9 := p_18
  have hev := p_21
  have lp_26 : ∀ (n_26 : Nat) (s_26 : gH), (MI s_26) → (gF [76, 77, 78, 79, 80, 81, 86, 87, 88, 89, 105] [15, 38, 40, 41, 42, 43, 45] s s_26) → (TPn τ n s_26) → (PI s_26) → (kq s s_26) → (gp_I s_26 74 39 = gp_I s_9 74 39) → (gp_I s_26 74 44 = gp_I s_9 74 44) → (gp_I s 74 38 ≤ gp_I s_26 74 38 ∧ gp_I s_26 74 38 ≤ gp_I s_26 74 39) → (gp_I s 74 42 ≤ gp_I s_26 74 42 ∧ 2 * gp_I s_26 74 42 ≤ gp_I s_26 74 38 + 1) → (gp_I s_26 74 40 < 0 → gp_I s 74 40 < 0) → (gp_I s_26 74 43 = 0 → gp_I s 74 43 = 0) → (gp_I s_26 74 41 = gp_I s 74 41 ∧ gp_I s_26 74 44 = gp_I s 74 44) → (gp_I s_26 74 44 ≠ 0 → gp_I s_26 74 40 < 0 → gp_I s_26 74 43 = 0 → gp_I s_26 74 42 = gp_I s 74 42 + 1) → (gp_I s 74 44 = 0 → gp_I s_26 74 43 = gp_I s 74 43) → (∀ b v : Int, gp_I s_26 74 43 = 0 → EV τ n 2 (gp_I s 74 41) (gp_I s_26 74 38) (gp_I s_26 74 40) b v → EV τ n 1 (gp_I s 74 41) (gp_I s 74 38) (gp_I s 74 40) b v) → (Int.toNat (100 - gp_I s_26 74 38)) < n_26 → gs_E L (d + 188) 3137 4 [gp_r (some 74)] [] s_26 K := by
    intro n_26
    induction n_26 with
    | zero => intro s_26 hs_s_26 hf_s_26 TPn_τ_n_s_26 PI_s_26 kq_s_s_26 tk0_26 tk1_26 iv0_26 iv1_26 iv2_26 iv3_26 iv4_26 iv5_26 iv6_26 iv7_26 hm_26; exact absurd hm_26 (Nat.not_lt_zero _)
    | succ n_26 ih_26 =>
      intro s_26 hs_s_26 hf_s_26 TPn_τ_n_s_26 PI_s_26 kq_s_s_26 tk0_26 tk1_26 iv0_26 iv1_26 iv2_26 iv3_26 iv4_26 iv5_26 iv6_26 iv7_26 hm_26
      refine s_3137_4 ?_
      refine vm_takes τ n _ hs_s_26 (by omega) (TPn_τ_n_s_26) (by first | omega | assumption) (fun x_27 s_28 hs_29 hf_30 p_31 p_32 p_33 => ⟨_, rfl, ?_⟩)
      have hf_34 : gF [76, 77, 78, 79, 80, 81, 86, 87, 88, 89, 105] [15, 38, 40, 41, 42, 43, 45] s s_28 := gF.trans hf_s_26 hf_30 rfl rfl
      have pd_35 : TPn τ n s_28 := TP_fr TPn_τ_n_s_26 hf_30 rfl rfl
      have pd_36 : PI s_28 := PI_fr PI_s_26 hf_30 rfl rfl rfl rfl rfl
      have pd_37 : kq s s_28 := kq_fr kq_s_s_26 hf_30 rfl
      have q_38 := (hf_30.2 74 39 rfl (fun _ => rfl)).1
      have q_39 := (hf_30.2 74 40 rfl (fun _ => rfl)).1
      have q_40 := (hf_30.2 74 41 rfl (fun _ => rfl)).1
      have q_41 := (hf_30.2 74 42 rfl (fun _ => rfl)).1
      have q_42 := (hf_30.2 74 43 rfl (fun _ => rfl)).1
      have q_43 := (hf_30.2 74 44 rfl (fun _ => rfl)).1
      have q_44 := (hf_30.2 81 19 rfl (fun h => absurd h (by decide))).1
      refine ⟨fun h_45 => ?_, fun h_45 => ?_⟩
      · exact k s_28 hs_29 hf_34 (by first | omega | assumption) (by first | omega | assumption) (by first | omega | assumption) (by first | omega | assumption) (by first | omega | assumption) (pd_35) (pd_37) (pd_36) (by first | omega | assumption) (fun h9 => iv7_26 _ _ (by omega) (EV.r0 (by omega) (by omega) (by omega))) (by first | omega | assumption)
      · have hk13 := pd_37
        refine ihU _ _ _ _ τ n (by omega) hs_29 (pd_35) (pd_36) (by first | omega | assumption) (by first | omega | assumption) (by first | omega | assumption) (fun s_46 hs_47 hf_48 p_49 p_50 p_51 p_52 p_53 p_54 p_55 p_56 p_57 p_58 p_59 => ⟨rfl, ?_⟩)
        have hf_60 : gF [76, 77, 78, 79, 80, 81, 86, 87, 88, 89, 105] [15, 38, 40, 41, 42, 43, 45] s s_46 := gF.trans hf_34 hf_48 rfl rfl
        have q_61 := (hf_48.2 74 39 rfl (fun _ => rfl)).1
        have q_62 := (hf_48.2 74 44 rfl (fun _ => rfl)).1
        have hk17 : kq s s_46 := kq.trans hk13 p_55 (by omega)
        have hev := p_58
        have f_63 := mr74_44 hs_47
        refine ⟨fun h_64 => ?_, fun h_64 => ?_⟩
        · exact ih_26 _ hs_47 hf_60 p_54 p_56 hk17 (by first | rfl | omega) (by first | rfl | omega) (by first | omega | assumption) (by first | omega | assumption) (by first | omega | assumption) (by first | omega | assumption) (by first | omega | assumption) (by first | omega | assumption) (by first | omega | assumption) (fun b v h8 h9 => iv7_26 b v (by omega) (EV.r1 (by omega) (by omega) (by omega) (EV.co (hev (by omega)) (by omega)) (EV.ci h9 (by omega) (by omega)))) (by omega)
        · refine vm_goesOn hs_47 (fun x_65 p_66 p_67 => ⟨_, rfl, ?_⟩)
          refine ⟨fun h_68 => ?_, fun h_68 => ?_⟩
          · exact ih_26 _ hs_47 hf_60 p_54 p_56 hk17 (by first | rfl | omega) (by first | rfl | omega) (by first | omega | assumption) (by first | omega | assumption) (by first | omega | assumption) (by first | omega | assumption) (by first | omega | assumption) (by first | omega | assumption) (by first | omega | assumption) (fun b v h8 h9 => iv7_26 b v (by omega) (EV.r1 (by omega) (by omega) (by omega) (EV.co (hev (by omega)) (by omega)) (EV.ci h9 (by omega) (by omega)))) (by omega)
          · have f_69 := mr74_42 hs_47
            try rw [show gp_wr (21 + (gp_I s_46 74 42)) = 21 + (gp_I s_46 74 42) from gp_wr_id (by omega) (by omega)]
            try rw [show gp_wr ((21 + (gp_I s_46 74 42)) - 2) = (21 + (gp_I s_46 74 42)) - 2 from gp_wr_id (by omega) (by omega)]
            have f_70 := mr74_42 hs_47
            try rw [show gp_wr (21 + (gp_I s_46 74 42)) = 21 + (gp_I s_46 74 42) from gp_wr_id (by omega) (by omega)]
            try rw [show gp_wr ((21 + (gp_I s_46 74 42)) - 1) = (21 + (gp_I s_46 74 42)) - 1 from gp_wr_id (by omega) (by omega)]
            have hpa := p_56 (okI (by omega) (by omega) (by omega)) (Int.toNat ((21 + (gp_I s_46 74 42)) - 2)) (by omega) (by omega)
            have hpb := p_56 (okI (by omega) (by omega) (by omega)) (Int.toNat ((21 + (gp_I s_46 74 42)) - 1)) (by omega) (by omega)
            refine vm_sums _ _ hs_47 (by omega) (by omega) (by first | omega | assumption) (by first | omega | assumption) (by first | omega | assumption) (by first | omega | assumption) (fun x_71 s_72 hs_73 hf_74 p_75 p_76 p_77 p_78 => ⟨_, rfl, ?_⟩)
            have hf_79 : gF [76, 77, 78, 79, 80, 81, 86, 87, 88, 89, 105] [15, 38, 40, 41, 42, 43, 45] s s_72 := gF.trans hf_60 hf_74 rfl rfl
            have pd_80 : TPn τ n s_72 := TP_fr p_54 hf_74 rfl rfl
            have q_81 := (hf_74.2 74 38 rfl (fun _ => rfl)).1
            have q_82 := (hf_74.2 74 39 rfl (fun _ => rfl)).1
            have q_83 := (hf_74.2 74 40 rfl (fun _ => rfl)).1
            have q_84 := (hf_74.2 74 41 rfl (fun _ => rfl)).1
            have q_85 := (hf_74.2 74 42 rfl (fun _ => rfl)).1
            have q_86 := (hf_74.2 74 43 rfl (fun _ => rfl)).1
            have q_87 := (hf_74.2 74 44 rfl (fun _ => rfl)).1
            have hks : kq s s_72 := kq_K hk17 p_78
            intro s_88 e_89
            have hs_90 : MI s_88 := by rw [e_89]; exact mw74_43 hs_73 _ (by omega)
            have hf_91 : gF [76, 77, 78, 79, 80, 81, 86, 87, 88, 89, 105] [15, 38, 40, 41, 42, 43, 45] s s_88 := by rw [e_89]; exact gF.wI hf_79 (Or.inr ⟨rfl, rfl⟩)
            have q_92 : gp_I s_88 74 38 = gp_I s_72 74 38 := by rw [e_89] <;> rfl
            have q_93 : gp_I s_88 74 39 = gp_I s_72 74 39 := by rw [e_89] <;> rfl
            have q_94 : gp_I s_88 74 40 = gp_I s_72 74 40 := by rw [e_89] <;> rfl
            have q_95 : gp_I s_88 74 41 = gp_I s_72 74 41 := by rw [e_89] <;> rfl
            have q_96 : gp_I s_88 74 42 = gp_I s_72 74 42 := by rw [e_89] <;> rfl
            have q_97 : gp_I s_88 74 43 = x_71 := by rw [e_89]; exact (gz_rw _ _ _ _ _).1 rfl
            have q_98 : gp_I s_88 74 44 = gp_I s_72 74 44 := by rw [e_89] <;> rfl
            have q_99 : gp_I s_88 81 19 = gp_I s_72 81 19 := by rw [e_89] <;> rfl
            have pd_100 : TPn τ n s_88 := by rw [e_89]; exact TP_fr pd_80 (gF.wI (gF.refl [] [43] _) (Or.inr ⟨rfl, rfl⟩)) rfl rfl
            have pd_101 : kq s s_88 := by rw [e_89]; exact kq_fr hks (gF.wI (gF.refl [] [43] _) (Or.inr ⟨rfl, rfl⟩)) rfl
            have f_102 := mr74_42 hs_90
            try rw [show gp_wr ((gp_I s_88 74 42) - 2) = (gp_I s_88 74 42) - 2 from gp_wr_id (by omega) (by omega)]
            intro s_103 e_104
            have hs_105 : MI s_103 := by rw [e_104]; exact mw74_42 hs_90 _ (by omega)
            have hf_106 : gF [76, 77, 78, 79, 80, 81, 86, 87, 88, 89, 105] [15, 38, 40, 41, 42, 43, 45] s s_103 := by rw [e_104]; exact gF.wI hf_91 (Or.inr ⟨rfl, rfl⟩)
            have q_107 : gp_I s_103 74 38 = gp_I s_88 74 38 := by rw [e_104] <;> rfl
            have q_108 : gp_I s_103 74 39 = gp_I s_88 74 39 := by rw [e_104] <;> rfl
            have q_109 : gp_I s_103 74 40 = gp_I s_88 74 40 := by rw [e_104] <;> rfl
            have q_110 : gp_I s_103 74 41 = gp_I s_88 74 41 := by rw [e_104] <;> rfl
            have q_111 : gp_I s_103 74 42 = (gp_I s_88 74 42) - 2 := by rw [e_104]; exact (gz_rw _ _ _ _ _).1 rfl
            have q_112 : gp_I s_103 74 43 = gp_I s_88 74 43 := by rw [e_104] <;> rfl
            have q_113 : gp_I s_103 74 44 = gp_I s_88 74 44 := by rw [e_104] <;> rfl
            have q_114 : gp_I s_103 81 19 = gp_I s_88 81 19 := by rw [e_104] <;> rfl
            have pd_115 : TPn τ n s_103 := by rw [e_104]; exact TP_fr pd_100 (gF.wI (gF.refl [] [42] _) (Or.inr ⟨rfl, rfl⟩)) rfl rfl
            have pd_116 : kq s s_103 := by rw [e_104]; exact kq_fr pd_101 (gF.wI (gF.refl [] [42] _) (Or.inr ⟨rfl, rfl⟩)) rfl
            have hk68 := pd_116
            refine vm_piles hs_105 (by first | omega | assumption) (fun s_117 hs_118 hf_119 p_120 p_121 p_122 => ⟨rfl, ?_⟩)
            have hf_123 : gF [76, 77, 78, 79, 80, 81, 86, 87, 88, 89, 105] [15, 38, 40, 41, 42, 43, 45] s s_117 := gF.trans hf_106 hf_119 rfl rfl
            have pd_124 : TPn τ n s_117 := TP_fr pd_115 hf_119 rfl rfl
            have q_125 := (hf_119.2 74 38 rfl (fun _ => rfl)).1
            have q_126 := (hf_119.2 74 39 rfl (fun _ => rfl)).1
            have q_127 := (hf_119.2 74 40 rfl (fun _ => rfl)).1
            have q_128 := (hf_119.2 74 41 rfl (fun _ => rfl)).1
            have q_129 := (hf_119.2 74 43 rfl (fun _ => rfl)).1
            have q_130 := (hf_119.2 74 44 rfl (fun _ => rfl)).1
            have hk71 : kq s s_117 := kq_p hk68 p_121 (by omega)
            have hPI9 : PI s_117 := by first | exact (by assumption) | exact PI_q q1 hk71 (fun o => okI (by have := o.1; omega) (by have := o.2.1; omega) (by have := o.2.2; omega)) (fun o9 => by have := o9.1; have := o9.2.1; have := o9.2.2; omega) (fun o9 e9 => by have := o9.1; have := o9.2.1; have := o9.2.2; first | (exfalso; omega) | (have h8 := p_122; rw [show gp_I s 74 42 = gp_I s_103 74 42 by omega, h8]; omega))
            exact ih_26 _ hs_118 hf_123 pd_124 hPI9 hk71 (by first | rfl | omega) (by first | rfl | omega) (by first | omega | assumption) (by first | omega | assumption) (by first | omega | assumption) (by first | omega | assumption) (by first | omega | assumption) (by first | omega | assumption) (by first | omega | assumption) (fun b v h8 h9 => iv7_26 b v (by omega) (EV.r1 (by omega) (by omega) (by omega) (EV.co (hev (by omega)) (by omega)) (EV.ci h9 (by omega) (by omega)))) (by omega)
  exact lp_26 _ _ hs_10 hf_23 p_17 p_19 hkq4 (by first | rfl | omega) (by first | rfl | omega) (by first | omega | assumption) (by first | omega | assumption) (by first | omega | assumption) (by first | omega | assumption) (by first | omega | assumption) (by first | omega | assumption) (by first | omega | assumption) (fun b v h8 h9 => EV.ex (hev (by omega)) h9) (Nat.lt_succ_self _)
