set_option maxHeartbeats 30000000 in
set_option maxRecDepth 100000 in
/-- GatheredPointsModel.sides -/
theorem vm_sidesV (m : Nat) (ihS : SIZ m) : SSZ m := by
  intro L D K s τ n hD hs q0 q1 q2 q3 q4 q5 k
  obtain ⟨d, rfl⟩ : ∃ d, D = d + 188 := ⟨D - 188, by omega⟩
  have f_1 := mr74_38 hs
  have f_2 := mr74_39 hs
  have f_3 := mr74_40 hs
  have f_4 := mr74_41 hs
  have f_5 := mr74_42 hs
  have f_6 := mr74_43 hs
  have f_7 := mr74_44 hs
  have f_8 := mr81 hs 19
  have f_9 := mr81 hs 20
  have f_10 := mr74_15 hs
  refine s_3136_e ?_
  have hkq0 := kq.refl s
  have hKq0 := KQ.refl s
  have hs038 := mr74_38 hs
  have hs041 := mr74_41 hs
  have f_11 := mr74_42 hs
  refine ihS _ _ _ _ τ n (by omega) hs (q0) (by first | omega | assumption) (by first | omega | assumption) (by first | omega | assumption) (q4) (by first | omega | assumption) (fun x_12 s_13 hs_14 hf_15 p_16 p_17 p_18 p_19 p_20 p_21 p_22 p_23 p_24 p_25 p_26 p_27 p_28 p_29 => ⟨_, rfl, ?_⟩)
  have hf_30 : gF [76, 77, 78, 79, 80, 81, 86, 87, 88, 89, 105] [15, 38, 40, 41, 42, 43, 45] s s_13 := gF.sub hf_15 rfl rfl
  have q_31 := (hf_15.2 74 39 rfl (fun _ => rfl)).1
  have q_32 := (hf_15.2 74 44 rfl (fun _ => rfl)).1
  have hk9 : kq s s_13 := p_23
  have hK9 : KQ s s_13 := p_25
  have hzs1 := p_28
  have hb1 := fun (_ : Unit) => p_29
  clear p_29
  have hPG15 := p_26
  refine vm_wants τ n _ hs_14 (by omega) (p_22) (by first | omega | assumption) (fun s_33 hs_34 hf_35 p_36 p_37 p_38 => ⟨rfl, ?_⟩)
  have hf_39 : gF [76, 77, 78, 79, 80, 81, 86, 87, 88, 89, 105] [15, 38, 40, 41, 42, 43, 45] s s_33 := gF.trans hf_30 hf_35 rfl rfl
  have pd_40 : TPn τ n s_33 := TP_fr p_22 hf_35 rfl rfl
  have pd_41 : kq s s_33 := kq_fr hk9 hf_35 rfl
  have pd_42 : KQ s s_33 := KQ_fr hK9 hf_35 rfl rfl rfl rfl
  have q_43 := (hf_35.2 74 39 rfl (fun _ => rfl)).1
  have q_44 := (hf_35.2 74 41 rfl (fun _ => rfl)).1
  have q_45 := (hf_35.2 74 42 rfl (fun _ => rfl)).1
  have q_46 := (hf_35.2 74 43 rfl (fun _ => rfl)).1
  have q_47 := (hf_35.2 74 44 rfl (fun _ => rfl)).1
  have q_48 := (hf_35.2 81 19 rfl (fun h => absurd h (by decide))).1
  have q_49 := (hf_35.2 81 20 rfl (fun h => absurd h (by decide))).1
  have q_50 := (hf_35.2 74 45 rfl (fun _ => rfl)).1
  have q_51 := (hf_35.2 74 15 rfl (fun _ => rfl)).1
  have hw1 := fun (_ : Unit) => p_38
  clear p_38
  have hPG21 : PGM s_33 := PGM_w2 hPG15 hf_35 rfl rfl rfl rfl rfl rfl rfl rfl (by omega)
  have hg21 : ∀ g x, GTM s_13 g x → GTM s_33 g x := fun g x h9 => GTM_fr2 h9 hf_35 rfl rfl rfl rfl rfl
  refine vm_goesOn hs_34 (fun x_52 p_53 p_54 => ⟨_, rfl, ?_⟩)
  have jn36_67 : ∀ (j_56 : Int) (s_57 : gH), (MI s_57) → (gF [76, 77, 78, 79, 80, 81, 86, 87, 88, 89, 105] [15, 38, 40, 41, 42, 43, 45] s s_57) → (TPn τ n s_57) → (kq s s_57) → (KQ s s_57) → (PGM s_57) → (0 ≤ j_56 ∧ j_56 ≤ 101) → (gp_I s 74 38 ≤ gp_I s_57 74 38 ∧ gp_I s_57 74 38 ≤ gp_I s_57 74 39) → (gp_I s 74 42 ≤ gp_I s_57 74 42 ∧ 2 * gp_I s_57 74 42 ≤ gp_I s_57 74 38 + 1) → (gp_I s_57 74 40 < 0 → gp_I s 74 40 < 0) → (gp_I s_57 74 43 = 0 → gp_I s 74 43 = 0) → (gp_I s_57 74 41 = gp_I s 74 41 ∧ gp_I s_57 74 44 = gp_I s 74 44) → (gp_I s_57 74 40 < 0 → gp_I s_57 74 43 = 0 → gp_I s_57 74 42 = gp_I s 74 42 + x_12 + j_56 ∧ gp_I s 74 38 + 1 ≤ gp_I s_57 74 38) → (gp_I s 74 43 ≠ 0 → gp_I s_57 74 43 = gp_I s 74 43) → (ZJ τ n s s_57 x_12 (gp_I s_13 74 45) j_56) → (gp_I s_57 74 40 < 0 → gp_I s_57 74 43 = 0 → j_56 = 0 → -999 ≤ gp_I s_57 74 45 ∧ gp_I s_57 74 45 ≤ 999) → gs_E L (d + 188) 3136 36 [gp_r (some 74), gp_i (gp_I s 74 42), gp_i x_12, gp_i (gp_I s_13 74 45), gp_n, gp_n, gp_n, gp_n, gp_n, gp_n, gp_n] [gp_i j_56] s_57 K := by
    intro j_56 s_57 hs_s_57 hf_s_57 TPn_τ_n_s_57 kq_s_s_57 KQ_s_s_57 PGM_s_57 hj_58 ij_59 ij_60 ij_61 ij_62 ij_63 ij_64 ij_65 ij_66 ij_67
    refine s_3136_36 _ _ _ _ _ _ _ _ _ _ _ ?_
    clear p_19 p_20 p_24 p_27 p_37 p_54
    have hPG44 := PGM_s_57
    have hzj : ZJ τ n s s_57 x_12 (gp_I s_13 74 45) j_56 := by assumption
    refine vm_wants τ n _ hs_s_57 (by omega) (TPn_τ_n_s_57) (by first | omega | assumption) (fun s_69 hs_70 hf_71 p_72 p_73 p_74 => ⟨rfl, ?_⟩)
    have hf_75 : gF [76, 77, 78, 79, 80, 81, 86, 87, 88, 89, 105] [15, 38, 40, 41, 42, 43, 45] s s_69 := gF.trans hf_s_57 hf_71 rfl rfl
    have pd_76 : TPn τ n s_69 := TP_fr TPn_τ_n_s_57 hf_71 rfl rfl
    have pd_77 : kq s s_69 := kq_fr kq_s_s_57 hf_71 rfl
    have pd_78 : KQ s s_69 := KQ_fr KQ_s_s_57 hf_71 rfl rfl rfl rfl
    have q_79 := (hf_71.2 74 39 rfl (fun _ => rfl)).1
    have q_80 := (hf_71.2 74 41 rfl (fun _ => rfl)).1
    have q_81 := (hf_71.2 74 42 rfl (fun _ => rfl)).1
    have q_82 := (hf_71.2 74 43 rfl (fun _ => rfl)).1
    have q_83 := (hf_71.2 74 44 rfl (fun _ => rfl)).1
    have q_84 := (hf_71.2 81 19 rfl (fun h => absurd h (by decide))).1
    have q_85 := (hf_71.2 81 20 rfl (fun h => absurd h (by decide))).1
    have q_86 := (hf_71.2 74 45 rfl (fun _ => rfl)).1
    have q_87 := (hf_71.2 74 15 rfl (fun _ => rfl)).1
    have hw2 := fun (_ : Unit) => p_74
    clear p_74
    have hPG50 : PGM s_69 := PGM_w2 hPG44 hf_71 rfl rfl rfl rfl rfl rfl rfl rfl (by omega)
    have hg50 : ∀ g x, GTM s_57 g x → GTM s_69 g x := fun g x h9 => GTM_fr2 h9 hf_71 rfl rfl rfl rfl rfl
    have f_88 := mr74_44 hs_70
    refine ⟨fun h_89 => ?_, fun h_89 => ?_⟩
    · exfalso; omega
    · refine vm_goesOn hs_70 (fun x_90 p_91 p_92 => ⟨_, rfl, ?_⟩)
      refine ⟨fun h_93 => ?_, fun h_93 => ?_⟩
      · refine s_3136_64 _ _ _ _ _ _ _ _ _ _ ?_
        exact k s_69 hs_70 hf_75 (by first | omega | assumption) (by first | omega | assumption) (by first | omega | assumption) (by first | omega | assumption) (by first | omega | assumption) (pd_76) (pd_77) (by first | omega | assumption) (pd_78) (hPG50) (fun h9 => by omega) (ZF_0 hzj (fun h9 => hw2 () (by omega)) (by omega) (by omega))
      · obtain ⟨hx65, hy65⟩ : gp_I s_69 74 40 < 0 ∧ gp_I s_69 74 43 = 0 := by omega
        obtain ⟨hz65, ha65⟩ := (p_73).2.2 hx65 (by omega)
        have hb65 := ij_61 hz65
        have hc65 := ij_62 (by omega)
        have hd65 := ij_64 hz65 (by omega)
        have he65 := fun (_ : Unit) => ij_67 hz65 (by omega)
        clear ij_61 ij_62 ij_64 ij_65 ij_67 p_73 p_92
        have hk65 := pd_77
        have hK65 := pd_78
        have hzk := ZK_of hzj (fun h9 => hw2 () (by omega)) (by omega) (by omega) rfl hg50
        obtain ⟨f9, hf9⟩ := GF_of hPG50 (okI (by omega) (by omega) (by omega)) (gp_I s 74 42) x_12 (by omega) (by omega)
        obtain ⟨g9, hg9⟩ := GF_of hPG50 (okI (by omega) (by omega) (by omega)) (gp_I s 74 42 + x_12) j_56 (by omega) (by omega)
        refine vm_begins2 hs_70 (fun s_94 hs_95 hf_96 p_97 p_98 p_99 p_100 => ⟨rfl, ?_⟩)
        have hf_101 : gF [76, 77, 78, 79, 80, 81, 86, 87, 88, 89, 105] [15, 38, 40, 41, 42, 43, 45] s s_94 := gF.trans hf_75 hf_96 rfl rfl
        have pd_102 : TPn τ n s_94 := TP_fr pd_76 hf_96 rfl rfl
        have pd_103 : KQ s s_94 := KQ_fr pd_78 hf_96 rfl rfl rfl rfl
        have q_104 := (hf_96.2 74 38 rfl (fun _ => rfl)).1
        have q_105 := (hf_96.2 74 39 rfl (fun _ => rfl)).1
        have q_106 := (hf_96.2 74 40 rfl (fun _ => rfl)).1
        have q_107 := (hf_96.2 74 41 rfl (fun _ => rfl)).1
        have q_108 := (hf_96.2 74 42 rfl (fun _ => rfl)).1
        have q_109 := (hf_96.2 74 43 rfl (fun _ => rfl)).1
        have q_110 := (hf_96.2 74 44 rfl (fun _ => rfl)).1
        have q_111 := (hf_96.2 74 45 rfl (fun _ => rfl)).1
        have q_112 := p_100.1 19 (by omega)
        have hk69 : kq s s_94 := kq_K hk65 (mK_o p_100)
        have hK69 : KQ s s_94 := KQ_c hK65 (CK_o p_100)
        have hmo69 : mOut s_69 s_94 := p_100
        have hg69 := GVM_0 (s := s_94) (by omega)
        have lp_113 : ∀ (n_113 : Nat) (v6_113 : BitVec 64) (v10_113 : Int) (s_113 : gH), (MI s_113) → (gF [76, 77, 78, 79, 80, 81, 86, 87, 88, 89, 105] [15, 38, 40, 41, 42, 43, 45] s s_113) → (TPn τ n s_113) → (kq s s_113) → (KQ s s_113) → (MDi s_113) → (0 ≤ v10_113 ∧ v10_113 ≤ 123) → (gp_I s_113 74 38 = gp_I s_94 74 38) → (gp_I s_113 74 39 = gp_I s_94 74 39) → (gp_I s_113 74 40 = gp_I s_94 74 40) → (gp_I s_113 74 41 = gp_I s_94 74 41) → (gp_I s_113 74 42 = gp_I s_94 74 42) → (gp_I s_113 74 43 = gp_I s_94 74 43) → (gp_I s_113 74 44 = gp_I s_94 74 44) → (gp_I s_113 74 45 = gp_I s_94 74 45) → (bd v6_113 (gp_I s_113 81 20)) → (GVM s_113) → (mOut s_69 s_113) → (FLL s_113 f9 v10_113 v6_113) → (v10_113 ≤ x_12) → (124 - v10_113).toNat < n_113 → gs_E L (d + 188) 3136 78 [gp_r (some 74), gp_i (gp_I s 74 42), gp_i x_12, gp_i (gp_I s_13 74 45), gp_i j_56, gp_i (gp_I s_57 74 45), gp_l v6_113, gp_n, gp_l (0#64), gp_n, gp_i v10_113] [] s_113 K := by
          intro n_113
          induction n_113 with
          | zero => intro v6_113 v10_113 s_113 hs_s_113 hf_s_113 TPn_τ_n_s_113 kq_s_s_113 KQ_s_s_113 MDi_s_113 hv10_113 tk0_113 tk1_113 tk2_113 tk3_113 tk4_113 tk5_113 tk6_113 tk7_113 iv0_113 iv1_113 iv2_113 iv3_113 iv4_113 hm_113; exact absurd hm_113 (Nat.not_lt_zero _)
          | succ n_113 ih_113 =>
            intro v6_113 v10_113 s_113 hs_s_113 hf_s_113 TPn_τ_n_s_113 kq_s_s_113 KQ_s_s_113 MDi_s_113 hv10_113 tk0_113 tk1_113 tk2_113 tk3_113 tk4_113 tk5_113 tk6_113 tk7_113 iv0_113 iv1_113 iv2_113 iv3_113 iv4_113 hm_113
            refine s_3136_78 _ _ _ _ _ _ _ _ ?_
            have hpd78 := mr74_42 hs_s_113
            refine ⟨fun h_114 => ?_, fun h_114 => ?_⟩
            · have hk86 := kq_s_s_113
              have hK86 := KQ_s_s_113
              try rw [show gp_wr (21 + (gp_I s 74 42)) = 21 + (gp_I s 74 42) from gp_wr_id (by omega) (by omega)]
              try rw [show gp_wr ((21 + (gp_I s 74 42)) + v10_113) = (21 + (gp_I s 74 42)) + v10_113 from gp_wr_id (by omega) (by omega)]
              have hx95 : GTM s_113 (Int.toNat ((21 + (gp_I s 74 42)) + v10_113)) (f9 (Int.toNat v10_113)) := GTM_i (GTM_mo iv2_113 (by omega) (hf9 (Int.toNat v10_113) (by omega))) (by omega)
              have hc95 := GTM_1 hx95
              refine vm_comesV _ hs_s_113 (by omega) (MDi_s_113) (by first | omega | assumption) (by first | omega | assumption) (by first | omega | assumption) (⟨_, hx95⟩) (fun x_115 s_116 hs_117 hf_118 p_119 p_120 p_121 p_122 p_123 p_124 p_125 p_126 => ⟨_, rfl, ?_⟩)
              have hf_127 : gF [76, 77, 78, 79, 80, 81, 86, 87, 88, 89, 105] [15, 38, 40, 41, 42, 43, 45] s s_116 := gF.trans hf_s_113 hf_118 rfl rfl
              have pd_128 : TPn τ n s_116 := TP_fr TPn_τ_n_s_113 hf_118 rfl rfl
              have q_129 := (hf_118.2 74 38 rfl (fun _ => rfl)).1
              have q_130 := (hf_118.2 74 39 rfl (fun _ => rfl)).1
              have q_131 := (hf_118.2 74 40 rfl (fun _ => rfl)).1
              have q_132 := (hf_118.2 74 41 rfl (fun _ => rfl)).1
              have q_133 := (hf_118.2 74 42 rfl (fun _ => rfl)).1
              have q_134 := (hf_118.2 74 43 rfl (fun _ => rfl)).1
              have q_135 := (hf_118.2 74 44 rfl (fun _ => rfl)).1
              have q_136 := (hf_118.2 74 45 rfl (fun _ => rfl)).1
              have q_137 := p_121.1 19 (by omega)
              have hk98 : kq s s_116 := kq_K hk86 (mK_o p_121)
              have hK98 : KQ s s_116 := KQ_c hK86 (CK_o p_121)
              have hcm := p_126 _ hx95
              have hgv98 := p_125
              have hmo98 := mOut.trans iv2_113 p_121
              try rw [show gp_wr (v10_113 + 1) = v10_113 + 1 from gp_wr_id (by omega) (by omega)]
              exact ih_113 _ _ _ hs_117 hf_127 pd_128 hk98 hK98 p_120 (by omega) (by first | rfl | omega) (by first | rfl | omega) (by first | rfl | omega) (by first | rfl | omega) (by first | rfl | omega) (by first | rfl | omega) (by first | rfl | omega) (by first | rfl | omega) (by first | (refine bd_or (bd_le iv0_113 ?_) (bd_sh ?_ ?_ ?_) <;> omega) | (refine bd_le iv0_113 ?_; omega)) (hgv98) (hmo98) (FLL_s iv3_113 (by omega) hcm hgv98 ⟨by omega, by omega⟩ rfl) (by first | omega | assumption) (by omega)
            · have lp_138 : ∀ (n_138 : Nat) (v8_138 : BitVec 64) (v10_138 : Int) (s_138 : gH), (MI s_138) → (gF [76, 77, 78, 79, 80, 81, 86, 87, 88, 89, 105] [15, 38, 40, 41, 42, 43, 45] s s_138) → (TPn τ n s_138) → (kq s s_138) → (KQ s s_138) → (MDi s_138) → (0 ≤ v10_138 ∧ v10_138 ≤ 123) → (gp_I s_138 74 38 = gp_I s_113 74 38) → (gp_I s_138 74 39 = gp_I s_113 74 39) → (gp_I s_138 74 40 = gp_I s_113 74 40) → (gp_I s_138 74 41 = gp_I s_113 74 41) → (gp_I s_138 74 42 = gp_I s_113 74 42) → (gp_I s_138 74 43 = gp_I s_113 74 43) → (gp_I s_138 74 44 = gp_I s_113 74 44) → (gp_I s_138 74 45 = gp_I s_113 74 45) → (bd v6_113 (gp_I s_138 81 20)) → (bd v8_138 (gp_I s_138 81 20)) → (GVM s_138) → (mOut s_69 s_138) → (FLR s_138 f9 x_12 g9 v10_138 v6_113 v8_138) → (v10_138 ≤ j_56) → (124 - v10_138).toNat < n_138 → gs_E L (d + 188) 3136 111 [gp_r (some 74), gp_i (gp_I s 74 42), gp_i x_12, gp_i (gp_I s_13 74 45), gp_i j_56, gp_i (gp_I s_57 74 45), gp_l v6_113, gp_n, gp_l v8_138, gp_n, gp_i v10_138] [] s_138 K := by
                intro n_138
                induction n_138 with
                | zero => intro v8_138 v10_138 s_138 hs_s_138 hf_s_138 TPn_τ_n_s_138 kq_s_s_138 KQ_s_s_138 MDi_s_138 hv10_138 tk0_138 tk1_138 tk2_138 tk3_138 tk4_138 tk5_138 tk6_138 tk7_138 iv0_138 iv1_138 iv2_138 iv3_138 iv4_138 iv5_138 hm_138; exact absurd hm_138 (Nat.not_lt_zero _)
                | succ n_138 ih_138 =>
                  intro v8_138 v10_138 s_138 hs_s_138 hf_s_138 TPn_τ_n_s_138 kq_s_s_138 KQ_s_s_138 MDi_s_138 hv10_138 tk0_138 tk1_138 tk2_138 tk3_138 tk4_138 tk5_138 tk6_138 tk7_138 iv0_138 iv1_138 iv2_138 iv3_138 iv4_138 iv5_138 hm_138
                  refine s_3136_111 _ _ _ _ _ _ _ _ ?_
                  have hpd111 := mr74_42 hs_s_138
                  refine ⟨fun h_139 => ?_, fun h_139 => ?_⟩
                  · have hk120 := kq_s_s_138
                    have hK120 := KQ_s_s_138
                    try rw [show gp_wr (21 + (gp_I s 74 42)) = 21 + (gp_I s 74 42) from gp_wr_id (by omega) (by omega)]
                    try rw [show gp_wr ((21 + (gp_I s 74 42)) + x_12) = (21 + (gp_I s 74 42)) + x_12 from gp_wr_id (by omega) (by omega)]
                    try rw [show gp_wr (((21 + (gp_I s 74 42)) + x_12) + v10_138) = ((21 + (gp_I s 74 42)) + x_12) + v10_138 from gp_wr_id (by omega) (by omega)]
                    have hx131 : GTM s_138 (Int.toNat (((21 + (gp_I s 74 42)) + x_12) + v10_138)) (g9 (Int.toNat v10_138)) := GTM_i (GTM_mo iv3_138 (by omega) (hg9 (Int.toNat v10_138) (by omega))) (by omega)
                    have hc131 := GTM_1 hx131
                    refine vm_comesV _ hs_s_138 (by omega) (MDi_s_138) (by first | omega | assumption) (by first | omega | assumption) (by first | omega | assumption) (⟨_, hx131⟩) (fun x_140 s_141 hs_142 hf_143 p_144 p_145 p_146 p_147 p_148 p_149 p_150 p_151 => ⟨_, rfl, ?_⟩)
                    have hf_152 : gF [76, 77, 78, 79, 80, 81, 86, 87, 88, 89, 105] [15, 38, 40, 41, 42, 43, 45] s s_141 := gF.trans hf_s_138 hf_143 rfl rfl
                    have pd_153 : TPn τ n s_141 := TP_fr TPn_τ_n_s_138 hf_143 rfl rfl
                    have q_154 := (hf_143.2 74 38 rfl (fun _ => rfl)).1
                    have q_155 := (hf_143.2 74 39 rfl (fun _ => rfl)).1
                    have q_156 := (hf_143.2 74 40 rfl (fun _ => rfl)).1
                    have q_157 := (hf_143.2 74 41 rfl (fun _ => rfl)).1
                    have q_158 := (hf_143.2 74 42 rfl (fun _ => rfl)).1
                    have q_159 := (hf_143.2 74 43 rfl (fun _ => rfl)).1
                    have q_160 := (hf_143.2 74 44 rfl (fun _ => rfl)).1
                    have q_161 := (hf_143.2 74 45 rfl (fun _ => rfl)).1
                    have q_162 := p_146.1 19 (by omega)
                    have hk134 : kq s s_141 := kq_K hk120 (mK_o p_146)
                    have hK134 : KQ s s_141 := KQ_c hK120 (CK_o p_146)
                    have hcm := p_151 _ hx131
                    have hgv134 := p_150
                    have hmo134 := mOut.trans iv3_138 p_146
                    try rw [show gp_wr (v10_138 + 1) = v10_138 + 1 from gp_wr_id (by omega) (by omega)]
                    exact ih_138 _ _ _ hs_142 hf_152 pd_153 hk134 hK134 p_145 (by omega) (by first | rfl | omega) (by first | rfl | omega) (by first | rfl | omega) (by first | rfl | omega) (by first | rfl | omega) (by first | rfl | omega) (by first | rfl | omega) (by first | rfl | omega) (by first | (refine bd_or (bd_le iv0_138 ?_) (bd_sh ?_ ?_ ?_) <;> omega) | (refine bd_le iv0_138 ?_; omega)) (by first | (refine bd_or (bd_le iv1_138 ?_) (bd_sh ?_ ?_ ?_) <;> omega) | (refine bd_le iv1_138 ?_; omega)) (hgv134) (hmo134) (FLR_s iv4_138 (by omega) hcm hgv134 ⟨by omega, by omega⟩ rfl) (by first | omega | assumption) (by omega)
                  · have hk144 := kq_s_s_138
                    have hK144 := KQ_s_s_138
                    have hflr := iv4_138
                    refine vm_madeV _ _ _ _ hs_s_138 (MDi_s_138) (by first | assumption | exact bd_le (by assumption) (by omega) | exact bd_0 _) (by first | assumption | exact bd_le (by assumption) (by omega) | exact bd_0 _) (by first | omega | assumption) (fun x_163 s_164 hs_165 hf_166 p_167 p_168 p_169 p_170 p_171 p_172 p_173 p_174 p_175 p_176 p_177 => ⟨_, rfl, ?_⟩)
                    have hf_178 : gF [76, 77, 78, 79, 80, 81, 86, 87, 88, 89, 105] [15, 38, 40, 41, 42, 43, 45] s s_164 := gF.trans hf_s_138 hf_166 rfl rfl
                    have pd_179 : TPn τ n s_164 := TP_fr TPn_τ_n_s_138 hf_166 rfl rfl
                    have q_180 := (hf_166.2 74 38 rfl (fun _ => rfl)).1
                    have q_181 := (hf_166.2 74 39 rfl (fun _ => rfl)).1
                    have q_182 := (hf_166.2 74 40 rfl (fun _ => rfl)).1
                    have q_183 := (hf_166.2 74 41 rfl (fun _ => rfl)).1
                    have q_184 := (hf_166.2 74 42 rfl (fun _ => rfl)).1
                    have q_185 := (hf_166.2 74 43 rfl (fun _ => rfl)).1
                    have q_186 := (hf_166.2 74 44 rfl (fun _ => rfl)).1
                    have q_187 := (hf_166.2 74 45 rfl (fun _ => rfl)).1
                    have q_188 := p_172.1 19 (by omega)
                    have hk157 : kq s s_164 := kq_K hk144 (mK_o p_172)
                    have hK157 : KQ s s_164 := KQ_c hK144 (CK_o p_172)
                    have hmd := MDW_of (c2 := j_56) hflr (by omega) p_177 p_175
                    have hgm := p_177.1
                    have hV9m := MDW_V hmd hf9 hg9 (by omega) (by omega) (fun e9 => hb1 () e9) (fun e9 => he65 () e9)
                    refine vm_resultsV _ hs_165 (by omega) (p_168) (by first | omega | assumption) (fun h9 y9 a9 => V9_B (hV9m h9 y9 a9)) (hgm) (fun x_189 s_190 hs_191 hf_192 p_193 p_194 p_195 p_196 p_197 p_198 p_199 => ⟨_, rfl, ?_⟩)
                    have hf_200 : gF [76, 77, 78, 79, 80, 81, 86, 87, 88, 89, 105] [15, 38, 40, 41, 42, 43, 45] s s_190 := gF.trans hf_178 hf_192 rfl rfl
                    have pd_201 : TPn τ n s_190 := TP_fr pd_179 hf_192 rfl rfl
                    have q_202 := (hf_192.2 74 38 rfl (fun _ => rfl)).1
                    have q_203 := (hf_192.2 74 39 rfl (fun _ => rfl)).1
                    have q_204 := (hf_192.2 74 40 rfl (fun _ => rfl)).1
                    have q_205 := (hf_192.2 74 41 rfl (fun _ => rfl)).1
                    have q_206 := (hf_192.2 74 42 rfl (fun _ => rfl)).1
                    have q_207 := (hf_192.2 74 43 rfl (fun _ => rfl)).1
                    have q_208 := (hf_192.2 74 44 rfl (fun _ => rfl)).1
                    have q_209 := (hf_192.2 74 45 rfl (fun _ => rfl)).1
                    have q_210 := (hf_192.2 74 15 rfl (fun _ => rfl)).1
                    have hk160 : kq s s_190 := kq_K hk157 p_197
                    have hK160 : KQ s s_190 := KQ_c hK157 p_199
                    have hfz := FRZ_of hmd hV9m hgm p_198
                    intro s_211 e_212
                    have hs_213 : MI s_211 := by rw [e_212]; exact mw74_43 hs_191 _ (by omega)
                    have hf_214 : gF [76, 77, 78, 79, 80, 81, 86, 87, 88, 89, 105] [15, 38, 40, 41, 42, 43, 45] s s_211 := by rw [e_212]; exact gF.wI hf_200 (Or.inr ⟨rfl, rfl⟩)
                    have q_215 : gp_I s_211 74 38 = gp_I s_190 74 38 := by rw [e_212] <;> rfl
                    have q_216 : gp_I s_211 74 39 = gp_I s_190 74 39 := by rw [e_212] <;> rfl
                    have q_217 : gp_I s_211 74 40 = gp_I s_190 74 40 := by rw [e_212] <;> rfl
                    have q_218 : gp_I s_211 74 41 = gp_I s_190 74 41 := by rw [e_212] <;> rfl
                    have q_219 : gp_I s_211 74 42 = gp_I s_190 74 42 := by rw [e_212] <;> rfl
                    have q_220 : gp_I s_211 74 43 = x_189 := by rw [e_212]; exact (gz_rw _ _ _ _ _).1 rfl
                    have q_221 : gp_I s_211 74 44 = gp_I s_190 74 44 := by rw [e_212] <;> rfl
                    have q_222 : gp_I s_211 81 19 = gp_I s_190 81 19 := by rw [e_212] <;> rfl
                    have q_223 : gp_I s_211 81 20 = gp_I s_190 81 20 := by rw [e_212] <;> rfl
                    have q_224 : gp_I s_211 74 45 = gp_I s_190 74 45 := by rw [e_212] <;> rfl
                    have q_225 : gp_I s_211 74 15 = gp_I s_190 74 15 := by rw [e_212] <;> rfl
                    have pd_226 : TPn τ n s_211 := by rw [e_212]; exact TP_fr pd_201 (gF.wI (gF.refl [] [43] _) (Or.inr ⟨rfl, rfl⟩)) rfl rfl
                    have pd_227 : kq s s_211 := by rw [e_212]; exact kq_fr hk160 (gF.wI (gF.refl [] [43] _) (Or.inr ⟨rfl, rfl⟩)) rfl
                    have pd_228 : KQ s s_211 := by rw [e_212]; exact KQ_fr hK160 (gF.wI (gF.refl [] [43] _) (Or.inr ⟨rfl, rfl⟩)) rfl rfl rfl rfl
                    have hG163 : ∀ x, GTM s_190 19 x → GTM s_211 19 x := fun x h9 => by rw [‹s_211 = gp_wI s_190 74 43 _›]; exact h9
                    intro s_229 e_230
                    have hs_231 : MI s_229 := by rw [e_230]; exact mw74_42 hs_213 _ (by omega)
                    have hf_232 : gF [76, 77, 78, 79, 80, 81, 86, 87, 88, 89, 105] [15, 38, 40, 41, 42, 43, 45] s s_229 := by rw [e_230]; exact gF.wI hf_214 (Or.inr ⟨rfl, rfl⟩)
                    have q_233 : gp_I s_229 74 38 = gp_I s_211 74 38 := by rw [e_230] <;> rfl
                    have q_234 : gp_I s_229 74 39 = gp_I s_211 74 39 := by rw [e_230] <;> rfl
                    have q_235 : gp_I s_229 74 40 = gp_I s_211 74 40 := by rw [e_230] <;> rfl
                    have q_236 : gp_I s_229 74 41 = gp_I s_211 74 41 := by rw [e_230] <;> rfl
                    have q_237 : gp_I s_229 74 42 = gp_I s 74 42 := by rw [e_230]; exact (gz_rw _ _ _ _ _).1 rfl
                    have q_238 : gp_I s_229 74 43 = gp_I s_211 74 43 := by rw [e_230] <;> rfl
                    have q_239 : gp_I s_229 74 44 = gp_I s_211 74 44 := by rw [e_230] <;> rfl
                    have q_240 : gp_I s_229 81 19 = gp_I s_211 81 19 := by rw [e_230] <;> rfl
                    have q_241 : gp_I s_229 81 20 = gp_I s_211 81 20 := by rw [e_230] <;> rfl
                    have q_242 : gp_I s_229 74 45 = gp_I s_211 74 45 := by rw [e_230] <;> rfl
                    have q_243 : gp_I s_229 74 15 = gp_I s_211 74 15 := by rw [e_230] <;> rfl
                    have pd_244 : TPn τ n s_229 := by rw [e_230]; exact TP_fr pd_226 (gF.wI (gF.refl [] [42] _) (Or.inr ⟨rfl, rfl⟩)) rfl rfl
                    have pd_245 : kq s s_229 := by rw [e_230]; exact kq_fr pd_227 (gF.wI (gF.refl [] [42] _) (Or.inr ⟨rfl, rfl⟩)) rfl
                    have pd_246 : KQ s s_229 := by rw [e_230]; exact KQ_fr pd_228 (gF.wI (gF.refl [] [42] _) (Or.inr ⟨rfl, rfl⟩)) rfl rfl rfl rfl
                    have hk168 := pd_245
                    have hK168 := pd_246
                    have hG168 : ∀ x, GTM s_190 19 x → GTM s_229 19 x := fun x h9 => by rw [‹s_229 = gp_wI s_211 74 42 _›]; exact hG163 x h9
                    refine vm_pilesV hs_231 (by first | omega | assumption) (fun s_247 hs_248 hf_249 p_250 p_251 p_252 p_253 p_254 => ⟨rfl, ?_⟩)
                    have hf_255 : gF [76, 77, 78, 79, 80, 81, 86, 87, 88, 89, 105] [15, 38, 40, 41, 42, 43, 45] s s_247 := gF.trans hf_232 hf_249 rfl rfl
                    have pd_256 : TPn τ n s_247 := TP_fr pd_244 hf_249 rfl rfl
                    have q_257 := (hf_249.2 74 38 rfl (fun _ => rfl)).1
                    have q_258 := (hf_249.2 74 39 rfl (fun _ => rfl)).1
                    have q_259 := (hf_249.2 74 40 rfl (fun _ => rfl)).1
                    have q_260 := (hf_249.2 74 41 rfl (fun _ => rfl)).1
                    have q_261 := (hf_249.2 74 43 rfl (fun _ => rfl)).1
                    have q_262 := (hf_249.2 74 44 rfl (fun _ => rfl)).1
                    have q_263 := (hf_249.2 74 45 rfl (fun _ => rfl)).1
                    have q_264 := (hf_249.2 74 15 rfl (fun _ => rfl)).1
                    have hk172 : kq s s_247 := kq_p hk168 p_251 (by omega)
                    have hK172 : KQ s s_247 := KQ_p hK168 p_254 (by omega)
                    have hpl := p_253
                    have hPG9 : PGM s_247 := PGM_q q4 hk172 hK172 (fun o => okI (by have := o.1; omega) (by have := o.2.1; omega) (by have := o.2.2; omega)) (fun o9 => by have := o9.1; have := o9.2.1; have := o9.2.2; omega) (fun o9 e9 => by rcases hfz with ⟨h8, _⟩ | ⟨_, _, h8⟩; (exfalso; have := o9.2.2; omega); exact ⟨_, GTM_i (hpl _ (hG168 _ h8)) (by omega)⟩)
                    exact k s_247 hs_248 hf_255 (by first | omega | assumption) (by first | omega | assumption) (by first | omega | assumption) (by first | omega | assumption) (by first | omega | assumption) (pd_256) (hk172) (by first | omega | assumption) (hK172) (hPG9) (fun h9 => by omega) (ZF_1 hzk hf9 hg9 hfz (by omega) (by omega) (fun e9 => (okI (by omega) (by omega) (by omega))) (fun x9 h9 => GTM_i (hpl x9 (hG168 x9 h9)) (by omega)))
              exact lp_138 _ _ _ _ hs_s_113 hf_s_113 TPn_τ_n_s_113 kq_s_s_113 KQ_s_s_113 MDi_s_113 (by omega) (by first | rfl | omega) (by first | rfl | omega) (by first | rfl | omega) (by first | rfl | omega) (by first | rfl | omega) (by first | rfl | omega) (by first | rfl | omega) (by first | rfl | omega) (iv0_113) (bd_0 _) (iv1_113) (iv2_113) (FLR_0 iv3_113 (by omega) rfl) (by first | omega | assumption) (Nat.lt_succ_self _)
        exact lp_113 _ _ _ _ hs_95 hf_101 pd_102 hk69 hK69 p_99 (by omega) (by first | rfl | omega) (by first | rfl | omega) (by first | rfl | omega) (by first | rfl | omega) (by first | rfl | omega) (by first | rfl | omega) (by first | rfl | omega) (by first | rfl | omega) (bd_0 _) (hg69) (hmo69) (FLL_0 (by omega) (by omega)) (by first | omega | assumption) (Nat.lt_succ_self _)
  refine ⟨fun h_55 => ?_, fun h_55 => ?_⟩
  · exact jn36_67 _ _ hs_34 hf_39 pd_40 pd_41 pd_42 hPG21 (by omega) (by first | omega | assumption) (by first | omega | assumption) (by first | omega | assumption) (by first | omega | assumption) (by first | omega | assumption) (by first | omega | assumption) (by first | omega | assumption) (by first | exact ZJ_a ⟨by omega, by omega⟩ hzs1 (fun h9 => hw1 () (by omega)) (by omega) (by omega) | exact ZJ_b ⟨by omega, by omega⟩ hzs1 rfl (fun h9 => hw1 () (by omega)) (by omega) (okI (by omega) (by omega) (by omega)) (by omega) (by omega) hzs2 hgk2) (by first | omega | assumption)
  · obtain ⟨hx28, hy28⟩ : gp_I s_33 74 40 < 0 ∧ gp_I s_33 74 43 = 0 := by omega
    obtain ⟨hz28, ha28⟩ := (p_37).2.2 hx28 (by omega)
    have hb28 := p_19 hz28
    have hc28 := p_20 (by omega)
    have hd28 := p_24 hz28 (by omega)
    have he28 := (p_37).1
    clear p_19 p_20 p_24 p_27 p_37 p_54
    have hk28 := pd_41
    have hK28 := pd_42
    refine ihS _ _ _ _ τ n (by omega) hs_34 (pd_40) (by first | omega | assumption) (by first | omega | assumption) (by first | omega | assumption) (hPG21) (by first | omega | assumption) (fun x_265 s_266 hs_267 hf_268 p_269 p_270 p_271 p_272 p_273 p_274 p_275 p_276 p_277 p_278 p_279 p_280 p_281 p_282 => ⟨_, rfl, ?_⟩)
    have hf_283 : gF [76, 77, 78, 79, 80, 81, 86, 87, 88, 89, 105] [15, 38, 40, 41, 42, 43, 45] s s_266 := gF.trans hf_39 hf_268 rfl rfl
    have q_284 := (hf_268.2 74 39 rfl (fun _ => rfl)).1
    have q_285 := (hf_268.2 74 44 rfl (fun _ => rfl)).1
    have hk32 : kq s s_266 := kq.trans hk28 p_276 (by omega)
    have hK32 : KQ s s_266 := KQ_t hK28 p_278 (by omega)
    have hzs2 := p_281
    have hb2 := p_282
    have hkx := p_276
    have hKx := p_278
    have hgk2 : ∀ (k : Nat) x, (k : Int) < x_12 → GTM s_13 (Int.toNat (21 + gp_I s 74 42 + k)) x → GTM s_266 (Int.toNat (21 + gp_I s 74 42 + k)) x := fun k x hk h9 => GTM_q (hg21 _ _ h9) hkx hKx ⟨by omega, by omega⟩
    exact jn36_67 _ _ hs_267 hf_283 p_275 hk32 hK32 p_279 (by omega) (by first | omega | assumption) (by first | omega | assumption) (by first | omega | assumption) (by first | omega | assumption) (by first | omega | assumption) (by first | omega | assumption) (by first | omega | assumption) (by first | exact ZJ_a ⟨by omega, by omega⟩ hzs1 (fun h9 => hw1 () (by omega)) (by omega) (by omega) | exact ZJ_b ⟨by omega, by omega⟩ hzs1 rfl (fun h9 => hw1 () (by omega)) (by omega) (okI (by omega) (by omega) (by omega)) (by omega) (by omega) hzs2 hgk2) (by first | omega | assumption)
