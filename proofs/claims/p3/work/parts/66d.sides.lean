theorem PI_w2 {s t : gH} {m g : List Nat} (h : PI s) (hf : gF m g s t) (e : m.contains 81 = false) (f2 : g.contains 42 = false) (f3 : g.contains 43 = false) (f4 : g.contains 44 = false) (ho : gp_I t 74 43 = 0 → gp_I t 74 40 < 0 → gp_I s 74 40 < 0) (q : m.contains 74 = false := by rfl) : PI t := by
  have r7 : ∀ k, g.contains k = false → gp_I t 74 k = gp_I s 74 k := fun k h1 => (hf.2 74 k q (fun _ => h1)).1
  intro o k h1 h2
  rw [r7 42 f2] at h2
  rw [(hf.2 81 k e (fun h => absurd h (by decide))).1]
  exact h ⟨by rw [← r7 44 f4]; exact o.1, ho o.2.2 o.2.1, by rw [← r7 43 f3]; exact o.2.2⟩ k h1 h2
set_option maxHeartbeats 6000000 in
set_option maxRecDepth 100000 in
/-- GatheredPointsModel.sides -/
theorem vm_sides (m : Nat) (ihS : SI m) : SS m := by
  intro L D K s τ n hD hs q0 q1 q2 q3 q4 k
  obtain ⟨d, rfl⟩ : ∃ d, D = d + 188 := ⟨D - 188, by omega⟩
  have f_1 := mr74_38 hs
  have f_2 := mr74_39 hs
  have f_3 := mr74_40 hs
  have f_4 := mr74_41 hs
  have f_5 := mr74_42 hs
  have f_6 := mr74_43 hs
  have f_7 := mr74_44 hs
  have f_8 := mr81 hs 19
  have f_9 := mr81 hs 20
  refine s_3136_e ?_
  have hkq0 := kq.refl s
  have f_10 := mr74_42 hs
  refine ihS _ _ _ _ τ n (by omega) hs (q0) (q1) (by first | omega | assumption) (by first | omega | assumption) (by first | omega | assumption) (fun x_11 s_12 hs_13 hf_14 p_15 p_16 p_17 p_18 p_19 p_20 p_21 p_22 p_23 p_24 p_25 p_26 => ⟨_, rfl, ?_⟩)
  have hf_27 : gF [76, 77, 78, 79, 80, 81, 86, 87, 88, 89, 105] [15, 38, 40, 41, 42, 43, 45] s s_12 := gF.sub hf_14 rfl rfl
  have q_28 := (hf_14.2 74 39 rfl (fun _ => rfl)).1
  have q_29 := (hf_14.2 74 44 rfl (fun _ => rfl)).1
  have hk9 : kq s s_12 := p_22
  have hev1 := p_25
  have hPI15 := p_23
  refine vm_wants τ n _ hs_13 (by omega) (p_21) (by first | omega | assumption) (fun s_30 hs_31 hf_32 p_33 p_34 p_35 => ⟨rfl, ?_⟩)
  have hf_36 : gF [76, 77, 78, 79, 80, 81, 86, 87, 88, 89, 105] [15, 38, 40, 41, 42, 43, 45] s s_30 := gF.trans hf_27 hf_32 rfl rfl
  have pd_37 : TPn τ n s_30 := TP_fr p_21 hf_32 rfl rfl
  have pd_38 : kq s s_30 := kq_fr hk9 hf_32 rfl
  have q_39 := (hf_32.2 74 39 rfl (fun _ => rfl)).1
  have q_40 := (hf_32.2 74 41 rfl (fun _ => rfl)).1
  have q_41 := (hf_32.2 74 42 rfl (fun _ => rfl)).1
  have q_42 := (hf_32.2 74 43 rfl (fun _ => rfl)).1
  have q_43 := (hf_32.2 74 44 rfl (fun _ => rfl)).1
  have q_44 := (hf_32.2 81 19 rfl (fun h => absurd h (by decide))).1
  have q_45 := (hf_32.2 81 20 rfl (fun h => absurd h (by decide))).1
  have hw1 := p_35
  have hPI21 : PI s_30 := PI_w2 hPI15 hf_32 rfl rfl rfl rfl (by omega)
  refine vm_goesOn hs_31 (fun x_46 p_47 p_48 => ⟨_, rfl, ?_⟩)
  have jn36_60 : ∀ (j_50 : Int) (s_51 : gH), (MI s_51) → (gF [76, 77, 78, 79, 80, 81, 86, 87, 88, 89, 105] [15, 38, 40, 41, 42, 43, 45] s s_51) → (TPn τ n s_51) → (PI s_51) → (kq s s_51) → (0 ≤ j_50 ∧ j_50 ≤ 101) → (gp_I s 74 38 ≤ gp_I s_51 74 38 ∧ gp_I s_51 74 38 ≤ gp_I s_51 74 39) → (gp_I s 74 42 ≤ gp_I s_51 74 42 ∧ 2 * gp_I s_51 74 42 ≤ gp_I s_51 74 38 + 1) → (gp_I s_51 74 40 < 0 → gp_I s 74 40 < 0) → (gp_I s_51 74 43 = 0 → gp_I s 74 43 = 0) → (gp_I s_51 74 41 = gp_I s 74 41 ∧ gp_I s_51 74 44 = gp_I s 74 44) → (gp_I s_51 74 44 ≠ 0 → gp_I s_51 74 40 < 0 → gp_I s_51 74 43 = 0 → gp_I s_51 74 42 = gp_I s 74 42 + x_11 + j_50 ∧ gp_I s 74 38 + 1 ≤ gp_I s_51 74 38) → (gp_I s 74 44 = 0 → gp_I s_51 74 43 = gp_I s 74 43) → (∀ b v : Int, gp_I s_51 74 43 = 0 → wnt τ n 62 (gp_I s_51 74 38, gp_I s_51 74 40) = (b, v) → EV τ n 4 (gp_I s 74 41) (gp_I s 74 38) (gp_I s 74 40) b v) → gs_E L (d + 188) 3136 36 [gp_r (some 74), gp_i (gp_I s 74 42), gp_i x_11, gp_i (gp_I s_12 74 45), gp_n, gp_n, gp_n, gp_n, gp_n, gp_n, gp_n] [gp_i j_50] s_51 K := by
    intro j_50 s_51 hs_s_51 hf_s_51 TPn_τ_n_s_51 PI_s_51 kq_s_s_51 hj_52 ij_53 ij_54 ij_55 ij_56 ij_57 ij_58 ij_59 ij_60
    refine s_3136_36 _ _ _ _ _ _ _ _ _ _ _ ?_
    have hPI44 := PI_s_51
    refine vm_wants τ n _ hs_s_51 (by omega) (TPn_τ_n_s_51) (by first | omega | assumption) (fun s_62 hs_63 hf_64 p_65 p_66 p_67 => ⟨rfl, ?_⟩)
    have hf_68 : gF [76, 77, 78, 79, 80, 81, 86, 87, 88, 89, 105] [15, 38, 40, 41, 42, 43, 45] s s_62 := gF.trans hf_s_51 hf_64 rfl rfl
    have pd_69 : TPn τ n s_62 := TP_fr TPn_τ_n_s_51 hf_64 rfl rfl
    have pd_70 : kq s s_62 := kq_fr kq_s_s_51 hf_64 rfl
    have q_71 := (hf_64.2 74 39 rfl (fun _ => rfl)).1
    have q_72 := (hf_64.2 74 41 rfl (fun _ => rfl)).1
    have q_73 := (hf_64.2 74 42 rfl (fun _ => rfl)).1
    have q_74 := (hf_64.2 74 43 rfl (fun _ => rfl)).1
    have q_75 := (hf_64.2 74 44 rfl (fun _ => rfl)).1
    have q_76 := (hf_64.2 81 19 rfl (fun h => absurd h (by decide))).1
    have q_77 := (hf_64.2 81 20 rfl (fun h => absurd h (by decide))).1
    have hw2 := p_67
    have hPI50 : PI s_62 := PI_w2 hPI44 hf_64 rfl rfl rfl rfl (by omega)
    have hevS : gp_I s_62 74 43 = 0 → EV τ n 4 (gp_I s 74 41) (gp_I s 74 38) (gp_I s 74 40) (gp_I s_62 74 38) (gp_I s_62 74 40) := fun h9 => ‹∀ b v : Int, gp_I _ 74 43 = 0 → wnt τ n 62 _ = (b, v) → _› _ _ (by omega) (hw2 (by omega))
    have f_78 := mr74_44 hs_63
    refine ⟨fun h_79 => ?_, fun h_79 => ?_⟩
    · refine s_3136_64 _ _ _ _ _ _ _ _ _ _ ?_
      exact k s_62 hs_63 hf_68 (by first | omega | assumption) (by first | omega | assumption) (by first | omega | assumption) (by first | omega | assumption) (by first | omega | assumption) (pd_69) (pd_70) (hPI50) (by first | omega | assumption) (fun h9 => hevS (by omega)) (by first | omega | assumption)
    · refine vm_goesOn hs_63 (fun x_80 p_81 p_82 => ⟨_, rfl, ?_⟩)
      refine ⟨fun h_83 => ?_, fun h_83 => ?_⟩
      · refine s_3136_64 _ _ _ _ _ _ _ _ _ _ ?_
        exact k s_62 hs_63 hf_68 (by first | omega | assumption) (by first | omega | assumption) (by first | omega | assumption) (by first | omega | assumption) (by first | omega | assumption) (pd_69) (pd_70) (hPI50) (by first | omega | assumption) (fun h9 => hevS (by omega)) (by first | omega | assumption)
      · have hpd : gp_I s_62 74 42 = (gp_I s 74 42) + x_11 + j_50 := by omega
        have hta0 := hPI50 (okI (by omega) (by omega) (by omega))
        have hk65 := pd_70
        refine vm_begins2 hs_63 (fun s_84 hs_85 hf_86 p_87 p_88 p_89 p_90 => ⟨rfl, ?_⟩)
        have hf_91 : gF [76, 77, 78, 79, 80, 81, 86, 87, 88, 89, 105] [15, 38, 40, 41, 42, 43, 45] s s_84 := gF.trans hf_68 hf_86 rfl rfl
        have pd_92 : TPn τ n s_84 := TP_fr pd_69 hf_86 rfl rfl
        have q_93 := (hf_86.2 74 38 rfl (fun _ => rfl)).1
        have q_94 := (hf_86.2 74 39 rfl (fun _ => rfl)).1
        have q_95 := (hf_86.2 74 40 rfl (fun _ => rfl)).1
        have q_96 := (hf_86.2 74 41 rfl (fun _ => rfl)).1
        have q_97 := (hf_86.2 74 42 rfl (fun _ => rfl)).1
        have q_98 := (hf_86.2 74 43 rfl (fun _ => rfl)).1
        have q_99 := (hf_86.2 74 44 rfl (fun _ => rfl)).1
        have q_100 := p_90.1 19 (by omega)
        have hta : ∀ k : Nat, 21 ≤ k → (k : Int) < 21 + (gp_I s 74 42) + x_11 + j_50 → 1 ≤ gp_I s_84 81 k := fun k h1 h2 => by rw [p_90.1 k (by omega)]; exact hta0 k h1 (by omega)
        have hk69 : kq s s_84 := kq_K hk65 (mK_o p_90)
        have lp_101 : ∀ (n_101 : Nat) (v6_101 : BitVec 64) (v10_101 : Int) (s_101 : gH), (MI s_101) → (gF [76, 77, 78, 79, 80, 81, 86, 87, 88, 89, 105] [15, 38, 40, 41, 42, 43, 45] s s_101) → (TPn τ n s_101) → (kq s s_101) → (MDi s_101) → (0 ≤ v10_101 ∧ v10_101 ≤ 123) → (gp_I s_101 74 38 = gp_I s_84 74 38) → (gp_I s_101 74 39 = gp_I s_84 74 39) → (gp_I s_101 74 40 = gp_I s_84 74 40) → (gp_I s_101 74 41 = gp_I s_84 74 41) → (gp_I s_101 74 42 = gp_I s_84 74 42) → (gp_I s_101 74 43 = gp_I s_84 74 43) → (gp_I s_101 74 44 = gp_I s_84 74 44) → (bd v6_101 (gp_I s_101 81 20)) → (bd (0#64) (gp_I s_101 81 20)) → (∀ k : Nat, 21 ≤ k → (k : Int) < 21 + (gp_I s 74 42) + x_11 + j_50 → 1 ≤ gp_I s_101 81 k) → (124 - v10_101).toNat < n_101 → gs_E L (d + 188) 3136 78 [gp_r (some 74), gp_i (gp_I s 74 42), gp_i x_11, gp_i (gp_I s_12 74 45), gp_i j_50, gp_i (gp_I s_51 74 45), gp_l v6_101, gp_n, gp_l (0#64), gp_n, gp_i v10_101] [] s_101 K := by
          intro n_101
          induction n_101 with
          | zero => intro v6_101 v10_101 s_101 hs_s_101 hf_s_101 TPn_τ_n_s_101 kq_s_s_101 MDi_s_101 hv10_101 tk0_101 tk1_101 tk2_101 tk3_101 tk4_101 tk5_101 tk6_101 iv0_101 iv1_101 iv2_101 hm_101; exact absurd hm_101 (Nat.not_lt_zero _)
          | succ n_101 ih_101 =>
            intro v6_101 v10_101 s_101 hs_s_101 hf_s_101 TPn_τ_n_s_101 kq_s_s_101 MDi_s_101 hv10_101 tk0_101 tk1_101 tk2_101 tk3_101 tk4_101 tk5_101 tk6_101 iv0_101 iv1_101 iv2_101 hm_101
            refine s_3136_78 _ _ _ _ _ _ _ _ ?_
            have hpd78 := mr74_42 hs_s_101
            refine ⟨fun h_102 => ?_, fun h_102 => ?_⟩
            · have hk86 := kq_s_s_101
              try rw [show gp_wr (21 + (gp_I s 74 42)) = 21 + (gp_I s 74 42) from gp_wr_id (by omega) (by omega)]
              try rw [show gp_wr ((21 + (gp_I s 74 42)) + v10_101) = (21 + (gp_I s 74 42)) + v10_101 from gp_wr_id (by omega) (by omega)]
              have hc95 := iv2_101 (Int.toNat ((21 + (gp_I s 74 42)) + v10_101)) (by omega) (by omega)
              refine vm_comes _ hs_s_101 (by omega) (MDi_s_101) (by first | omega | assumption) (by first | omega | assumption) (fun x_103 s_104 hs_105 hf_106 p_107 p_108 p_109 p_110 p_111 p_112 => ⟨_, rfl, ?_⟩)
              have hf_113 : gF [76, 77, 78, 79, 80, 81, 86, 87, 88, 89, 105] [15, 38, 40, 41, 42, 43, 45] s s_104 := gF.trans hf_s_101 hf_106 rfl rfl
              have pd_114 : TPn τ n s_104 := TP_fr TPn_τ_n_s_101 hf_106 rfl rfl
              have q_115 := (hf_106.2 74 38 rfl (fun _ => rfl)).1
              have q_116 := (hf_106.2 74 39 rfl (fun _ => rfl)).1
              have q_117 := (hf_106.2 74 40 rfl (fun _ => rfl)).1
              have q_118 := (hf_106.2 74 41 rfl (fun _ => rfl)).1
              have q_119 := (hf_106.2 74 42 rfl (fun _ => rfl)).1
              have q_120 := (hf_106.2 74 43 rfl (fun _ => rfl)).1
              have q_121 := (hf_106.2 74 44 rfl (fun _ => rfl)).1
              have q_122 := p_109.1 19 (by omega)
              have hk98 : kq s s_104 := kq_K hk86 (mK_o p_109)
              try rw [show gp_wr (v10_101 + 1) = v10_101 + 1 from gp_wr_id (by omega) (by omega)]
              exact ih_101 _ _ _ hs_105 hf_113 pd_114 hk98 p_108 (by omega) (by first | rfl | omega) (by first | rfl | omega) (by first | rfl | omega) (by first | rfl | omega) (by first | rfl | omega) (by first | rfl | omega) (by first | rfl | omega) (by first | (refine bd_or (bd_le iv0_101 ?_) (bd_sh ?_ ?_ ?_) <;> omega) | (refine bd_le iv0_101 ?_; omega)) (by first | (refine bd_or (bd_le iv1_101 ?_) (bd_sh ?_ ?_ ?_) <;> omega) | (refine bd_le iv1_101 ?_; omega)) (fun k h1 h2 => by rw [p_109.1 k (by omega)]; exact iv2_101 k h1 h2) (by omega)
            · have lp_123 : ∀ (n_123 : Nat) (v8_123 : BitVec 64) (v10_123 : Int) (s_123 : gH), (MI s_123) → (gF [76, 77, 78, 79, 80, 81, 86, 87, 88, 89, 105] [15, 38, 40, 41, 42, 43, 45] s s_123) → (TPn τ n s_123) → (kq s s_123) → (MDi s_123) → (0 ≤ v10_123 ∧ v10_123 ≤ 123) → (gp_I s_123 74 38 = gp_I s_101 74 38) → (gp_I s_123 74 39 = gp_I s_101 74 39) → (gp_I s_123 74 40 = gp_I s_101 74 40) → (gp_I s_123 74 41 = gp_I s_101 74 41) → (gp_I s_123 74 42 = gp_I s_101 74 42) → (gp_I s_123 74 43 = gp_I s_101 74 43) → (gp_I s_123 74 44 = gp_I s_101 74 44) → (bd v6_101 (gp_I s_123 81 20)) → (bd v8_123 (gp_I s_123 81 20)) → (∀ k : Nat, 21 ≤ k → (k : Int) < 21 + (gp_I s 74 42) + x_11 + j_50 → 1 ≤ gp_I s_123 81 k) → (124 - v10_123).toNat < n_123 → gs_E L (d + 188) 3136 111 [gp_r (some 74), gp_i (gp_I s 74 42), gp_i x_11, gp_i (gp_I s_12 74 45), gp_i j_50, gp_i (gp_I s_51 74 45), gp_l v6_101, gp_n, gp_l v8_123, gp_n, gp_i v10_123] [] s_123 K := by
                intro n_123
                induction n_123 with
                | zero => intro v8_123 v10_123 s_123 hs_s_123 hf_s_123 TPn_τ_n_s_123 kq_s_s_123 MDi_s_123 hv10_123 tk0_123 tk1_123 tk2_123 tk3_123 tk4_123 tk5_123 tk6_123 iv0_123 iv1_123 iv2_123 hm_123; exact absurd hm_123 (Nat.not_lt_zero _)
                | succ n_123 ih_123 =>
                  intro v8_123 v10_123 s_123 hs_s_123 hf_s_123 TPn_τ_n_s_123 kq_s_s_123 MDi_s_123 hv10_123 tk0_123 tk1_123 tk2_123 tk3_123 tk4_123 tk5_123 tk6_123 iv0_123 iv1_123 iv2_123 hm_123
                  refine s_3136_111 _ _ _ _ _ _ _ _ ?_
                  have hpd111 := mr74_42 hs_s_123
                  refine ⟨fun h_124 => ?_, fun h_124 => ?_⟩
                  · have hk120 := kq_s_s_123
                    try rw [show gp_wr (21 + (gp_I s 74 42)) = 21 + (gp_I s 74 42) from gp_wr_id (by omega) (by omega)]
                    try rw [show gp_wr ((21 + (gp_I s 74 42)) + x_11) = (21 + (gp_I s 74 42)) + x_11 from gp_wr_id (by omega) (by omega)]
                    try rw [show gp_wr (((21 + (gp_I s 74 42)) + x_11) + v10_123) = ((21 + (gp_I s 74 42)) + x_11) + v10_123 from gp_wr_id (by omega) (by omega)]
                    have hc131 := iv2_123 (Int.toNat (((21 + (gp_I s 74 42)) + x_11) + v10_123)) (by omega) (by omega)
                    refine vm_comes _ hs_s_123 (by omega) (MDi_s_123) (by first | omega | assumption) (by first | omega | assumption) (fun x_125 s_126 hs_127 hf_128 p_129 p_130 p_131 p_132 p_133 p_134 => ⟨_, rfl, ?_⟩)
                    have hf_135 : gF [76, 77, 78, 79, 80, 81, 86, 87, 88, 89, 105] [15, 38, 40, 41, 42, 43, 45] s s_126 := gF.trans hf_s_123 hf_128 rfl rfl
                    have pd_136 : TPn τ n s_126 := TP_fr TPn_τ_n_s_123 hf_128 rfl rfl
                    have q_137 := (hf_128.2 74 38 rfl (fun _ => rfl)).1
                    have q_138 := (hf_128.2 74 39 rfl (fun _ => rfl)).1
                    have q_139 := (hf_128.2 74 40 rfl (fun _ => rfl)).1
                    have q_140 := (hf_128.2 74 41 rfl (fun _ => rfl)).1
                    have q_141 := (hf_128.2 74 42 rfl (fun _ => rfl)).1
                    have q_142 := (hf_128.2 74 43 rfl (fun _ => rfl)).1
                    have q_143 := (hf_128.2 74 44 rfl (fun _ => rfl)).1
                    have q_144 := p_131.1 19 (by omega)
                    have hk134 : kq s s_126 := kq_K hk120 (mK_o p_131)
                    try rw [show gp_wr (v10_123 + 1) = v10_123 + 1 from gp_wr_id (by omega) (by omega)]
                    exact ih_123 _ _ _ hs_127 hf_135 pd_136 hk134 p_130 (by omega) (by first | rfl | omega) (by first | rfl | omega) (by first | rfl | omega) (by first | rfl | omega) (by first | rfl | omega) (by first | rfl | omega) (by first | rfl | omega) (by first | (refine bd_or (bd_le iv0_123 ?_) (bd_sh ?_ ?_ ?_) <;> omega) | (refine bd_le iv0_123 ?_; omega)) (by first | (refine bd_or (bd_le iv1_123 ?_) (bd_sh ?_ ?_ ?_) <;> omega) | (refine bd_le iv1_123 ?_; omega)) (fun k h1 h2 => by rw [p_131.1 k (by omega)]; exact iv2_123 k h1 h2) (by omega)
                  · have hk144 := kq_s_s_123
                    refine vm_made _ _ _ _ hs_s_123 (MDi_s_123) (by first | assumption | exact bd_le (by assumption) (by omega) | exact bd_0 _) (by first | assumption | exact bd_le (by assumption) (by omega) | exact bd_0 _) (fun x_145 s_146 hs_147 hf_148 p_149 p_150 p_151 p_152 p_153 p_154 p_155 => ⟨_, rfl, ?_⟩)
                    have hf_156 : gF [76, 77, 78, 79, 80, 81, 86, 87, 88, 89, 105] [15, 38, 40, 41, 42, 43, 45] s s_146 := gF.trans hf_s_123 hf_148 rfl rfl
                    have pd_157 : TPn τ n s_146 := TP_fr TPn_τ_n_s_123 hf_148 rfl rfl
                    have q_158 := (hf_148.2 74 38 rfl (fun _ => rfl)).1
                    have q_159 := (hf_148.2 74 39 rfl (fun _ => rfl)).1
                    have q_160 := (hf_148.2 74 40 rfl (fun _ => rfl)).1
                    have q_161 := (hf_148.2 74 41 rfl (fun _ => rfl)).1
                    have q_162 := (hf_148.2 74 42 rfl (fun _ => rfl)).1
                    have q_163 := (hf_148.2 74 43 rfl (fun _ => rfl)).1
                    have q_164 := (hf_148.2 74 44 rfl (fun _ => rfl)).1
                    have q_165 := p_154.1 19 (by omega)
                    have hk157 : kq s s_146 := kq_K hk144 (mK_o p_154)
                    refine vm_results _ hs_147 (by omega) (p_150) (by first | omega | assumption) (fun x_166 s_167 hs_168 hf_169 p_170 p_171 p_172 p_173 p_174 => ⟨_, rfl, ?_⟩)
                    have hf_175 : gF [76, 77, 78, 79, 80, 81, 86, 87, 88, 89, 105] [15, 38, 40, 41, 42, 43, 45] s s_167 := gF.trans hf_156 hf_169 rfl rfl
                    have pd_176 : TPn τ n s_167 := TP_fr pd_157 hf_169 rfl rfl
                    have q_177 := (hf_169.2 74 38 rfl (fun _ => rfl)).1
                    have q_178 := (hf_169.2 74 39 rfl (fun _ => rfl)).1
                    have q_179 := (hf_169.2 74 40 rfl (fun _ => rfl)).1
                    have q_180 := (hf_169.2 74 41 rfl (fun _ => rfl)).1
                    have q_181 := (hf_169.2 74 42 rfl (fun _ => rfl)).1
                    have q_182 := (hf_169.2 74 43 rfl (fun _ => rfl)).1
                    have q_183 := (hf_169.2 74 44 rfl (fun _ => rfl)).1
                    have hk160 : kq s s_167 := kq_K hk157 p_174
                    intro s_184 e_185
                    have hs_186 : MI s_184 := by rw [e_185]; exact mw74_43 hs_168 _ (by omega)
                    have hf_187 : gF [76, 77, 78, 79, 80, 81, 86, 87, 88, 89, 105] [15, 38, 40, 41, 42, 43, 45] s s_184 := by rw [e_185]; exact gF.wI hf_175 (Or.inr ⟨rfl, rfl⟩)
                    have q_188 : gp_I s_184 74 38 = gp_I s_167 74 38 := by rw [e_185] <;> rfl
                    have q_189 : gp_I s_184 74 39 = gp_I s_167 74 39 := by rw [e_185] <;> rfl
                    have q_190 : gp_I s_184 74 40 = gp_I s_167 74 40 := by rw [e_185] <;> rfl
                    have q_191 : gp_I s_184 74 41 = gp_I s_167 74 41 := by rw [e_185] <;> rfl
                    have q_192 : gp_I s_184 74 42 = gp_I s_167 74 42 := by rw [e_185] <;> rfl
                    have q_193 : gp_I s_184 74 43 = x_166 := by rw [e_185]; exact (gz_rw _ _ _ _ _).1 rfl
                    have q_194 : gp_I s_184 74 44 = gp_I s_167 74 44 := by rw [e_185] <;> rfl
                    have q_195 : gp_I s_184 81 19 = gp_I s_167 81 19 := by rw [e_185] <;> rfl
                    have q_196 : gp_I s_184 81 20 = gp_I s_167 81 20 := by rw [e_185] <;> rfl
                    have pd_197 : TPn τ n s_184 := by rw [e_185]; exact TP_fr pd_176 (gF.wI (gF.refl [] [43] _) (Or.inr ⟨rfl, rfl⟩)) rfl rfl
                    have pd_198 : kq s s_184 := by rw [e_185]; exact kq_fr hk160 (gF.wI (gF.refl [] [43] _) (Or.inr ⟨rfl, rfl⟩)) rfl
                    intro s_199 e_200
                    have hs_201 : MI s_199 := by rw [e_200]; exact mw74_42 hs_186 _ (by omega)
                    have hf_202 : gF [76, 77, 78, 79, 80, 81, 86, 87, 88, 89, 105] [15, 38, 40, 41, 42, 43, 45] s s_199 := by rw [e_200]; exact gF.wI hf_187 (Or.inr ⟨rfl, rfl⟩)
                    have q_203 : gp_I s_199 74 38 = gp_I s_184 74 38 := by rw [e_200] <;> rfl
                    have q_204 : gp_I s_199 74 39 = gp_I s_184 74 39 := by rw [e_200] <;> rfl
                    have q_205 : gp_I s_199 74 40 = gp_I s_184 74 40 := by rw [e_200] <;> rfl
                    have q_206 : gp_I s_199 74 41 = gp_I s_184 74 41 := by rw [e_200] <;> rfl
                    have q_207 : gp_I s_199 74 42 = gp_I s 74 42 := by rw [e_200]; exact (gz_rw _ _ _ _ _).1 rfl
                    have q_208 : gp_I s_199 74 43 = gp_I s_184 74 43 := by rw [e_200] <;> rfl
                    have q_209 : gp_I s_199 74 44 = gp_I s_184 74 44 := by rw [e_200] <;> rfl
                    have q_210 : gp_I s_199 81 19 = gp_I s_184 81 19 := by rw [e_200] <;> rfl
                    have q_211 : gp_I s_199 81 20 = gp_I s_184 81 20 := by rw [e_200] <;> rfl
                    have pd_212 : TPn τ n s_199 := by rw [e_200]; exact TP_fr pd_197 (gF.wI (gF.refl [] [42] _) (Or.inr ⟨rfl, rfl⟩)) rfl rfl
                    have pd_213 : kq s s_199 := by rw [e_200]; exact kq_fr pd_198 (gF.wI (gF.refl [] [42] _) (Or.inr ⟨rfl, rfl⟩)) rfl
                    have hk168 := pd_213
                    refine vm_piles hs_201 (by first | omega | assumption) (fun s_214 hs_215 hf_216 p_217 p_218 p_219 => ⟨rfl, ?_⟩)
                    have hf_220 : gF [76, 77, 78, 79, 80, 81, 86, 87, 88, 89, 105] [15, 38, 40, 41, 42, 43, 45] s s_214 := gF.trans hf_202 hf_216 rfl rfl
                    have pd_221 : TPn τ n s_214 := TP_fr pd_212 hf_216 rfl rfl
                    have q_222 := (hf_216.2 74 38 rfl (fun _ => rfl)).1
                    have q_223 := (hf_216.2 74 39 rfl (fun _ => rfl)).1
                    have q_224 := (hf_216.2 74 40 rfl (fun _ => rfl)).1
                    have q_225 := (hf_216.2 74 41 rfl (fun _ => rfl)).1
                    have q_226 := (hf_216.2 74 43 rfl (fun _ => rfl)).1
                    have q_227 := (hf_216.2 74 44 rfl (fun _ => rfl)).1
                    have hk172 : kq s s_214 := kq_p hk168 p_218 (by omega)
                    have hPI9 : PI s_214 := by first | exact (by assumption) | exact PI_q q1 hk172 (fun o => okI (by have := o.1; omega) (by have := o.2.1; omega) (by have := o.2.2; omega)) (fun o9 => by have := o9.1; have := o9.2.1; have := o9.2.2; omega) (fun o9 e9 => by have := o9.1; have := o9.2.1; have := o9.2.2; first | (exfalso; omega) | (have h8 := p_219; rw [show gp_I s 74 42 = gp_I s_199 74 42 by omega, h8]; omega))
                    exact k s_214 hs_215 hf_220 (by first | omega | assumption) (by first | omega | assumption) (by first | omega | assumption) (by first | omega | assumption) (by first | omega | assumption) (pd_221) (hk172) (hPI9) (by first | omega | assumption) (fun h9 => EV.cg (hevS (by omega)) (by omega) (by omega) (by omega) (by omega) (by omega)) (by first | omega | assumption)
              exact lp_123 _ _ _ _ hs_s_101 hf_s_101 TPn_τ_n_s_101 kq_s_s_101 MDi_s_101 (by omega) (by first | rfl | omega) (by first | rfl | omega) (by first | rfl | omega) (by first | rfl | omega) (by first | rfl | omega) (by first | rfl | omega) (by first | rfl | omega) (iv0_101) (iv1_101) (iv2_101) (Nat.lt_succ_self _)
        exact lp_101 _ _ _ _ hs_85 hf_91 pd_92 hk69 p_89 (by omega) (by first | rfl | omega) (by first | rfl | omega) (by first | rfl | omega) (by first | rfl | omega) (by first | rfl | omega) (by first | rfl | omega) (by first | rfl | omega) (bd_0 _) (bd_0 _) (hta) (Nat.lt_succ_self _)
  refine ⟨fun h_49 => ?_, fun h_49 => ?_⟩
  · exact jn36_60 _ _ hs_31 hf_36 pd_37 hPI21 pd_38 (by omega) (by first | omega | assumption) (by first | omega | assumption) (by first | omega | assumption) (by first | omega | assumption) (by first | omega | assumption) (by first | omega | assumption) (by first | omega | assumption) (fun b v h8 h9 => by first | exact EV.b1 (EV.co (hev1 (by omega)) (by omega)) (hw1 (by omega)) (by omega) (EV.co (hev2 (by omega)) (by omega)) h9 | exact EV.b0 (EV.co (hev1 (by omega)) (by omega)) (hw1 (by omega)) (by omega) h9)
  · have hk28 := pd_38
    refine ihS _ _ _ _ τ n (by omega) hs_31 (pd_37) (hPI21) (by first | omega | assumption) (by first | omega | assumption) (by first | omega | assumption) (fun x_228 s_229 hs_230 hf_231 p_232 p_233 p_234 p_235 p_236 p_237 p_238 p_239 p_240 p_241 p_242 p_243 => ⟨_, rfl, ?_⟩)
    have hf_244 : gF [76, 77, 78, 79, 80, 81, 86, 87, 88, 89, 105] [15, 38, 40, 41, 42, 43, 45] s s_229 := gF.trans hf_36 hf_231 rfl rfl
    have q_245 := (hf_231.2 74 39 rfl (fun _ => rfl)).1
    have q_246 := (hf_231.2 74 44 rfl (fun _ => rfl)).1
    have hk32 : kq s s_229 := kq.trans hk28 p_239 (by omega)
    have hev2 := p_242
    exact jn36_60 _ _ hs_230 hf_244 p_238 p_240 hk32 (by omega) (by first | omega | assumption) (by first | omega | assumption) (by first | omega | assumption) (by first | omega | assumption) (by first | omega | assumption) (by first | omega | assumption) (by first | omega | assumption) (fun b v h8 h9 => by first | exact EV.b1 (EV.co (hev1 (by omega)) (by omega)) (hw1 (by omega)) (by omega) (EV.co (hev2 (by omega)) (by omega)) h9 | exact EV.b0 (EV.co (hev1 (by omega)) (by omega)) (hw1 (by omega)) (by omega) h9)
