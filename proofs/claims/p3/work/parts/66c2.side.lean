set_option maxRecDepth 100000 in
/-- GatheredPointsModel.side -/
theorem vm_sideR (m : Nat) (ihE : EX m) : SI m := by
  intro L D K s τ n hD hs q0 q1 q2 q3 q4 k
  obtain ⟨d, rfl⟩ : ∃ d, D = d + 188 := ⟨D - 188, by omega⟩
  have f_1 := mr74_38 hs
  have f_2 := mr74_39 hs
  have f_3 := mr74_40 hs
  have f_4 := mr74_41 hs
  have f_5 := mr74_42 hs
  have f_6 := mr74_43 hs
  have f_7 := mr74_44 hs
  have f_8 := mr81 hs 19
  refine s_3135_e ?_
  have hkq0 := kq.refl s
  refine vm_takes τ n _ hs (by omega) (q0) (by first | omega | assumption) (fun x_9 s_10 hs_11 hf_12 p_13 p_14 p_15 => ⟨_, rfl, ?_⟩)
  have hf_16 : gF [76, 77, 78, 79, 80, 81, 86, 87, 88, 89, 105] [15, 38, 40, 41, 42, 43, 45] s s_10 := gF.sub hf_12 rfl rfl
  have pd_17 : TPn τ n s_10 := TP_fr q0 hf_12 rfl rfl
  have pd_18 : PI s_10 := PI_fr q1 hf_12 rfl rfl rfl rfl rfl
  have pd_19 : kq s s_10 := kq_fr hkq0 hf_12 rfl
  have q_20 := (hf_12.2 74 39 rfl (fun _ => rfl)).1
  have q_21 := (hf_12.2 74 40 rfl (fun _ => rfl)).1
  have q_22 := (hf_12.2 74 41 rfl (fun _ => rfl)).1
  have q_23 := (hf_12.2 74 42 rfl (fun _ => rfl)).1
  have q_24 := (hf_12.2 74 43 rfl (fun _ => rfl)).1
  have q_25 := (hf_12.2 74 44 rfl (fun _ => rfl)).1
  have q_26 := (hf_12.2 81 19 rfl (fun h => absurd h (by decide))).1
  refine ⟨fun h_27 => ?_, fun h_27 => ?_⟩
  · have lp_28 : ∀ (n_28 : Nat) (v1_28 : Int) (v2_28 : gV) (s_28 : gH), (MI s_28) → (gF [76, 77, 78, 79, 80, 81, 86, 87, 88, 89, 105] [15, 38, 40, 41, 42, 43, 45] s s_28) → (TPn τ n s_28) → (PI s_28) → (kq s s_28) → (0 ≤ v1_28 ∧ v1_28 ≤ 100) → (gp_I s_28 74 39 = gp_I s_10 74 39) → (gp_I s_28 74 44 = gp_I s_10 74 44) → (gp_I s 74 38 ≤ gp_I s_28 74 38 ∧ gp_I s_28 74 38 ≤ gp_I s_28 74 39) → (gp_I s 74 42 ≤ gp_I s_28 74 42 ∧ 2 * gp_I s_28 74 42 ≤ gp_I s_28 74 38) → (gp_I s_28 74 40 < 0 → gp_I s 74 40 < 0) → (gp_I s_28 74 43 = 0 → gp_I s 74 43 = 0) → (gp_I s_28 74 41 = gp_I s 74 41 ∧ gp_I s_28 74 44 = gp_I s 74 44) → (gp_I s_28 74 44 ≠ 0 → gp_I s_28 74 40 < 0 → gp_I s_28 74 43 = 0 → gp_I s_28 74 42 = gp_I s 74 42 + v1_28) → (gp_I s 74 44 = 0 → gp_I s_28 74 43 = gp_I s 74 43) → (v1_28 ≤ gp_I s_28 74 38) → (∀ b1 v1 b v : Int, gp_I s_28 74 43 = 0 → EV τ n 1 (gp_I s 74 41) (gp_I s_28 74 38) (gp_I s_28 74 40) b1 v1 → EV τ n 5 (gp_I s 74 41) b1 v1 b v → EV τ n 3 (gp_I s 74 41) (gp_I s 74 38) (gp_I s 74 40) b v) → (Int.toNat (100 - gp_I s_28 74 38)) < n_28 → gs_E L (d + 188) 3135 50 [gp_r (some 74), gp_i v1_28, v2_28] [] s_28 K := by
      intro n_28
      induction n_28 with
      | zero => intro v1_28 v2_28 s_28 hs_s_28 hf_s_28 TPn_τ_n_s_28 PI_s_28 kq_s_s_28 hv1_28 tk0_28 tk1_28 iv0_28 iv1_28 iv2_28 iv3_28 iv4_28 iv5_28 iv6_28 iv7_28 iv8_28 hm_28; exact absurd hm_28 (Nat.not_lt_zero _)
      | succ n_28 ih_28 =>
        intro v1_28 v2_28 s_28 hs_s_28 hf_s_28 TPn_τ_n_s_28 PI_s_28 kq_s_s_28 hv1_28 tk0_28 tk1_28 iv0_28 iv1_28 iv2_28 iv3_28 iv4_28 iv5_28 iv6_28 iv7_28 iv8_28 hm_28
        refine s_3135_50 _ _ ?_
        have hk51 := kq_s_s_28
        refine ihE _ _ _ _ τ n (by omega) hs_s_28 (TPn_τ_n_s_28) (PI_s_28) (by first | omega | assumption) (by first | omega | assumption) (by first | omega | assumption) (fun s_29 hs_30 hf_31 p_32 p_33 p_34 p_35 p_36 p_37 p_38 p_39 p_40 p_41 p_42 => ⟨rfl, ?_⟩)
        have hf_43 : gF [76, 77, 78, 79, 80, 81, 86, 87, 88, 89, 105] [15, 38, 40, 41, 42, 43, 45] s s_29 := gF.trans hf_s_28 hf_31 rfl rfl
        have q_44 := (hf_31.2 74 39 rfl (fun _ => rfl)).1
        have q_45 := (hf_31.2 74 44 rfl (fun _ => rfl)).1
        have hk54 : kq s s_29 := kq.trans hk51 p_38 (by omega)
        have hev := p_41
        try rw [show gp_wr (v1_28 + 1) = v1_28 + 1 from gp_wr_id (by omega) (by omega)]
        refine vm_takes τ n _ hs_30 (by omega) (p_37) (by first | omega | assumption) (fun x_46 s_47 hs_48 hf_49 p_50 p_51 p_52 => ⟨_, rfl, ?_⟩)
        have hf_53 : gF [76, 77, 78, 79, 80, 81, 86, 87, 88, 89, 105] [15, 38, 40, 41, 42, 43, 45] s s_47 := gF.trans hf_43 hf_49 rfl rfl
        have pd_54 : TPn τ n s_47 := TP_fr p_37 hf_49 rfl rfl
        have pd_55 : PI s_47 := PI_fr p_39 hf_49 rfl rfl rfl rfl rfl
        have pd_56 : kq s s_47 := kq_fr hk54 hf_49 rfl
        have q_57 := (hf_49.2 74 39 rfl (fun _ => rfl)).1
        have q_58 := (hf_49.2 74 40 rfl (fun _ => rfl)).1
        have q_59 := (hf_49.2 74 41 rfl (fun _ => rfl)).1
        have q_60 := (hf_49.2 74 42 rfl (fun _ => rfl)).1
        have q_61 := (hf_49.2 74 43 rfl (fun _ => rfl)).1
        have q_62 := (hf_49.2 74 44 rfl (fun _ => rfl)).1
        have q_63 := (hf_49.2 81 19 rfl (fun h => absurd h (by decide))).1
        refine ⟨fun h_64 => ?_, fun h_64 => ?_⟩
        · exact k _ s_47 hs_48 hf_53 (by omega) (by first | omega | assumption) (by first | omega | assumption) (by first | omega | assumption) (by first | omega | assumption) (by first | omega | assumption) (pd_54) (pd_56) (pd_55) (by first | omega | assumption) (fun h9 => iv8_28 _ _ _ _ (by omega) (EV.co (hev (by omega)) (by omega)) (EV.t0 (by omega) (by omega) (by omega))) (by first | omega | assumption)
        · exact ih_28 _ _ _ hs_48 hf_53 pd_54 pd_55 pd_56 (by omega) (by first | rfl | omega) (by first | rfl | omega) (by first | omega | assumption) (by first | omega | assumption) (by first | omega | assumption) (by first | omega | assumption) (by first | omega | assumption) (by first | omega | assumption) (by first | omega | assumption) (by first | omega | assumption) (fun b1 v1 b v h8 h9 h10 => iv8_28 _ _ b v (by omega) (EV.co (hev (by omega)) (by omega)) (EV.t1 (a1 := gp_I s_47 74 38) (w1 := gp_I s_47 74 40) (by omega) (by omega) (by omega) h9 h10)) (by omega)
    exact lp_28 _ _ _ _ hs_11 hf_16 pd_17 pd_18 pd_19 (by omega) (by first | rfl | omega) (by first | rfl | omega) (by first | omega | assumption) (by first | omega | assumption) (by first | omega | assumption) (by first | omega | assumption) (by first | omega | assumption) (by first | omega | assumption) (by first | omega | assumption) (by first | omega | assumption) (fun b1 v1 b v h8 h9 h10 => EV.s0 (by omega) (EV.ci h9 (by omega) (by omega)) h10) (Nat.lt_succ_self _)
  · have hA1 : gp_I s_10 74 38 = gp_I s 74 38 + 1 := by omega
    refine vm_takes τ n _ hs_11 (by omega) (pd_17) (by first | omega | assumption) (fun x_65 s_66 hs_67 hf_68 p_69 p_70 p_71 => ⟨_, rfl, ?_⟩)
    have hf_72 : gF [76, 77, 78, 79, 80, 81, 86, 87, 88, 89, 105] [15, 38, 40, 41, 42, 43, 45] s s_66 := gF.trans hf_16 hf_68 rfl rfl
    have pd_73 : TPn τ n s_66 := TP_fr pd_17 hf_68 rfl rfl
    have pd_74 : PI s_66 := PI_fr pd_18 hf_68 rfl rfl rfl rfl rfl
    have pd_75 : kq s s_66 := kq_fr pd_19 hf_68 rfl
    have q_76 := (hf_68.2 74 39 rfl (fun _ => rfl)).1
    have q_77 := (hf_68.2 74 40 rfl (fun _ => rfl)).1
    have q_78 := (hf_68.2 74 41 rfl (fun _ => rfl)).1
    have q_79 := (hf_68.2 74 42 rfl (fun _ => rfl)).1
    have q_80 := (hf_68.2 74 43 rfl (fun _ => rfl)).1
    have q_81 := (hf_68.2 74 44 rfl (fun _ => rfl)).1
    have q_82 := (hf_68.2 81 19 rfl (fun h => absurd h (by decide))).1
    have hA2 : (bA τ n (gp_I s_10 74 38) = 45 ∧ gp_I s_66 74 38 = gp_I s_10 74 38 + 1) ∨ (bA τ n (gp_I s_10 74 38) ≠ 45 ∧ gp_I s_66 74 38 = gp_I s_10 74 38) := by omega
    refine vm_goesOn hs_67 (fun x_83 p_84 p_85 => ⟨_, rfl, ?_⟩)
    refine ⟨fun h_86 => ?_, fun h_86 => ?_⟩
    · exfalso; omega
    · refine vm_number τ n hs_67 (pd_73) (by first | omega | assumption) (fun x_87 s_88 hs_89 hf_90 p_91 p_92 p_93 => ⟨_, rfl, ?_⟩)
      have hf_94 : gF [76, 77, 78, 79, 80, 81, 86, 87, 88, 89, 105] [15, 38, 40, 41, 42, 43, 45] s s_88 := gF.trans hf_72 hf_90 rfl rfl
      have pd_95 : TPn τ n s_88 := TP_fr pd_73 hf_90 rfl rfl
      have pd_96 : kq s s_88 := kq_fr pd_75 hf_90 rfl
      have q_97 := (hf_90.2 74 39 rfl (fun _ => rfl)).1
      have q_98 := (hf_90.2 74 41 rfl (fun _ => rfl)).1
      have q_99 := (hf_90.2 74 42 rfl (fun _ => rfl)).1
      have q_100 := (hf_90.2 74 43 rfl (fun _ => rfl)).1
      have q_101 := (hf_90.2 74 44 rfl (fun _ => rfl)).1
      have q_102 := (hf_90.2 81 19 rfl (fun h => absurd h (by decide))).1
      have hA3 : gp_I s_88 74 38 = aN τ n (gp_I s_66 74 38) := p_92
      have hA4 : (48 ≤ bA τ n (gp_I s_66 74 38) ∧ bA τ n (gp_I s_66 74 38) ≤ 57 ∧ gp_I s_88 74 40 = gp_I s 74 40) ∨ (¬ (48 ≤ bA τ n (gp_I s_66 74 38) ∧ bA τ n (gp_I s_66 74 38) ≤ 57) ∧ gp_I s_88 74 40 = gp_I s_66 74 38) := by omega
      refine s_3135_31 _ _ _ ?_
      refine ⟨fun h_103 => ?_, fun h_103 => ?_⟩
      · refine s_3135_43 _ _ _ ?_
        intro s_104 e_105
        have hs_106 : MI s_104 := by rw [e_105]; exact mw74_45 hs_89 _
        have hf_107 : gF [76, 77, 78, 79, 80, 81, 86, 87, 88, 89, 105] [15, 38, 40, 41, 42, 43, 45] s s_104 := by rw [e_105]; exact gF.wI hf_94 (Or.inr ⟨rfl, rfl⟩)
        have q_108 : gp_I s_104 74 38 = gp_I s_88 74 38 := by rw [e_105] <;> rfl
        have q_109 : gp_I s_104 74 39 = gp_I s_88 74 39 := by rw [e_105] <;> rfl
        have q_110 : gp_I s_104 74 40 = gp_I s_88 74 40 := by rw [e_105] <;> rfl
        have q_111 : gp_I s_104 74 41 = gp_I s_88 74 41 := by rw [e_105] <;> rfl
        have q_112 : gp_I s_104 74 42 = gp_I s_88 74 42 := by rw [e_105] <;> rfl
        have q_113 : gp_I s_104 74 43 = gp_I s_88 74 43 := by rw [e_105] <;> rfl
        have q_114 : gp_I s_104 74 44 = gp_I s_88 74 44 := by rw [e_105] <;> rfl
        have q_115 : gp_I s_104 81 19 = gp_I s_88 81 19 := by rw [e_105] <;> rfl
        have pd_116 : TPn τ n s_104 := by rw [e_105]; exact TP_fr pd_95 (gF.wI (gF.refl [] [45] _) (Or.inr ⟨rfl, rfl⟩)) rfl rfl
        have pd_117 : kq s s_104 := by rw [e_105]; exact kq_fr pd_96 (gF.wI (gF.refl [] [45] _) (Or.inr ⟨rfl, rfl⟩)) rfl
        have hPI9 : PI s_104 := by first | exact (by assumption) | exact PI_q q1 pd_117 (fun o => okI (by have := o.1; omega) (by have := o.2.1; omega) (by have := o.2.2; omega)) (fun o9 => by have := o9.1; have := o9.2.1; have := o9.2.2; omega) (fun o9 e9 => by have := o9.1; have := o9.2.1; have := o9.2.2; first | (exfalso; omega) | (skip))
        exact k _ s_104 hs_106 hf_107 (by omega) (by first | omega | assumption) (by first | omega | assumption) (by first | omega | assumption) (by first | omega | assumption) (by first | omega | assumption) (pd_116) (pd_117) (hPI9) (by first | omega | assumption) (fun h9 => EV.s1 (by omega) hA1 hA2 (by omega) (by omega)) (by first | omega | assumption)
      · have w_118 := wr_rng (-x_87)
        refine s_3135_43 _ _ _ ?_
        intro s_119 e_120
        have hs_121 : MI s_119 := by rw [e_120]; exact mw74_45 hs_89 _
        have hf_122 : gF [76, 77, 78, 79, 80, 81, 86, 87, 88, 89, 105] [15, 38, 40, 41, 42, 43, 45] s s_119 := by rw [e_120]; exact gF.wI hf_94 (Or.inr ⟨rfl, rfl⟩)
        have q_123 : gp_I s_119 74 38 = gp_I s_88 74 38 := by rw [e_120] <;> rfl
        have q_124 : gp_I s_119 74 39 = gp_I s_88 74 39 := by rw [e_120] <;> rfl
        have q_125 : gp_I s_119 74 40 = gp_I s_88 74 40 := by rw [e_120] <;> rfl
        have q_126 : gp_I s_119 74 41 = gp_I s_88 74 41 := by rw [e_120] <;> rfl
        have q_127 : gp_I s_119 74 42 = gp_I s_88 74 42 := by rw [e_120] <;> rfl
        have q_128 : gp_I s_119 74 43 = gp_I s_88 74 43 := by rw [e_120] <;> rfl
        have q_129 : gp_I s_119 74 44 = gp_I s_88 74 44 := by rw [e_120] <;> rfl
        have q_130 : gp_I s_119 81 19 = gp_I s_88 81 19 := by rw [e_120] <;> rfl
        have pd_131 : TPn τ n s_119 := by rw [e_120]; exact TP_fr pd_95 (gF.wI (gF.refl [] [45] _) (Or.inr ⟨rfl, rfl⟩)) rfl rfl
        have pd_132 : kq s s_119 := by rw [e_120]; exact kq_fr pd_96 (gF.wI (gF.refl [] [45] _) (Or.inr ⟨rfl, rfl⟩)) rfl
        have hPI9 : PI s_119 := by first | exact (by assumption) | exact PI_q q1 pd_132 (fun o => okI (by have := o.1; omega) (by have := o.2.1; omega) (by have := o.2.2; omega)) (fun o9 => by have := o9.1; have := o9.2.1; have := o9.2.2; omega) (fun o9 e9 => by have := o9.1; have := o9.2.1; have := o9.2.2; first | (exfalso; omega) | (skip))
        exact k _ s_119 hs_121 hf_122 (by omega) (by first | omega | assumption) (by first | omega | assumption) (by first | omega | assumption) (by first | omega | assumption) (by first | omega | assumption) (pd_131) (pd_132) (hPI9) (by first | omega | assumption) (fun h9 => EV.s1 (by omega) hA1 hA2 (by omega) (by omega)) (by first | omega | assumption)
