theorem rd_step {m g : List Nat} {s s1 : gH} {x r : Int} (hx : 0 ≤ x) (h : ∀ k : Nat, (k : Int) < x → gp_I s 104 k < gp_I s 81 20) (hf : gF m g s s1) (e : m.contains 104 = false) (hm : gp_I s 81 20 ≤ gp_I s1 81 20) (hr : r < gp_I s1 81 20) : ∀ k : Nat, (k : Int) < x + 1 → gp_I (gp_wI s1 104 x.toNat r) 104 k < gp_I (gp_wI s1 104 x.toNat r) 81 20 := by
  intro k hk
  have q := gz_rw s1 104 x.toNat k r
  have e2 : gp_I (gp_wI s1 104 x.toNat r) 81 20 = gp_I s1 81 20 := rfl
  rw [e2]
  by_cases c : x.toNat = k
  · rw [q.1 c]; exact hr
  · rw [q.2 c, (hf.2 104 k e (fun h => absurd h (by decide))).1]
    have := h k (by omega); omega
set_option maxRecDepth 100000 in
/-- GatheredPointsModel.reduced -/
theorem vm_reduced  {L d : Nat} {K : Option gV → gH → Prop} {s : gH}  (p0 : BitVec 64) (p1 : BitVec 64) (p2 : Int) (p3 : Int) (hs : MI s)  (q0 : MDi s) (q1 : bd p0 (gp_I s 81 20)) (q2 : bd p1 (gp_I s 81 20)) (k : ∀ (r : Int), ∀ (t : gH), MI t → gF [76, 77, 78, 79, 80, 81, 86, 92, 93, 94, 95, 96, 97, 98, 99, 100, 101, 102, 103] [15, 35, 36] s t → (0 ≤ r ∧ r ≤ 63) → (MDi t) → (mOut s t) → (r < gp_I t 81 20) → (gp_I s 81 20 ≤ gp_I t 81 20) → K (some (gp_i r)) t) : gs_C L (d + 574) 3113 10 [gp_r (some 74), gp_l p0, gp_l p1, gp_i p2, gp_i p3] s K := by
  have f_1 := mr81 hs 20
  refine s_3113_e _ _ _ _ ?_
  have f_2 := mr81 hs 20
  have f_3 := mr81m hs
  intro s_4 e_5
  have hs_6 : MI s_4 := by rw [e_5]; exact mw74_35 hs _
  have hf_7 : gF [76, 77, 78, 79, 80, 81, 86, 92, 93, 94, 95, 96, 97, 98, 99, 100, 101, 102, 103] [15, 35, 36] s s_4 := by rw [e_5]; exact gF.wL (gF.refl _ _ _) (Or.inr ⟨rfl, rfl⟩)
  have q_8 : gp_I s_4 81 20 = gp_I s 81 20 := by rw [e_5] <;> rfl
  have pd_9 : MDi s_4 := by rw [e_5]; exact MDi_fr q0 (gF.wL (gF.refl [] [35] _) (Or.inr ⟨rfl, rfl⟩)) rfl rfl rfl rfl rfl rfl rfl
  have mo_10 : mOut s s_4 := by rw [e_5]; exact mOut_wL (mOut.refl _) (by decide)
  intro s_11 e_12
  have hs_13 : MI s_11 := by rw [e_12]; exact mw74_36 hs_6 _
  have hf_14 : gF [76, 77, 78, 79, 80, 81, 86, 92, 93, 94, 95, 96, 97, 98, 99, 100, 101, 102, 103] [15, 35, 36] s s_11 := by rw [e_12]; exact gF.wL hf_7 (Or.inr ⟨rfl, rfl⟩)
  have q_15 : gp_I s_11 81 20 = gp_I s_4 81 20 := by rw [e_12] <;> rfl
  have pd_16 : MDi s_11 := by rw [e_12]; exact MDi_fr pd_9 (gF.wL (gF.refl [] [36] _) (Or.inr ⟨rfl, rfl⟩)) rfl rfl rfl rfl rfl rfl rfl
  have mo_17 : mOut s s_11 := by rw [e_12]; exact mOut_wL mo_10 (by decide)
  have bl9 : bd (gp_L s_11 74 35) (gp_I s_11 81 20) := by subst_vars; exact q1
  have br9 : bd (gp_L s_11 74 36) (gp_I s_11 81 20) := by subst_vars; exact q2
  have lp_18 : ∀ (n_18 : Nat) (v8_18 : Int) (v9_18 : gV) (s_18 : gH), (MI s_18) → (gF [76, 77, 78, 79, 80, 81, 86, 92, 93, 94, 95, 96, 97, 98, 99, 100, 101, 102, 103] [15, 35, 36] s s_18) → (MDi s_18) → (mOut s s_18) → (0 ≤ v8_18 ∧ v8_18 ≤ 1) → (gp_I s_18 81 20 = gp_I s_11 81 20) → (bd (gp_L s_18 74 35) (gp_I s_18 81 20)) → (bd (gp_L s_18 74 36) (gp_I s_18 81 20)) → (gp_I s_18 81 20 = gp_I s 81 20) → (2 * ((gp_L s_18 74 35).toNat + (gp_L s_18 74 36).toNat) + Int.toNat v8_18) < n_18 → gs_E L (d + 574) 3113 22 [gp_r (some 74), gp_l p0, gp_n, gp_l p1, gp_n, gp_i p2, gp_i p3, gp_i (gp_I s 81 20), gp_i v8_18, v9_18] [] s_18 K := by
    intro n_18
    induction n_18 with
    | zero => intro v8_18 v9_18 s_18 hs_s_18 hf_s_18 MDi_s_18 mOut_s_18 hv8_18 tk0_18 iv0_18 iv1_18 iv2_18 hm_18; exact absurd hm_18 (Nat.not_lt_zero _)
    | succ n_18 ih_18 =>
      intro v8_18 v9_18 s_18 hs_s_18 hf_s_18 MDi_s_18 mOut_s_18 hv8_18 tk0_18 iv0_18 iv1_18 iv2_18 hm_18
      refine s_3113_22 _ _ _ _ _ _ _ ?_
      refine ⟨fun h_19 => ?_, fun h_19 => ?_⟩
      · refine vm_made _ _ _ _ hs_s_18 (MDi_s_18) (by first | assumption | exact bd_le (by assumption) (by omega) | exact bd_0 _) (by first | assumption | exact bd_le (by assumption) (by omega) | exact bd_0 _) (fun x_20 s_21 hs_22 hf_23 p_24 p_25 p_26 p_27 p_28 p_29 p_30 => ⟨_, rfl, ?_⟩)
        have hf_31 : gF [76, 77, 78, 79, 80, 81, 86, 92, 93, 94, 95, 96, 97, 98, 99, 100, 101, 102, 103] [15, 35, 36] s s_21 := gF.trans hf_s_18 hf_23 rfl rfl
        have mo_32 : mOut s s_21 := mOut.trans mOut_s_18 p_29
        refine vm_knows _ hs_22 (by omega) (fun s_33 hs_34 hf_35 => ⟨rfl, ?_⟩)
        have hf_36 : gF [76, 77, 78, 79, 80, 81, 86, 92, 93, 94, 95, 96, 97, 98, 99, 100, 101, 102, 103] [15, 35, 36] s s_33 := gF.trans hf_31 hf_35 rfl rfl
        have pd_37 : MDi s_33 := MDi_fr p_25 hf_35 rfl rfl rfl rfl rfl rfl rfl
        have mo_38 : mOut s s_33 := mOut_fr mo_32 hf_35 rfl rfl rfl rfl rfl rfl
        have q_39 := (hf_35.2 81 20 rfl (fun h => absurd h (by decide))).1
        exact k _ s_33 hs_34 hf_36 (by omega) (pd_37) mo_38 (by first | omega | assumption) (by first | omega | assumption)
      · refine vm_lays _ _ _ _ _ hs_s_18 (by omega) (by first | assumption | exact bd_le (by assumption) (by omega) | exact bd_0 _) (by first | assumption | exact bd_le (by assumption) (by omega) | exact bd_0 _) (fun s_40 hs_41 hf_42 p_43 p_44 => ⟨rfl, ?_⟩)
        have hf_45 : gF [76, 77, 78, 79, 80, 81, 86, 92, 93, 94, 95, 96, 97, 98, 99, 100, 101, 102, 103] [15, 35, 36] s s_40 := gF.trans hf_s_18 hf_42 rfl rfl
        have q_46 := (hf_42.2 81 20 rfl (fun h => absurd h (by decide))).1
        have mo_47 : mOut s s_40 := mOut.trans mOut_s_18 p_44
        have hmd : MDi s_40 := MDi_lay (s := s_18) MDi_s_18 hs_s_18 (by omega) p_43 hf_42 rfl rfl
        have hl1 := (hf_42.2 74 35 rfl (fun _ => rfl)).2
        have hr1 := (hf_42.2 74 36 rfl (fun _ => rfl)).2
        refine vm_knows _ hs_41 (by omega) (fun s_48 hs_49 hf_50 => ⟨rfl, ?_⟩)
        have hf_51 : gF [76, 77, 78, 79, 80, 81, 86, 92, 93, 94, 95, 96, 97, 98, 99, 100, 101, 102, 103] [15, 35, 36] s s_48 := gF.trans hf_45 hf_50 rfl rfl
        have pd_52 : MDi s_48 := MDi_fr hmd hf_50 rfl rfl rfl rfl rfl rfl rfl
        have mo_53 : mOut s s_48 := mOut_fr mo_47 hf_50 rfl rfl rfl rfl rfl rfl
        have q_54 := (hf_50.2 81 20 rfl (fun h => absurd h (by decide))).1
        have hl2 := ((hf_50.2 74 35 rfl (fun _ => rfl)).2).trans hl1
        have hr2 := ((hf_50.2 74 36 rfl (fun _ => rfl)).2).trans hr1
        have lp_55 : ∀ (n_55 : Nat) (v9_55 : Int) (s_55 : gH), (MI s_55) → (gF [76, 77, 78, 79, 80, 81, 86, 92, 93, 94, 95, 96, 97, 98, 99, 100, 101, 102, 103] [15, 35, 36] s s_55) → (MDi s_55) → (mOut s s_55) → (0 ≤ v9_55 ∧ v9_55 ≤ 64) → (gp_I s_55 81 20 = gp_I s_48 81 20) → (gp_L s_55 74 35 = gp_L s_18 74 35) → (gp_L s_55 74 36 = gp_L s_18 74 36) → (65 - v9_55).toNat < n_55 → gs_E L (d + 574) 3113 54 [gp_r (some 74), gp_l p0, gp_n, gp_l p1, gp_n, gp_i p2, gp_i p3, gp_i (gp_I s 81 20), gp_i v8_18, gp_i v9_55] [] s_55 K := by
          intro n_55
          induction n_55 with
          | zero => intro v9_55 s_55 hs_s_55 hf_s_55 MDi_s_55 mOut_s_55 hv9_55 tk0_55 iv0_55 iv1_55 hm_55; exact absurd hm_55 (Nat.not_lt_zero _)
          | succ n_55 ih_55 =>
            intro v9_55 s_55 hs_s_55 hf_s_55 MDi_s_55 mOut_s_55 hv9_55 tk0_55 iv0_55 iv1_55 hm_55
            refine s_3113_54 _ _ _ _ _ _ _ ?_
            refine ⟨fun h_56 => ?_, fun h_56 => ?_⟩
            · try rw [show gp_wr (64 * (gp_I s 81 20)) = 64 * (gp_I s 81 20) from gp_wr_id (by omega) (by omega)]
              try rw [show gp_wr ((64 * (gp_I s 81 20)) + v9_55) = (64 * (gp_I s 81 20)) + v9_55 from gp_wr_id (by omega) (by omega)]
              refine ⟨by omega, ?_⟩
              intro s_57 e_58
              have hs_59 : MI s_57 := by rw [e_58]; exact mw98 hs_s_55 _ _ (by omega)
              have hf_60 : gF [76, 77, 78, 79, 80, 81, 86, 92, 93, 94, 95, 96, 97, 98, 99, 100, 101, 102, 103] [15, 35, 36] s s_57 := by rw [e_58]; exact gF.wI hf_s_55 (Or.inl rfl)
              have q_61 : gp_I s_57 81 20 = gp_I s_55 81 20 := by rw [e_58] <;> rfl
              have pd_62 : MDi s_57 := by rw [e_58]; exact MDi_fr MDi_s_55 (gF.wI (gF.refl [98] [] _) (Or.inl rfl)) rfl rfl rfl rfl rfl rfl rfl
              have mo_63 : mOut s s_57 := by rw [e_58]; exact mOut_wI mOut_s_55 (by decide)
              try rw [show gp_wr (64 * v9_55) = 64 * v9_55 from gp_wr_id (by omega) (by omega)]
              try rw [show gp_wr ((64 * v9_55) + (gp_I s 81 20)) = (64 * v9_55) + (gp_I s 81 20) from gp_wr_id (by omega) (by omega)]
              refine ⟨by omega, ?_⟩
              intro s_64 e_65
              have hs_66 : MI s_64 := by rw [e_65]; exact mw98 hs_59 _ _ (by omega)
              have hf_67 : gF [76, 77, 78, 79, 80, 81, 86, 92, 93, 94, 95, 96, 97, 98, 99, 100, 101, 102, 103] [15, 35, 36] s s_64 := by rw [e_65]; exact gF.wI hf_60 (Or.inl rfl)
              have q_68 : gp_I s_64 81 20 = gp_I s_57 81 20 := by rw [e_65] <;> rfl
              have pd_69 : MDi s_64 := by rw [e_65]; exact MDi_fr pd_62 (gF.wI (gF.refl [98] [] _) (Or.inl rfl)) rfl rfl rfl rfl rfl rfl rfl
              have mo_70 : mOut s s_64 := by rw [e_65]; exact mOut_wI mo_63 (by decide)
              try rw [show gp_wr (v9_55 + 1) = v9_55 + 1 from gp_wr_id (by omega) (by omega)]
              exact ih_55 _ _ hs_66 hf_67 pd_69 mo_70 (by omega) (by first | rfl | omega) (by subst_vars; exact iv0_55) (by subst_vars; exact iv1_55) (by omega)
            · have bl0 : bd (gp_L s_55 74 35) (gp_I s 81 20) := by rw [iv0_55]; exact bd_le iv0_18 (by omega)
              have br0 : bd (gp_L s_55 74 36) (gp_I s 81 20) := by rw [iv1_55]; exact bd_le iv1_18 (by omega)
              have tl0 := congrArg BitVec.toNat iv0_55
              have tr0 := congrArg BitVec.toNat iv1_55
              refine vm_turnsLeft _ hs_s_55 (by omega) (MDi_s_55) (by first | assumption | exact bd_le (by assumption) (by omega) | exact bd_0 _) (by first | omega | assumption) (fun x_71 s_72 hs_73 hf_74 p_75 p_76 p_77 p_78 p_79 p_80 => ⟨_, rfl, ?_⟩)
              have hf_81 : gF [76, 77, 78, 79, 80, 81, 86, 92, 93, 94, 95, 96, 97, 98, 99, 100, 101, 102, 103] [15, 35, 36] s s_72 := gF.trans hf_s_55 hf_74 rfl rfl
              have mo_82 : mOut s s_72 := mOut_fr mOut_s_55 hf_74 rfl rfl rfl rfl rfl rfl
              have q_83 := (hf_74.2 81 20 rfl (fun h => absurd h (by decide))).1
              have bl1 : bd (gp_L s_72 74 35) (gp_I s 81 20) := bd_le p_79 (by omega)
              have e1 := (hf_74.2 74 36 rfl (fun _ => rfl)).2
              have br1 : bd (gp_L s_72 74 36) (gp_I s 81 20) := by rw [e1]; exact br0
              have t1 := congrArg BitVec.toNat e1
              refine ⟨fun h_84 => ?_, fun h_84 => ?_⟩
              · refine vm_turnsRight _ hs_73 (by omega) (p_76) (by first | assumption | exact bd_le (by assumption) (by omega) | exact bd_0 _) (by first | omega | assumption) (fun x_85 s_86 hs_87 hf_88 p_89 p_90 p_91 p_92 p_93 p_94 => ⟨_, rfl, ?_⟩)
                have hf_95 : gF [76, 77, 78, 79, 80, 81, 86, 92, 93, 94, 95, 96, 97, 98, 99, 100, 101, 102, 103] [15, 35, 36] s s_86 := gF.trans hf_81 hf_88 rfl rfl
                have mo_96 : mOut s s_86 := mOut_fr mo_82 hf_88 rfl rfl rfl rfl rfl rfl
                have q_97 := (hf_88.2 81 20 rfl (fun h => absurd h (by decide))).1
                have br2 : bd (gp_L s_86 74 36) (gp_I s 81 20) := bd_le p_93 (by omega)
                have e2 := (hf_88.2 74 35 rfl (fun _ => rfl)).2
                have bl2 : bd (gp_L s_86 74 35) (gp_I s 81 20) := by rw [e2]; exact bl1
                have t2 := congrArg BitVec.toNat e2
                refine ⟨fun h_98 => ?_, fun h_98 => ?_⟩
                · refine vm_dropsLeft hs_87 (p_90) (by first | assumption | exact bd_le (by assumption) (by omega) | exact bd_0 _) (fun x_99 s_100 hs_101 hf_102 p_103 p_104 p_105 p_106 p_107 p_108 => ⟨_, rfl, ?_⟩)
                  have hf_109 : gF [76, 77, 78, 79, 80, 81, 86, 92, 93, 94, 95, 96, 97, 98, 99, 100, 101, 102, 103] [15, 35, 36] s s_100 := gF.trans hf_95 hf_102 rfl rfl
                  have mo_110 : mOut s s_100 := mOut_fr mo_96 hf_102 rfl rfl rfl rfl rfl rfl
                  have q_111 := (hf_102.2 81 20 rfl (fun h => absurd h (by decide))).1
                  have bl3 : bd (gp_L s_100 74 35) (gp_I s 81 20) := bd_le p_107 (by omega)
                  have e3 := (hf_102.2 74 36 rfl (fun _ => rfl)).2
                  have br3 : bd (gp_L s_100 74 36) (gp_I s 81 20) := by rw [e3]; exact br2
                  have t3 := congrArg BitVec.toNat e3
                  refine ⟨fun h_112 => ?_, fun h_112 => ?_⟩
                  · refine vm_dropsRight hs_101 (p_104) (by first | assumption | exact bd_le (by assumption) (by omega) | exact bd_0 _) (fun x_113 s_114 hs_115 hf_116 p_117 p_118 p_119 p_120 p_121 p_122 => ⟨_, rfl, ?_⟩)
                    have hf_123 : gF [76, 77, 78, 79, 80, 81, 86, 92, 93, 94, 95, 96, 97, 98, 99, 100, 101, 102, 103] [15, 35, 36] s s_114 := gF.trans hf_109 hf_116 rfl rfl
                    have mo_124 : mOut s s_114 := mOut_fr mo_110 hf_116 rfl rfl rfl rfl rfl rfl
                    have q_125 := (hf_116.2 81 20 rfl (fun h => absurd h (by decide))).1
                    have br4 : bd (gp_L s_114 74 36) (gp_I s 81 20) := bd_le p_121 (by omega)
                    have e4 := (hf_116.2 74 35 rfl (fun _ => rfl)).2
                    have bl4 : bd (gp_L s_114 74 35) (gp_I s 81 20) := by rw [e4]; exact bl3
                    have t4 := congrArg BitVec.toNat e4
                    refine ⟨fun h_126 => ?_, fun h_126 => ?_⟩
                    · refine s_3113_132 _ _ _ _ _ _ _ _ ?_
                      exact ih_18 _ _ _ hs_115 hf_123 p_118 mo_124 (by omega) (by first | rfl | omega) (by first | assumption | exact bd_le (by assumption) (by omega) | exact bd_0 _) (by first | assumption | exact bd_le (by assumption) (by omega) | exact bd_0 _) (by first | omega | assumption) (by omega)
                    · refine s_3113_127 _ _ _ _ _ _ _ ?_
                      refine s_3113_132 _ _ _ _ _ _ _ _ ?_
                      exact ih_18 _ _ _ hs_115 hf_123 p_118 mo_124 (by omega) (by first | rfl | omega) (by first | assumption | exact bd_le (by assumption) (by omega) | exact bd_0 _) (by first | assumption | exact bd_le (by assumption) (by omega) | exact bd_0 _) (by first | omega | assumption) (by omega)
                  · refine s_3113_127 _ _ _ _ _ _ _ ?_
                    refine s_3113_132 _ _ _ _ _ _ _ _ ?_
                    exact ih_18 _ _ _ hs_101 hf_109 p_104 mo_110 (by omega) (by first | rfl | omega) (by first | assumption | exact bd_le (by assumption) (by omega) | exact bd_0 _) (by first | assumption | exact bd_le (by assumption) (by omega) | exact bd_0 _) (by first | omega | assumption) (by omega)
                · refine s_3113_127 _ _ _ _ _ _ _ ?_
                  refine s_3113_132 _ _ _ _ _ _ _ _ ?_
                  exact ih_18 _ _ _ hs_87 hf_95 p_90 mo_96 (by omega) (by first | rfl | omega) (by first | assumption | exact bd_le (by assumption) (by omega) | exact bd_0 _) (by first | assumption | exact bd_le (by assumption) (by omega) | exact bd_0 _) (by first | omega | assumption) (by omega)
              · refine s_3113_127 _ _ _ _ _ _ _ ?_
                refine s_3113_132 _ _ _ _ _ _ _ _ ?_
                exact ih_18 _ _ _ hs_73 hf_81 p_76 mo_82 (by omega) (by first | rfl | omega) (by first | assumption | exact bd_le (by assumption) (by omega) | exact bd_0 _) (by first | assumption | exact bd_le (by assumption) (by omega) | exact bd_0 _) (by first | omega | assumption) (by omega)
        exact lp_55 _ _ _ hs_49 hf_51 pd_52 mo_53 (by omega) (by first | rfl | omega) (hl2) (hr2) (Nat.lt_succ_self _)
  exact lp_18 _ _ _ _ hs_13 hf_14 pd_16 mo_17 (by omega) (by first | rfl | omega) (by first | assumption | exact bd_le (by assumption) (by omega) | exact bd_0 _) (by first | assumption | exact bd_le (by assumption) (by omega) | exact bd_0 _) (by first | omega | assumption) (Nat.lt_succ_self _)
set_option maxRecDepth 100000 in
/-- GatheredPointsModel.reduces -/
theorem vm_reduces  {L d : Nat} {K : Option gV → gH → Prop} {s : gH}  (p0 : Int) (hs : MI s) (h_p0 : 0 ≤ p0 ∧ p0 ≤ 84) (q0 : p0 ≠ 20) (q1 : 1 ≤ gp_I s 81 p0.toNat) (k : ∀ (t : gH), MI t → gF [76, 77, 78, 79, 80, 81, 86, 87, 88, 92, 93, 94, 95, 96, 97, 98, 99, 100, 101, 102, 103, 104] [15, 35, 36] s t → (1 ≤ gp_I t 81 19 ∧ gp_I t 81 19 ≤ 60) → (mK s t) → K none t) : gs_C L (d + 575) 3109 7 [gp_r (some 74), gp_i p0] s K := by
  have f_1 := mr81 hs 20
  have f_2 := mr81 hs p0.toNat
  refine s_3109_e _ ?_
  refine vm_begins2 hs (fun s_3 hs_4 hf_5 p_6 p_7 p_8 p_9 => ⟨rfl, ?_⟩)
  have hf_10 : gF [76, 77, 78, 79, 80, 81, 86, 87, 88, 92, 93, 94, 95, 96, 97, 98, 99, 100, 101, 102, 103, 104] [15, 35, 36] s s_3 := gF.sub hf_5 rfl rfl
  have mo_11 : mOut s s_3 := mOut.trans (mOut.refl _) p_9
  have mb_12 : mK s s_3 := mK.trans (mK.refl _) (mK_o p_9)
  have q_13 := p_9.1 p0.toNat (by omega)
  have lp_14 : ∀ (n_14 : Nat) (v2_14 : Int) (v3_14 : gV) (v4_14 : gV) (v5_14 : gV) (v6_14 : gV) (s_14 : gH), (MI s_14) → (gF [76, 77, 78, 79, 80, 81, 86, 87, 88, 92, 93, 94, 95, 96, 97, 98, 99, 100, 101, 102, 103, 104] [15, 35, 36] s s_14) → (MDi s_14) → (mOut s s_14) → (mK s s_14) → (0 ≤ v2_14 ∧ v2_14 ≤ 4096) → (gp_I s_14 81 20 = gp_I s_3 81 20) → (gp_I s_14 81 p0.toNat = gp_I s_3 81 p0.toNat) → (4097 - v2_14).toNat < n_14 → gs_E L (d + 575) 3109 6 [gp_r (some 74), gp_i p0, gp_i v2_14, v3_14, v4_14, v5_14, v6_14] [] s_14 K := by
    intro n_14
    induction n_14 with
    | zero => intro v2_14 v3_14 v4_14 v5_14 v6_14 s_14 hs_s_14 hf_s_14 MDi_s_14 mOut_s_14 mK_s_14 hv2_14 tk0_14 tk1_14 hm_14; exact absurd hm_14 (Nat.not_lt_zero _)
    | succ n_14 ih_14 =>
      intro v2_14 v3_14 v4_14 v5_14 v6_14 s_14 hs_s_14 hf_s_14 MDi_s_14 mOut_s_14 mK_s_14 hv2_14 tk0_14 tk1_14 hm_14
      refine s_3109_6 _ _ _ _ _ _ ?_
      refine ⟨fun h_15 => ?_, fun h_15 => ?_⟩
      · refine ⟨by omega, ?_⟩
        intro s_16 e_17
        have hs_18 : MI s_16 := by rw [e_17]; exact mw98 hs_s_14 _ _ (by omega)
        have hf_19 : gF [76, 77, 78, 79, 80, 81, 86, 87, 88, 92, 93, 94, 95, 96, 97, 98, 99, 100, 101, 102, 103, 104] [15, 35, 36] s s_16 := by rw [e_17]; exact gF.wI hf_s_14 (Or.inl rfl)
        have q_20 : gp_I s_16 81 20 = gp_I s_14 81 20 := by rw [e_17] <;> rfl
        have q_21 : gp_I s_16 81 p0.toNat = gp_I s_14 81 p0.toNat := by rw [e_17] <;> rfl
        have pd_22 : MDi s_16 := by rw [e_17]; exact MDi_fr MDi_s_14 (gF.wI (gF.refl [98] [] _) (Or.inl rfl)) rfl rfl rfl rfl rfl rfl rfl
        have mo_23 : mOut s s_16 := by rw [e_17]; exact mOut_wI mOut_s_14 (by decide)
        have mb_24 : mK s s_16 := by rw [e_17]; exact mK_wI mK_s_14 (by decide)
        try rw [show gp_wr (v2_14 + 1) = v2_14 + 1 from gp_wr_id (by omega) (by omega)]
        exact ih_14 _ _ _ _ _ _ hs_18 hf_19 pd_22 mo_23 mb_24 (by omega) (by first | rfl | omega) (by first | rfl | omega) (by omega)
      · have lp_25 : ∀ (n_25 : Nat) (v2_25 : Int) (v3_25 : gV) (v4_25 : gV) (v5_25 : gV) (v6_25 : gV) (s_25 : gH), (MI s_25) → (gF [76, 77, 78, 79, 80, 81, 86, 87, 88, 92, 93, 94, 95, 96, 97, 98, 99, 100, 101, 102, 103, 104] [15, 35, 36] s s_25) → (MDi s_25) → (mOut s s_25) → (mK s s_25) → (0 ≤ v2_25 ∧ v2_25 ≤ 60) → (∀ k : Nat, (k : Int) < v2_25 → gp_I s_25 104 k < gp_I s_25 81 20) → (v2_25 ≤ gp_I s_25 81 p0.toNat) → (gp_I s_25 81 p0.toNat = gp_I s 81 p0.toNat) → (61 - v2_25).toNat < n_25 → gs_E L (d + 575) 3109 28 [gp_r (some 74), gp_i p0, gp_i v2_25, v3_25, v4_25, v5_25, v6_25] [] s_25 K := by
          intro n_25
          induction n_25 with
          | zero => intro v2_25 v3_25 v4_25 v5_25 v6_25 s_25 hs_s_25 hf_s_25 MDi_s_25 mOut_s_25 mK_s_25 hv2_25 iv0_25 iv1_25 iv2_25 hm_25; exact absurd hm_25 (Nat.not_lt_zero _)
          | succ n_25 ih_25 =>
            intro v2_25 v3_25 v4_25 v5_25 v6_25 s_25 hs_s_25 hf_s_25 MDi_s_25 mOut_s_25 mK_s_25 hv2_25 iv0_25 iv1_25 iv2_25 hm_25
            refine s_3109_28 _ _ _ _ _ _ ?_
            refine ⟨by omega, ?_⟩
            have f_26 := mr81 hs_s_25 (Int.toNat p0)
            refine ⟨fun h_27 => ?_, fun h_27 => ?_⟩
            · try rw [show gp_wr (64 * p0) = 64 * p0 from gp_wr_id (by omega) (by omega)]
              try rw [show gp_wr ((64 * p0) + v2_25) = (64 * p0) + v2_25 from gp_wr_id (by omega) (by omega)]
              refine ⟨by omega, ?_⟩
              have b_28 := mr76 hs_s_25 p0 v2_25 (by omega) (by omega)
              refine vm_reducedSet (gp_I s_25 81 20) _ _ hs_s_25 (by omega) (fun k hk => iv0_25 k (by omega)) (fun m_29 p_30 => ⟨_, rfl, ?_⟩)
              try rw [show gp_wr (64 * p0) = 64 * p0 from gp_wr_id (by omega) (by omega)]
              try rw [show gp_wr ((64 * p0) + v2_25) = (64 * p0) + v2_25 from gp_wr_id (by omega) (by omega)]
              refine ⟨by omega, ?_⟩
              have b_31 := mr77 hs_s_25 p0 v2_25 (by omega) (by omega)
              refine vm_reducedSet (gp_I s_25 81 20) _ _ hs_s_25 (by omega) (fun k hk => iv0_25 k (by omega)) (fun m_32 p_33 => ⟨_, rfl, ?_⟩)
              try rw [show gp_wr (64 * p0) = 64 * p0 from gp_wr_id (by omega) (by omega)]
              try rw [show gp_wr ((64 * p0) + v2_25) = (64 * p0) + v2_25 from gp_wr_id (by omega) (by omega)]
              refine ⟨by omega, ?_⟩
              try rw [show gp_wr (64 * p0) = 64 * p0 from gp_wr_id (by omega) (by omega)]
              try rw [show gp_wr ((64 * p0) + v2_25) = (64 * p0) + v2_25 from gp_wr_id (by omega) (by omega)]
              refine ⟨by omega, ?_⟩
              refine vm_reduced _ _ _ _ hs_s_25 (MDi_s_25) (by first | assumption | exact bd_le (by assumption) (by omega) | exact bd_0 _) (by first | assumption | exact bd_le (by assumption) (by omega) | exact bd_0 _) (fun x_34 s_35 hs_36 hf_37 p_38 p_39 p_40 p_41 p_42 => ⟨_, rfl, ?_⟩)
              have hf_43 : gF [76, 77, 78, 79, 80, 81, 86, 87, 88, 92, 93, 94, 95, 96, 97, 98, 99, 100, 101, 102, 103, 104] [15, 35, 36] s s_35 := gF.trans hf_s_25 hf_37 rfl rfl
              have mo_44 : mOut s s_35 := mOut.trans mOut_s_25 p_40
              have mb_45 : mK s s_35 := mK.trans mK_s_25 (mK_o p_40)
              have q_46 := p_40.1 p0.toNat (by omega)
              refine ⟨by omega, ?_⟩
              intro s_47 e_48
              have hs_49 : MI s_47 := by rw [e_48]; exact mw104 hs_36 _ _ (by omega)
              have hf_50 : gF [76, 77, 78, 79, 80, 81, 86, 87, 88, 92, 93, 94, 95, 96, 97, 98, 99, 100, 101, 102, 103, 104] [15, 35, 36] s s_47 := by rw [e_48]; exact gF.wI hf_43 (Or.inl rfl)
              have q_51 : gp_I s_47 81 20 = gp_I s_35 81 20 := by rw [e_48] <;> rfl
              have q_52 : gp_I s_47 81 p0.toNat = gp_I s_35 81 p0.toNat := by rw [e_48] <;> rfl
              have pd_53 : MDi s_47 := by rw [e_48]; exact MDi_fr p_39 (gF.wI (gF.refl [104] [] _) (Or.inl rfl)) rfl rfl rfl rfl rfl rfl rfl
              have mo_54 : mOut s s_47 := by rw [e_48]; exact mOut_wI mo_44 (by decide)
              have mb_55 : mK s s_47 := by rw [e_48]; exact mK_wI mb_45 (by decide)
              try rw [show gp_wr (v2_25 + 1) = v2_25 + 1 from gp_wr_id (by omega) (by omega)]
              exact ih_25 _ _ _ _ _ _ hs_49 hf_50 pd_53 mo_54 mb_55 (by omega) (by subst_vars; exact rd_step (by omega) iv0_25 (by assumption) rfl (by omega) (by omega)) (by first | omega | assumption) (by first | omega | assumption) (by omega)
            · refine ⟨by omega, ?_⟩
              have f_56 := mr81 hs_s_25 (Int.toNat p0)
              try rw [show gp_wr ((gp_I s_25 81 (Int.toNat p0)) - 1) = (gp_I s_25 81 (Int.toNat p0)) - 1 from gp_wr_id (by omega) (by omega)]
              have hnr := iv0_25 (Int.toNat ((gp_I s_25 81 (Int.toNat p0)) - 1)) (by omega)
              refine ⟨by omega, ?_⟩
              have f_57 := mr104 hs_s_25 (Int.toNat ((gp_I s_25 81 (Int.toNat p0)) - 1))
              refine vm_ends _ hs_s_25 (by omega) (MDi_s_25) (by first | omega | assumption) (fun s_58 hs_59 hf_60 p_61 p_62 => ⟨rfl, ?_⟩)
              have hf_63 : gF [76, 77, 78, 79, 80, 81, 86, 87, 88, 92, 93, 94, 95, 96, 97, 98, 99, 100, 101, 102, 103, 104] [15, 35, 36] s s_58 := gF.trans hf_s_25 hf_60 rfl rfl
              have mb_64 : mK s s_58 := mK.trans mK_s_25 p_62
              exact k s_58 hs_59 hf_63 (by first | omega | assumption) mb_64
        exact lp_25 _ _ _ _ _ _ _ hs_s_14 hf_s_14 MDi_s_14 mOut_s_14 mK_s_14 (by omega) (fun k hk => absurd hk (by omega)) (by first | omega | assumption) (by first | omega | assumption) (Nat.lt_succ_self _)
  exact lp_14 _ _ _ _ _ _ _ hs_4 hf_10 p_8 mo_11 mb_12 (by omega) (by first | rfl | omega) (by first | rfl | omega) (Nat.lt_succ_self _)
