set_option maxRecDepth 100000 in
/-- GatheredPointsModel.isOver -/
theorem vm_isOver2  {L d : Nat} {K : Option gV → gH → Prop} {s : gH}  (p0 : Int) (p1 : Int) (hs : MI s) (h_p0 : 0 ≤ p0 ∧ p0 ≤ 63) (h_p1 : 0 ≤ p1 ∧ p1 ≤ 63) (q0 : MDi s) (q1 : p0 ≤ gp_I s 81 20) (q2 : p1 ≤ gp_I s 81 20) (k : ∀ (r : Int), ∀ (t : gH), MI t → gF [86, 98, 99] [] s t → (0 ≤ r ∧ r ≤ 1) → (MDi t) → K (some (gp_i r)) t) : gs_C L (d + 572) 3112 3 [gp_r (some 74), gp_i p0, gp_i p1] s K := by
  have f_1 := mr81 hs 20
  refine s_3112_e _ _ ?_
  refine vm_atLeastM _ _ hs (by omega) (by omega) (q0) (by first | omega | assumption) (by first | omega | assumption) (fun x_2 s_3 hs_4 hf_5 p_6 p_7 => ⟨_, rfl, ?_⟩)
  have hf_8 : gF [86, 98, 99] [] s s_3 := gF.sub hf_5 rfl rfl
  have q_9 := (hf_5.2 81 20 rfl (fun h => absurd h (by decide))).1
  refine ⟨by omega, ?_⟩
  exact k _ s_3 hs_4 hf_8 (by omega) (p_7)
set_option maxRecDepth 100000 in
/-- GatheredPointsModel.knows -/
theorem vm_knows  {L d : Nat} {K : Option gV → gH → Prop} {s : gH}  (p0 : Int) (hs : MI s) (h_p0 : 0 ≤ p0 ∧ p0 ≤ 62)  (k : ∀ (t : gH), MI t → gF [92, 93, 94, 95, 96, 97, 100, 101, 102, 103] [] s t → K none t) : gs_C L (d + 3) 3111 2 [gp_r (some 74), gp_i p0] s K := by
  refine s_3111_e _ ?_
  refine vm_bound _ _ hs (by omega) (by omega) (fun s_1 hs_2 hf_3 p_4 p_5 => ⟨rfl, ?_⟩)
  have hf_6 : gF [92, 93, 94, 95, 96, 97, 100, 101, 102, 103] [] s s_1 := gF.sub hf_3 rfl rfl
  refine ⟨by omega, ?_⟩
  refine ⟨by omega, ?_⟩
  intro s_7 e_8
  have hs_9 : MI s_7 := by rw [e_8]; exact mw100 hs_2 _ _
  have hf_10 : gF [92, 93, 94, 95, 96, 97, 100, 101, 102, 103] [] s s_7 := by rw [e_8]; exact gF.wI hf_6 (Or.inl rfl)
  refine ⟨by omega, ?_⟩
  refine ⟨by omega, ?_⟩
  intro s_11 e_12
  have hs_13 : MI s_11 := by rw [e_12]; exact mw102 hs_9 _ _
  have hf_14 : gF [92, 93, 94, 95, 96, 97, 100, 101, 102, 103] [] s s_11 := by rw [e_12]; exact gF.wI hf_10 (Or.inl rfl)
  refine ⟨by omega, ?_⟩
  refine ⟨by omega, ?_⟩
  intro s_15 e_16
  have hs_17 : MI s_15 := by rw [e_16]; exact mw101 hs_13 _ _
  have hf_18 : gF [92, 93, 94, 95, 96, 97, 100, 101, 102, 103] [] s s_15 := by rw [e_16]; exact gF.wI hf_14 (Or.inl rfl)
  refine ⟨by omega, ?_⟩
  refine ⟨by omega, ?_⟩
  intro s_19 e_20
  have hs_21 : MI s_19 := by rw [e_20]; exact mw103 hs_17 _ _
  have hf_22 : gF [92, 93, 94, 95, 96, 97, 100, 101, 102, 103] [] s s_19 := by rw [e_20]; exact gF.wI hf_18 (Or.inl rfl)
  exact k s_19 hs_21 hf_22
set_option maxRecDepth 100000 in
/-- GatheredPointsModel.reducedSet -/
theorem vm_reducedSet  {L d : Nat} {K : Option gV → gH → Prop} {s : gH} (N : Int) (p0 : BitVec 64) (p1 : Int) (hs : MI s) (h_p1 : 0 ≤ p1 ∧ p1 ≤ 63) (q0 : ∀ k : Nat, (k : Int) < p1 → gp_I s 104 k < N) (k : ∀ (r : BitVec 64), (bd r N) → K (some (gp_l r)) s) : gs_C L (d + 1) 3110 7 [gp_r (some 74), gp_l p0, gp_i p1] s K := by
  refine s_3110_e _ _ ?_
  have lp_1 : ∀ (n_1 : Nat) (v4_1 : BitVec 64) (v6_1 : Int), (0 ≤ v6_1 ∧ v6_1 ≤ 63) → (bd v4_1 N) → (64 - v6_1).toNat < n_1 → gs_E L (d + 1) 3110 6 [gp_r (some 74), gp_l p0, gp_n, gp_i p1, gp_l v4_1, gp_n, gp_i v6_1] [] s K := by
    intro n_1
    induction n_1 with
    | zero => intro v4_1 v6_1 hv6_1 iv0_1 hm_1; exact absurd hm_1 (Nat.not_lt_zero _)
    | succ n_1 ih_1 =>
      intro v4_1 v6_1 hv6_1 iv0_1 hm_1
      refine s_3110_6 _ _ _ _ ?_
      refine ⟨fun h_2 => ?_, fun h_2 => ?_⟩
      · refine vm_has _ _ (by omega) (fun x_3 p_4 p_5 => ⟨_, rfl, ?_⟩)
        refine ⟨fun h_6 => ?_, fun h_6 => ?_⟩
        · have hb_7 := hasF p_5 h_6
          refine s_3110_36 _ _ _ _ _ _ ?_
          try rw [show gp_wr (v6_1 + 1) = v6_1 + 1 from gp_wr_id (by omega) (by omega)]
          exact ih_1 _ _ (by omega) (by first | (refine bd_or (by assumption) ?_; exact bd_0 _) | (refine bd_or (by assumption) (bd_sh ?_ ?_ ?_) <;> omega)) (by omega)
        · have hb_8 := hasT p_5 h_6
          refine ⟨by omega, ?_⟩
          have f_9 := mr104 hs (Int.toNat v6_1)
          have hq0 := q0 (Int.toNat v6_1) (by omega)
          refine s_3110_36 _ _ _ _ _ _ ?_
          try rw [show gp_wr (v6_1 + 1) = v6_1 + 1 from gp_wr_id (by omega) (by omega)]
          exact ih_1 _ _ (by omega) (by first | (refine bd_or (by assumption) ?_; exact bd_0 _) | (refine bd_or (by assumption) (bd_sh ?_ ?_ ?_) <;> omega)) (by omega)
      · exact k _ (by first | assumption | exact bd_le (by assumption) (by omega) | exact bd_0 _)
  exact lp_1 _ _ _ (by omega) (bd_0 _) (Nat.lt_succ_self _)
set_option maxRecDepth 100000 in
/-- GatheredPointsModel.turnsLeft -/
theorem vm_turnsLeft  {L d : Nat} {K : Option gV → gH → Prop} {s : gH}  (p0 : Int) (hs : MI s) (h_p0 : 0 ≤ p0 ∧ p0 ≤ 63) (q0 : MDi s) (q1 : bd (gp_L s 74 35) (gp_I s 81 20)) (q2 : p0 = gp_I s 81 20) (k : ∀ (r : Int), ∀ (t : gH), MI t → gF [86, 98, 99] [35] s t → (0 ≤ r ∧ r ≤ 1) → (MDi t) → (r ≠ 0 → (gp_L t 74 35).toNat < (gp_L s 74 35).toNat) → (r = 0 → gp_L t 74 35 = gp_L s 74 35) → (bd (gp_L t 74 35) (gp_I t 81 20)) → (r = 0 → (gp_L t 74 35).toNat = (gp_L s 74 35).toNat) → K (some (gp_i r)) t) : gs_C L (d + 573) 3114 8 [gp_r (some 74), gp_i p0] s K := by
  have f_1 := mr81 hs 20
  refine s_3114_e _ ?_
  have lp_2 : ∀ (n_2 : Nat) (v2_2 : Int) (v3_2 : gV) (v4_2 : gV) (v5_2 : gV) (v6_2 : gV) (v7_2 : gV) (s_2 : gH), (MI s_2) → (gF [86, 98, 99] [35] s s_2) → (MDi s_2) → (0 ≤ v2_2 ∧ v2_2 ≤ 64) → (gp_I s_2 81 20 = gp_I s 81 20) → (gp_L s_2 74 35 = gp_L s 74 35) → (65 - v2_2).toNat < n_2 → gs_E L (d + 573) 3114 2 [gp_r (some 74), gp_i p0, gp_i v2_2, v3_2, v4_2, v5_2, v6_2, v7_2] [] s_2 K := by
    intro n_2
    induction n_2 with
    | zero => intro v2_2 v3_2 v4_2 v5_2 v6_2 v7_2 s_2 hs_s_2 hf_s_2 MDi_s_2 hv2_2 tk0_2 tk1_2 hm_2; exact absurd hm_2 (Nat.not_lt_zero _)
    | succ n_2 ih_2 =>
      intro v2_2 v3_2 v4_2 v5_2 v6_2 v7_2 s_2 hs_s_2 hf_s_2 MDi_s_2 hv2_2 tk0_2 tk1_2 hm_2
      refine s_3114_2 _ _ _ _ _ _ _ ?_
      try rw [tk1_2]
      refine vm_size _ (fun x_3 p_4 p_5 => ⟨_, rfl, ?_⟩)
      refine ⟨fun h_6 => ?_, fun h_6 => ?_⟩
      · try rw [tk1_2]
        refine vm_optioni _ _ hs_s_2 (by omega) (MDi_s_2) (by first | assumption | exact bd_le (by assumption) (by omega) | exact bd_0 _) (by first | omega | assumption) (fun x_7 s_8 hs_9 hf_10 p_11 p_12 p_13 => ⟨_, rfl, ?_⟩)
        have hf_14 : gF [86, 98, 99] [35] s s_8 := gF.trans hf_s_2 hf_10 rfl rfl
        have q_15 := (hf_10.2 81 20 rfl (fun h => absurd h (by decide))).1
        have q_16 : gp_L s_8 74 35 = gp_L s 74 35 := (hf_10.2 74 35 rfl (fun _ => rfl)).2.trans tk1_2
        have hxl := q1 _ (‹BitVec.getLsbD (gp_L s 74 35) _ = true›)
        try rw [show gp_wr (1280 + x_7) = 1280 + x_7 from gp_wr_id (by omega) (by omega)]
        refine ⟨by omega, ?_⟩
        have b_17 := mr77m hs_9 x_7 (by omega)
        have lp_18 : ∀ (n_18 : Nat) (v6_18 : Int) (v7_18 : gV) (s_18 : gH), (MI s_18) → (gF [86, 98, 99] [35] s s_18) → (MDi s_18) → (0 ≤ v6_18 ∧ v6_18 ≤ 64) → (gp_I s_18 81 20 = gp_I s_8 81 20) → (gp_L s_18 74 35 = gp_L s 74 35) → (65 - v6_18).toNat < n_18 → gs_E L (d + 573) 3114 40 [gp_r (some 74), gp_i p0, gp_i v2_2, gp_i x_7, gp_l (gp_L s_8 77 (Int.toNat (1280 + x_7))), gp_n, gp_i v6_18, v7_18] [] s_18 K := by
          intro n_18
          induction n_18 with
          | zero => intro v6_18 v7_18 s_18 hs_s_18 hf_s_18 MDi_s_18 hv6_18 tk0_18 tk1_18 hm_18; exact absurd hm_18 (Nat.not_lt_zero _)
          | succ n_18 ih_18 =>
            intro v6_18 v7_18 s_18 hs_s_18 hf_s_18 MDi_s_18 hv6_18 tk0_18 tk1_18 hm_18
            refine s_3114_40 _ _ _ _ _ _ ?_
            refine vm_size _ (fun x_19 p_20 p_21 => ⟨_, rfl, ?_⟩)
            refine ⟨fun h_22 => ?_, fun h_22 => ?_⟩
            · refine vm_optioni _ _ hs_s_18 (by omega) (MDi_s_18) (by first | assumption | exact bd_le (by assumption) (by omega) | exact bd_0 _) (by first | omega | assumption) (fun x_23 s_24 hs_25 hf_26 p_27 p_28 p_29 => ⟨_, rfl, ?_⟩)
              have hf_30 : gF [86, 98, 99] [35] s s_24 := gF.trans hf_s_18 hf_26 rfl rfl
              have q_31 := (hf_26.2 81 20 rfl (fun h => absurd h (by decide))).1
              have q_32 : gp_L s_24 74 35 = gp_L s 74 35 := (hf_26.2 74 35 rfl (fun _ => rfl)).2.trans tk1_18
              have hyx := ‹bd (gp_L s_8 77 (Int.toNat (1280 + x_7))) _› _ (‹BitVec.getLsbD (gp_L s_8 77 (Int.toNat (1280 + x_7))) _ = true›)
              try rw [show gp_wr (1280 + x_23) = 1280 + x_23 from gp_wr_id (by omega) (by omega)]
              refine ⟨by omega, ?_⟩
              have b_33 := mr76m hs_25 x_23 (by omega)
              refine ⟨fun h_34 => ?_, fun h_34 => ?_⟩
              · have hz_35 : gp_L s_24 76 (Int.toNat (1280 + x_23)) = 0#64 := (gm_cmp0 _ _).mp h_34
                refine s_3114_118 _ _ _ _ _ _ ?_
                try rw [show gp_wr (v6_18 + 1) = v6_18 + 1 from gp_wr_id (by omega) (by omega)]
                exact ih_18 _ _ _ hs_25 hf_30 p_28 (by omega) (by first | rfl | omega) (by first | rfl | assumption | simp only [*]) (by omega)
              · have hz_36 : ¬ (gp_L s_24 76 (Int.toNat (1280 + x_23))) = 0#64 := fun q => h_34 ((gm_cmp0 _ _).mpr q)
                refine vm_isOver2 _ _ hs_25 (by omega) (by omega) (p_28) (by first | omega | assumption) (by first | omega | assumption) (fun x_37 s_38 hs_39 hf_40 p_41 p_42 => ⟨_, rfl, ?_⟩)
                have hf_43 : gF [86, 98, 99] [35] s s_38 := gF.trans hf_30 hf_40 rfl rfl
                have q_44 := (hf_40.2 81 20 rfl (fun h => absurd h (by decide))).1
                have q_45 : gp_L s_38 74 35 = gp_L s 74 35 := (hf_40.2 74 35 rfl (fun _ => rfl)).2.trans q_32
                refine ⟨fun h_46 => ?_, fun h_46 => ?_⟩
                · refine s_3114_118 _ _ _ _ _ _ ?_
                  try rw [show gp_wr (v6_18 + 1) = v6_18 + 1 from gp_wr_id (by omega) (by omega)]
                  exact ih_18 _ _ _ hs_39 hf_43 p_42 (by omega) (by first | rfl | omega) (by first | rfl | assumption | simp only [*]) (by omega)
                · try rw [q_45]
                  try rw [show gp_wr (1280 + x_23) = 1280 + x_23 from gp_wr_id (by omega) (by omega)]
                  refine ⟨by omega, ?_⟩
                  have b_47 := mr76m hs_39 x_23 (by omega)
                  intro s_48 e_49
                  have hs_50 : MI s_48 := by rw [e_49]; exact mw74_35 hs_39 _
                  have hf_51 : gF [86, 98, 99] [35] s s_48 := by rw [e_49]; exact gF.wL hf_43 (Or.inr ⟨rfl, rfl⟩)
                  have q_52 : gp_I s_48 81 20 = gp_I s_38 81 20 := by rw [e_49] <;> rfl
                  have pd_54 : MDi s_48 := by rw [e_49]; exact MDi_fr p_42 (gF.wL (gF.refl [] [35] _) (Or.inr ⟨rfl, rfl⟩)) rfl rfl rfl rfl rfl rfl rfl
                  exact k _ s_48 hs_50 hf_51 (by omega) (pd_54) (fun _ => by subst_vars; exact lt_turn (by omega) (by assumption) (bd_le (by assumption) (by omega))) (fun h => absurd h (by decide)) (by subst_vars; exact bd_or (bd_and (bd_le q1 (by omega))) (bd_le (by assumption) (by omega))) (fun h => absurd h (by decide))
            · try rw [show gp_wr (v2_2 + 1) = v2_2 + 1 from gp_wr_id (by omega) (by omega)]
              exact ih_2 _ _ _ _ _ _ _ hs_s_18 hf_s_18 MDi_s_18 (by omega) (by first | rfl | omega) (by first | rfl | assumption | simp only [*]) (by omega)
        exact lp_18 _ _ _ _ hs_9 hf_14 p_12 (by omega) (by first | rfl | omega) (by first | rfl | assumption | simp only [*]) (Nat.lt_succ_self _)
      · exact k _ s_2 hs_s_2 hf_s_2 (by omega) (MDi_s_2) (fun h => absurd rfl h) (fun _ => tk1_2) (by rw [tk1_2]; exact bd_le q1 (by omega)) (fun _ => congrArg BitVec.toNat tk1_2)
  exact lp_2 _ _ _ _ _ _ _ _ hs (gF.refl _ _ _) q0 (by omega) (by first | rfl | omega) (by first | rfl | assumption | simp only [*]) (Nat.lt_succ_self _)
set_option maxRecDepth 100000 in
/-- GatheredPointsModel.turnsRight -/
theorem vm_turnsRight  {L d : Nat} {K : Option gV → gH → Prop} {s : gH}  (p0 : Int) (hs : MI s) (h_p0 : 0 ≤ p0 ∧ p0 ≤ 63) (q0 : MDi s) (q1 : bd (gp_L s 74 36) (gp_I s 81 20)) (q2 : p0 = gp_I s 81 20) (k : ∀ (r : Int), ∀ (t : gH), MI t → gF [86, 98, 99] [36] s t → (0 ≤ r ∧ r ≤ 1) → (MDi t) → (r ≠ 0 → (gp_L t 74 36).toNat < (gp_L s 74 36).toNat) → (r = 0 → gp_L t 74 36 = gp_L s 74 36) → (bd (gp_L t 74 36) (gp_I t 81 20)) → (r = 0 → (gp_L t 74 36).toNat = (gp_L s 74 36).toNat) → K (some (gp_i r)) t) : gs_C L (d + 573) 3115 8 [gp_r (some 74), gp_i p0] s K := by
  have f_1 := mr81 hs 20
  refine s_3115_e _ ?_
  have lp_2 : ∀ (n_2 : Nat) (v2_2 : Int) (v3_2 : gV) (v4_2 : gV) (v5_2 : gV) (v6_2 : gV) (v7_2 : gV) (s_2 : gH), (MI s_2) → (gF [86, 98, 99] [36] s s_2) → (MDi s_2) → (0 ≤ v2_2 ∧ v2_2 ≤ 64) → (gp_I s_2 81 20 = gp_I s 81 20) → (gp_L s_2 74 36 = gp_L s 74 36) → (65 - v2_2).toNat < n_2 → gs_E L (d + 573) 3115 2 [gp_r (some 74), gp_i p0, gp_i v2_2, v3_2, v4_2, v5_2, v6_2, v7_2] [] s_2 K := by
    intro n_2
    induction n_2 with
    | zero => intro v2_2 v3_2 v4_2 v5_2 v6_2 v7_2 s_2 hs_s_2 hf_s_2 MDi_s_2 hv2_2 tk0_2 tk1_2 hm_2; exact absurd hm_2 (Nat.not_lt_zero _)
    | succ n_2 ih_2 =>
      intro v2_2 v3_2 v4_2 v5_2 v6_2 v7_2 s_2 hs_s_2 hf_s_2 MDi_s_2 hv2_2 tk0_2 tk1_2 hm_2
      refine s_3115_2 _ _ _ _ _ _ _ ?_
      try rw [tk1_2]
      refine vm_size _ (fun x_3 p_4 p_5 => ⟨_, rfl, ?_⟩)
      refine ⟨fun h_6 => ?_, fun h_6 => ?_⟩
      · try rw [tk1_2]
        refine vm_optioni _ _ hs_s_2 (by omega) (MDi_s_2) (by first | assumption | exact bd_le (by assumption) (by omega) | exact bd_0 _) (by first | omega | assumption) (fun x_7 s_8 hs_9 hf_10 p_11 p_12 p_13 => ⟨_, rfl, ?_⟩)
        have hf_14 : gF [86, 98, 99] [36] s s_8 := gF.trans hf_s_2 hf_10 rfl rfl
        have q_15 := (hf_10.2 81 20 rfl (fun h => absurd h (by decide))).1
        have q_16 : gp_L s_8 74 36 = gp_L s 74 36 := (hf_10.2 74 36 rfl (fun _ => rfl)).2.trans tk1_2
        have hxl := q1 _ (‹BitVec.getLsbD (gp_L s 74 36) _ = true›)
        try rw [show gp_wr (1280 + x_7) = 1280 + x_7 from gp_wr_id (by omega) (by omega)]
        refine ⟨by omega, ?_⟩
        have b_17 := mr76m hs_9 x_7 (by omega)
        have lp_18 : ∀ (n_18 : Nat) (v6_18 : Int) (v7_18 : gV) (s_18 : gH), (MI s_18) → (gF [86, 98, 99] [36] s s_18) → (MDi s_18) → (0 ≤ v6_18 ∧ v6_18 ≤ 64) → (gp_I s_18 81 20 = gp_I s_8 81 20) → (gp_L s_18 74 36 = gp_L s 74 36) → (65 - v6_18).toNat < n_18 → gs_E L (d + 573) 3115 40 [gp_r (some 74), gp_i p0, gp_i v2_2, gp_i x_7, gp_l (gp_L s_8 76 (Int.toNat (1280 + x_7))), gp_n, gp_i v6_18, v7_18] [] s_18 K := by
          intro n_18
          induction n_18 with
          | zero => intro v6_18 v7_18 s_18 hs_s_18 hf_s_18 MDi_s_18 hv6_18 tk0_18 tk1_18 hm_18; exact absurd hm_18 (Nat.not_lt_zero _)
          | succ n_18 ih_18 =>
            intro v6_18 v7_18 s_18 hs_s_18 hf_s_18 MDi_s_18 hv6_18 tk0_18 tk1_18 hm_18
            refine s_3115_40 _ _ _ _ _ _ ?_
            refine vm_size _ (fun x_19 p_20 p_21 => ⟨_, rfl, ?_⟩)
            refine ⟨fun h_22 => ?_, fun h_22 => ?_⟩
            · refine vm_optioni _ _ hs_s_18 (by omega) (MDi_s_18) (by first | assumption | exact bd_le (by assumption) (by omega) | exact bd_0 _) (by first | omega | assumption) (fun x_23 s_24 hs_25 hf_26 p_27 p_28 p_29 => ⟨_, rfl, ?_⟩)
              have hf_30 : gF [86, 98, 99] [36] s s_24 := gF.trans hf_s_18 hf_26 rfl rfl
              have q_31 := (hf_26.2 81 20 rfl (fun h => absurd h (by decide))).1
              have q_32 : gp_L s_24 74 36 = gp_L s 74 36 := (hf_26.2 74 36 rfl (fun _ => rfl)).2.trans tk1_18
              have hyx := ‹bd (gp_L s_8 76 (Int.toNat (1280 + x_7))) _› _ (‹BitVec.getLsbD (gp_L s_8 76 (Int.toNat (1280 + x_7))) _ = true›)
              try rw [show gp_wr (1280 + x_23) = 1280 + x_23 from gp_wr_id (by omega) (by omega)]
              refine ⟨by omega, ?_⟩
              have b_33 := mr77m hs_25 x_23 (by omega)
              refine ⟨fun h_34 => ?_, fun h_34 => ?_⟩
              · have hz_35 : gp_L s_24 77 (Int.toNat (1280 + x_23)) = 0#64 := (gm_cmp0 _ _).mp h_34
                refine s_3115_118 _ _ _ _ _ _ ?_
                try rw [show gp_wr (v6_18 + 1) = v6_18 + 1 from gp_wr_id (by omega) (by omega)]
                exact ih_18 _ _ _ hs_25 hf_30 p_28 (by omega) (by first | rfl | omega) (by first | rfl | assumption | simp only [*]) (by omega)
              · have hz_36 : ¬ (gp_L s_24 77 (Int.toNat (1280 + x_23))) = 0#64 := fun q => h_34 ((gm_cmp0 _ _).mpr q)
                refine vm_isOver2 _ _ hs_25 (by omega) (by omega) (p_28) (by first | omega | assumption) (by first | omega | assumption) (fun x_37 s_38 hs_39 hf_40 p_41 p_42 => ⟨_, rfl, ?_⟩)
                have hf_43 : gF [86, 98, 99] [36] s s_38 := gF.trans hf_30 hf_40 rfl rfl
                have q_44 := (hf_40.2 81 20 rfl (fun h => absurd h (by decide))).1
                have q_45 : gp_L s_38 74 36 = gp_L s 74 36 := (hf_40.2 74 36 rfl (fun _ => rfl)).2.trans q_32
                refine ⟨fun h_46 => ?_, fun h_46 => ?_⟩
                · refine s_3115_118 _ _ _ _ _ _ ?_
                  try rw [show gp_wr (v6_18 + 1) = v6_18 + 1 from gp_wr_id (by omega) (by omega)]
                  exact ih_18 _ _ _ hs_39 hf_43 p_42 (by omega) (by first | rfl | omega) (by first | rfl | assumption | simp only [*]) (by omega)
                · try rw [q_45]
                  try rw [show gp_wr (1280 + x_23) = 1280 + x_23 from gp_wr_id (by omega) (by omega)]
                  refine ⟨by omega, ?_⟩
                  have b_47 := mr77m hs_39 x_23 (by omega)
                  intro s_48 e_49
                  have hs_50 : MI s_48 := by rw [e_49]; exact mw74_36 hs_39 _
                  have hf_51 : gF [86, 98, 99] [36] s s_48 := by rw [e_49]; exact gF.wL hf_43 (Or.inr ⟨rfl, rfl⟩)
                  have q_52 : gp_I s_48 81 20 = gp_I s_38 81 20 := by rw [e_49] <;> rfl
                  have pd_54 : MDi s_48 := by rw [e_49]; exact MDi_fr p_42 (gF.wL (gF.refl [] [36] _) (Or.inr ⟨rfl, rfl⟩)) rfl rfl rfl rfl rfl rfl rfl
                  exact k _ s_48 hs_50 hf_51 (by omega) (pd_54) (fun _ => by subst_vars; exact lt_turn (by omega) (by assumption) (bd_le (by assumption) (by omega))) (fun h => absurd h (by decide)) (by subst_vars; exact bd_or (bd_and (bd_le q1 (by omega))) (bd_le (by assumption) (by omega))) (fun h => absurd h (by decide))
            · try rw [show gp_wr (v2_2 + 1) = v2_2 + 1 from gp_wr_id (by omega) (by omega)]
              exact ih_2 _ _ _ _ _ _ _ hs_s_18 hf_s_18 MDi_s_18 (by omega) (by first | rfl | omega) (by first | rfl | assumption | simp only [*]) (by omega)
        exact lp_18 _ _ _ _ hs_9 hf_14 p_12 (by omega) (by first | rfl | omega) (by first | rfl | assumption | simp only [*]) (Nat.lt_succ_self _)
      · exact k _ s_2 hs_s_2 hf_s_2 (by omega) (MDi_s_2) (fun h => absurd rfl h) (fun _ => tk1_2) (by rw [tk1_2]; exact bd_le q1 (by omega)) (fun _ => congrArg BitVec.toNat tk1_2)
  exact lp_2 _ _ _ _ _ _ _ _ hs (gF.refl _ _ _) q0 (by omega) (by first | rfl | omega) (by first | rfl | assumption | simp only [*]) (Nat.lt_succ_self _)
set_option maxRecDepth 100000 in
/-- GatheredPointsModel.dropsLeft -/
theorem vm_dropsLeft  {L d : Nat} {K : Option gV → gH → Prop} {s : gH}   (hs : MI s)  (q0 : MDi s) (q1 : bd (gp_L s 74 35) (gp_I s 81 20)) (k : ∀ (r : Int), ∀ (t : gH), MI t → gF [86, 98, 99] [35] s t → (0 ≤ r ∧ r ≤ 1) → (MDi t) → (r ≠ 0 → (gp_L t 74 35).toNat < (gp_L s 74 35).toNat) → (r = 0 → gp_L t 74 35 = gp_L s 74 35) → (bd (gp_L t 74 35) (gp_I t 81 20)) → (r = 0 → (gp_L t 74 35).toNat = (gp_L s 74 35).toNat) → K (some (gp_i r)) t) : gs_C L (d + 573) 3116 5 [gp_r (some 74)] s K := by
  have f_1 := mr81 hs 20
  refine s_3116_e ?_
  have lp_2 : ∀ (n_2 : Nat) (v1_2 : Int) (v2_2 : gV) (v3_2 : gV) (v4_2 : gV) (s_2 : gH), (MI s_2) → (gF [86, 98, 99] [35] s s_2) → (MDi s_2) → (0 ≤ v1_2 ∧ v1_2 ≤ 64) → (gp_I s_2 81 20 = gp_I s 81 20) → (gp_L s_2 74 35 = gp_L s 74 35) → (65 - v1_2).toNat < n_2 → gs_E L (d + 573) 3116 2 [gp_r (some 74), gp_i v1_2, v2_2, v3_2, v4_2] [] s_2 K := by
    intro n_2
    induction n_2 with
    | zero => intro v1_2 v2_2 v3_2 v4_2 s_2 hs_s_2 hf_s_2 MDi_s_2 hv1_2 tk0_2 tk1_2 hm_2; exact absurd hm_2 (Nat.not_lt_zero _)
    | succ n_2 ih_2 =>
      intro v1_2 v2_2 v3_2 v4_2 s_2 hs_s_2 hf_s_2 MDi_s_2 hv1_2 tk0_2 tk1_2 hm_2
      refine s_3116_2 _ _ _ _ ?_
      try rw [tk1_2]
      refine vm_size _ (fun x_3 p_4 p_5 => ⟨_, rfl, ?_⟩)
      refine ⟨fun h_6 => ?_, fun h_6 => ?_⟩
      · try rw [tk1_2]
        refine vm_optioni _ _ hs_s_2 (by omega) (MDi_s_2) (by first | assumption | exact bd_le (by assumption) (by omega) | exact bd_0 _) (by first | omega | assumption) (fun x_7 s_8 hs_9 hf_10 p_11 p_12 p_13 => ⟨_, rfl, ?_⟩)
        have hf_14 : gF [86, 98, 99] [35] s s_8 := gF.trans hf_s_2 hf_10 rfl rfl
        have q_15 := (hf_10.2 81 20 rfl (fun h => absurd h (by decide))).1
        have q_16 : gp_L s_8 74 35 = gp_L s 74 35 := (hf_10.2 74 35 rfl (fun _ => rfl)).2.trans tk1_2
        have hxl := q1 _ (‹BitVec.getLsbD (gp_L s 74 35) _ = true›)
        have lp_17 : ∀ (n_17 : Nat) (v3_17 : Int) (v4_17 : gV) (s_17 : gH), (MI s_17) → (gF [86, 98, 99] [35] s s_17) → (MDi s_17) → (0 ≤ v3_17 ∧ v3_17 ≤ 64) → (gp_I s_17 81 20 = gp_I s_8 81 20) → (gp_L s_17 74 35 = gp_L s 74 35) → (65 - v3_17).toNat < n_17 → gs_E L (d + 573) 3116 27 [gp_r (some 74), gp_i v1_2, gp_i x_7, gp_i v3_17, v4_17] [] s_17 K := by
          intro n_17
          induction n_17 with
          | zero => intro v3_17 v4_17 s_17 hs_s_17 hf_s_17 MDi_s_17 hv3_17 tk0_17 tk1_17 hm_17; exact absurd hm_17 (Nat.not_lt_zero _)
          | succ n_17 ih_17 =>
            intro v3_17 v4_17 s_17 hs_s_17 hf_s_17 MDi_s_17 hv3_17 tk0_17 tk1_17 hm_17
            refine s_3116_27 _ _ _ _ ?_
            have hxm : BitVec.getLsbD (gp_L s 74 35) (Int.toNat x_7) = true := by assumption
            try rw [tk1_17]
            refine vm_size _ (fun x_18 p_19 p_20 => ⟨_, rfl, ?_⟩)
            refine ⟨fun h_21 => ?_, fun h_21 => ?_⟩
            · try rw [tk1_17]
              refine vm_optioni _ _ hs_s_17 (by omega) (MDi_s_17) (by first | assumption | exact bd_le (by assumption) (by omega) | exact bd_0 _) (by first | omega | assumption) (fun x_22 s_23 hs_24 hf_25 p_26 p_27 p_28 => ⟨_, rfl, ?_⟩)
              have hf_29 : gF [86, 98, 99] [35] s s_23 := gF.trans hf_s_17 hf_25 rfl rfl
              have q_30 := (hf_25.2 81 20 rfl (fun h => absurd h (by decide))).1
              have q_31 : gp_L s_23 74 35 = gp_L s 74 35 := (hf_25.2 74 35 rfl (fun _ => rfl)).2.trans tk1_17
              have hyl := q1 (Int.toNat x_22) (by assumption)
              refine ⟨fun h_32 => ?_, fun h_32 => ?_⟩
              · refine s_3116_99 _ _ _ _ ?_
                try rw [show gp_wr (v3_17 + 1) = v3_17 + 1 from gp_wr_id (by omega) (by omega)]
                exact ih_17 _ _ _ hs_24 hf_29 p_27 (by omega) (by first | rfl | omega) (by first | rfl | assumption | simp only [*]) (by omega)
              · refine vm_isOver2 _ _ hs_24 (by omega) (by omega) (p_27) (by first | omega | assumption) (by first | omega | assumption) (fun x_33 s_34 hs_35 hf_36 p_37 p_38 => ⟨_, rfl, ?_⟩)
                have hf_39 : gF [86, 98, 99] [35] s s_34 := gF.trans hf_29 hf_36 rfl rfl
                have q_40 := (hf_36.2 81 20 rfl (fun h => absurd h (by decide))).1
                have q_41 : gp_L s_34 74 35 = gp_L s 74 35 := (hf_36.2 74 35 rfl (fun _ => rfl)).2.trans q_31
                refine ⟨fun h_42 => ?_, fun h_42 => ?_⟩
                · refine s_3116_99 _ _ _ _ ?_
                  try rw [show gp_wr (v3_17 + 1) = v3_17 + 1 from gp_wr_id (by omega) (by omega)]
                  exact ih_17 _ _ _ hs_35 hf_39 p_38 (by omega) (by first | rfl | omega) (by first | rfl | assumption | simp only [*]) (by omega)
                · refine vm_isOver2 _ _ hs_35 (by omega) (by omega) (p_38) (by first | omega | assumption) (by first | omega | assumption) (fun x_43 s_44 hs_45 hf_46 p_47 p_48 => ⟨_, rfl, ?_⟩)
                  have hf_49 : gF [86, 98, 99] [35] s s_44 := gF.trans hf_39 hf_46 rfl rfl
                  have q_50 := (hf_46.2 81 20 rfl (fun h => absurd h (by decide))).1
                  have q_51 : gp_L s_44 74 35 = gp_L s 74 35 := (hf_46.2 74 35 rfl (fun _ => rfl)).2.trans q_41
                  refine ⟨fun h_52 => ?_, fun h_52 => ?_⟩
                  · refine s_3116_81 _ _ _ _ ?_
                    try rw [q_51]
                    intro s_53 e_54
                    have hs_55 : MI s_53 := by rw [e_54]; exact mw74_35 hs_45 _
                    have hf_56 : gF [86, 98, 99] [35] s s_53 := by rw [e_54]; exact gF.wL hf_49 (Or.inr ⟨rfl, rfl⟩)
                    have q_57 : gp_I s_53 81 20 = gp_I s_44 81 20 := by rw [e_54] <;> rfl
                    have pd_59 : MDi s_53 := by rw [e_54]; exact MDi_fr p_48 (gF.wL (gF.refl [] [35] _) (Or.inr ⟨rfl, rfl⟩)) rfl rfl rfl rfl rfl rfl rfl
                    exact k _ s_53 hs_55 hf_56 (by omega) (pd_59) (fun _ => by subst_vars; exact lt_drop (by omega) (by assumption)) (fun h => absurd h (by decide)) (by subst_vars; exact bd_and (bd_le q1 (by omega))) (fun h => absurd h (by decide))
                  · refine ⟨fun h_60 => ?_, fun h_60 => ?_⟩
                    · refine s_3116_81 _ _ _ _ ?_
                      try rw [q_51]
                      intro s_61 e_62
                      have hs_63 : MI s_61 := by rw [e_62]; exact mw74_35 hs_45 _
                      have hf_64 : gF [86, 98, 99] [35] s s_61 := by rw [e_62]; exact gF.wL hf_49 (Or.inr ⟨rfl, rfl⟩)
                      have q_65 : gp_I s_61 81 20 = gp_I s_44 81 20 := by rw [e_62] <;> rfl
                      have pd_67 : MDi s_61 := by rw [e_62]; exact MDi_fr p_48 (gF.wL (gF.refl [] [35] _) (Or.inr ⟨rfl, rfl⟩)) rfl rfl rfl rfl rfl rfl rfl
                      exact k _ s_61 hs_63 hf_64 (by omega) (pd_67) (fun _ => by subst_vars; exact lt_drop (by omega) (by assumption)) (fun h => absurd h (by decide)) (by subst_vars; exact bd_and (bd_le q1 (by omega))) (fun h => absurd h (by decide))
                    · refine s_3116_99 _ _ _ _ ?_
                      try rw [show gp_wr (v3_17 + 1) = v3_17 + 1 from gp_wr_id (by omega) (by omega)]
                      exact ih_17 _ _ _ hs_45 hf_49 p_48 (by omega) (by first | rfl | omega) (by first | rfl | assumption | simp only [*]) (by omega)
            · try rw [show gp_wr (v1_2 + 1) = v1_2 + 1 from gp_wr_id (by omega) (by omega)]
              exact ih_2 _ _ _ _ _ hs_s_17 hf_s_17 MDi_s_17 (by omega) (by first | rfl | omega) (by first | rfl | assumption | simp only [*]) (by omega)
        exact lp_17 _ _ _ _ hs_9 hf_14 p_12 (by omega) (by first | rfl | omega) (by first | rfl | assumption | simp only [*]) (Nat.lt_succ_self _)
      · exact k _ s_2 hs_s_2 hf_s_2 (by omega) (MDi_s_2) (fun h => absurd rfl h) (fun _ => tk1_2) (by rw [tk1_2]; exact bd_le q1 (by omega)) (fun _ => congrArg BitVec.toNat tk1_2)
  exact lp_2 _ _ _ _ _ _ hs (gF.refl _ _ _) q0 (by omega) (by first | rfl | omega) (by first | rfl | assumption | simp only [*]) (Nat.lt_succ_self _)
set_option maxRecDepth 100000 in
/-- GatheredPointsModel.dropsRight -/
theorem vm_dropsRight  {L d : Nat} {K : Option gV → gH → Prop} {s : gH}   (hs : MI s)  (q0 : MDi s) (q1 : bd (gp_L s 74 36) (gp_I s 81 20)) (k : ∀ (r : Int), ∀ (t : gH), MI t → gF [86, 98, 99] [36] s t → (0 ≤ r ∧ r ≤ 1) → (MDi t) → (r ≠ 0 → (gp_L t 74 36).toNat < (gp_L s 74 36).toNat) → (r = 0 → gp_L t 74 36 = gp_L s 74 36) → (bd (gp_L t 74 36) (gp_I t 81 20)) → (r = 0 → (gp_L t 74 36).toNat = (gp_L s 74 36).toNat) → K (some (gp_i r)) t) : gs_C L (d + 573) 3117 5 [gp_r (some 74)] s K := by
  have f_1 := mr81 hs 20
  refine s_3117_e ?_
  have lp_2 : ∀ (n_2 : Nat) (v1_2 : Int) (v2_2 : gV) (v3_2 : gV) (v4_2 : gV) (s_2 : gH), (MI s_2) → (gF [86, 98, 99] [36] s s_2) → (MDi s_2) → (0 ≤ v1_2 ∧ v1_2 ≤ 64) → (gp_I s_2 81 20 = gp_I s 81 20) → (gp_L s_2 74 36 = gp_L s 74 36) → (65 - v1_2).toNat < n_2 → gs_E L (d + 573) 3117 2 [gp_r (some 74), gp_i v1_2, v2_2, v3_2, v4_2] [] s_2 K := by
    intro n_2
    induction n_2 with
    | zero => intro v1_2 v2_2 v3_2 v4_2 s_2 hs_s_2 hf_s_2 MDi_s_2 hv1_2 tk0_2 tk1_2 hm_2; exact absurd hm_2 (Nat.not_lt_zero _)
    | succ n_2 ih_2 =>
      intro v1_2 v2_2 v3_2 v4_2 s_2 hs_s_2 hf_s_2 MDi_s_2 hv1_2 tk0_2 tk1_2 hm_2
      refine s_3117_2 _ _ _ _ ?_
      try rw [tk1_2]
      refine vm_size _ (fun x_3 p_4 p_5 => ⟨_, rfl, ?_⟩)
      refine ⟨fun h_6 => ?_, fun h_6 => ?_⟩
      · try rw [tk1_2]
        refine vm_optioni _ _ hs_s_2 (by omega) (MDi_s_2) (by first | assumption | exact bd_le (by assumption) (by omega) | exact bd_0 _) (by first | omega | assumption) (fun x_7 s_8 hs_9 hf_10 p_11 p_12 p_13 => ⟨_, rfl, ?_⟩)
        have hf_14 : gF [86, 98, 99] [36] s s_8 := gF.trans hf_s_2 hf_10 rfl rfl
        have q_15 := (hf_10.2 81 20 rfl (fun h => absurd h (by decide))).1
        have q_16 : gp_L s_8 74 36 = gp_L s 74 36 := (hf_10.2 74 36 rfl (fun _ => rfl)).2.trans tk1_2
        have hxl := q1 _ (‹BitVec.getLsbD (gp_L s 74 36) _ = true›)
        have lp_17 : ∀ (n_17 : Nat) (v3_17 : Int) (v4_17 : gV) (s_17 : gH), (MI s_17) → (gF [86, 98, 99] [36] s s_17) → (MDi s_17) → (0 ≤ v3_17 ∧ v3_17 ≤ 64) → (gp_I s_17 81 20 = gp_I s_8 81 20) → (gp_L s_17 74 36 = gp_L s 74 36) → (65 - v3_17).toNat < n_17 → gs_E L (d + 573) 3117 27 [gp_r (some 74), gp_i v1_2, gp_i x_7, gp_i v3_17, v4_17] [] s_17 K := by
          intro n_17
          induction n_17 with
          | zero => intro v3_17 v4_17 s_17 hs_s_17 hf_s_17 MDi_s_17 hv3_17 tk0_17 tk1_17 hm_17; exact absurd hm_17 (Nat.not_lt_zero _)
          | succ n_17 ih_17 =>
            intro v3_17 v4_17 s_17 hs_s_17 hf_s_17 MDi_s_17 hv3_17 tk0_17 tk1_17 hm_17
            refine s_3117_27 _ _ _ _ ?_
            have hxm : BitVec.getLsbD (gp_L s 74 36) (Int.toNat x_7) = true := by assumption
            try rw [tk1_17]
            refine vm_size _ (fun x_18 p_19 p_20 => ⟨_, rfl, ?_⟩)
            refine ⟨fun h_21 => ?_, fun h_21 => ?_⟩
            · try rw [tk1_17]
              refine vm_optioni _ _ hs_s_17 (by omega) (MDi_s_17) (by first | assumption | exact bd_le (by assumption) (by omega) | exact bd_0 _) (by first | omega | assumption) (fun x_22 s_23 hs_24 hf_25 p_26 p_27 p_28 => ⟨_, rfl, ?_⟩)
              have hf_29 : gF [86, 98, 99] [36] s s_23 := gF.trans hf_s_17 hf_25 rfl rfl
              have q_30 := (hf_25.2 81 20 rfl (fun h => absurd h (by decide))).1
              have q_31 : gp_L s_23 74 36 = gp_L s 74 36 := (hf_25.2 74 36 rfl (fun _ => rfl)).2.trans tk1_17
              have hyl := q1 (Int.toNat x_22) (by assumption)
              refine ⟨fun h_32 => ?_, fun h_32 => ?_⟩
              · refine s_3117_99 _ _ _ _ ?_
                try rw [show gp_wr (v3_17 + 1) = v3_17 + 1 from gp_wr_id (by omega) (by omega)]
                exact ih_17 _ _ _ hs_24 hf_29 p_27 (by omega) (by first | rfl | omega) (by first | rfl | assumption | simp only [*]) (by omega)
              · refine vm_isOver2 _ _ hs_24 (by omega) (by omega) (p_27) (by first | omega | assumption) (by first | omega | assumption) (fun x_33 s_34 hs_35 hf_36 p_37 p_38 => ⟨_, rfl, ?_⟩)
                have hf_39 : gF [86, 98, 99] [36] s s_34 := gF.trans hf_29 hf_36 rfl rfl
                have q_40 := (hf_36.2 81 20 rfl (fun h => absurd h (by decide))).1
                have q_41 : gp_L s_34 74 36 = gp_L s 74 36 := (hf_36.2 74 36 rfl (fun _ => rfl)).2.trans q_31
                refine ⟨fun h_42 => ?_, fun h_42 => ?_⟩
                · refine s_3117_99 _ _ _ _ ?_
                  try rw [show gp_wr (v3_17 + 1) = v3_17 + 1 from gp_wr_id (by omega) (by omega)]
                  exact ih_17 _ _ _ hs_35 hf_39 p_38 (by omega) (by first | rfl | omega) (by first | rfl | assumption | simp only [*]) (by omega)
                · refine vm_isOver2 _ _ hs_35 (by omega) (by omega) (p_38) (by first | omega | assumption) (by first | omega | assumption) (fun x_43 s_44 hs_45 hf_46 p_47 p_48 => ⟨_, rfl, ?_⟩)
                  have hf_49 : gF [86, 98, 99] [36] s s_44 := gF.trans hf_39 hf_46 rfl rfl
                  have q_50 := (hf_46.2 81 20 rfl (fun h => absurd h (by decide))).1
                  have q_51 : gp_L s_44 74 36 = gp_L s 74 36 := (hf_46.2 74 36 rfl (fun _ => rfl)).2.trans q_41
                  refine ⟨fun h_52 => ?_, fun h_52 => ?_⟩
                  · refine s_3117_81 _ _ _ _ ?_
                    try rw [q_51]
                    intro s_53 e_54
                    have hs_55 : MI s_53 := by rw [e_54]; exact mw74_36 hs_45 _
                    have hf_56 : gF [86, 98, 99] [36] s s_53 := by rw [e_54]; exact gF.wL hf_49 (Or.inr ⟨rfl, rfl⟩)
                    have q_57 : gp_I s_53 81 20 = gp_I s_44 81 20 := by rw [e_54] <;> rfl
                    have pd_59 : MDi s_53 := by rw [e_54]; exact MDi_fr p_48 (gF.wL (gF.refl [] [36] _) (Or.inr ⟨rfl, rfl⟩)) rfl rfl rfl rfl rfl rfl rfl
                    exact k _ s_53 hs_55 hf_56 (by omega) (pd_59) (fun _ => by subst_vars; exact lt_drop (by omega) (by assumption)) (fun h => absurd h (by decide)) (by subst_vars; exact bd_and (bd_le q1 (by omega))) (fun h => absurd h (by decide))
                  · refine ⟨fun h_60 => ?_, fun h_60 => ?_⟩
                    · refine s_3117_81 _ _ _ _ ?_
                      try rw [q_51]
                      intro s_61 e_62
                      have hs_63 : MI s_61 := by rw [e_62]; exact mw74_36 hs_45 _
                      have hf_64 : gF [86, 98, 99] [36] s s_61 := by rw [e_62]; exact gF.wL hf_49 (Or.inr ⟨rfl, rfl⟩)
                      have q_65 : gp_I s_61 81 20 = gp_I s_44 81 20 := by rw [e_62] <;> rfl
                      have pd_67 : MDi s_61 := by rw [e_62]; exact MDi_fr p_48 (gF.wL (gF.refl [] [36] _) (Or.inr ⟨rfl, rfl⟩)) rfl rfl rfl rfl rfl rfl rfl
                      exact k _ s_61 hs_63 hf_64 (by omega) (pd_67) (fun _ => by subst_vars; exact lt_drop (by omega) (by assumption)) (fun h => absurd h (by decide)) (by subst_vars; exact bd_and (bd_le q1 (by omega))) (fun h => absurd h (by decide))
                    · refine s_3117_99 _ _ _ _ ?_
                      try rw [show gp_wr (v3_17 + 1) = v3_17 + 1 from gp_wr_id (by omega) (by omega)]
                      exact ih_17 _ _ _ hs_45 hf_49 p_48 (by omega) (by first | rfl | omega) (by first | rfl | assumption | simp only [*]) (by omega)
            · try rw [show gp_wr (v1_2 + 1) = v1_2 + 1 from gp_wr_id (by omega) (by omega)]
              exact ih_2 _ _ _ _ _ hs_s_17 hf_s_17 MDi_s_17 (by omega) (by first | rfl | omega) (by first | rfl | assumption | simp only [*]) (by omega)
        exact lp_17 _ _ _ _ hs_9 hf_14 p_12 (by omega) (by first | rfl | omega) (by first | rfl | assumption | simp only [*]) (Nat.lt_succ_self _)
      · exact k _ s_2 hs_s_2 hf_s_2 (by omega) (MDi_s_2) (fun h => absurd rfl h) (fun _ => tk1_2) (by rw [tk1_2]; exact bd_le q1 (by omega)) (fun _ => congrArg BitVec.toNat tk1_2)
  exact lp_2 _ _ _ _ _ _ hs (gF.refl _ _ _) q0 (by omega) (by first | rfl | omega) (by first | rfl | assumption | simp only [*]) (Nat.lt_succ_self _)
