set_option maxRecDepth 100000 in
/-- GatheredPointsModel.option -/
theorem vm_option_g  {L d : Nat} {K : Option gV → gH → Prop} {s : gH}  (p0 : Int) (p1 : BitVec 64) (p2 : Int) (hs : MI s) (h_p0 : 0 ≤ p0 ∧ p0 ≤ 19) (h_p2 : 0 ≤ p2 ∧ p2 ≤ 63) (q0 : p2 < (gm_cnt p1 64 : Nat)) (k : ∀ (r : Int), (0 ≤ r ∧ r ≤ 63) → (p1.getLsbD r.toNat = true) → K (some (gp_i r)) s) : gs_C L (d + 2) 3092 8 [gp_r (some 74), gp_i p0, gp_l p1, gp_i p2] s K := by
  refine s_3092_e _ _ _ ?_
  refine ⟨fun h_1 => ?_, fun h_1 => ?_⟩
  · exfalso; omega
  · refine vm_inSet _ _ (fun x_2 p_3 p_4 => ⟨_, rfl, ?_⟩)
    have hh : 0 ≤ x_2 := by have := ‹(_ = -1 ∧ _) ∨ _›; rcases this with h | h; exact absurd ⟨by omega, by omega⟩ h.2; exact h.1
    exact k _ (by omega) (by have := ‹(_ = -1 ∧ _) ∨ _›; rcases this with h | h; exact absurd ⟨by omega, by omega⟩ h.2; exact h.2.1)
def OG (m : Nat) : Prop := ∀ (L D : Nat) (K : Option gV → gH → Prop) (s : gH)  (p0 : Int) (p1 : Int) (p2 : Int) (p3 : Int), ((3 * m + 2 ≤ D)) → (MI s) → (0 ≤ p0 ∧ p0 ≤ 19) → (0 ≤ p1 ∧ p1 ≤ 63) → (0 ≤ p2 ∧ p2 ≤ 19) → (0 ≤ p3 ∧ p3 ≤ 63) → (p1 < m) → (p3 < m) → (∀ (r : Int), ∀ (t : gH), MI t → gF [86] [] s t → ((-1) ≤ r ∧ r ≤ 1) → K (some (gp_i r)) t) → gs_C L D 3090 9 [gp_r (some 74), gp_i p0, gp_i p1, gp_i p2, gp_i p3] s K
def SG (m : Nat) : Prop := ∀ (L D : Nat) (K : Option gV → gH → Prop) (s : gH)  (p0 : Int) (p1 : BitVec 64) (p2 : Int) (p3 : Int) (p4 : BitVec 64) (p5 : Int), ((3 * m + 4 ≤ D)) → (MI s) → (0 ≤ p0 ∧ p0 ≤ 19) → (0 ≤ p3 ∧ p3 ≤ 19) → (bd p1 m) → (bd p4 m) → (∀ (r : Int), ∀ (t : gH), MI t → gF [86] [] s t → ((-1) ≤ r ∧ r ≤ 1) → K (some (gp_i r)) t) → gs_C L D 3091 13 [gp_r (some 74), gp_i p0, gp_l p1, gp_i p2, gp_i p3, gp_l p4, gp_i p5] s K
set_option maxRecDepth 100000 in
/-- GatheredPointsModel.orderOfSides -/
theorem vm_sides_g (m : Nat) (ihO : OG m) : SG m := by
  intro L D K s p0 p1 p2 p3 p4 p5 hD hs h_p0 h_p3 q0 q1 k
  obtain ⟨d, rfl⟩ : ∃ d, D = d + 4 := ⟨D - 4, by omega⟩
  refine s_3091_e _ _ _ _ _ _ ?_
  refine ⟨fun h_1 => ?_, fun h_1 => ?_⟩
  · have hz_2 : p1 = 0#64 := (gm_cmp0 _ _).mp h_1
    refine ⟨fun h_3 => ?_, fun h_3 => ?_⟩
    · have hz_4 : p4 = 0#64 := (gm_cmp0 _ _).mp h_3
      refine ⟨fun h_5 => ?_, fun h_5 => ?_⟩
      · refine s_3091_36 _ _ _ _ _ _ _ _ _ _ _ ?_
        exact k _ s hs (gF.refl _ _ _) (by omega)
      · refine ⟨fun h_6 => ?_, fun h_6 => ?_⟩
        · refine s_3091_36 _ _ _ _ _ _ _ _ _ _ _ ?_
          exact k _ s hs (gF.refl _ _ _) (by omega)
        · refine s_3091_36 _ _ _ _ _ _ _ _ _ _ _ ?_
          exact k _ s hs (gF.refl _ _ _) (by omega)
    · have hz_7 : ¬ p4 = 0#64 := fun q => h_3 ((gm_cmp0 _ _).mpr q)
      refine s_3091_37 _ _ _ _ _ _ _ _ _ _ ?_
      refine vm_size _ (fun x_8 p_9 p_10 => ⟨_, rfl, ?_⟩)
      refine vm_size _ (fun x_11 p_12 p_13 => ⟨_, rfl, ?_⟩)
      have jn73_17 : ∀ (j_15 : Int), ((-1) ≤ j_15 ∧ j_15 ≤ 1) → ((j_15 = 0 → x_8 = x_11)) → gs_E L (d + 4) 3091 73 [gp_r (some 74), gp_i p0, gp_l p1, gp_n, gp_i p2, gp_i p3, gp_l p4, gp_n, gp_i p5, gp_i x_8, gp_i x_11, gp_n, gp_n] [gp_i j_15] s K := by
        intro j_15 hj_16 ij_17
        refine s_3091_73 _ _ _ _ _ _ _ _ _ _ _ ?_
        have lp_19 : ∀ (n_19 : Nat) (v11_19 : Int) (v12_19 : Int) (s_19 : gH), (MI s_19) → (gF [86] [] s s_19) → ((-1) ≤ v11_19 ∧ v11_19 ≤ 1) → (0 ≤ v12_19 ∧ v12_19 ≤ 64) → ((v11_19 = 0 → x_8 = x_11)) → (65 - v12_19).toNat < n_19 → gs_E L (d + 4) 3091 78 [gp_r (some 74), gp_i p0, gp_l p1, gp_n, gp_i p2, gp_i p3, gp_l p4, gp_n, gp_i p5, gp_i x_8, gp_i x_11, gp_i v11_19, gp_i v12_19] [] s_19 K := by
          intro n_19
          induction n_19 with
          | zero => intro v11_19 v12_19 s_19 hs_s_19 hf_s_19 hv11_19 hv12_19 iv0_19 hm_19; exact absurd hm_19 (Nat.not_lt_zero _)
          | succ n_19 ih_19 =>
            intro v11_19 v12_19 s_19 hs_s_19 hf_s_19 hv11_19 hv12_19 iv0_19 hm_19
            refine s_3091_78 _ _ _ _ _ _ _ _ _ _ ?_
            refine ⟨fun h_20 => ?_, fun h_20 => ?_⟩
            · refine ⟨fun h_21 => ?_, fun h_21 => ?_⟩
              · refine vm_option_g _ _ _ hs_s_19 (by omega) (by omega) (by first | omega | assumption) (fun x_22 p_23 p_24 => ⟨_, rfl, ?_⟩)
                refine vm_option_g _ _ _ hs_s_19 (by omega) (by omega) (by first | omega | assumption) (fun x_25 p_26 p_27 => ⟨_, rfl, ?_⟩)
                have hb1 := q1 (Int.toNat x_25) (by assumption)
                have hb2 := q0 (Int.toNat x_22) (by assumption)
                refine ihO _ _ _ _ _ _ _ _ (by omega) hs_s_19 (by omega) (by omega) (by omega) (by omega) (by first | omega | assumption) (by first | omega | assumption) (fun x_28 s_29 hs_30 hf_31 p_32 => ⟨_, rfl, ?_⟩)
                have hf_33 : gF [86] [] s s_29 := gF.trans hf_s_19 hf_31 rfl rfl
                try rw [show gp_wr (v12_19 + 1) = v12_19 + 1 from gp_wr_id (by omega) (by omega)]
                exact ih_19 _ _ _ hs_30 hf_33 (by omega) (by omega) (by first | omega | assumption) (by omega)
              · refine s_3091_123 _ _ _ _ _ _ _ _ _ _ ?_
                exact k _ s_19 hs_s_19 hf_s_19 (by omega)
            · refine s_3091_123 _ _ _ _ _ _ _ _ _ _ ?_
              exact k _ s_19 hs_s_19 hf_s_19 (by omega)
        exact lp_19 _ _ _ _ hs (gF.refl _ _ _) (by omega) (by omega) (by first | omega | assumption) (Nat.lt_succ_self _)
      refine ⟨fun h_14 => ?_, fun h_14 => ?_⟩
      · exact jn73_17 _ (by omega) (by first | omega | assumption)
      · refine ⟨fun h_34 => ?_, fun h_34 => ?_⟩
        · exact jn73_17 _ (by omega) (by first | omega | assumption)
        · exact jn73_17 _ (by omega) (by first | omega | assumption)
  · have hz_35 : ¬ p1 = 0#64 := fun q => h_1 ((gm_cmp0 _ _).mpr q)
    refine s_3091_37 _ _ _ _ _ _ _ _ _ _ ?_
    refine vm_size _ (fun x_36 p_37 p_38 => ⟨_, rfl, ?_⟩)
    refine vm_size _ (fun x_39 p_40 p_41 => ⟨_, rfl, ?_⟩)
    have jn73_45 : ∀ (j_43 : Int), ((-1) ≤ j_43 ∧ j_43 ≤ 1) → ((j_43 = 0 → x_36 = x_39)) → gs_E L (d + 4) 3091 73 [gp_r (some 74), gp_i p0, gp_l p1, gp_n, gp_i p2, gp_i p3, gp_l p4, gp_n, gp_i p5, gp_i x_36, gp_i x_39, gp_n, gp_n] [gp_i j_43] s K := by
      intro j_43 hj_44 ij_45
      refine s_3091_73 _ _ _ _ _ _ _ _ _ _ _ ?_
      have lp_47 : ∀ (n_47 : Nat) (v11_47 : Int) (v12_47 : Int) (s_47 : gH), (MI s_47) → (gF [86] [] s s_47) → ((-1) ≤ v11_47 ∧ v11_47 ≤ 1) → (0 ≤ v12_47 ∧ v12_47 ≤ 64) → ((v11_47 = 0 → x_36 = x_39)) → (65 - v12_47).toNat < n_47 → gs_E L (d + 4) 3091 78 [gp_r (some 74), gp_i p0, gp_l p1, gp_n, gp_i p2, gp_i p3, gp_l p4, gp_n, gp_i p5, gp_i x_36, gp_i x_39, gp_i v11_47, gp_i v12_47] [] s_47 K := by
        intro n_47
        induction n_47 with
        | zero => intro v11_47 v12_47 s_47 hs_s_47 hf_s_47 hv11_47 hv12_47 iv0_47 hm_47; exact absurd hm_47 (Nat.not_lt_zero _)
        | succ n_47 ih_47 =>
          intro v11_47 v12_47 s_47 hs_s_47 hf_s_47 hv11_47 hv12_47 iv0_47 hm_47
          refine s_3091_78 _ _ _ _ _ _ _ _ _ _ ?_
          refine ⟨fun h_48 => ?_, fun h_48 => ?_⟩
          · refine ⟨fun h_49 => ?_, fun h_49 => ?_⟩
            · refine vm_option_g _ _ _ hs_s_47 (by omega) (by omega) (by first | omega | assumption) (fun x_50 p_51 p_52 => ⟨_, rfl, ?_⟩)
              refine vm_option_g _ _ _ hs_s_47 (by omega) (by omega) (by first | omega | assumption) (fun x_53 p_54 p_55 => ⟨_, rfl, ?_⟩)
              have hb1 := q1 (Int.toNat x_53) (by assumption)
              have hb2 := q0 (Int.toNat x_50) (by assumption)
              refine ihO _ _ _ _ _ _ _ _ (by omega) hs_s_47 (by omega) (by omega) (by omega) (by omega) (by first | omega | assumption) (by first | omega | assumption) (fun x_56 s_57 hs_58 hf_59 p_60 => ⟨_, rfl, ?_⟩)
              have hf_61 : gF [86] [] s s_57 := gF.trans hf_s_47 hf_59 rfl rfl
              try rw [show gp_wr (v12_47 + 1) = v12_47 + 1 from gp_wr_id (by omega) (by omega)]
              exact ih_47 _ _ _ hs_58 hf_61 (by omega) (by omega) (by first | omega | assumption) (by omega)
            · refine s_3091_123 _ _ _ _ _ _ _ _ _ _ ?_
              exact k _ s_47 hs_s_47 hf_s_47 (by omega)
          · refine s_3091_123 _ _ _ _ _ _ _ _ _ _ ?_
            exact k _ s_47 hs_s_47 hf_s_47 (by omega)
      exact lp_47 _ _ _ _ hs (gF.refl _ _ _) (by omega) (by omega) (by first | omega | assumption) (Nat.lt_succ_self _)
    refine ⟨fun h_42 => ?_, fun h_42 => ?_⟩
    · exact jn73_45 _ (by omega) (by first | omega | assumption)
    · refine ⟨fun h_62 => ?_, fun h_62 => ?_⟩
      · exact jn73_45 _ (by omega) (by first | omega | assumption)
      · exact jn73_45 _ (by omega) (by first | omega | assumption)
set_option maxRecDepth 100000 in
/-- GatheredPointsModel.order -/
theorem vm_order_g (m : Nat) (ihS : SG m) : OG (m + 1) := by
  intro L D K s p0 p1 p2 p3 hD hs h_p0 h_p1 h_p2 h_p3 q0 q1 k
  obtain ⟨d, rfl⟩ : ∃ d, D = d + 4 := ⟨D - 4, by omega⟩
  have f_1 := mr86 hs (Int.toNat (64 * p1 + p3))
  refine s_3090_e _ _ _ _ ?_
  try rw [show gp_wr (64 * p1) = 64 * p1 from gp_wr_id (by omega) (by omega)]
  try rw [show gp_wr ((64 * p1) + p3) = (64 * p1) + p3 from gp_wr_id (by omega) (by omega)]
  refine ⟨by omega, ?_⟩
  have f_2 := mr86 hs (Int.toNat ((64 * p1) + p3))
  refine ⟨fun h_3 => ?_, fun h_3 => ?_⟩
  · try rw [show gp_wr (64 * p0) = 64 * p0 from gp_wr_id (by omega) (by omega)]
    try rw [show gp_wr ((64 * p0) + p1) = (64 * p0) + p1 from gp_wr_id (by omega) (by omega)]
    refine ⟨by omega, ?_⟩
    have f_4 := mr80 hs (Int.toNat ((64 * p0) + p1))
    try rw [show gp_wr (64 * p2) = 64 * p2 from gp_wr_id (by omega) (by omega)]
    try rw [show gp_wr ((64 * p2) + p3) = (64 * p2) + p3 from gp_wr_id (by omega) (by omega)]
    refine ⟨by omega, ?_⟩
    have f_5 := mr80 hs (Int.toNat ((64 * p2) + p3))
    have jn65_8 : ∀ (j_7 : Int), ((-1) ≤ j_7 ∧ j_7 ≤ 1) → gs_E L (d + 4) 3090 65 [gp_r (some 74), gp_i p0, gp_i p1, gp_i p2, gp_i p3, gp_i (gp_I s 80 (Int.toNat ((64 * p0) + p1))), gp_i (gp_I s 80 (Int.toNat ((64 * p2) + p3))), gp_n, gp_n] [gp_i j_7] s K := by
      intro j_7 hj_8
      refine s_3090_65 _ _ _ _ _ _ _ _ _ ?_
      have lp_10 : ∀ (n_10 : Nat) (v7_10 : Int) (v8_10 : Int) (s_10 : gH), (MI s_10) → (gF [86] [] s s_10) → ((-1) ≤ v7_10 ∧ v7_10 ≤ 1) → (0 ≤ v8_10 ∧ v8_10 ≤ 2) → (3 - v8_10).toNat < n_10 → gs_E L (d + 4) 3090 70 [gp_r (some 74), gp_i p0, gp_i p1, gp_i p2, gp_i p3, gp_i (gp_I s 80 (Int.toNat ((64 * p0) + p1))), gp_i (gp_I s 80 (Int.toNat ((64 * p2) + p3))), gp_i v7_10, gp_i v8_10] [] s_10 K := by
        intro n_10
        induction n_10 with
        | zero => intro v7_10 v8_10 s_10 hs_s_10 hf_s_10 hv7_10 hv8_10 hm_10; exact absurd hm_10 (Nat.not_lt_zero _)
        | succ n_10 ih_10 =>
          intro v7_10 v8_10 s_10 hs_s_10 hf_s_10 hv7_10 hv8_10 hm_10
          refine s_3090_70 _ _ _ _ _ _ _ _ ?_
          have jn129_11 : gs_E L (d + 4) 3090 129 [gp_r (some 74), gp_i p0, gp_i p1, gp_i p2, gp_i p3, gp_i (gp_I s 80 (Int.toNat ((64 * p0) + p1))), gp_i (gp_I s 80 (Int.toNat ((64 * p2) + p3))), gp_i v7_10, gp_i v8_10] [] s_10 K := by
            refine s_3090_129 _ _ _ _ _ _ _ _ ?_
            try rw [show gp_wr (64 * p1) = 64 * p1 from gp_wr_id (by omega) (by omega)]
            try rw [show gp_wr ((64 * p1) + p3) = (64 * p1) + p3 from gp_wr_id (by omega) (by omega)]
            try rw [show gp_wr (2 + v7_10) = 2 + v7_10 from gp_wr_id (by omega) (by omega)]
            refine ⟨by omega, ?_⟩
            intro s_13 e_14
            have hs_15 : MI s_13 := by rw [e_14]; exact mw86 hs_s_10 _ _ (by omega)
            have hf_16 : gF [86] [] s s_13 := by rw [e_14]; exact gF.wI hf_s_10 (Or.inl rfl)
            have q_17 := gz_rw s_10 86 (Int.toNat ((64 * p1) + p3)) (Int.toNat (64 * p1 + p3)) (2 + v7_10); rw [← e_14] at q_17
            refine s_3090_145 _ _ _ _ _ _ _ _ ?_
            try rw [show gp_wr (64 * p1) = 64 * p1 from gp_wr_id (by omega) (by omega)]
            try rw [show gp_wr ((64 * p1) + p3) = (64 * p1) + p3 from gp_wr_id (by omega) (by omega)]
            refine ⟨by omega, ?_⟩
            have f_18 := mr86 hs_15 (Int.toNat ((64 * p1) + p3))
            try rw [show gp_wr ((gp_I s_13 86 (Int.toNat ((64 * p1) + p3))) - 2) = (gp_I s_13 86 (Int.toNat ((64 * p1) + p3))) - 2 from gp_wr_id (by omega) (by omega)]
            exact k _ s_13 hs_15 hf_16 (by omega)
          refine ⟨fun h_11 => ?_, fun h_11 => ?_⟩
          · refine ⟨fun h_19 => ?_, fun h_19 => ?_⟩
            · refine vm_sideOf _ _ _ hs_s_10 (by omega) (by omega) (fun m_20 p_21 p_22 p_23 p_24 => ⟨_, rfl, ?_⟩)
              refine vm_shut _ _ _ hs_s_10 (by omega) (by omega) (fun x_25 p_26 p_27 => ⟨_, rfl, ?_⟩)
              refine vm_sideOf _ _ _ hs_s_10 (by omega) (by omega) (fun m_28 p_29 p_30 p_31 p_32 => ⟨_, rfl, ?_⟩)
              refine vm_shut _ _ _ hs_s_10 (by omega) (by omega) (fun x_33 p_34 p_35 => ⟨_, rfl, ?_⟩)
              refine ihS _ _ _ _ _ _ _ _ _ _ (by omega) hs_s_10 (by omega) (by omega) (by first | assumption | exact bd_le (by assumption) (by omega) | exact bd_0 _) (by first | assumption | exact bd_le (by assumption) (by omega) | exact bd_0 _) (fun x_36 s_37 hs_38 hf_39 p_40 => ⟨_, rfl, ?_⟩)
              have hf_41 : gF [86] [] s s_37 := gF.trans hf_s_10 hf_39 rfl rfl
              try rw [show gp_wr (v8_10 + 1) = v8_10 + 1 from gp_wr_id (by omega) (by omega)]
              exact ih_10 _ _ _ hs_38 hf_41 (by omega) (by omega) (by omega)
            · exact jn129_11
          · exact jn129_11
      exact lp_10 _ _ _ _ hs (gF.refl _ _ _) (by omega) (by omega) (Nat.lt_succ_self _)
    refine ⟨fun h_6 => ?_, fun h_6 => ?_⟩
    · exact jn65_8 _ (by omega)
    · refine ⟨fun h_42 => ?_, fun h_42 => ?_⟩
      · exact jn65_8 _ (by omega)
      · exact jn65_8 _ (by omega)
  · refine s_3090_145 _ _ _ _ _ _ _ _ ?_
    try rw [show gp_wr (64 * p1) = 64 * p1 from gp_wr_id (by omega) (by omega)]
    try rw [show gp_wr ((64 * p1) + p3) = (64 * p1) + p3 from gp_wr_id (by omega) (by omega)]
    refine ⟨by omega, ?_⟩
    have f_43 := mr86 hs (Int.toNat ((64 * p1) + p3))
    try rw [show gp_wr ((gp_I s 86 (Int.toNat ((64 * p1) + p3))) - 2) = (gp_I s 86 (Int.toNat ((64 * p1) + p3))) - 2 from gp_wr_id (by omega) (by omega)]
    exact k _ s hs (gF.refl _ _ _) (by omega)
