def OM (m : Nat) : Prop := ∀ (L D : Nat) (K : Option gV → gH → Prop) (s : gH) (n : Nat) (o : Nat → Nat → Int) (p1 : Int) (p3 : Int), ((3 * m + 2 ≤ D)) → (MI s) → (0 ≤ p1 ∧ p1 ≤ 63) → (0 ≤ p3 ∧ p3 ≤ 63) → (MS s n o) → (MC s n o) → ((m : Int) ≤ n) → ((n : Int) ≤ 60) → (p1 < m) → (p3 < m) → (∀ (r : Int), ∀ (t : gH), MI t → gF [86] [] s t → ((-1) ≤ r ∧ r ≤ 1) → (MS t n o) → (MC t n o) → (r = o p1.toNat p3.toNat) → K (some (gp_i r)) t) → gs_C L D 3090 9 [gp_r (some 74), gp_i 20, gp_i p1, gp_i 20, gp_i p3] s K
def PM (m : Nat) : Prop := ∀ (L D : Nat) (K : Option gV → gH → Prop) (s : gH) (n : Nat) (o : Nat → Nat → Int) (p1 : BitVec 64) (p2 : Int), ((3 * m + 3 ≤ D)) → (MI s) → (0 ≤ p2 ∧ p2 ≤ 63) → (MS s n o) → (MC s n o) → ((m : Int) ≤ n) → ((n : Int) ≤ 60) → (bd p1 m) → (p2 < (gm_cnt p1 64 : Nat)) → (∀ (r : Int), ∀ (t : gH), MI t → gF [86] [] s t → (0 ≤ r ∧ r ≤ 63) → (MS t n o) → (MC t n o) → (isop o p1 p2.toNat r.toNat) → K (some (gp_i r)) t) → gs_C L D 3092 8 [gp_r (some 74), gp_i 20, gp_l p1, gp_i p2] s K
def SM (m : Nat) : Prop := ∀ (L D : Nat) (K : Option gV → gH → Prop) (s : gH) (n : Nat) (o : Nat → Nat → Int) (p1 : BitVec 64) (p2 : Int) (p4 : BitVec 64) (p5 : Int), ((3 * m + 4 ≤ D)) → (MI s) → (MS s n o) → (MC s n o) → ((m : Int) ≤ n) → ((n : Int) ≤ 60) → (bd p1 m) → (bd p4 m) → (∀ (r : Int), ∀ (t : gH), MI t → gF [86] [] s t → ((-1) ≤ r ∧ r ≤ 1) → (MS t n o) → (MC t n o) → (r = cs o p1 p2 p4 p5) → K (some (gp_i r)) t) → gs_C L D 3091 13 [gp_r (some 74), gp_i 20, gp_l p1, gp_i p2, gp_i 20, gp_l p4, gp_i p5] s K
set_option maxRecDepth 100000 in
/-- GatheredPointsModel.option -/
theorem vm_option_m (m : Nat) (ihO : OM m) : PM m := by
  intro L D K s n o p1 p2 hD hs h_p2 q0 q1 q2 q3 q4 q5 k
  obtain ⟨d, rfl⟩ : ∃ d, D = d + 3 := ⟨D - 3, by omega⟩
  refine s_3092_e _ _ _ ?_
  refine ⟨fun h_1 => ?_, fun h_1 => ?_⟩
  · have lp_2 : ∀ (n_2 : Nat) (v5_2 : Int) (v6_2 : gV) (v7_2 : gV) (s_2 : gH), (MI s_2) → (gF [86] [] s s_2) → (0 ≤ v5_2 ∧ v5_2 ≤ 64) → (MS s_2 n o) → (MC s_2 n o) → (∀ w : Nat, (w : Int) < v5_2 → p1.getLsbD w = true → (rkb o p1 64 w : Nat) ≠ p2.toNat) → (65 - v5_2).toNat < n_2 → gs_E L (d + 3) 3092 16 [gp_r (some 74), gp_i 20, gp_l p1, gp_n, gp_i p2, gp_i v5_2, v6_2, v7_2] [] s_2 K := by
      intro n_2
      induction n_2 with
      | zero => intro v5_2 v6_2 v7_2 s_2 hs_s_2 hf_s_2 hv5_2 iv0_2 iv1_2 iv2_2 hm_2; exact absurd hm_2 (Nat.not_lt_zero _)
      | succ n_2 ih_2 =>
        intro v5_2 v6_2 v7_2 s_2 hs_s_2 hf_s_2 hv5_2 iv0_2 iv1_2 iv2_2 hm_2
        refine s_3092_16 _ _ _ _ _ _ ?_
        refine ⟨fun h_3 => ?_, fun h_3 => ?_⟩
        · refine vm_has _ _ (by omega) (fun x_4 p_5 p_6 => ⟨_, rfl, ?_⟩)
          refine ⟨fun h_7 => ?_, fun h_7 => ?_⟩
          · have hb_8 := hasF p_6 h_7
            refine s_3092_105 _ _ _ _ _ _ ?_
            try rw [show gp_wr (v5_2 + 1) = v5_2 + 1 from gp_wr_id (by omega) (by omega)]
            exact ih_2 _ _ _ _ hs_s_2 hf_s_2 (by omega) (by assumption) (by assumption) (nx_step (by omega) (by assumption) (by first | (left; assumption) | (right; rw [show (64 : Nat) = Int.toNat v7_2 by omega]; omega))) (by omega)
          · have hb_9 := hasT p_6 h_7
            have lp_10 : ∀ (n_10 : Nat) (v6_10 : Int) (v7_10 : Int) (s_10 : gH), (MI s_10) → (gF [86] [] s s_10) → (0 ≤ v6_10 ∧ v6_10 ≤ 64) → (0 ≤ v7_10 ∧ v7_10 ≤ 64) → (MS s_10 n o) → (MC s_10 n o) → (v6_10 = (rkb o p1 (Int.toNat v7_10) (Int.toNat v5_2) : Nat)) → (65 - v7_10).toNat < n_10 → gs_E L (d + 3) 3092 41 [gp_r (some 74), gp_i 20, gp_l p1, gp_n, gp_i p2, gp_i v5_2, gp_i v6_10, gp_i v7_10] [] s_10 K := by
              intro n_10
              induction n_10 with
              | zero => intro v6_10 v7_10 s_10 hs_s_10 hf_s_10 hv6_10 hv7_10 iv0_10 iv1_10 iv2_10 hm_10; exact absurd hm_10 (Nat.not_lt_zero _)
              | succ n_10 ih_10 =>
                intro v6_10 v7_10 s_10 hs_s_10 hf_s_10 hv6_10 hv7_10 iv0_10 iv1_10 iv2_10 hm_10
                refine s_3092_41 _ _ _ _ _ _ ?_
                have hbx := q4 (Int.toNat v5_2) (by assumption)
                have hrk := rkb_k o p1 (Int.toNat v7_10) (Int.toNat v5_2)
                refine ⟨fun h_11 => ?_, fun h_11 => ?_⟩
                · refine vm_has _ _ (by omega) (fun x_12 p_13 p_14 => ⟨_, rfl, ?_⟩)
                  refine ⟨fun h_15 => ?_, fun h_15 => ?_⟩
                  · have hb_16 := hasF p_14 h_15
                    refine s_3092_85 _ _ _ _ _ _ _ ?_
                    refine s_3092_86 _ _ _ _ _ _ _ _ ?_
                    try rw [show gp_wr (v6_10 + 0) = v6_10 + 0 from gp_wr_id (by omega) (by omega)]
                    try rw [show gp_wr (v7_10 + 1) = v7_10 + 1 from gp_wr_id (by omega) (by omega)]
                    exact ih_10 _ _ _ hs_s_10 hf_s_10 (by omega) (by omega) (by assumption) (by assumption) (by first | (refine rk_c0 ?_ ?_ ?_ <;> first | omega | assumption) | (refine rk_c1 ?_ ?_ ?_ <;> first | omega | assumption) | (refine rk_c2 q0.1 ?_ ?_ ?_ ?_ <;> first | omega | assumption) | (refine rk_c3 ?_ ?_ ?_ ?_ <;> first | omega | assumption)) (by omega)
                  · have hb_17 := hasT p_14 h_15
                    refine ⟨fun h_18 => ?_, fun h_18 => ?_⟩
                    · refine s_3092_85 _ _ _ _ _ _ _ ?_
                      refine s_3092_86 _ _ _ _ _ _ _ _ ?_
                      try rw [show gp_wr (v6_10 + 0) = v6_10 + 0 from gp_wr_id (by omega) (by omega)]
                      try rw [show gp_wr (v7_10 + 1) = v7_10 + 1 from gp_wr_id (by omega) (by omega)]
                      exact ih_10 _ _ _ hs_s_10 hf_s_10 (by omega) (by omega) (by assumption) (by assumption) (by first | (refine rk_c0 ?_ ?_ ?_ <;> first | omega | assumption) | (refine rk_c1 ?_ ?_ ?_ <;> first | omega | assumption) | (refine rk_c2 q0.1 ?_ ?_ ?_ ?_ <;> first | omega | assumption) | (refine rk_c3 ?_ ?_ ?_ ?_ <;> first | omega | assumption)) (by omega)
                    · have hb1 := q4 (Int.toNat v5_2) (by assumption)
                      have hb2 := q4 (Int.toNat v7_10) (by assumption)
                      refine ihO _ _ _ _ n o _ _ (by omega) hs_s_10 (by omega) (by omega) (by assumption) (by assumption) (by first | omega | assumption) (by first | omega | assumption) (by first | omega | assumption) (by first | omega | assumption) (fun x_19 s_20 hs_21 hf_22 p_23 p_24 p_25 p_26 => ⟨_, rfl, ?_⟩)
                      have hf_27 : gF [86] [] s s_20 := gF.trans hf_s_10 hf_22 rfl rfl
                      refine ⟨fun h_28 => ?_, fun h_28 => ?_⟩
                      · refine s_3092_86 _ _ _ _ _ _ _ _ ?_
                        try rw [show gp_wr (v6_10 + 1) = v6_10 + 1 from gp_wr_id (by omega) (by omega)]
                        try rw [show gp_wr (v7_10 + 1) = v7_10 + 1 from gp_wr_id (by omega) (by omega)]
                        exact ih_10 _ _ _ hs_21 hf_27 (by omega) (by omega) (by assumption) (by assumption) (by first | (refine rk_c0 ?_ ?_ ?_ <;> first | omega | assumption) | (refine rk_c1 ?_ ?_ ?_ <;> first | omega | assumption) | (refine rk_c2 q0.1 ?_ ?_ ?_ ?_ <;> first | omega | assumption) | (refine rk_c3 ?_ ?_ ?_ ?_ <;> first | omega | assumption)) (by omega)
                      · refine s_3092_85 _ _ _ _ _ _ _ ?_
                        refine s_3092_86 _ _ _ _ _ _ _ _ ?_
                        try rw [show gp_wr (v6_10 + 0) = v6_10 + 0 from gp_wr_id (by omega) (by omega)]
                        try rw [show gp_wr (v7_10 + 1) = v7_10 + 1 from gp_wr_id (by omega) (by omega)]
                        exact ih_10 _ _ _ hs_21 hf_27 (by omega) (by omega) (by assumption) (by assumption) (by first | (refine rk_c0 ?_ ?_ ?_ <;> first | omega | assumption) | (refine rk_c1 ?_ ?_ ?_ <;> first | omega | assumption) | (refine rk_c2 q0.1 ?_ ?_ ?_ ?_ <;> first | omega | assumption) | (refine rk_c3 ?_ ?_ ?_ ?_ <;> first | omega | assumption)) (by omega)
                · refine ⟨fun h_29 => ?_, fun h_29 => ?_⟩
                  · exact k _ s_10 hs_s_10 hf_s_10 (by omega) (by assumption) (by assumption) (⟨by assumption, by rw [show (64 : Nat) = Int.toNat v7_10 by omega]; omega⟩)
                  · refine s_3092_105 _ _ _ _ _ _ ?_
                    try rw [show gp_wr (v5_2 + 1) = v5_2 + 1 from gp_wr_id (by omega) (by omega)]
                    exact ih_2 _ _ _ _ hs_s_10 hf_s_10 (by omega) (by assumption) (by assumption) (nx_step (by omega) (by assumption) (by first | (left; assumption) | (right; rw [show (64 : Nat) = Int.toNat v7_10 by omega]; omega))) (by omega)
            exact lp_10 _ _ _ _ hs_s_2 hf_s_2 (by omega) (by omega) (by assumption) (by assumption) (rfl) (Nat.lt_succ_self _)
        · obtain ⟨w, hw⟩ := isop_ex q0.1 (bd_le q4 (by omega)) (i := p2.toNat) (by omega)
          exact absurd hw.2 (iv2_2 w (by have := BitVec.lt_of_getLsbD hw.1; omega) hw.1)
    exact lp_2 _ _ _ _ _ hs (gF.refl _ _ _) (by omega) (by assumption) (by assumption) (fun w hw => absurd hw (by omega)) (Nat.lt_succ_self _)
  · exfalso; omega
set_option maxRecDepth 100000 in
/-- GatheredPointsModel.orderOfSides -/
theorem vm_sides_m (m : Nat) (ihO : OM m) (ihP : PM m) : SM m := by
  intro L D K s n o p1 p2 p4 p5 hD hs q0 q1 q2 q3 q4 q5 k
  obtain ⟨d, rfl⟩ : ∃ d, D = d + 4 := ⟨D - 4, by omega⟩
  refine s_3091_e _ _ _ _ _ _ ?_
  refine ⟨fun h_1 => ?_, fun h_1 => ?_⟩
  · have hz_2 : p1 = 0#64 := (gm_cmp0 _ _).mp h_1
    refine ⟨fun h_3 => ?_, fun h_3 => ?_⟩
    · have hz_4 : p4 = 0#64 := (gm_cmp0 _ _).mp h_3
      have hz := cs_00 o p2 p5 ((gm_cmp0 p1 0#64).mp (by assumption)) ((gm_cmp0 p4 0#64).mp (by assumption))
      refine ⟨fun h_5 => ?_, fun h_5 => ?_⟩
      · refine s_3091_36 _ _ _ _ _ _ _ _ _ _ _ ?_
        exact k _ s hs (gF.refl _ _ _) (by omega) (by assumption) (by assumption) (by first | omega | assumption)
      · refine ⟨fun h_6 => ?_, fun h_6 => ?_⟩
        · refine s_3091_36 _ _ _ _ _ _ _ _ _ _ _ ?_
          exact k _ s hs (gF.refl _ _ _) (by omega) (by assumption) (by assumption) (by first | omega | assumption)
        · refine s_3091_36 _ _ _ _ _ _ _ _ _ _ _ ?_
          exact k _ s hs (gF.refl _ _ _) (by omega) (by assumption) (by assumption) (by first | omega | assumption)
    · have hz_7 : ¬ p4 = 0#64 := fun q => h_3 ((gm_cmp0 _ _).mpr q)
      refine s_3091_37 _ _ _ _ _ _ _ _ _ _ ?_
      have hne : ¬ (p1 = 0#64 ∧ p4 = 0#64) := by rintro ⟨rfl, rfl⟩; exact absurd (show gp_cmp (0#64) (0#64) = 0 by decide) (by assumption)
      refine vm_size _ (fun x_8 p_9 p_10 => ⟨_, rfl, ?_⟩)
      refine vm_size _ (fun x_11 p_12 p_13 => ⟨_, rfl, ?_⟩)
      have hc1 := cs_cnt o p1 p2 p4 p5
      have hl0 : lx o p1 p4 (Int.toNat 0) = 0 := rfl
      have jn73_17 : ∀ (j_15 : Int), ((-1) ≤ j_15 ∧ j_15 ≤ 1) → (((j_15 = 0 ∧ x_8 = x_11) ∨ (j_15 ≠ 0 ∧ x_8 ≠ x_11 ∧ j_15 = cs o p1 p2 p4 p5))) → gs_E L (d + 4) 3091 73 [gp_r (some 74), gp_i 20, gp_l p1, gp_n, gp_i p2, gp_i 20, gp_l p4, gp_n, gp_i p5, gp_i x_8, gp_i x_11, gp_n, gp_n] [gp_i j_15] s K := by
        intro j_15 hj_16 ij_17
        refine s_3091_73 _ _ _ _ _ _ _ _ _ _ _ ?_
        have lp_19 : ∀ (n_19 : Nat) (v11_19 : Int) (v12_19 : Int) (s_19 : gH), (MI s_19) → (gF [86] [] s s_19) → ((-1) ≤ v11_19 ∧ v11_19 ≤ 1) → (0 ≤ v12_19 ∧ v12_19 ≤ 64) → (MS s_19 n o) → (MC s_19 n o) → (((x_8 = x_11 ∧ v12_19 ≤ x_8 ∧ v11_19 = lx o p1 p4 (Int.toNat v12_19)) ∨ (x_8 ≠ x_11 ∧ v11_19 ≠ 0 ∧ v11_19 = cs o p1 p2 p4 p5))) → (65 - v12_19).toNat < n_19 → gs_E L (d + 4) 3091 78 [gp_r (some 74), gp_i 20, gp_l p1, gp_n, gp_i p2, gp_i 20, gp_l p4, gp_n, gp_i p5, gp_i x_8, gp_i x_11, gp_i v11_19, gp_i v12_19] [] s_19 K := by
          intro n_19
          induction n_19 with
          | zero => intro v11_19 v12_19 s_19 hs_s_19 hf_s_19 hv11_19 hv12_19 iv0_19 iv1_19 iv2_19 hm_19; exact absurd hm_19 (Nat.not_lt_zero _)
          | succ n_19 ih_19 =>
            intro v11_19 v12_19 s_19 hs_s_19 hf_s_19 hv11_19 hv12_19 iv0_19 iv1_19 iv2_19 hm_19
            refine s_3091_78 _ _ _ _ _ _ _ _ _ _ ?_
            refine ⟨fun h_20 => ?_, fun h_20 => ?_⟩
            · refine ⟨fun h_21 => ?_, fun h_21 => ?_⟩
              · refine ihP _ _ _ _ n o _ _ (by omega) hs_s_19 (by omega) (by assumption) (by assumption) (by first | omega | assumption) (by first | omega | assumption) (by first | assumption | exact bd_le (by assumption) (by omega) | exact bd_0 _) (by first | omega | assumption) (fun x_22 s_23 hs_24 hf_25 p_26 p_27 p_28 p_29 => ⟨_, rfl, ?_⟩)
                have hf_30 : gF [86] [] s s_23 := gF.trans hf_s_19 hf_25 rfl rfl
                refine ihP _ _ _ _ n o _ _ (by omega) hs_24 (by omega) (by assumption) (by assumption) (by first | omega | assumption) (by first | omega | assumption) (by first | assumption | exact bd_le (by assumption) (by omega) | exact bd_0 _) (by first | omega | assumption) (fun x_31 s_32 hs_33 hf_34 p_35 p_36 p_37 p_38 => ⟨_, rfl, ?_⟩)
                have hf_39 : gF [86] [] s s_32 := gF.trans hf_30 hf_34 rfl rfl
                have hb1 := q5 (Int.toNat x_31) (by have := ‹isop o p4 _ _›; exact this.1)
                have hb2 := q4 (Int.toNat x_22) (by have := ‹isop o p1 _ _›; exact this.1)
                refine ihO _ _ _ _ n o _ _ (by omega) hs_33 (by omega) (by omega) (by assumption) (by assumption) (by first | omega | assumption) (by first | omega | assumption) (by first | omega | assumption) (by first | omega | assumption) (fun x_40 s_41 hs_42 hf_43 p_44 p_45 p_46 p_47 => ⟨_, rfl, ?_⟩)
                have hf_48 : gF [86] [] s s_41 := gF.trans hf_39 hf_43 rfl rfl
                have hk : x_40 = lx o p1 p4 (Int.toNat (v12_19 + 1)) := lx_step q0.1 (bd_le q4 (by omega)) (bd_le q5 (by omega)) (by omega) (by assumption) (by assumption) (by omega) (by assumption)
                try rw [show gp_wr (v12_19 + 1) = v12_19 + 1 from gp_wr_id (by omega) (by omega)]
                exact ih_19 _ _ _ hs_42 hf_48 (by omega) (by omega) (by assumption) (by assumption) (by first | omega | assumption) (by omega)
              · refine s_3091_123 _ _ _ _ _ _ _ _ _ _ ?_
                exact k _ s_19 hs_s_19 hf_s_19 (by omega) (by assumption) (by assumption) (by rcases ‹(_ = _ ∧ _ ≤ _ ∧ _) ∨ _› with h0 | h0; exact sides_fin hne (by omega) (by omega) (by omega) h0.2.1 h0.2.2 (by omega); exact h0.2.2)
            · refine s_3091_123 _ _ _ _ _ _ _ _ _ _ ?_
              exact k _ s_19 hs_s_19 hf_s_19 (by omega) (by assumption) (by assumption) (by rcases ‹(_ = _ ∧ _ ≤ _ ∧ _) ∨ _› with h0 | h0; exact sides_fin hne (by omega) (by omega) (by omega) h0.2.1 h0.2.2 (by omega); exact h0.2.2)
        exact lp_19 _ _ _ _ hs (gF.refl _ _ _) (by omega) (by omega) (by assumption) (by assumption) (by first | omega | assumption) (Nat.lt_succ_self _)
      refine ⟨fun h_14 => ?_, fun h_14 => ?_⟩
      · exact jn73_17 _ (by omega) (by first | omega | assumption)
      · refine ⟨fun h_49 => ?_, fun h_49 => ?_⟩
        · exact jn73_17 _ (by omega) (by first | omega | assumption)
        · exact jn73_17 _ (by omega) (by first | omega | assumption)
  · have hz_50 : ¬ p1 = 0#64 := fun q => h_1 ((gm_cmp0 _ _).mpr q)
    refine s_3091_37 _ _ _ _ _ _ _ _ _ _ ?_
    have hne : ¬ (p1 = 0#64 ∧ p4 = 0#64) := by rintro ⟨rfl, rfl⟩; exact absurd (show gp_cmp (0#64) (0#64) = 0 by decide) (by assumption)
    refine vm_size _ (fun x_51 p_52 p_53 => ⟨_, rfl, ?_⟩)
    refine vm_size _ (fun x_54 p_55 p_56 => ⟨_, rfl, ?_⟩)
    have hc1 := cs_cnt o p1 p2 p4 p5
    have hl0 : lx o p1 p4 (Int.toNat 0) = 0 := rfl
    have jn73_60 : ∀ (j_58 : Int), ((-1) ≤ j_58 ∧ j_58 ≤ 1) → (((j_58 = 0 ∧ x_51 = x_54) ∨ (j_58 ≠ 0 ∧ x_51 ≠ x_54 ∧ j_58 = cs o p1 p2 p4 p5))) → gs_E L (d + 4) 3091 73 [gp_r (some 74), gp_i 20, gp_l p1, gp_n, gp_i p2, gp_i 20, gp_l p4, gp_n, gp_i p5, gp_i x_51, gp_i x_54, gp_n, gp_n] [gp_i j_58] s K := by
      intro j_58 hj_59 ij_60
      refine s_3091_73 _ _ _ _ _ _ _ _ _ _ _ ?_
      have lp_62 : ∀ (n_62 : Nat) (v11_62 : Int) (v12_62 : Int) (s_62 : gH), (MI s_62) → (gF [86] [] s s_62) → ((-1) ≤ v11_62 ∧ v11_62 ≤ 1) → (0 ≤ v12_62 ∧ v12_62 ≤ 64) → (MS s_62 n o) → (MC s_62 n o) → (((x_51 = x_54 ∧ v12_62 ≤ x_51 ∧ v11_62 = lx o p1 p4 (Int.toNat v12_62)) ∨ (x_51 ≠ x_54 ∧ v11_62 ≠ 0 ∧ v11_62 = cs o p1 p2 p4 p5))) → (65 - v12_62).toNat < n_62 → gs_E L (d + 4) 3091 78 [gp_r (some 74), gp_i 20, gp_l p1, gp_n, gp_i p2, gp_i 20, gp_l p4, gp_n, gp_i p5, gp_i x_51, gp_i x_54, gp_i v11_62, gp_i v12_62] [] s_62 K := by
        intro n_62
        induction n_62 with
        | zero => intro v11_62 v12_62 s_62 hs_s_62 hf_s_62 hv11_62 hv12_62 iv0_62 iv1_62 iv2_62 hm_62; exact absurd hm_62 (Nat.not_lt_zero _)
        | succ n_62 ih_62 =>
          intro v11_62 v12_62 s_62 hs_s_62 hf_s_62 hv11_62 hv12_62 iv0_62 iv1_62 iv2_62 hm_62
          refine s_3091_78 _ _ _ _ _ _ _ _ _ _ ?_
          refine ⟨fun h_63 => ?_, fun h_63 => ?_⟩
          · refine ⟨fun h_64 => ?_, fun h_64 => ?_⟩
            · refine ihP _ _ _ _ n o _ _ (by omega) hs_s_62 (by omega) (by assumption) (by assumption) (by first | omega | assumption) (by first | omega | assumption) (by first | assumption | exact bd_le (by assumption) (by omega) | exact bd_0 _) (by first | omega | assumption) (fun x_65 s_66 hs_67 hf_68 p_69 p_70 p_71 p_72 => ⟨_, rfl, ?_⟩)
              have hf_73 : gF [86] [] s s_66 := gF.trans hf_s_62 hf_68 rfl rfl
              refine ihP _ _ _ _ n o _ _ (by omega) hs_67 (by omega) (by assumption) (by assumption) (by first | omega | assumption) (by first | omega | assumption) (by first | assumption | exact bd_le (by assumption) (by omega) | exact bd_0 _) (by first | omega | assumption) (fun x_74 s_75 hs_76 hf_77 p_78 p_79 p_80 p_81 => ⟨_, rfl, ?_⟩)
              have hf_82 : gF [86] [] s s_75 := gF.trans hf_73 hf_77 rfl rfl
              have hb1 := q5 (Int.toNat x_74) (by have := ‹isop o p4 _ _›; exact this.1)
              have hb2 := q4 (Int.toNat x_65) (by have := ‹isop o p1 _ _›; exact this.1)
              refine ihO _ _ _ _ n o _ _ (by omega) hs_76 (by omega) (by omega) (by assumption) (by assumption) (by first | omega | assumption) (by first | omega | assumption) (by first | omega | assumption) (by first | omega | assumption) (fun x_83 s_84 hs_85 hf_86 p_87 p_88 p_89 p_90 => ⟨_, rfl, ?_⟩)
              have hf_91 : gF [86] [] s s_84 := gF.trans hf_82 hf_86 rfl rfl
              have hk : x_83 = lx o p1 p4 (Int.toNat (v12_62 + 1)) := lx_step q0.1 (bd_le q4 (by omega)) (bd_le q5 (by omega)) (by omega) (by assumption) (by assumption) (by omega) (by assumption)
              try rw [show gp_wr (v12_62 + 1) = v12_62 + 1 from gp_wr_id (by omega) (by omega)]
              exact ih_62 _ _ _ hs_85 hf_91 (by omega) (by omega) (by assumption) (by assumption) (by first | omega | assumption) (by omega)
            · refine s_3091_123 _ _ _ _ _ _ _ _ _ _ ?_
              exact k _ s_62 hs_s_62 hf_s_62 (by omega) (by assumption) (by assumption) (by rcases ‹(_ = _ ∧ _ ≤ _ ∧ _) ∨ _› with h0 | h0; exact sides_fin hne (by omega) (by omega) (by omega) h0.2.1 h0.2.2 (by omega); exact h0.2.2)
          · refine s_3091_123 _ _ _ _ _ _ _ _ _ _ ?_
            exact k _ s_62 hs_s_62 hf_s_62 (by omega) (by assumption) (by assumption) (by rcases ‹(_ = _ ∧ _ ≤ _ ∧ _) ∨ _› with h0 | h0; exact sides_fin hne (by omega) (by omega) (by omega) h0.2.1 h0.2.2 (by omega); exact h0.2.2)
      exact lp_62 _ _ _ _ hs (gF.refl _ _ _) (by omega) (by omega) (by assumption) (by assumption) (by first | omega | assumption) (Nat.lt_succ_self _)
    refine ⟨fun h_57 => ?_, fun h_57 => ?_⟩
    · exact jn73_60 _ (by omega) (by first | omega | assumption)
    · refine ⟨fun h_92 => ?_, fun h_92 => ?_⟩
      · exact jn73_60 _ (by omega) (by first | omega | assumption)
      · exact jn73_60 _ (by omega) (by first | omega | assumption)
set_option maxRecDepth 100000 in
/-- GatheredPointsModel.order -/
theorem vm_order_m (m : Nat) (ihS : SM m) : OM (m + 1) := by
  intro L D K s n o p1 p3 hD hs h_p1 h_p3 q0 q1 q2 q3 q4 q5 k
  obtain ⟨d, rfl⟩ : ∃ d, D = d + 4 := ⟨D - 4, by omega⟩
  have f_1 := mr86 hs (Int.toNat (64 * p1 + p3))
  refine s_3090_e _ _ _ _ ?_
  have hc0 := MC_r q1 (f := p1) (e := p3) (by omega) (by omega)
  try rw [show gp_wr (64 * p1) = 64 * p1 from gp_wr_id (by omega) (by omega)]
  try rw [show gp_wr ((64 * p1) + p3) = (64 * p1) + p3 from gp_wr_id (by omega) (by omega)]
  refine ⟨by omega, ?_⟩
  have f_2 := mr86 hs (Int.toNat ((64 * p1) + p3))
  refine ⟨fun h_3 => ?_, fun h_3 => ?_⟩
  · try rw [show gp_wr (64 * 20) = 64 * 20 from gp_wr_id (by omega) (by omega)]
    try rw [show gp_wr ((64 * 20) + p1) = (64 * 20) + p1 from gp_wr_id (by omega) (by omega)]
    refine ⟨by omega, ?_⟩
    have f_4 := mr80 hs (Int.toNat ((64 * 20) + p1))
    try rw [show gp_wr (64 * 20) = 64 * 20 from gp_wr_id (by omega) (by omega)]
    try rw [show gp_wr ((64 * 20) + p3) = (64 * 20) + p3 from gp_wr_id (by omega) (by omega)]
    refine ⟨by omega, ?_⟩
    have f_5 := mr80 hs (Int.toNat ((64 * 20) + p3))
    refine ⟨fun h_6 => ?_, fun h_6 => ?_⟩
    · refine s_3090_65 _ _ _ _ _ _ _ _ _ ?_
      have hk0 : (-1) = ckp o s p1.toNat p3.toNat (Int.toNat 0) := by show _ = if gp_I s 80 (1280 + p1.toNat) < gp_I s 80 (1280 + p3.toNat) then (-1 : Int) else if gp_I s 80 (1280 + p3.toNat) < gp_I s 80 (1280 + p1.toNat) then 1 else 0; rw [← ix20 (f := p1) (by omega), ← ix20 (f := p3) (by omega)]; split <;> (try split) <;> omega
      have lp_7 : ∀ (n_7 : Nat) (v7_7 : Int) (v8_7 : Int) (s_7 : gH), (MI s_7) → (gF [86] [] s s_7) → ((-1) ≤ v7_7 ∧ v7_7 ≤ (-1)) → (0 ≤ v8_7 ∧ v8_7 ≤ 0) → (MS s_7 n o) → (MC s_7 n o) → (v7_7 = ckp o s p1.toNat p3.toNat (Int.toNat v8_7)) → (1 - v8_7).toNat < n_7 → gs_E L (d + 4) 3090 70 [gp_r (some 74), gp_i 20, gp_i p1, gp_i 20, gp_i p3, gp_i (gp_I s 80 (Int.toNat ((64 * 20) + p1))), gp_i (gp_I s 80 (Int.toNat ((64 * 20) + p3))), gp_i v7_7, gp_i v8_7] [] s_7 K := by
        intro n_7
        induction n_7 with
        | zero => intro v7_7 v8_7 s_7 hs_s_7 hf_s_7 hv7_7 hv8_7 iv0_7 iv1_7 iv2_7 hm_7; exact absurd hm_7 (Nat.not_lt_zero _)
        | succ n_7 ih_7 =>
          intro v7_7 v8_7 s_7 hs_s_7 hf_s_7 hv7_7 hv8_7 iv0_7 iv1_7 iv2_7 hm_7
          refine s_3090_70 _ _ _ _ _ _ _ _ ?_
          refine ⟨fun h_8 => ?_, fun h_8 => ?_⟩
          · refine ⟨fun h_9 => ?_, fun h_9 => ?_⟩
            · exfalso; omega
            · refine s_3090_129 _ _ _ _ _ _ _ _ ?_
              have ho := ord_fin q0 (p1 := p1) (p3 := p3) (v7 := v7_7) (v8 := v8_7) (by omega) (by omega) (by assumption) (by omega)
              try rw [show gp_wr (64 * p1) = 64 * p1 from gp_wr_id (by omega) (by omega)]
              try rw [show gp_wr ((64 * p1) + p3) = (64 * p1) + p3 from gp_wr_id (by omega) (by omega)]
              try rw [show gp_wr (2 + v7_7) = 2 + v7_7 from gp_wr_id (by omega) (by omega)]
              refine ⟨by omega, ?_⟩
              intro s_10 e_11
              have hs_12 : MI s_10 := by rw [e_11]; exact mw86 hs_s_7 _ _ (by omega)
              have hf_13 : gF [86] [] s s_10 := by rw [e_11]; exact gF.wI hf_s_7 (Or.inl rfl)
              have q_14 := gz_rw s_7 86 (Int.toNat ((64 * p1) + p3)) (Int.toNat (64 * p1 + p3)) (2 + v7_7); rw [← e_11] at q_14
              refine s_3090_145 _ _ _ _ _ _ _ _ ?_
              try rw [show gp_wr (64 * p1) = 64 * p1 from gp_wr_id (by omega) (by omega)]
              try rw [show gp_wr ((64 * p1) + p3) = (64 * p1) + p3 from gp_wr_id (by omega) (by omega)]
              refine ⟨by omega, ?_⟩
              have f_15 := mr86 hs_12 (Int.toNat ((64 * p1) + p3))
              try rw [show gp_wr ((gp_I s_10 86 (Int.toNat ((64 * p1) + p3))) - 2) = (gp_I s_10 86 (Int.toNat ((64 * p1) + p3))) - 2 from gp_wr_id (by omega) (by omega)]
              exact k _ s_10 hs_12 hf_13 (by omega) (by first | assumption | (subst_vars; assumption)) (by first | assumption | (subst_vars; refine MC_w ‹MC _ n o› ⟨?_, ?_⟩ ⟨?_, ?_⟩ ?_ ?_ <;> first | omega | assumption)) (by first | omega | assumption)
          · exfalso; omega
      exact lp_7 _ _ _ _ hs (gF.refl _ _ _) (by omega) (by omega) (by assumption) (by assumption) (by first | omega | assumption) (Nat.lt_succ_self _)
    · refine ⟨fun h_16 => ?_, fun h_16 => ?_⟩
      · refine s_3090_65 _ _ _ _ _ _ _ _ _ ?_
        have hk0 : 1 = ckp o s p1.toNat p3.toNat (Int.toNat 0) := by show _ = if gp_I s 80 (1280 + p1.toNat) < gp_I s 80 (1280 + p3.toNat) then (-1 : Int) else if gp_I s 80 (1280 + p3.toNat) < gp_I s 80 (1280 + p1.toNat) then 1 else 0; rw [← ix20 (f := p1) (by omega), ← ix20 (f := p3) (by omega)]; split <;> (try split) <;> omega
        have lp_17 : ∀ (n_17 : Nat) (v7_17 : Int) (v8_17 : Int) (s_17 : gH), (MI s_17) → (gF [86] [] s s_17) → (1 ≤ v7_17 ∧ v7_17 ≤ 1) → (0 ≤ v8_17 ∧ v8_17 ≤ 0) → (MS s_17 n o) → (MC s_17 n o) → (v7_17 = ckp o s p1.toNat p3.toNat (Int.toNat v8_17)) → (1 - v8_17).toNat < n_17 → gs_E L (d + 4) 3090 70 [gp_r (some 74), gp_i 20, gp_i p1, gp_i 20, gp_i p3, gp_i (gp_I s 80 (Int.toNat ((64 * 20) + p1))), gp_i (gp_I s 80 (Int.toNat ((64 * 20) + p3))), gp_i v7_17, gp_i v8_17] [] s_17 K := by
          intro n_17
          induction n_17 with
          | zero => intro v7_17 v8_17 s_17 hs_s_17 hf_s_17 hv7_17 hv8_17 iv0_17 iv1_17 iv2_17 hm_17; exact absurd hm_17 (Nat.not_lt_zero _)
          | succ n_17 ih_17 =>
            intro v7_17 v8_17 s_17 hs_s_17 hf_s_17 hv7_17 hv8_17 iv0_17 iv1_17 iv2_17 hm_17
            refine s_3090_70 _ _ _ _ _ _ _ _ ?_
            refine ⟨fun h_18 => ?_, fun h_18 => ?_⟩
            · refine ⟨fun h_19 => ?_, fun h_19 => ?_⟩
              · exfalso; omega
              · refine s_3090_129 _ _ _ _ _ _ _ _ ?_
                have ho := ord_fin q0 (p1 := p1) (p3 := p3) (v7 := v7_17) (v8 := v8_17) (by omega) (by omega) (by assumption) (by omega)
                try rw [show gp_wr (64 * p1) = 64 * p1 from gp_wr_id (by omega) (by omega)]
                try rw [show gp_wr ((64 * p1) + p3) = (64 * p1) + p3 from gp_wr_id (by omega) (by omega)]
                try rw [show gp_wr (2 + v7_17) = 2 + v7_17 from gp_wr_id (by omega) (by omega)]
                refine ⟨by omega, ?_⟩
                intro s_20 e_21
                have hs_22 : MI s_20 := by rw [e_21]; exact mw86 hs_s_17 _ _ (by omega)
                have hf_23 : gF [86] [] s s_20 := by rw [e_21]; exact gF.wI hf_s_17 (Or.inl rfl)
                have q_24 := gz_rw s_17 86 (Int.toNat ((64 * p1) + p3)) (Int.toNat (64 * p1 + p3)) (2 + v7_17); rw [← e_21] at q_24
                refine s_3090_145 _ _ _ _ _ _ _ _ ?_
                try rw [show gp_wr (64 * p1) = 64 * p1 from gp_wr_id (by omega) (by omega)]
                try rw [show gp_wr ((64 * p1) + p3) = (64 * p1) + p3 from gp_wr_id (by omega) (by omega)]
                refine ⟨by omega, ?_⟩
                have f_25 := mr86 hs_22 (Int.toNat ((64 * p1) + p3))
                try rw [show gp_wr ((gp_I s_20 86 (Int.toNat ((64 * p1) + p3))) - 2) = (gp_I s_20 86 (Int.toNat ((64 * p1) + p3))) - 2 from gp_wr_id (by omega) (by omega)]
                exact k _ s_20 hs_22 hf_23 (by omega) (by first | assumption | (subst_vars; assumption)) (by first | assumption | (subst_vars; refine MC_w ‹MC _ n o› ⟨?_, ?_⟩ ⟨?_, ?_⟩ ?_ ?_ <;> first | omega | assumption)) (by first | omega | assumption)
            · exfalso; omega
        exact lp_17 _ _ _ _ hs (gF.refl _ _ _) (by omega) (by omega) (by assumption) (by assumption) (by first | omega | assumption) (Nat.lt_succ_self _)
      · refine s_3090_65 _ _ _ _ _ _ _ _ _ ?_
        have hk0 : 0 = ckp o s p1.toNat p3.toNat (Int.toNat 0) := by show _ = if gp_I s 80 (1280 + p1.toNat) < gp_I s 80 (1280 + p3.toNat) then (-1 : Int) else if gp_I s 80 (1280 + p3.toNat) < gp_I s 80 (1280 + p1.toNat) then 1 else 0; rw [← ix20 (f := p1) (by omega), ← ix20 (f := p3) (by omega)]; split <;> (try split) <;> omega
        have lp_26 : ∀ (n_26 : Nat) (v7_26 : Int) (v8_26 : Int) (s_26 : gH), (MI s_26) → (gF [86] [] s s_26) → ((-1) ≤ v7_26 ∧ v7_26 ≤ 1) → (0 ≤ v8_26 ∧ v8_26 ≤ 2) → (MS s_26 n o) → (MC s_26 n o) → (v7_26 = ckp o s p1.toNat p3.toNat (Int.toNat v8_26)) → (3 - v8_26).toNat < n_26 → gs_E L (d + 4) 3090 70 [gp_r (some 74), gp_i 20, gp_i p1, gp_i 20, gp_i p3, gp_i (gp_I s 80 (Int.toNat ((64 * 20) + p1))), gp_i (gp_I s 80 (Int.toNat ((64 * 20) + p3))), gp_i v7_26, gp_i v8_26] [] s_26 K := by
          intro n_26
          induction n_26 with
          | zero => intro v7_26 v8_26 s_26 hs_s_26 hf_s_26 hv7_26 hv8_26 iv0_26 iv1_26 iv2_26 hm_26; exact absurd hm_26 (Nat.not_lt_zero _)
          | succ n_26 ih_26 =>
            intro v7_26 v8_26 s_26 hs_s_26 hf_s_26 hv7_26 hv8_26 iv0_26 iv1_26 iv2_26 hm_26
            refine s_3090_70 _ _ _ _ _ _ _ _ ?_
            refine ⟨fun h_27 => ?_, fun h_27 => ?_⟩
            · refine ⟨fun h_28 => ?_, fun h_28 => ?_⟩
              · refine vm_sideOf _ _ _ hs_s_26 (by omega) (by omega) (fun m_29 p_30 p_31 p_32 p_33 => ⟨_, rfl, ?_⟩)
                refine vm_shut _ _ _ hs_s_26 (by omega) (by omega) (fun x_34 p_35 p_36 => ⟨_, rfl, ?_⟩)
                refine vm_sideOf _ _ _ hs_s_26 (by omega) (by omega) (fun m_37 p_38 p_39 p_40 p_41 => ⟨_, rfl, ?_⟩)
                refine vm_shut _ _ _ hs_s_26 (by omega) (by omega) (fun x_42 p_43 p_44 => ⟨_, rfl, ?_⟩)
                refine ihS _ _ _ _ n o _ _ _ _ (by omega) hs_s_26 (by assumption) (by assumption) (by first | omega | assumption) (by first | omega | assumption) (by first | assumption | exact bd_le (by assumption) (by omega) | exact bd_0 _) (by first | assumption | exact bd_le (by assumption) (by omega) | exact bd_0 _) (fun x_45 s_46 hs_47 hf_48 p_49 p_50 p_51 p_52 => ⟨_, rfl, ?_⟩)
                have hf_53 : gF [86] [] s s_46 := gF.trans hf_s_26 hf_48 rfl rfl
                have hk : x_45 = ckp o s p1.toNat p3.toNat (Int.toNat (v8_26 + 1)) := (‹x_45 = cs o _ _ _ _›).trans (ckp_step hf_s_26 rfl rfl rfl rfl (by assumption) (by assumption) (by assumption) (by assumption) (by assumption) (by assumption) (by assumption) (by assumption) (by omega) (by omega) (by omega) (by omega))
                try rw [show gp_wr (v8_26 + 1) = v8_26 + 1 from gp_wr_id (by omega) (by omega)]
                exact ih_26 _ _ _ hs_47 hf_53 (by omega) (by omega) (by assumption) (by assumption) (by first | omega | assumption) (by omega)
              · refine s_3090_129 _ _ _ _ _ _ _ _ ?_
                have ho := ord_fin q0 (p1 := p1) (p3 := p3) (v7 := v7_26) (v8 := v8_26) (by omega) (by omega) (by assumption) (by omega)
                try rw [show gp_wr (64 * p1) = 64 * p1 from gp_wr_id (by omega) (by omega)]
                try rw [show gp_wr ((64 * p1) + p3) = (64 * p1) + p3 from gp_wr_id (by omega) (by omega)]
                try rw [show gp_wr (2 + v7_26) = 2 + v7_26 from gp_wr_id (by omega) (by omega)]
                refine ⟨by omega, ?_⟩
                intro s_54 e_55
                have hs_56 : MI s_54 := by rw [e_55]; exact mw86 hs_s_26 _ _ (by omega)
                have hf_57 : gF [86] [] s s_54 := by rw [e_55]; exact gF.wI hf_s_26 (Or.inl rfl)
                have q_58 := gz_rw s_26 86 (Int.toNat ((64 * p1) + p3)) (Int.toNat (64 * p1 + p3)) (2 + v7_26); rw [← e_55] at q_58
                refine s_3090_145 _ _ _ _ _ _ _ _ ?_
                try rw [show gp_wr (64 * p1) = 64 * p1 from gp_wr_id (by omega) (by omega)]
                try rw [show gp_wr ((64 * p1) + p3) = (64 * p1) + p3 from gp_wr_id (by omega) (by omega)]
                refine ⟨by omega, ?_⟩
                have f_59 := mr86 hs_56 (Int.toNat ((64 * p1) + p3))
                try rw [show gp_wr ((gp_I s_54 86 (Int.toNat ((64 * p1) + p3))) - 2) = (gp_I s_54 86 (Int.toNat ((64 * p1) + p3))) - 2 from gp_wr_id (by omega) (by omega)]
                exact k _ s_54 hs_56 hf_57 (by omega) (by first | assumption | (subst_vars; assumption)) (by first | assumption | (subst_vars; refine MC_w ‹MC _ n o› ⟨?_, ?_⟩ ⟨?_, ?_⟩ ?_ ?_ <;> first | omega | assumption)) (by first | omega | assumption)
            · refine s_3090_129 _ _ _ _ _ _ _ _ ?_
              have ho := ord_fin q0 (p1 := p1) (p3 := p3) (v7 := v7_26) (v8 := v8_26) (by omega) (by omega) (by assumption) (by omega)
              try rw [show gp_wr (64 * p1) = 64 * p1 from gp_wr_id (by omega) (by omega)]
              try rw [show gp_wr ((64 * p1) + p3) = (64 * p1) + p3 from gp_wr_id (by omega) (by omega)]
              try rw [show gp_wr (2 + v7_26) = 2 + v7_26 from gp_wr_id (by omega) (by omega)]
              refine ⟨by omega, ?_⟩
              intro s_60 e_61
              have hs_62 : MI s_60 := by rw [e_61]; exact mw86 hs_s_26 _ _ (by omega)
              have hf_63 : gF [86] [] s s_60 := by rw [e_61]; exact gF.wI hf_s_26 (Or.inl rfl)
              have q_64 := gz_rw s_26 86 (Int.toNat ((64 * p1) + p3)) (Int.toNat (64 * p1 + p3)) (2 + v7_26); rw [← e_61] at q_64
              refine s_3090_145 _ _ _ _ _ _ _ _ ?_
              try rw [show gp_wr (64 * p1) = 64 * p1 from gp_wr_id (by omega) (by omega)]
              try rw [show gp_wr ((64 * p1) + p3) = (64 * p1) + p3 from gp_wr_id (by omega) (by omega)]
              refine ⟨by omega, ?_⟩
              have f_65 := mr86 hs_62 (Int.toNat ((64 * p1) + p3))
              try rw [show gp_wr ((gp_I s_60 86 (Int.toNat ((64 * p1) + p3))) - 2) = (gp_I s_60 86 (Int.toNat ((64 * p1) + p3))) - 2 from gp_wr_id (by omega) (by omega)]
              exact k _ s_60 hs_62 hf_63 (by omega) (by first | assumption | (subst_vars; assumption)) (by first | assumption | (subst_vars; refine MC_w ‹MC _ n o› ⟨?_, ?_⟩ ⟨?_, ?_⟩ ?_ ?_ <;> first | omega | assumption)) (by first | omega | assumption)
        exact lp_26 _ _ _ _ hs (gF.refl _ _ _) (by omega) (by omega) (by assumption) (by assumption) (by first | omega | assumption) (Nat.lt_succ_self _)
  · refine s_3090_145 _ _ _ _ _ _ _ _ ?_
    try rw [show gp_wr (64 * p1) = 64 * p1 from gp_wr_id (by omega) (by omega)]
    try rw [show gp_wr ((64 * p1) + p3) = (64 * p1) + p3 from gp_wr_id (by omega) (by omega)]
    refine ⟨by omega, ?_⟩
    have f_66 := mr86 hs (Int.toNat ((64 * p1) + p3))
    try rw [show gp_wr ((gp_I s 86 (Int.toNat ((64 * p1) + p3))) - 2) = (gp_I s 86 (Int.toNat ((64 * p1) + p3))) - 2 from gp_wr_id (by omega) (by omega)]
    exact k _ s hs (gF.refl _ _ _) (by omega) (by first | assumption | (subst_vars; assumption)) (by first | assumption | (subst_vars; refine MC_w ‹MC _ n o› ⟨?_, ?_⟩ ⟨?_, ?_⟩ ?_ ?_ <;> first | omega | assumption)) (by first | omega | assumption)
