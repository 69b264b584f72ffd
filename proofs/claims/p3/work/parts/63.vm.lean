set_option maxRecDepth 100000 in
/-- GatheredPointsModel.sizes -/
theorem vm_sizes  {L d : Nat} {K : Option gV → gH → Prop} {s : gH}   (hs : MI s)   (k : ∀ (r : Int), (0 ≤ r ∧ r ≤ 480) → K (some (gp_i r)) s) : gs_C L d 3185 3 [gp_r (some 74)] s K := by
  refine s_3185_e ?_
  have lp_1 : ∀ (n_1 : Nat) (v1_1 : Int) (v2_1 : Int), (0 ≤ v1_1 ∧ v1_1 ≤ 480) → (0 ≤ v2_1 ∧ v2_1 ≤ 8) → (v1_1 ≤ 60 * v2_1) → (9 - v2_1).toNat < n_1 → gs_E L d 3185 4 [gp_r (some 74), gp_i v1_1, gp_i v2_1] [] s K := by
    intro n_1
    induction n_1 with
    | zero => intro v1_1 v2_1 hv1_1 hv2_1 iv0_1 hm_1; exact absurd hm_1 (Nat.not_lt_zero _)
    | succ n_1 ih_1 =>
      intro v1_1 v2_1 hv1_1 hv2_1 iv0_1 hm_1
      refine s_3185_4 _ _ ?_
      refine ⟨fun h_2 => ?_, fun h_2 => ?_⟩
      · refine ⟨by omega, ?_⟩
        have f_3 := mr81 hs (Int.toNat v2_1)
        have f_4 := mr81s hs (Int.toNat v2_1) (by omega)
        try rw [show gp_wr (v1_1 + (gp_I s 81 (Int.toNat v2_1))) = v1_1 + (gp_I s 81 (Int.toNat v2_1)) from gp_wr_id (by omega) (by omega)]
        try rw [show gp_wr (v2_1 + 1) = v2_1 + 1 from gp_wr_id (by omega) (by omega)]
        exact ih_1 _ _ (by omega) (by omega) (by first | omega | assumption) (by omega)
      · exact k _ (by omega)
  exact lp_1 _ _ _ (by omega) (by omega) (by first | omega | assumption) (Nat.lt_succ_self _)
set_option maxRecDepth 100000 in
/-- GatheredPointsModel.seed -/
theorem wp_seed  {L d : Nat} {K : Option gV → gH → Prop} {s : gH}  (p0 : Int) (hs : MI s) (h_p0 : (-2147483648) ≤ p0 ∧ p0 ≤ 2147483647)  (k : ∀ (r : Int), ∀ (t : gH), MI t → gF [] [7] s t → K (some (gp_i r)) t) : gs_C L d 3184 3 [gp_r (some 74), gp_i p0] s K := by
  refine s_3184_e _ ?_
  intro s_1 e_2
  have hs_3 : MI s_1 := by rw [e_2]; exact mw74_7 hs _
  have hf_4 : gF [] [7] s s_1 := by rw [e_2]; exact gF.wI (gF.refl _ _ _) (Or.inr ⟨rfl, rfl⟩)
  exact k _ s_1 hs_3 hf_4
set_option maxRecDepth 100000 in
/-- GatheredPointsModel.told -/
theorem wp_told  {L d : Nat} {K : Option gV → gH → Prop} {s : gH}  (p0 : Int) (hs : MI s) (h_p0 : (-2147483648) ≤ p0 ∧ p0 ≤ 2147483647)  (k : ∀ (r : Int), ∀ (t : gH), MI t → gF [75] [] s t → K (some (gp_i r)) t) : gs_C L (d + 1) 3189 2 [gp_r (some 74), gp_i p0] s K := by
  refine s_3189_e _ ?_
  have w_1 := gz_oi (p0) (by omega)
  refine vm_isIn _ _ _ (fun x_2 p_3 p_4 => ⟨_, rfl, ?_⟩)
  have w_5 : BitVec.toInt (1#64) = 1 := by decide
  have w_6 : BitVec.toInt (BitVec.ofInt 64 6) = 6 := by decide
  refine ⟨fun h_7 => ?_, fun h_7 => ?_⟩
  · refine vm_finds _ hs (by omega) (fun x_8 s_9 hs_10 hf_11 p_12 p_13 => ⟨_, rfl, ?_⟩)
    have hf_14 : gF [75] [] s s_9 := gF.sub hf_11 rfl rfl
    refine s_3189_26 _ _ ?_
    exact k _ s_9 hs_10 hf_14
  · refine ⟨by omega, ?_⟩
    refine s_3189_26 _ _ ?_
    exact k _ s hs (gF.refl _ _ _)
set_option maxRecDepth 100000 in
/-- GatheredPointsModel.count -/
theorem wp_count  {L d : Nat} {K : Option gV → gH → Prop} {s : gH}  (p0 : Int) (hs : MI s) (h_p0 : (-2147483648) ≤ p0 ∧ p0 ≤ 2147483647)  (k : ∀ (r : Int), ∀ (t : gH), MI t → gF [75] [] s t → K (some (gp_i r)) t) : gs_C L (d + 2) 3188 4 [gp_r (some 74), gp_i p0] s K := by
  refine s_3188_e _ ?_
  refine ⟨fun h_1 => ?_, fun h_1 => ?_, fun h_1 => ?_, fun h_1 => ?_, fun h_1 => ?_, fun h_1 => ?_⟩
  · refine vm_sizes hs (fun x_2 p_3 => ⟨_, rfl, ?_⟩)
    exact k _ s hs (gF.refl _ _ _)
  · have lp_4 : ∀ (n_4 : Nat) (v2_4 : Int) (v3_4 : Int), (0 ≤ v2_4 ∧ v2_4 ≤ 8) → (0 ≤ v3_4 ∧ v3_4 ≤ 8) → (v2_4 ≤ v3_4) → (9 - v3_4).toNat < n_4 → gs_E L (d + 2) 3188 43 [gp_r (some 74), gp_i p0, gp_i v2_4, gp_i v3_4] [] s K := by
      intro n_4
      induction n_4 with
      | zero => intro v2_4 v3_4 hv2_4 hv3_4 iv0_4 hm_4; exact absurd hm_4 (Nat.not_lt_zero _)
      | succ n_4 ih_4 =>
        intro v2_4 v3_4 hv2_4 hv3_4 iv0_4 hm_4
        refine s_3188_43 _ _ _ ?_
        refine ⟨fun h_5 => ?_, fun h_5 => ?_⟩
        · refine vm_isSure _ hs (by omega) (fun x_6 p_7 => ⟨_, rfl, ?_⟩)
          refine ⟨fun h_8 => ?_, fun h_8 => ?_⟩
          · refine s_3188_63 _ _ _ _ _ ?_
            try rw [show gp_wr (v2_4 + 0) = v2_4 + 0 from gp_wr_id (by omega) (by omega)]
            try rw [show gp_wr (v3_4 + 1) = v3_4 + 1 from gp_wr_id (by omega) (by omega)]
            exact ih_4 _ _ (by omega) (by omega) (by first | omega | assumption) (by omega)
          · refine s_3188_63 _ _ _ _ _ ?_
            try rw [show gp_wr (v2_4 + 1) = v2_4 + 1 from gp_wr_id (by omega) (by omega)]
            try rw [show gp_wr (v3_4 + 1) = v3_4 + 1 from gp_wr_id (by omega) (by omega)]
            exact ih_4 _ _ (by omega) (by omega) (by first | omega | assumption) (by omega)
        · exact k _ s hs (gF.refl _ _ _)
    exact lp_4 _ _ _ (by omega) (by omega) (by first | omega | assumption) (Nat.lt_succ_self _)
  · have f_9 := mr74_11 hs
    exact k _ s hs (gF.refl _ _ _)
  · have f_10 := mr74_58 hs
    refine ⟨fun h_11 => ?_, fun h_11 => ?_⟩
    · refine s_3188_93 _ _ _ _ ?_
      exact k _ s hs (gF.refl _ _ _)
    · have f_12 := mr74_57 hs
      refine s_3188_93 _ _ _ _ ?_
      exact k _ s hs (gF.refl _ _ _)
  · exact k _ s hs (gF.refl _ _ _)
  · refine vm_finds _ hs (by omega) (fun x_13 s_14 hs_15 hf_16 p_17 p_18 => ⟨_, rfl, ?_⟩)
    have hf_19 : gF [75] [] s s_14 := gF.sub hf_16 rfl rfl
    exact k _ s_14 hs_15 hf_19
set_option maxRecDepth 100000 in
/-- GatheredPointsModel.judge -/
theorem wp_judge  {L d : Nat} {K : Option gV → gH → Prop} {s : gH}  (p0 : Int) (p1 : Int) (hs : MI s) (h_p0 : (-2147483648) ≤ p0 ∧ p0 ≤ 2147483647) (h_p1 : (-2147483648) ≤ p1 ∧ p1 ≤ 2147483647)  (k : ∀ (r : Int), ∀ (t : gH), MI t → gF [75, 90, 91] [] s t → K (some (gp_i r)) t) : gs_C L (d + 3) 3183 4 [gp_r (some 74), gp_i p0, gp_i p1] s K := by
  refine s_3183_e _ _ ?_
  refine vm_isSheet _ (fun x_1 p_2 p_3 p_4 => ⟨_, rfl, ?_⟩)
  refine ⟨fun h_5 => ?_, fun h_5 => ?_⟩
  · refine s_3183_14 _ _ _ ?_
    refine vm_finds _ hs (by omega) (fun x_6 s_7 hs_8 hf_9 p_10 p_11 => ⟨_, rfl, ?_⟩)
    have hf_12 : gF [75, 90, 91] [] s s_7 := gF.sub hf_9 rfl rfl
    exact k _ s_7 hs_8 hf_12
  · refine vm_isSide _ (fun x_13 p_14 p_15 p_16 => ⟨_, rfl, ?_⟩)
    refine ⟨fun h_17 => ?_, fun h_17 => ?_⟩
    · refine s_3183_14 _ _ _ ?_
      refine vm_finds _ hs (by omega) (fun x_18 s_19 hs_20 hf_21 p_22 p_23 => ⟨_, rfl, ?_⟩)
      have hf_24 : gF [75, 90, 91] [] s s_19 := gF.sub hf_21 rfl rfl
      exact k _ s_19 hs_20 hf_24
    · refine ⟨by omega, ?_⟩
      refine ⟨fun h_25 => ?_, fun h_25 => ?_⟩
      · refine vm_finds _ hs (by omega) (fun x_26 s_27 hs_28 hf_29 p_30 p_31 => ⟨_, rfl, ?_⟩)
        have hf_32 : gF [75, 90, 91] [] s s_27 := gF.sub hf_29 rfl rfl
        exact k _ s_27 hs_28 hf_32
      · have lp_33 : ∀ (n_33 : Nat) (v3_33 : Int) (s_33 : gH), (MI s_33) → (gF [75, 90, 91] [] s s_33) → (0 ≤ v3_33 ∧ v3_33 ≤ 8) → (9 - v3_33).toNat < n_33 → gs_E L (d + 3) 3183 37 [gp_r (some 74), gp_i p0, gp_i p1, gp_i v3_33] [] s_33 K := by
          intro n_33
          induction n_33 with
          | zero => intro v3_33 s_33 hs_s_33 hf_s_33 hv3_33 hm_33; exact absurd hm_33 (Nat.not_lt_zero _)
          | succ n_33 ih_33 =>
            intro v3_33 s_33 hs_s_33 hf_s_33 hv3_33 hm_33
            refine s_3183_37 _ _ _ ?_
            refine ⟨by omega, ?_⟩
            have f_34 := mr85 hs_s_33 (Int.toNat p0)
            refine ⟨fun h_35 => ?_, fun h_35 => ?_⟩
            · refine ⟨fun h_36 => ?_, fun h_36 => ?_⟩
              · exact k _ s_33 hs_s_33 hf_s_33
              · refine vm_scores _ hs_s_33 (by omega) (fun s_37 hs_38 hf_39 => ⟨rfl, ?_⟩)
                have hf_40 : gF [75, 90, 91] [] s s_37 := gF.trans hf_s_33 hf_39 rfl rfl
                try rw [show gp_wr (20 * p0) = 20 * p0 from gp_wr_id (by omega) (by omega)]
                try rw [show gp_wr ((20 * p0) + v3_33) = (20 * p0) + v3_33 from gp_wr_id (by omega) (by omega)]
                refine ⟨by omega, ?_⟩
                have jn98_42 : ∀ (j_42 : Int), gs_E L (d + 3) 3183 98 [gp_r (some 74), gp_i p0, gp_i p1, gp_i v3_33] [gp_i j_42, gp_i (gp_I s_37 83 (Int.toNat ((20 * p0) + v3_33)))] s_37 K := by
                  intro j_42
                  refine s_3183_98 _ _ _ _ _ ?_
                  refine ⟨fun h_44 => ?_, fun h_44 => ?_⟩
                  · try rw [show gp_wr (v3_33 + 1) = v3_33 + 1 from gp_wr_id (by omega) (by omega)]
                    exact ih_33 _ _ hs_38 hf_40 (by omega) (by omega)
                  · exact k _ s_37 hs_38 hf_40
                refine ⟨fun h_41 => ?_, fun h_41 => ?_⟩
                · have hmr := mr81s hs_38 (Int.toNat v3_33) (by omega)
                  refine vm_root _ hs_38 (by omega) (fun x_45 p_46 p_47 => ⟨_, rfl, ?_⟩)
                  refine ⟨by omega, ?_⟩
                  exact jn98_42 _
                · have hmr := mr81s hs_38 (Int.toNat v3_33) (by omega)
                  refine vm_root _ hs_38 (by omega) (fun x_48 p_49 p_50 => ⟨_, rfl, ?_⟩)
                  refine ⟨by omega, ?_⟩
                  exact jn98_42 _
            · exact k _ s_33 hs_s_33 hf_s_33
        exact lp_33 _ _ _ hs (gF.refl _ _ _) (by omega) (Nat.lt_succ_self _)
set_option maxRecDepth 100000 in
/-- GatheredPointsModel.image -/
theorem wp_image  {L d : Nat} {K : Option gV → gH → Prop} {s : gH}   (hs : MI s)   (k : ∀ (r : Int), ∀ (t : gH), MI t → gF [76, 77, 78, 79, 80, 81] [8, 9] s t → (∀ k : Nat, 8 ≤ k → k < 16 → 1 ≤ gp_I t 81 k) → (∀ k : Nat, 16 ≤ k → gp_I t 81 k = gp_I s 81 k) → K (some (gp_i r)) t) : gs_C L (d + 1) 3186 2 [gp_r (some 74)] s K := by
  refine s_3186_e ?_
  have lp_1 : ∀ (n_1 : Nat) (v1_1 : Int) (s_1 : gH), (MI s_1) → (gF [76, 77, 78, 79, 80, 81] [8, 9] s s_1) → (0 ≤ v1_1 ∧ v1_1 ≤ 8) → (∀ k : Nat, 8 ≤ k → (k : Int) < 8 + v1_1 → 1 ≤ gp_I s_1 81 k) → (∀ k : Nat, 16 ≤ k → gp_I s_1 81 k = gp_I s 81 k) → (9 - v1_1).toNat < n_1 → gs_E L (d + 1) 3186 2 [gp_r (some 74), gp_i v1_1] [] s_1 K := by
    intro n_1
    induction n_1 with
    | zero => intro v1_1 s_1 hs_s_1 hf_s_1 hv1_1 iv0_1 iv1_1 hm_1; exact absurd hm_1 (Nat.not_lt_zero _)
    | succ n_1 ih_1 =>
      intro v1_1 s_1 hs_s_1 hf_s_1 hv1_1 iv0_1 iv1_1 hm_1
      refine s_3186_2 _ ?_
      refine ⟨fun h_2 => ?_, fun h_2 => ?_⟩
      · try rw [show gp_wr (8 + v1_1) = 8 + v1_1 from gp_wr_id (by omega) (by omega)]
        refine vm_copies _ _ hs_s_1 (by omega) (by omega) (by first | omega | assumption) (by first | omega | assumption) (fun s_3 hs_4 hf_5 p_6 p_7 => ⟨rfl, ?_⟩)
        have hf_8 : gF [76, 77, 78, 79, 80, 81] [8, 9] s s_3 := gF.trans hf_s_1 hf_5 rfl rfl
        try rw [show gp_wr (v1_1 + 1) = v1_1 + 1 from gp_wr_id (by omega) (by omega)]
        exact ih_1 _ _ hs_4 hf_8 (by omega) (by intro k h1 h2; by_cases c : k = Int.toNat (8 + v1_1); rw [c, p_6]; exact mr81s hs_s_1 _ (by omega); rw [p_7 k c]; exact iv0_1 k h1 (by omega)) (fun k h => by rw [p_7 k (by omega)]; exact iv1_1 k h) (by omega)
      · intro s_9 e_10
        have hs_11 : MI s_9 := by rw [e_10]; exact mw74_8 hs_s_1 _
        have hf_12 : gF [76, 77, 78, 79, 80, 81] [8, 9] s s_9 := by rw [e_10]; exact gF.wI hf_s_1 (Or.inr ⟨rfl, rfl⟩)
        have w_13 := wr_rng ((gp_I s_9 74 9) + 1)
        intro s_14 e_15
        have hs_16 : MI s_14 := by rw [e_15]; exact mw74_9 hs_11 _
        have hf_17 : gF [76, 77, 78, 79, 80, 81] [8, 9] s s_14 := by rw [e_15]; exact gF.wI hf_12 (Or.inr ⟨rfl, rfl⟩)
        exact k _ s_14 hs_16 hf_17 (by subst_vars; exact fun k h1 h2 => iv0_1 k h1 (by omega)) (by subst_vars; exact iv1_1)
  exact lp_1 _ _ _ hs (gF.refl _ _ _) (by omega) (fun k h1 h2 => by omega) (fun k h => rfl) (Nat.lt_succ_self _)
set_option maxRecDepth 100000 in
/-- GatheredPointsModel.restore -/
theorem wp_restore  {L d : Nat} {K : Option gV → gH → Prop} {s : gH}   (hs : MI s)  (q0 : gp_I s 74 9 ≠ 0 → ∀ k : Nat, 8 ≤ k → k < 16 → 1 ≤ gp_I s 81 k) (k : ∀ (r : Int), ∀ (t : gH), MI t → gF [75, 76, 77, 78, 79, 80, 81] [7] s t → (mK s t) → K (some (gp_i r)) t) : gs_C L (d + 1) 3187 2 [gp_r (some 74)] s K := by
  refine s_3187_e ?_
  refine ⟨fun h_1 => ?_, fun h_1 => ?_⟩
  · refine vm_finds _ hs (by omega) (fun x_2 s_3 hs_4 hf_5 p_6 p_7 => ⟨_, rfl, ?_⟩)
    have hf_8 : gF [75, 76, 77, 78, 79, 80, 81] [7] s s_3 := gF.sub hf_5 rfl rfl
    exact k _ s_3 hs_4 hf_8 (fun k h1 h2 h3 => (hf_5.2 81 k rfl (fun h => absurd h (by decide))).1)
  · have lp_9 : ∀ (n_9 : Nat) (v1_9 : Int) (s_9 : gH), (MI s_9) → (gF [75, 76, 77, 78, 79, 80, 81] [7] s s_9) → (0 ≤ v1_9 ∧ v1_9 ≤ 8) → (∀ k : Nat, 8 ≤ k → gp_I s_9 81 k = gp_I s 81 k) → (9 - v1_9).toNat < n_9 → gs_E L (d + 1) 3187 15 [gp_r (some 74), gp_i v1_9] [] s_9 K := by
      intro n_9
      induction n_9 with
      | zero => intro v1_9 s_9 hs_s_9 hf_s_9 hv1_9 iv0_9 hm_9; exact absurd hm_9 (Nat.not_lt_zero _)
      | succ n_9 ih_9 =>
        intro v1_9 s_9 hs_s_9 hf_s_9 hv1_9 iv0_9 hm_9
        refine s_3187_15 _ ?_
        refine ⟨fun h_10 => ?_, fun h_10 => ?_⟩
        · have hk8 : 1 ≤ gp_I s_9 81 (Int.toNat (8 + v1_9)) := by rw [iv0_9 _ (by omega)]; exact q0 (by assumption) _ (by omega) (by omega)
          try rw [show gp_wr (8 + v1_9) = 8 + v1_9 from gp_wr_id (by omega) (by omega)]
          refine vm_copies _ _ hs_s_9 (by omega) (by omega) (by first | omega | assumption) (by first | omega | assumption) (fun s_11 hs_12 hf_13 p_14 p_15 => ⟨rfl, ?_⟩)
          have hf_16 : gF [75, 76, 77, 78, 79, 80, 81] [7] s s_11 := gF.trans hf_s_9 hf_13 rfl rfl
          try rw [show gp_wr (v1_9 + 1) = v1_9 + 1 from gp_wr_id (by omega) (by omega)]
          exact ih_9 _ _ hs_12 hf_16 (by omega) (fun k h => by rw [p_15 k (by omega)]; exact iv0_9 k h) (by omega)
        · intro s_17 e_18
          have hs_19 : MI s_17 := by rw [e_18]; exact mw74_7 hs_s_9 _
          have hf_20 : gF [75, 76, 77, 78, 79, 80, 81] [7] s s_17 := by rw [e_18]; exact gF.wI hf_s_9 (Or.inr ⟨rfl, rfl⟩)
          refine vm_sizes hs_19 (fun x_21 p_22 => ⟨_, rfl, ?_⟩)
          exact k _ s_17 hs_19 hf_20 (by subst_vars; exact fun k h1 h2 h3 => iv0_9 k h1)
    exact lp_9 _ _ _ hs (gF.refl _ _ _) (by omega) (fun k h => rfl) (Nat.lt_succ_self _)
set_option maxRecDepth 100000 in
/-- GatheredPointsModel.ladder -/
theorem wp_ladder  {L d : Nat} {K : Option gV → gH → Prop} {s : gH}  (p0 : Int) (p1 : Int) (hs : MI s) (h_p0 : (-2147483648) ≤ p0 ∧ p0 ≤ 2147483647) (h_p1 : (-2147483648) ≤ p1 ∧ p1 ≤ 2147483647)  (k : ∀ (r : Int), ∀ (t : gH), MI t → gF [75, 76, 77, 78, 79, 80, 81, 86, 87, 88] [15] s t → (mK s t) → K (some (gp_i r)) t) : gs_C L (d + 186) 3144 9 [gp_r (some 74), gp_i p0, gp_i p1] s K := by
  have f_1 := mr81 hs 19
  have f_2 := mr81 hs 20
  have f_3 := mr74_15 hs
  refine s_3144_e _ _ ?_
  refine vm_isSlot _ (fun x_4 p_5 p_6 p_7 => ⟨_, rfl, ?_⟩)
  refine ⟨fun h_8 => ?_, fun h_8 => ?_⟩
  · refine s_3144_14 _ _ _ _ _ _ _ _ ?_
    refine vm_finds _ hs (by omega) (fun x_9 s_10 hs_11 hf_12 p_13 p_14 => ⟨_, rfl, ?_⟩)
    have hf_15 : gF [75, 76, 77, 78, 79, 80, 81, 86, 87, 88] [15] s s_10 := gF.sub hf_12 rfl rfl
    have mb_16 : mK s s_10 := mK_fr (mK.refl _) hf_12 rfl
    have q_17 := (hf_12.2 81 19 rfl (fun h => absurd h (by decide))).1
    have q_18 := (hf_12.2 81 20 rfl (fun h => absurd h (by decide))).1
    have q_19 := (hf_12.2 74 15 rfl (fun _ => rfl)).1
    exact k _ s_10 hs_11 hf_15 mb_16
  · refine vm_isSheet _ (fun x_20 p_21 p_22 p_23 => ⟨_, rfl, ?_⟩)
    refine ⟨fun h_24 => ?_, fun h_24 => ?_⟩
    · refine s_3144_14 _ _ _ _ _ _ _ _ ?_
      refine vm_finds _ hs (by omega) (fun x_25 s_26 hs_27 hf_28 p_29 p_30 => ⟨_, rfl, ?_⟩)
      have hf_31 : gF [75, 76, 77, 78, 79, 80, 81, 86, 87, 88] [15] s s_26 := gF.sub hf_28 rfl rfl
      have mb_32 : mK s s_26 := mK_fr (mK.refl _) hf_28 rfl
      have q_33 := (hf_28.2 81 19 rfl (fun h => absurd h (by decide))).1
      have q_34 := (hf_28.2 81 20 rfl (fun h => absurd h (by decide))).1
      have q_35 := (hf_28.2 74 15 rfl (fun _ => rfl)).1
      exact k _ s_26 hs_27 hf_31 mb_32
    · refine ⟨by omega, ?_⟩
      have f_36 := mr85 hs (Int.toNat p1)
      refine ⟨by omega, ?_⟩
      refine ⟨fun h_37 => ?_, fun h_37 => ?_⟩
      · refine s_3144_40 _ _ _ _ _ _ _ _ ?_
        refine vm_finds _ hs (by omega) (fun x_38 s_39 hs_40 hf_41 p_42 p_43 => ⟨_, rfl, ?_⟩)
        have hf_44 : gF [75, 76, 77, 78, 79, 80, 81, 86, 87, 88] [15] s s_39 := gF.sub hf_41 rfl rfl
        have mb_45 : mK s s_39 := mK_fr (mK.refl _) hf_41 rfl
        have q_46 := (hf_41.2 81 19 rfl (fun h => absurd h (by decide))).1
        have q_47 := (hf_41.2 81 20 rfl (fun h => absurd h (by decide))).1
        have q_48 := (hf_41.2 74 15 rfl (fun _ => rfl)).1
        exact k _ s_39 hs_40 hf_44 mb_45
      · refine ⟨fun h_49 => ?_, fun h_49 => ?_⟩
        · refine s_3144_40 _ _ _ _ _ _ _ _ ?_
          refine vm_finds _ hs (by omega) (fun x_50 s_51 hs_52 hf_53 p_54 p_55 => ⟨_, rfl, ?_⟩)
          have hf_56 : gF [75, 76, 77, 78, 79, 80, 81, 86, 87, 88] [15] s s_51 := gF.sub hf_53 rfl rfl
          have mb_57 : mK s s_51 := mK_fr (mK.refl _) hf_53 rfl
          have q_58 := (hf_53.2 81 19 rfl (fun h => absurd h (by decide))).1
          have q_59 := (hf_53.2 81 20 rfl (fun h => absurd h (by decide))).1
          have q_60 := (hf_53.2 74 15 rfl (fun _ => rfl)).1
          exact k _ s_51 hs_52 hf_56 mb_57
        · refine vm_begins2 hs (fun s_61 hs_62 hf_63 p_64 p_65 p_66 p_67 => ⟨rfl, ?_⟩)
          have hf_68 : gF [75, 76, 77, 78, 79, 80, 81, 86, 87, 88] [15] s s_61 := gF.sub hf_63 rfl rfl
          have mb_69 : mK s s_61 := mK.trans (mK.refl _) (mK_o p_67)
          have q_70 := p_67.1 19 (by omega)
          try rw [show gp_wr (20 * p1) = 20 * p1 from gp_wr_id (by omega) (by omega)]
          try rw [show gp_wr ((20 * p1) + (gp_I s 85 (Int.toNat p1))) = (20 * p1) + (gp_I s 85 (Int.toNat p1)) from gp_wr_id (by omega) (by omega)]
          try rw [show gp_wr (((20 * p1) + (gp_I s 85 (Int.toNat p1))) - 1) = ((20 * p1) + (gp_I s 85 (Int.toNat p1))) - 1 from gp_wr_id (by omega) (by omega)]
          refine ⟨by omega, ?_⟩
          refine vm_made _ _ _ _ hs_62 (p_66) (bd_0 _) (bd_0 _) (fun x_71 s_72 hs_73 hf_74 p_75 p_76 p_77 p_78 p_79 p_80 p_81 => ⟨_, rfl, ?_⟩)
          have hf_82 : gF [75, 76, 77, 78, 79, 80, 81, 86, 87, 88] [15] s s_72 := gF.trans hf_68 hf_74 rfl rfl
          have mb_83 : mK s s_72 := mK.trans mb_69 (mK_o p_80)
          have q_84 := p_80.1 19 (by omega)
          try rw [show gp_wr ((gp_I s 85 (Int.toNat p1)) - 2) = (gp_I s 85 (Int.toNat p1)) - 2 from gp_wr_id (by omega) (by omega)]
          have lp_85 : ∀ (n_85 : Nat) (v5_85 : Int) (v6_85 : Int) (v7_85 : gV) (v8_85 : gV) (s_85 : gH), (MI s_85) → (gF [75, 76, 77, 78, 79, 80, 81, 86, 87, 88] [15] s s_85) → (MDi s_85) → (mK s s_85) → (0 ≤ v5_85 ∧ v5_85 ≤ 63) → ((-1) ≤ v6_85 ∧ v6_85 ≤ 18) → (v5_85 < gp_I s_85 81 20) → (gp_I s_85 81 20 ≤ 1 + 2 * ((gp_I s 85 (Int.toNat p1)) - 2 - v6_85)) → (gp_I s_85 74 15 = 0) → (v6_85 ≤ (gp_I s 85 (Int.toNat p1)) - 2) → (v6_85 + 2).toNat < n_85 → gs_E L (d + 186) 3144 82 [gp_r (some 74), gp_i p0, gp_i p1, gp_i (gp_I s 85 (Int.toNat p1)), gp_i (gp_I s_61 83 (Int.toNat (((20 * p1) + (gp_I s 85 (Int.toNat p1))) - 1))), gp_i v5_85, gp_i v6_85, v7_85, v8_85] [] s_85 K := by
            intro n_85
            induction n_85 with
            | zero => intro v5_85 v6_85 v7_85 v8_85 s_85 hs_s_85 hf_s_85 MDi_s_85 mK_s_85 hv5_85 hv6_85 iv0_85 iv1_85 iv2_85 iv3_85 hm_85; exact absurd hm_85 (Nat.not_lt_zero _)
            | succ n_85 ih_85 =>
              intro v5_85 v6_85 v7_85 v8_85 s_85 hs_s_85 hf_s_85 MDi_s_85 mK_s_85 hv5_85 hv6_85 iv0_85 iv1_85 iv2_85 iv3_85 hm_85
              refine s_3144_82 _ _ _ _ _ _ _ _ ?_
              refine ⟨fun h_86 => ?_, fun h_86 => ?_⟩
              · refine vm_results _ hs_s_85 (by omega) (MDi_s_85) (by first | omega | assumption) (fun x_87 s_88 hs_89 hf_90 p_91 p_92 p_93 p_94 p_95 => ⟨_, rfl, ?_⟩)
                have hf_96 : gF [75, 76, 77, 78, 79, 80, 81, 86, 87, 88] [15] s s_88 := gF.trans hf_s_85 hf_90 rfl rfl
                have q_97 := (hf_90.2 74 15 rfl (fun _ => rfl)).1
                have mb_98 : mK s s_88 := mK.trans mK_s_85 p_95
                refine ⟨fun h_99 => ?_, fun h_99 => ?_⟩
                · refine vm_finds _ hs_89 (by omega) (fun x_100 s_101 hs_102 hf_103 p_104 p_105 => ⟨_, rfl, ?_⟩)
                  have hf_106 : gF [75, 76, 77, 78, 79, 80, 81, 86, 87, 88] [15] s s_101 := gF.trans hf_96 hf_103 rfl rfl
                  have mb_107 : mK s s_101 := mK_fr mb_98 hf_103 rfl
                  have q_108 := (hf_103.2 81 19 rfl (fun h => absurd h (by decide))).1
                  have q_109 := (hf_103.2 81 20 rfl (fun h => absurd h (by decide))).1
                  have q_110 := (hf_103.2 74 15 rfl (fun _ => rfl)).1
                  refine s_3144_160 _ _ _ _ _ _ _ _ _ ?_
                  exact k _ s_101 hs_102 hf_106 mb_107
                · refine vm_holds _ hs_89 (by omega) (by first | omega | assumption) (fun x_111 s_112 hs_113 hf_114 p_115 p_116 p_117 => ⟨_, rfl, ?_⟩)
                  have hf_118 : gF [75, 76, 77, 78, 79, 80, 81, 86, 87, 88] [15] s s_112 := gF.trans hf_96 hf_114 rfl rfl
                  have q_119 := (hf_114.2 74 15 rfl (fun _ => rfl)).1
                  have mb_120 : mK s s_112 := mK.trans mb_98 p_117
                  refine s_3144_160 _ _ _ _ _ _ _ _ _ ?_
                  exact k _ s_112 hs_113 hf_118 mb_120
              · try rw [show gp_wr (20 * p1) = 20 * p1 from gp_wr_id (by omega) (by omega)]
                try rw [show gp_wr ((20 * p1) + v6_85) = (20 * p1) + v6_85 from gp_wr_id (by omega) (by omega)]
                refine ⟨by omega, ?_⟩
                refine vm_made _ _ _ _ hs_s_85 (MDi_s_85) (bd_0 _) (bd_0 _) (fun x_121 s_122 hs_123 hf_124 p_125 p_126 p_127 p_128 p_129 p_130 p_131 => ⟨_, rfl, ?_⟩)
                have hf_132 : gF [75, 76, 77, 78, 79, 80, 81, 86, 87, 88] [15] s s_122 := gF.trans hf_s_85 hf_124 rfl rfl
                have mb_133 : mK s s_122 := mK.trans mK_s_85 (mK_o p_130)
                have q_134 := p_130.1 19 (by omega)
                refine vm_made _ _ _ _ hs_123 (p_126) (bd_sh (by omega) (by omega) (by omega)) (bd_sh (by omega) (by omega) (by omega)) (fun x_135 s_136 hs_137 hf_138 p_139 p_140 p_141 p_142 p_143 p_144 p_145 => ⟨_, rfl, ?_⟩)
                have hf_146 : gF [75, 76, 77, 78, 79, 80, 81, 86, 87, 88] [15] s s_136 := gF.trans hf_132 hf_138 rfl rfl
                have mb_147 : mK s s_136 := mK.trans mb_133 (mK_o p_144)
                have q_148 := p_144.1 19 (by omega)
                try rw [show gp_wr (v6_85 + (-1)) = v6_85 + (-1) from gp_wr_id (by omega) (by omega)]
                exact ih_85 _ _ _ _ _ hs_137 hf_146 p_140 mb_147 (by omega) (by omega) (by first | omega | assumption) (by first | omega | assumption) (by first | omega | assumption) (by first | omega | assumption) (by omega)
          exact lp_85 _ _ _ _ _ _ hs_73 hf_82 p_76 mb_83 (by omega) (by omega) (by first | omega | assumption) (by first | omega | assumption) (by first | omega | assumption) (by first | omega | assumption) (Nat.lt_succ_self _)
set_option maxRecDepth 100000 in
/-- GatheredPointsModel.sheet -/
theorem wp_sheet  {L d : Nat} {K : Option gV → gH → Prop} {s : gH}  (p0 : Int) (p1 : Int) (p2 : Int) (hs : MI s) (h_p0 : (-2147483648) ≤ p0 ∧ p0 ≤ 2147483647) (h_p1 : (-2147483648) ≤ p1 ∧ p1 ≤ 2147483647) (h_p2 : (-2147483648) ≤ p2 ∧ p2 ≤ 2147483647)  (k : ∀ (r : Int), ∀ (t : gH), MI t → gF [75, 83, 84, 85] [] s t → K (some (gp_i r)) t) : gs_C L (d + 1) 3178 5 [gp_r (some 74), gp_i p0, gp_i p1, gp_i p2] s K := by
  refine s_3178_e _ _ _ ?_
  refine vm_isSheet _ (fun x_1 p_2 p_3 p_4 => ⟨_, rfl, ?_⟩)
  refine ⟨fun h_5 => ?_, fun h_5 => ?_⟩
  · refine s_3178_29 _ _ _ _ ?_
    refine vm_finds _ hs (by omega) (fun x_6 s_7 hs_8 hf_9 p_10 p_11 => ⟨_, rfl, ?_⟩)
    have hf_12 : gF [75, 83, 84, 85] [] s s_7 := gF.sub hf_9 rfl rfl
    exact k _ s_7 hs_8 hf_12
  · refine ⟨fun h_13 => ?_, fun h_13 => ?_⟩
    · refine s_3178_35 _ _ _ _ ?_
      refine ⟨fun h_14 => ?_, fun h_14 => ?_⟩
      · refine s_3178_49 _ _ _ _ ?_
        refine ⟨fun h_15 => ?_, fun h_15 => ?_⟩
        · refine s_3178_65 _ _ _ _ ?_
          refine ⟨by omega, ?_⟩
          intro s_16 e_17
          have hs_18 : MI s_16 := by rw [e_17]; exact mw84 hs _ _
          have hf_19 : gF [75, 83, 84, 85] [] s s_16 := by rw [e_17]; exact gF.wI (gF.refl _ _ _) (Or.inl rfl)
          refine ⟨fun h_20 => ?_, fun h_20 => ?_⟩
          · refine s_3178_86 _ _ _ _ _ _ ?_
            refine ⟨by omega, ?_⟩
            intro s_21 e_22
            have hs_23 : MI s_21 := by rw [e_22]; exact mw85 hs_18 _ _ (by omega)
            have hf_24 : gF [75, 83, 84, 85] [] s s_21 := by rw [e_22]; exact gF.wI hf_19 (Or.inl rfl)
            have lp_25 : ∀ (n_25 : Nat) (v4_25 : Int) (s_25 : gH), (MI s_25) → (gF [75, 83, 84, 85] [] s s_25) → (0 ≤ v4_25 ∧ v4_25 ≤ 20) → (21 - v4_25).toNat < n_25 → gs_E L (d + 1) 3178 90 [gp_r (some 74), gp_i p0, gp_i p1, gp_i p2, gp_i v4_25] [] s_25 K := by
              intro n_25
              induction n_25 with
              | zero => intro v4_25 s_25 hs_s_25 hf_s_25 hv4_25 hm_25; exact absurd hm_25 (Nat.not_lt_zero _)
              | succ n_25 ih_25 =>
                intro v4_25 s_25 hs_s_25 hf_s_25 hv4_25 hm_25
                refine s_3178_90 _ _ _ _ ?_
                refine ⟨fun h_26 => ?_, fun h_26 => ?_⟩
                · try rw [show gp_wr (20 * p0) = 20 * p0 from gp_wr_id (by omega) (by omega)]
                  try rw [show gp_wr ((20 * p0) + v4_25) = (20 * p0) + v4_25 from gp_wr_id (by omega) (by omega)]
                  refine ⟨by omega, ?_⟩
                  intro s_27 e_28
                  have hs_29 : MI s_27 := by rw [e_28]; exact mw83 hs_s_25 _ _
                  have hf_30 : gF [75, 83, 84, 85] [] s s_27 := by rw [e_28]; exact gF.wI hf_s_25 (Or.inl rfl)
                  try rw [show gp_wr (v4_25 + 1) = v4_25 + 1 from gp_wr_id (by omega) (by omega)]
                  exact ih_25 _ _ hs_29 hf_30 (by omega) (by omega)
                · exact k _ s_25 hs_s_25 hf_s_25
            exact lp_25 _ _ _ hs_23 hf_24 (by omega) (Nat.lt_succ_self _)
          · exfalso; omega
        · exfalso; omega
      · exfalso; omega
    · refine ⟨fun h_31 => ?_, fun h_31 => ?_⟩
      · refine s_3178_35 _ _ _ _ ?_
        refine ⟨fun h_32 => ?_, fun h_32 => ?_⟩
        · exfalso; omega
        · refine ⟨fun h_33 => ?_, fun h_33 => ?_⟩
          · refine vm_finds _ hs (by omega) (fun x_34 s_35 hs_36 hf_37 p_38 p_39 => ⟨_, rfl, ?_⟩)
            have hf_40 : gF [75, 83, 84, 85] [] s s_35 := gF.sub hf_37 rfl rfl
            exact k _ s_35 hs_36 hf_40
          · refine s_3178_49 _ _ _ _ ?_
            refine ⟨fun h_41 => ?_, fun h_41 => ?_⟩
            · exfalso; omega
            · refine ⟨fun h_42 => ?_, fun h_42 => ?_⟩
              · refine vm_finds _ hs (by omega) (fun x_43 s_44 hs_45 hf_46 p_47 p_48 => ⟨_, rfl, ?_⟩)
                have hf_49 : gF [75, 83, 84, 85] [] s s_44 := gF.sub hf_46 rfl rfl
                exact k _ s_44 hs_45 hf_49
              · refine s_3178_65 _ _ _ _ ?_
                refine ⟨by omega, ?_⟩
                intro s_50 e_51
                have hs_52 : MI s_50 := by rw [e_51]; exact mw84 hs _ _
                have hf_53 : gF [75, 83, 84, 85] [] s s_50 := by rw [e_51]; exact gF.wI (gF.refl _ _ _) (Or.inl rfl)
                refine ⟨fun h_54 => ?_, fun h_54 => ?_⟩
                · exfalso; omega
                · refine s_3178_86 _ _ _ _ _ _ ?_
                  refine ⟨by omega, ?_⟩
                  intro s_55 e_56
                  have hs_57 : MI s_55 := by rw [e_56]; exact mw85 hs_52 _ _ (by omega)
                  have hf_58 : gF [75, 83, 84, 85] [] s s_55 := by rw [e_56]; exact gF.wI hf_53 (Or.inl rfl)
                  have lp_59 : ∀ (n_59 : Nat) (v4_59 : Int) (s_59 : gH), (MI s_59) → (gF [75, 83, 84, 85] [] s s_59) → (0 ≤ v4_59 ∧ v4_59 ≤ 20) → (21 - v4_59).toNat < n_59 → gs_E L (d + 1) 3178 90 [gp_r (some 74), gp_i p0, gp_i p1, gp_i p2, gp_i v4_59] [] s_59 K := by
                    intro n_59
                    induction n_59 with
                    | zero => intro v4_59 s_59 hs_s_59 hf_s_59 hv4_59 hm_59; exact absurd hm_59 (Nat.not_lt_zero _)
                    | succ n_59 ih_59 =>
                      intro v4_59 s_59 hs_s_59 hf_s_59 hv4_59 hm_59
                      refine s_3178_90 _ _ _ _ ?_
                      refine ⟨fun h_60 => ?_, fun h_60 => ?_⟩
                      · try rw [show gp_wr (20 * p0) = 20 * p0 from gp_wr_id (by omega) (by omega)]
                        try rw [show gp_wr ((20 * p0) + v4_59) = (20 * p0) + v4_59 from gp_wr_id (by omega) (by omega)]
                        refine ⟨by omega, ?_⟩
                        intro s_61 e_62
                        have hs_63 : MI s_61 := by rw [e_62]; exact mw83 hs_s_59 _ _
                        have hf_64 : gF [75, 83, 84, 85] [] s s_61 := by rw [e_62]; exact gF.wI hf_s_59 (Or.inl rfl)
                        try rw [show gp_wr (v4_59 + 1) = v4_59 + 1 from gp_wr_id (by omega) (by omega)]
                        exact ih_59 _ _ hs_63 hf_64 (by omega) (by omega)
                      · exact k _ s_59 hs_s_59 hf_s_59
                  exact lp_59 _ _ _ hs_57 hf_58 (by omega) (Nat.lt_succ_self _)
      · refine ⟨fun h_65 => ?_, fun h_65 => ?_⟩
        · refine s_3178_35 _ _ _ _ ?_
          refine ⟨fun h_66 => ?_, fun h_66 => ?_⟩
          · exfalso; omega
          · refine ⟨fun h_67 => ?_, fun h_67 => ?_⟩
            · refine vm_finds _ hs (by omega) (fun x_68 s_69 hs_70 hf_71 p_72 p_73 => ⟨_, rfl, ?_⟩)
              have hf_74 : gF [75, 83, 84, 85] [] s s_69 := gF.sub hf_71 rfl rfl
              exact k _ s_69 hs_70 hf_74
            · refine s_3178_49 _ _ _ _ ?_
              refine ⟨fun h_75 => ?_, fun h_75 => ?_⟩
              · exfalso; omega
              · refine ⟨fun h_76 => ?_, fun h_76 => ?_⟩
                · refine vm_finds _ hs (by omega) (fun x_77 s_78 hs_79 hf_80 p_81 p_82 => ⟨_, rfl, ?_⟩)
                  have hf_83 : gF [75, 83, 84, 85] [] s s_78 := gF.sub hf_80 rfl rfl
                  exact k _ s_78 hs_79 hf_83
                · refine s_3178_65 _ _ _ _ ?_
                  refine ⟨by omega, ?_⟩
                  intro s_84 e_85
                  have hs_86 : MI s_84 := by rw [e_85]; exact mw84 hs _ _
                  have hf_87 : gF [75, 83, 84, 85] [] s s_84 := by rw [e_85]; exact gF.wI (gF.refl _ _ _) (Or.inl rfl)
                  refine ⟨fun h_88 => ?_, fun h_88 => ?_⟩
                  · exfalso; omega
                  · refine s_3178_86 _ _ _ _ _ _ ?_
                    refine ⟨by omega, ?_⟩
                    intro s_89 e_90
                    have hs_91 : MI s_89 := by rw [e_90]; exact mw85 hs_86 _ _ (by omega)
                    have hf_92 : gF [75, 83, 84, 85] [] s s_89 := by rw [e_90]; exact gF.wI hf_87 (Or.inl rfl)
                    have lp_93 : ∀ (n_93 : Nat) (v4_93 : Int) (s_93 : gH), (MI s_93) → (gF [75, 83, 84, 85] [] s s_93) → (0 ≤ v4_93 ∧ v4_93 ≤ 20) → (21 - v4_93).toNat < n_93 → gs_E L (d + 1) 3178 90 [gp_r (some 74), gp_i p0, gp_i p1, gp_i p2, gp_i v4_93] [] s_93 K := by
                      intro n_93
                      induction n_93 with
                      | zero => intro v4_93 s_93 hs_s_93 hf_s_93 hv4_93 hm_93; exact absurd hm_93 (Nat.not_lt_zero _)
                      | succ n_93 ih_93 =>
                        intro v4_93 s_93 hs_s_93 hf_s_93 hv4_93 hm_93
                        refine s_3178_90 _ _ _ _ ?_
                        refine ⟨fun h_94 => ?_, fun h_94 => ?_⟩
                        · try rw [show gp_wr (20 * p0) = 20 * p0 from gp_wr_id (by omega) (by omega)]
                          try rw [show gp_wr ((20 * p0) + v4_93) = (20 * p0) + v4_93 from gp_wr_id (by omega) (by omega)]
                          refine ⟨by omega, ?_⟩
                          intro s_95 e_96
                          have hs_97 : MI s_95 := by rw [e_96]; exact mw83 hs_s_93 _ _
                          have hf_98 : gF [75, 83, 84, 85] [] s s_95 := by rw [e_96]; exact gF.wI hf_s_93 (Or.inl rfl)
                          try rw [show gp_wr (v4_93 + 1) = v4_93 + 1 from gp_wr_id (by omega) (by omega)]
                          exact ih_93 _ _ hs_97 hf_98 (by omega) (by omega)
                        · exact k _ s_93 hs_s_93 hf_s_93
                    exact lp_93 _ _ _ hs_91 hf_92 (by omega) (Nat.lt_succ_self _)
        · refine ⟨fun h_99 => ?_, fun h_99 => ?_⟩
          · refine s_3178_35 _ _ _ _ ?_
            refine ⟨fun h_100 => ?_, fun h_100 => ?_⟩
            · exfalso; omega
            · refine ⟨fun h_101 => ?_, fun h_101 => ?_⟩
              · refine vm_finds _ hs (by omega) (fun x_102 s_103 hs_104 hf_105 p_106 p_107 => ⟨_, rfl, ?_⟩)
                have hf_108 : gF [75, 83, 84, 85] [] s s_103 := gF.sub hf_105 rfl rfl
                exact k _ s_103 hs_104 hf_108
              · refine s_3178_49 _ _ _ _ ?_
                refine ⟨fun h_109 => ?_, fun h_109 => ?_⟩
                · exfalso; omega
                · refine ⟨fun h_110 => ?_, fun h_110 => ?_⟩
                  · refine vm_finds _ hs (by omega) (fun x_111 s_112 hs_113 hf_114 p_115 p_116 => ⟨_, rfl, ?_⟩)
                    have hf_117 : gF [75, 83, 84, 85] [] s s_112 := gF.sub hf_114 rfl rfl
                    exact k _ s_112 hs_113 hf_117
                  · refine s_3178_65 _ _ _ _ ?_
                    refine ⟨by omega, ?_⟩
                    intro s_118 e_119
                    have hs_120 : MI s_118 := by rw [e_119]; exact mw84 hs _ _
                    have hf_121 : gF [75, 83, 84, 85] [] s s_118 := by rw [e_119]; exact gF.wI (gF.refl _ _ _) (Or.inl rfl)
                    refine ⟨fun h_122 => ?_, fun h_122 => ?_⟩
                    · exfalso; omega
                    · refine s_3178_86 _ _ _ _ _ _ ?_
                      refine ⟨by omega, ?_⟩
                      intro s_123 e_124
                      have hs_125 : MI s_123 := by rw [e_124]; exact mw85 hs_120 _ _ (by omega)
                      have hf_126 : gF [75, 83, 84, 85] [] s s_123 := by rw [e_124]; exact gF.wI hf_121 (Or.inl rfl)
                      have lp_127 : ∀ (n_127 : Nat) (v4_127 : Int) (s_127 : gH), (MI s_127) → (gF [75, 83, 84, 85] [] s s_127) → (0 ≤ v4_127 ∧ v4_127 ≤ 20) → (21 - v4_127).toNat < n_127 → gs_E L (d + 1) 3178 90 [gp_r (some 74), gp_i p0, gp_i p1, gp_i p2, gp_i v4_127] [] s_127 K := by
                        intro n_127
                        induction n_127 with
                        | zero => intro v4_127 s_127 hs_s_127 hf_s_127 hv4_127 hm_127; exact absurd hm_127 (Nat.not_lt_zero _)
                        | succ n_127 ih_127 =>
                          intro v4_127 s_127 hs_s_127 hf_s_127 hv4_127 hm_127
                          refine s_3178_90 _ _ _ _ ?_
                          refine ⟨fun h_128 => ?_, fun h_128 => ?_⟩
                          · try rw [show gp_wr (20 * p0) = 20 * p0 from gp_wr_id (by omega) (by omega)]
                            try rw [show gp_wr ((20 * p0) + v4_127) = (20 * p0) + v4_127 from gp_wr_id (by omega) (by omega)]
                            refine ⟨by omega, ?_⟩
                            intro s_129 e_130
                            have hs_131 : MI s_129 := by rw [e_130]; exact mw83 hs_s_127 _ _
                            have hf_132 : gF [75, 83, 84, 85] [] s s_129 := by rw [e_130]; exact gF.wI hf_s_127 (Or.inl rfl)
                            try rw [show gp_wr (v4_127 + 1) = v4_127 + 1 from gp_wr_id (by omega) (by omega)]
                            exact ih_127 _ _ hs_131 hf_132 (by omega) (by omega)
                          · exact k _ s_127 hs_s_127 hf_s_127
                      exact lp_127 _ _ _ hs_125 hf_126 (by omega) (Nat.lt_succ_self _)
          · refine s_3178_29 _ _ _ _ ?_
            refine vm_finds _ hs (by omega) (fun x_133 s_134 hs_135 hf_136 p_137 p_138 => ⟨_, rfl, ?_⟩)
            have hf_139 : gF [75, 83, 84, 85] [] s s_134 := gF.sub hf_136 rfl rfl
            exact k _ s_134 hs_135 hf_139
set_option maxRecDepth 100000 in
/-- GatheredPointsModel.lacksNumber -/
theorem vm_lacksNumber  {L d : Nat} {K : Option gV → gH → Prop} {s : gH}  (p0 : Int) (p1 : Int) (hs : MI s) (h_p0 : (-2147483648) ≤ p0 ∧ p0 ≤ 2147483647) (h_p1 : (-2147483648) ≤ p1 ∧ p1 ≤ 2147483647)  (k : ∀ (r : Int), (0 ≤ r ∧ r ≤ 2) → (r = 0 → 0 ≤ p0 ∧ p0 ≤ 3 ∧ 0 ≤ p1 ∧ p1 < gp_I s 85 p0.toNat ∧ p1 ≤ 19) → K (some (gp_i r)) s) : gs_C L (d + 1) 3179 3 [gp_r (some 74), gp_i p0, gp_i p1] s K := by
  refine s_3179_e _ _ ?_
  refine vm_isSheet _ (fun x_1 p_2 p_3 p_4 => ⟨_, rfl, ?_⟩)
  refine ⟨fun h_5 => ?_, fun h_5 => ?_⟩
  · refine s_3179_47 _ _ _ ?_
    exact k _ (by omega) (by first | omega | assumption)
  · refine ⟨by omega, ?_⟩
    refine ⟨fun h_6 => ?_, fun h_6 => ?_⟩
    · refine s_3179_47 _ _ _ ?_
      exact k _ (by omega) (by first | omega | assumption)
    · have w_7 := gz_oi (p1) (by omega)
      refine ⟨by omega, ?_⟩
      have f_8 := mr85 hs (Int.toNat p0)
      try rw [show gp_wr ((gp_I s 85 (Int.toNat p0)) - 1) = (gp_I s 85 (Int.toNat p0)) - 1 from gp_wr_id (by omega) (by omega)]
      have w_9 := gz_oi ((gp_I s 85 (Int.toNat p0)) - 1) (by omega)
      refine vm_isIn _ _ _ (fun x_10 p_11 p_12 => ⟨_, rfl, ?_⟩)
      have w_13 : BitVec.toInt (0#64) = 0 := by decide
      refine ⟨fun h_14 => ?_, fun h_14 => ?_⟩
      · refine s_3179_47 _ _ _ ?_
        exact k _ (by omega) (by first | omega | assumption)
      · refine s_3179_47 _ _ _ ?_
        exact k _ (by omega) (by first | omega | assumption)
set_option maxRecDepth 100000 in
/-- GatheredPointsModel.put -/
theorem wp_put  {L d : Nat} {K : Option gV → gH → Prop} {s : gH}  (p0 : Int) (p1 : Int) (p2 : Int) (hs : MI s) (h_p0 : (-2147483648) ≤ p0 ∧ p0 ≤ 2147483647) (h_p1 : (-2147483648) ≤ p1 ∧ p1 ≤ 2147483647) (h_p2 : (-2147483648) ≤ p2 ∧ p2 ≤ 2147483647)  (k : ∀ (r : Int), ∀ (t : gH), MI t → gF [75, 83] [] s t → K (some (gp_i r)) t) : gs_C L (d + 2) 3180 6 [gp_r (some 74), gp_i p0, gp_i p1, gp_i p2] s K := by
  refine s_3180_e _ _ _ ?_
  refine vm_lacksNumber _ _ hs (by omega) (by omega) (fun x_1 p_2 p_3 => ⟨_, rfl, ?_⟩)
  refine ⟨fun h_4 => ?_, fun h_4 => ?_⟩
  · refine ⟨by omega, ?_⟩
    try rw [show gp_wr (20 * p0) = 20 * p0 from gp_wr_id (by omega) (by omega)]
    try rw [show gp_wr ((20 * p0) + p1) = (20 * p0) + p1 from gp_wr_id (by omega) (by omega)]
    refine ⟨fun h_5 => ?_, fun h_5 => ?_⟩
    · have w_6 := gz_b (p2)
      refine s_3180_63 _ _ _ _ _ _ _ ?_
      refine ⟨by omega, ?_⟩
      intro s_7 e_8
      have hs_9 : MI s_7 := by rw [e_8]; exact mw83 hs _ _
      have hf_10 : gF [75, 83] [] s s_7 := by rw [e_8]; exact gF.wI (gF.refl _ _ _) (Or.inl rfl)
      exact k _ s_7 hs_9 hf_10
    · refine ⟨fun h_11 => ?_, fun h_11 => ?_⟩
      · have w_12 := gz_s (p2)
        refine s_3180_63 _ _ _ _ _ _ _ ?_
        refine ⟨by omega, ?_⟩
        intro s_13 e_14
        have hs_15 : MI s_13 := by rw [e_14]; exact mw83 hs _ _
        have hf_16 : gF [75, 83] [] s s_13 := by rw [e_14]; exact gF.wI (gF.refl _ _ _) (Or.inl rfl)
        exact k _ s_13 hs_15 hf_16
      · refine s_3180_63 _ _ _ _ _ _ _ ?_
        refine ⟨by omega, ?_⟩
        intro s_17 e_18
        have hs_19 : MI s_17 := by rw [e_18]; exact mw83 hs _ _
        have hf_20 : gF [75, 83] [] s s_17 := by rw [e_18]; exact gF.wI (gF.refl _ _ _) (Or.inl rfl)
        exact k _ s_17 hs_19 hf_20
  · refine vm_finds _ hs (by omega) (fun x_21 s_22 hs_23 hf_24 p_25 p_26 => ⟨_, rfl, ?_⟩)
    have hf_27 : gF [75, 83] [] s s_22 := gF.sub hf_24 rfl rfl
    exact k _ s_22 hs_23 hf_27
set_option maxRecDepth 100000 in
/-- GatheredPointsModel.number -/
theorem wp_number  {L d : Nat} {K : Option gV → gH → Prop} {s : gH}  (p0 : Int) (p1 : Int) (hs : MI s) (h_p0 : (-2147483648) ≤ p0 ∧ p0 ≤ 2147483647) (h_p1 : (-2147483648) ≤ p1 ∧ p1 ≤ 2147483647)  (k : ∀ (r : Int), ∀ (t : gH), MI t → gF [75] [] s t → K (some (gp_i r)) t) : gs_C L (d + 2) 3181 4 [gp_r (some 74), gp_i p0, gp_i p1] s K := by
  refine s_3181_e _ _ ?_
  refine vm_lacksNumber _ _ hs (by omega) (by omega) (fun x_1 p_2 p_3 => ⟨_, rfl, ?_⟩)
  refine ⟨fun h_4 => ?_, fun h_4 => ?_⟩
  · try rw [show gp_wr (20 * p0) = 20 * p0 from gp_wr_id (by omega) (by omega)]
    try rw [show gp_wr ((20 * p0) + p1) = (20 * p0) + p1 from gp_wr_id (by omega) (by omega)]
    refine ⟨by omega, ?_⟩
    refine s_3181_30 _ _ _ _ ?_
    exact k _ s hs (gF.refl _ _ _)
  · refine vm_finds _ hs (by omega) (fun x_5 s_6 hs_7 hf_8 p_9 p_10 => ⟨_, rfl, ?_⟩)
    have hf_11 : gF [75] [] s s_6 := gF.sub hf_8 rfl rfl
    refine s_3181_30 _ _ _ _ ?_
    exact k _ s_6 hs_7 hf_11
set_option maxRecDepth 100000 in
/-- GatheredPointsModel.shift -/
theorem wp_shift  {L d : Nat} {K : Option gV → gH → Prop} {s : gH}  (p0 : Int) (p1 : Int) (p2 : Int) (p3 : Int) (p4 : Int) (hs : MI s) (h_p0 : (-2147483648) ≤ p0 ∧ p0 ≤ 2147483647) (h_p1 : (-2147483648) ≤ p1 ∧ p1 ≤ 2147483647) (h_p2 : (-2147483648) ≤ p2 ∧ p2 ≤ 2147483647) (h_p3 : (-2147483648) ≤ p3 ∧ p3 ≤ 2147483647) (h_p4 : (-2147483648) ≤ p4 ∧ p4 ≤ 2147483647)  (k : ∀ (r : Int), ∀ (t : gH), MI t → gF [75, 83, 116] [] s t → K (some (gp_i r)) t) : gs_C L (d + 1) 3182 7 [gp_r (some 74), gp_i p0, gp_i p1, gp_i p2, gp_i p3, gp_i p4] s K := by
  refine s_3182_e _ _ _ _ _ ?_
  refine vm_isSheet _ (fun x_1 p_2 p_3 p_4 => ⟨_, rfl, ?_⟩)
  refine ⟨fun h_5 => ?_, fun h_5 => ?_⟩
  · refine s_3182_14 _ _ _ _ _ _ ?_
    refine vm_finds _ hs (by omega) (fun x_6 s_7 hs_8 hf_9 p_10 p_11 => ⟨_, rfl, ?_⟩)
    have hf_12 : gF [75, 83, 116] [] s s_7 := gF.sub hf_9 rfl rfl
    exact k _ s_7 hs_8 hf_12
  · refine vm_isSheet _ (fun x_13 p_14 p_15 p_16 => ⟨_, rfl, ?_⟩)
    refine ⟨fun h_17 => ?_, fun h_17 => ?_⟩
    · refine s_3182_14 _ _ _ _ _ _ ?_
      refine vm_finds _ hs (by omega) (fun x_18 s_19 hs_20 hf_21 p_22 p_23 => ⟨_, rfl, ?_⟩)
      have hf_24 : gF [75, 83, 116] [] s s_19 := gF.sub hf_21 rfl rfl
      exact k _ s_19 hs_20 hf_24
    · refine ⟨by omega, ?_⟩
      refine ⟨fun h_25 => ?_, fun h_25 => ?_⟩
      · refine s_3182_38 _ _ _ _ _ _ ?_
        refine vm_finds _ hs (by omega) (fun x_26 s_27 hs_28 hf_29 p_30 p_31 => ⟨_, rfl, ?_⟩)
        have hf_32 : gF [75, 83, 116] [] s s_27 := gF.sub hf_29 rfl rfl
        exact k _ s_27 hs_28 hf_32
      · refine ⟨by omega, ?_⟩
        refine ⟨fun h_33 => ?_, fun h_33 => ?_⟩
        · refine s_3182_38 _ _ _ _ _ _ ?_
          refine vm_finds _ hs (by omega) (fun x_34 s_35 hs_36 hf_37 p_38 p_39 => ⟨_, rfl, ?_⟩)
          have hf_40 : gF [75, 83, 116] [] s s_35 := gF.sub hf_37 rfl rfl
          exact k _ s_35 hs_36 hf_40
        · refine ⟨by omega, ?_⟩
          refine ⟨by omega, ?_⟩
          refine ⟨fun h_41 => ?_, fun h_41 => ?_⟩
          · refine ⟨fun h_42 => ?_, fun h_42 => ?_⟩
            · refine s_3182_106 _ _ _ _ _ _ ?_
              refine vm_finds _ hs (by omega) (fun x_43 s_44 hs_45 hf_46 p_47 p_48 => ⟨_, rfl, ?_⟩)
              have hf_49 : gF [75, 83, 116] [] s s_44 := gF.sub hf_46 rfl rfl
              exact k _ s_44 hs_45 hf_49
            · refine ⟨fun h_50 => ?_, fun h_50 => ?_⟩
              · refine s_3182_106 _ _ _ _ _ _ ?_
                refine vm_finds _ hs (by omega) (fun x_51 s_52 hs_53 hf_54 p_55 p_56 => ⟨_, rfl, ?_⟩)
                have hf_57 : gF [75, 83, 116] [] s s_52 := gF.sub hf_54 rfl rfl
                exact k _ s_52 hs_53 hf_57
              · refine ⟨fun h_58 => ?_, fun h_58 => ?_⟩
                · refine s_3182_106 _ _ _ _ _ _ ?_
                  refine vm_finds _ hs (by omega) (fun x_59 s_60 hs_61 hf_62 p_63 p_64 => ⟨_, rfl, ?_⟩)
                  have hf_65 : gF [75, 83, 116] [] s s_60 := gF.sub hf_62 rfl rfl
                  exact k _ s_60 hs_61 hf_65
                · refine ⟨by omega, ?_⟩
                  have f_66 := mr85 hs (Int.toNat p0)
                  try rw [show gp_wr ((gp_I s 85 (Int.toNat p0)) - p4) = (gp_I s 85 (Int.toNat p0)) - p4 from gp_wr_id (by omega) (by omega)]
                  refine ⟨fun h_67 => ?_, fun h_67 => ?_⟩
                  · refine s_3182_106 _ _ _ _ _ _ ?_
                    refine vm_finds _ hs (by omega) (fun x_68 s_69 hs_70 hf_71 p_72 p_73 => ⟨_, rfl, ?_⟩)
                    have hf_74 : gF [75, 83, 116] [] s s_69 := gF.sub hf_71 rfl rfl
                    exact k _ s_69 hs_70 hf_74
                  · refine ⟨by omega, ?_⟩
                    have f_75 := mr85 hs (Int.toNat p2)
                    try rw [show gp_wr ((gp_I s 85 (Int.toNat p2)) - p4) = (gp_I s 85 (Int.toNat p2)) - p4 from gp_wr_id (by omega) (by omega)]
                    refine ⟨fun h_76 => ?_, fun h_76 => ?_⟩
                    · refine s_3182_106 _ _ _ _ _ _ ?_
                      refine vm_finds _ hs (by omega) (fun x_77 s_78 hs_79 hf_80 p_81 p_82 => ⟨_, rfl, ?_⟩)
                      have hf_83 : gF [75, 83, 116] [] s s_78 := gF.sub hf_80 rfl rfl
                      exact k _ s_78 hs_79 hf_83
                    · have lp_84 : ∀ (n_84 : Nat) (v6_84 : Int) (s_84 : gH), (MI s_84) → (gF [75, 83, 116] [] s s_84) → (0 ≤ v6_84 ∧ v6_84 ≤ 20) → (21 - v6_84).toNat < n_84 → gs_E L (d + 1) 3182 115 [gp_r (some 74), gp_i p0, gp_i p1, gp_i p2, gp_i p3, gp_i p4, gp_i v6_84] [] s_84 K := by
                        intro n_84
                        induction n_84 with
                        | zero => intro v6_84 s_84 hs_s_84 hf_s_84 hv6_84 hm_84; exact absurd hm_84 (Nat.not_lt_zero _)
                        | succ n_84 ih_84 =>
                          intro v6_84 s_84 hs_s_84 hf_s_84 hv6_84 hm_84
                          refine s_3182_115 _ _ _ _ _ _ ?_
                          refine ⟨fun h_85 => ?_, fun h_85 => ?_⟩
                          · try rw [show gp_wr (20 * p0) = 20 * p0 from gp_wr_id (by omega) (by omega)]
                            try rw [show gp_wr ((20 * p0) + p1) = (20 * p0) + p1 from gp_wr_id (by omega) (by omega)]
                            try rw [show gp_wr (((20 * p0) + p1) + v6_84) = ((20 * p0) + p1) + v6_84 from gp_wr_id (by omega) (by omega)]
                            refine ⟨by omega, ?_⟩
                            refine ⟨by omega, ?_⟩
                            intro s_86 e_87
                            have hs_88 : MI s_86 := by rw [e_87]; exact mw116 hs_s_84 _ _
                            have hf_89 : gF [75, 83, 116] [] s s_86 := by rw [e_87]; exact gF.wI hf_s_84 (Or.inl rfl)
                            try rw [show gp_wr (v6_84 + 1) = v6_84 + 1 from gp_wr_id (by omega) (by omega)]
                            exact ih_84 _ _ hs_88 hf_89 (by omega) (by omega)
                          · have lp_90 : ∀ (n_90 : Nat) (v6_90 : Int) (s_90 : gH), (MI s_90) → (gF [75, 83, 116] [] s s_90) → (0 ≤ v6_90 ∧ v6_90 ≤ 20) → (21 - v6_90).toNat < n_90 → gs_E L (d + 1) 3182 152 [gp_r (some 74), gp_i p0, gp_i p1, gp_i p2, gp_i p3, gp_i p4, gp_i v6_90] [] s_90 K := by
                              intro n_90
                              induction n_90 with
                              | zero => intro v6_90 s_90 hs_s_90 hf_s_90 hv6_90 hm_90; exact absurd hm_90 (Nat.not_lt_zero _)
                              | succ n_90 ih_90 =>
                                intro v6_90 s_90 hs_s_90 hf_s_90 hv6_90 hm_90
                                refine s_3182_152 _ _ _ _ _ _ ?_
                                refine ⟨fun h_91 => ?_, fun h_91 => ?_⟩
                                · try rw [show gp_wr (20 * p2) = 20 * p2 from gp_wr_id (by omega) (by omega)]
                                  try rw [show gp_wr ((20 * p2) + p3) = (20 * p2) + p3 from gp_wr_id (by omega) (by omega)]
                                  try rw [show gp_wr (((20 * p2) + p3) + v6_90) = ((20 * p2) + p3) + v6_90 from gp_wr_id (by omega) (by omega)]
                                  refine ⟨by omega, ?_⟩
                                  refine ⟨by omega, ?_⟩
                                  intro s_92 e_93
                                  have hs_94 : MI s_92 := by rw [e_93]; exact mw83 hs_s_90 _ _
                                  have hf_95 : gF [75, 83, 116] [] s s_92 := by rw [e_93]; exact gF.wI hf_s_90 (Or.inl rfl)
                                  try rw [show gp_wr (v6_90 + 1) = v6_90 + 1 from gp_wr_id (by omega) (by omega)]
                                  exact ih_90 _ _ hs_94 hf_95 (by omega) (by omega)
                                · exact k _ s_90 hs_s_90 hf_s_90
                            exact lp_90 _ _ _ hs_s_84 hf_s_84 (by omega) (Nat.lt_succ_self _)
                      exact lp_84 _ _ _ hs (gF.refl _ _ _) (by omega) (Nat.lt_succ_self _)
          · refine vm_finds _ hs (by omega) (fun x_96 s_97 hs_98 hf_99 p_100 p_101 => ⟨_, rfl, ?_⟩)
            have hf_102 : gF [75, 83, 116] [] s s_97 := gF.sub hf_99 rfl rfl
            exact k _ s_97 hs_98 hf_102
