set_option maxRecDepth 100000 in
/-- GatheredPointsModel.isIn -/
theorem vm_isIn  {L d : Nat} {K : Option gV → gH → Prop} {s : gH}  (p0 : BitVec 64) (p1 : BitVec 64) (p2 : BitVec 64)    (k : ∀ (r : Int), (0 ≤ r ∧ r ≤ 1) → ((r = 1 ∧ p1.toInt ≤ p0.toInt ∧ p0.toInt ≤ p2.toInt) ∨ (r = 0 ∧ (p0.toInt < p1.toInt ∨ p2.toInt < p0.toInt))) → K (some (gp_i r)) s) : gs_C L d 3073 6 [gp_l p0, gp_l p1, gp_l p2] s K := by
  refine s_3073_e _ _ _ ?_
  have w_1 := gz_cmp p0 p1
  refine ⟨fun h_2 => ?_, fun h_2 => ?_⟩
  · refine s_3073_17 _ _ _ ?_
    refine s_3073_18 _ _ _ _ ?_
    refine ⟨by omega, ?_⟩
    exact k _ (by omega) (by first | omega | assumption)
  · have w_3 := gz_cmp p0 p2
    refine ⟨fun h_4 => ?_, fun h_4 => ?_⟩
    · refine s_3073_17 _ _ _ ?_
      refine s_3073_18 _ _ _ _ ?_
      refine ⟨by omega, ?_⟩
      exact k _ (by omega) (by first | omega | assumption)
    · refine s_3073_18 _ _ _ _ ?_
      refine ⟨by omega, ?_⟩
      exact k _ (by omega) (by first | omega | assumption)
set_option maxRecDepth 100000 in
/-- GatheredPointsModel.finds -/
theorem vm_finds  {L d : Nat} {K : Option gV → gH → Prop} {s : gH}  (p0 : Int) (hs : MI s) (h_p0 : 0 ≤ p0 ∧ p0 ≤ 6)  (k : ∀ (r : Int), ∀ (t : gH), MI t → gF [75] [] s t → ((-1000000006) ≤ r ∧ r ≤ (-1000000000)) → (r = -1000000000 - p0) → K (some (gp_i r)) t) : gs_C L d 3074 2 [gp_r (some 74), gp_i p0] s K := by
  refine s_3074_e _ ?_
  refine ⟨by omega, ?_⟩
  have w_1 := wr_rng ((gp_I s 75 (Int.toNat p0)) + 1)
  refine ⟨by omega, ?_⟩
  intro s_2 e_3
  have hs_4 : MI s_2 := by rw [e_3]; exact mw75 hs _ _
  have hf_5 : gF [75] [] s s_2 := by rw [e_3]; exact gF.wI (gF.refl _ _ _) (Or.inl rfl)
  try rw [show gp_wr ((-1000000000) - p0) = (-1000000000) - p0 from gp_wr_id (by omega) (by omega)]
  exact k _ s_2 hs_4 hf_5 (by omega) (by first | omega | assumption)
set_option maxRecDepth 100000 in
/-- GatheredPointsModel.isSlot -/
theorem vm_isSlot  {L d : Nat} {K : Option gV → gH → Prop} {s : gH}  (p0 : Int)    (k : ∀ (r : Int), (0 ≤ r ∧ r ≤ 1) → (r = 1 → 0 ≤ p0 ∧ p0 ≤ 7) → (r = 0 → p0 < 0 ∨ 7 < p0) → K (some (gp_i r)) s) : gs_C L d 3075 1 [gp_i p0] s K := by
  refine s_3075_e _ ?_
  refine ⟨fun h_1 => ?_, fun h_1 => ?_⟩
  · refine s_3075_14 _ ?_
    refine s_3075_15 _ _ ?_
    refine ⟨by omega, ?_⟩
    exact k _ (by omega) (by first | omega | assumption) (by first | omega | assumption)
  · refine ⟨fun h_2 => ?_, fun h_2 => ?_⟩
    · refine s_3075_15 _ _ ?_
      refine ⟨by omega, ?_⟩
      exact k _ (by omega) (by first | omega | assumption) (by first | omega | assumption)
    · refine s_3075_14 _ ?_
      refine s_3075_15 _ _ ?_
      refine ⟨by omega, ?_⟩
      exact k _ (by omega) (by first | omega | assumption) (by first | omega | assumption)
set_option maxRecDepth 100000 in
/-- GatheredPointsModel.isSheet -/
theorem vm_isSheet  {L d : Nat} {K : Option gV → gH → Prop} {s : gH}  (p0 : Int)    (k : ∀ (r : Int), (0 ≤ r ∧ r ≤ 1) → (r = 1 → 0 ≤ p0 ∧ p0 ≤ 3) → (r = 0 → p0 < 0 ∨ 3 < p0) → K (some (gp_i r)) s) : gs_C L d 3076 1 [gp_i p0] s K := by
  refine s_3076_e _ ?_
  refine ⟨fun h_1 => ?_, fun h_1 => ?_⟩
  · refine s_3076_13 _ ?_
    refine s_3076_14 _ _ ?_
    refine ⟨by omega, ?_⟩
    exact k _ (by omega) (by first | omega | assumption) (by first | omega | assumption)
  · refine ⟨fun h_2 => ?_, fun h_2 => ?_⟩
    · refine s_3076_14 _ _ ?_
      refine ⟨by omega, ?_⟩
      exact k _ (by omega) (by first | omega | assumption) (by first | omega | assumption)
    · refine s_3076_13 _ ?_
      refine s_3076_14 _ _ ?_
      refine ⟨by omega, ?_⟩
      exact k _ (by omega) (by first | omega | assumption) (by first | omega | assumption)
set_option maxRecDepth 100000 in
/-- GatheredPointsModel.isSide -/
theorem vm_isSide  {L d : Nat} {K : Option gV → gH → Prop} {s : gH}  (p0 : Int)    (k : ∀ (r : Int), (0 ≤ r ∧ r ≤ 1) → (r = 1 → 0 ≤ p0 ∧ p0 ≤ 1) → (r = 0 → p0 < 0 ∨ 1 < p0) → K (some (gp_i r)) s) : gs_C L d 3077 1 [gp_i p0] s K := by
  refine s_3077_e _ ?_
  refine ⟨fun h_1 => ?_, fun h_1 => ?_⟩
  · refine s_3077_9 _ ?_
    refine s_3077_14 _ _ ?_
    refine ⟨by omega, ?_⟩
    exact k _ (by omega) (by first | omega | assumption) (by first | omega | assumption)
  · refine ⟨fun h_2 => ?_, fun h_2 => ?_⟩
    · refine s_3077_9 _ ?_
      refine s_3077_14 _ _ ?_
      refine ⟨by omega, ?_⟩
      exact k _ (by omega) (by first | omega | assumption) (by first | omega | assumption)
    · refine s_3077_14 _ _ ?_
      refine ⟨by omega, ?_⟩
      exact k _ (by omega) (by first | omega | assumption) (by first | omega | assumption)
set_option maxRecDepth 100000 in
/-- GatheredPointsModel.root -/
theorem vm_root  {L d : Nat} {K : Option gV → gH → Prop} {s : gH}  (p0 : Int) (hs : MI s) (h_p0 : 0 ≤ p0 ∧ p0 ≤ 84)  (k : ∀ (r : Int), ((-1) ≤ r ∧ r ≤ 63) → (r = gp_I s 81 p0.toNat - 1) → K (some (gp_i r)) s) : gs_C L d 3081 2 [gp_r (some 74), gp_i p0] s K := by
  refine s_3081_e _ ?_
  refine ⟨by omega, ?_⟩
  have f_1 := mr81 hs (Int.toNat p0)
  try rw [show gp_wr ((gp_I s 81 (Int.toNat p0)) - 1) = (gp_I s 81 (Int.toNat p0)) - 1 from gp_wr_id (by omega) (by omega)]
  exact k _ (by omega) (by first | omega | assumption)
set_option maxRecDepth 100000 in
/-- GatheredPointsModel.side -/
theorem vm_sideOf  {L d : Nat} {K : Option gV → gH → Prop} {s : gH}  (p0 : Int) (p1 : Int) (p2 : Int) (hs : MI s) (h_p0 : 0 ≤ p0 ∧ p0 ≤ 84) (h_p1 : 0 ≤ p1 ∧ p1 ≤ 63)  (k : ∀ (r : BitVec 64), (bd r p1) → (p2 = 0 → r = gp_L s 76 (Int.toNat (64 * p0 + p1))) → (p2 ≠ 0 → r = gp_L s 77 (Int.toNat (64 * p0 + p1))) → (r = sd s p2 p0 p1) → K (some (gp_l r)) s) : gs_C L d 3082 4 [gp_r (some 74), gp_i p0, gp_i p1, gp_i p2] s K := by
  refine s_3082_e _ _ _ ?_
  refine ⟨fun h_1 => ?_, fun h_1 => ?_⟩
  · try rw [show gp_wr (64 * p0) = 64 * p0 from gp_wr_id (by omega) (by omega)]
    try rw [show gp_wr ((64 * p0) + p1) = (64 * p0) + p1 from gp_wr_id (by omega) (by omega)]
    refine ⟨by omega, ?_⟩
    have b_2 := mr76 hs p0 p1 (by omega) (by omega)
    refine s_3082_29 _ _ _ _ ?_
    exact k _ (by first | assumption | exact bd_le (by assumption) (by omega)) (by first | (intro h0; rfl) | (intro h0; exfalso; omega)) (by first | (intro h0; rfl) | (intro h0; exfalso; omega)) (by first | exact sd_0 (by assumption) | exact sd_1 (by assumption))
  · try rw [show gp_wr (64 * p0) = 64 * p0 from gp_wr_id (by omega) (by omega)]
    try rw [show gp_wr ((64 * p0) + p1) = (64 * p0) + p1 from gp_wr_id (by omega) (by omega)]
    refine ⟨by omega, ?_⟩
    have b_3 := mr77 hs p0 p1 (by omega) (by omega)
    refine s_3082_29 _ _ _ _ ?_
    exact k _ (by first | assumption | exact bd_le (by assumption) (by omega)) (by first | (intro h0; rfl) | (intro h0; exfalso; omega)) (by first | (intro h0; rfl) | (intro h0; exfalso; omega)) (by first | exact sd_0 (by assumption) | exact sd_1 (by assumption))
set_option maxRecDepth 100000 in
/-- GatheredPointsModel.shut -/
theorem vm_shut  {L d : Nat} {K : Option gV → gH → Prop} {s : gH}  (p0 : Int) (p1 : Int) (p2 : Int) (hs : MI s) (h_p0 : 0 ≤ p0 ∧ p0 ≤ 84) (h_p1 : 0 ≤ p1 ∧ p1 ≤ 63)  (k : ∀ (r : Int), (p2 = 0 → r = gp_I s 78 (Int.toNat (64 * p0 + p1))) → (p2 ≠ 0 → r = gp_I s 79 (Int.toNat (64 * p0 + p1))) → K (some (gp_i r)) s) : gs_C L d 3083 4 [gp_r (some 74), gp_i p0, gp_i p1, gp_i p2] s K := by
  refine s_3083_e _ _ _ ?_
  refine ⟨fun h_1 => ?_, fun h_1 => ?_⟩
  · try rw [show gp_wr (64 * p0) = 64 * p0 from gp_wr_id (by omega) (by omega)]
    try rw [show gp_wr ((64 * p0) + p1) = (64 * p0) + p1 from gp_wr_id (by omega) (by omega)]
    refine ⟨by omega, ?_⟩
    refine s_3083_29 _ _ _ _ ?_
    exact k _ (by first | (intro h0; rfl) | (intro h0; exfalso; omega)) (by first | (intro h0; rfl) | (intro h0; exfalso; omega))
  · try rw [show gp_wr (64 * p0) = 64 * p0 from gp_wr_id (by omega) (by omega)]
    try rw [show gp_wr ((64 * p0) + p1) = (64 * p0) + p1 from gp_wr_id (by omega) (by omega)]
    refine ⟨by omega, ?_⟩
    refine s_3083_29 _ _ _ _ ?_
    exact k _ (by first | (intro h0; rfl) | (intro h0; exfalso; omega)) (by first | (intro h0; rfl) | (intro h0; exfalso; omega))
set_option maxRecDepth 100000 in
/-- GatheredPointsModel.copies -/
theorem vm_copies  {L d : Nat} {K : Option gV → gH → Prop} {s : gH}  (p0 : Int) (p1 : Int) (hs : MI s) (h_p0 : 0 ≤ p0 ∧ p0 ≤ 84) (h_p1 : 0 ≤ p1 ∧ p1 ≤ 84) (q0 : p1 ≠ 20) (q1 : (p1 < 8 → 1 ≤ gp_I s 81 p0.toNat)) (k : ∀ (t : gH), MI t → gF [76, 77, 78, 79, 80, 81] [] s t → (gp_I t 81 p1.toNat = gp_I s 81 p0.toNat) → (∀ k : Nat, k ≠ p1.toNat → gp_I t 81 k = gp_I s 81 k) → K none t) : gs_C L d 3084 6 [gp_r (some 74), gp_i p0, gp_i p1] s K := by
  have f_1 := mr81 hs p0.toNat
  have f_2 := mr81 hs p1.toNat
  refine s_3084_e _ _ ?_
  refine ⟨by omega, ?_⟩
  have f_3 := mr81 hs (Int.toNat p0)
  refine ⟨by omega, ?_⟩
  intro s_4 e_5
  have hs_6 : MI s_4 := by rw [e_5]; exact mw81 hs _ _ (by omega)
  have hf_7 : gF [76, 77, 78, 79, 80, 81] [] s s_4 := by rw [e_5]; exact gF.wI (gF.refl _ _ _) (Or.inl rfl)
  have q_8 := gz_rw s 81 (Int.toNat p1) p0.toNat (gp_I s 81 (Int.toNat p0)); rw [← e_5] at q_8
  have q_9 := gz_rw s 81 (Int.toNat p1) p1.toNat (gp_I s 81 (Int.toNat p0)); rw [← e_5] at q_9
  have lp_10 : ∀ (n_10 : Nat) (v3_10 : Int) (v4_10 : gV) (v5_10 : gV) (s_10 : gH), (MI s_10) → (gF [76, 77, 78, 79, 80, 81] [] s s_10) → (0 ≤ v3_10 ∧ v3_10 ≤ 60) → (gp_I s_10 81 p0.toNat = gp_I s_4 81 p0.toNat) → (gp_I s_10 81 p1.toNat = gp_I s_4 81 p1.toNat) → (∀ k : Nat, k ≠ p1.toNat → gp_I s_10 81 k = gp_I s 81 k) → (61 - v3_10).toNat < n_10 → gs_E L d 3084 14 [gp_r (some 74), gp_i p0, gp_i p1, gp_i v3_10, v4_10, v5_10] [] s_10 K := by
    intro n_10
    induction n_10 with
    | zero => intro v3_10 v4_10 v5_10 s_10 hs_s_10 hf_s_10 hv3_10 tk0_10 tk1_10 iv0_10 hm_10; exact absurd hm_10 (Nat.not_lt_zero _)
    | succ n_10 ih_10 =>
      intro v3_10 v4_10 v5_10 s_10 hs_s_10 hf_s_10 hv3_10 tk0_10 tk1_10 iv0_10 hm_10
      refine s_3084_14 _ _ _ _ _ ?_
      refine ⟨by omega, ?_⟩
      have f_11 := mr81 hs_s_10 (Int.toNat p0)
      refine ⟨fun h_12 => ?_, fun h_12 => ?_⟩
      · try rw [show gp_wr (64 * p0) = 64 * p0 from gp_wr_id (by omega) (by omega)]
        try rw [show gp_wr ((64 * p0) + v3_10) = (64 * p0) + v3_10 from gp_wr_id (by omega) (by omega)]
        try rw [show gp_wr (64 * p1) = 64 * p1 from gp_wr_id (by omega) (by omega)]
        try rw [show gp_wr ((64 * p1) + v3_10) = (64 * p1) + v3_10 from gp_wr_id (by omega) (by omega)]
        refine ⟨by omega, ?_⟩
        have b_13 := mr76 hs_s_10 p0 v3_10 (by omega) (by omega)
        refine ⟨by omega, ?_⟩
        intro s_14 e_15
        have hs_16 : MI s_14 := by rw [e_15]; exact mw76 hs_s_10 _ _ (by exact bd_le (by assumption) (by omega))
        have hf_17 : gF [76, 77, 78, 79, 80, 81] [] s s_14 := by rw [e_15]; exact gF.wL hf_s_10 (Or.inl rfl)
        have q_18 : gp_I s_14 81 p0.toNat = gp_I s_10 81 p0.toNat := by rw [e_15] <;> rfl
        have q_19 : gp_I s_14 81 p1.toNat = gp_I s_10 81 p1.toNat := by rw [e_15] <;> rfl
        refine ⟨by omega, ?_⟩
        have b_20 := mr77 hs_16 p0 v3_10 (by omega) (by omega)
        refine ⟨by omega, ?_⟩
        intro s_21 e_22
        have hs_23 : MI s_21 := by rw [e_22]; exact mw77 hs_16 _ _ (by exact bd_le (by assumption) (by omega))
        have hf_24 : gF [76, 77, 78, 79, 80, 81] [] s s_21 := by rw [e_22]; exact gF.wL hf_17 (Or.inl rfl)
        have q_25 : gp_I s_21 81 p0.toNat = gp_I s_14 81 p0.toNat := by rw [e_22] <;> rfl
        have q_26 : gp_I s_21 81 p1.toNat = gp_I s_14 81 p1.toNat := by rw [e_22] <;> rfl
        refine ⟨by omega, ?_⟩
        refine ⟨by omega, ?_⟩
        intro s_27 e_28
        have hs_29 : MI s_27 := by rw [e_28]; exact mw78 hs_23 _ _
        have hf_30 : gF [76, 77, 78, 79, 80, 81] [] s s_27 := by rw [e_28]; exact gF.wI hf_24 (Or.inl rfl)
        have q_31 : gp_I s_27 81 p0.toNat = gp_I s_21 81 p0.toNat := by rw [e_28] <;> rfl
        have q_32 : gp_I s_27 81 p1.toNat = gp_I s_21 81 p1.toNat := by rw [e_28] <;> rfl
        refine ⟨by omega, ?_⟩
        refine ⟨by omega, ?_⟩
        intro s_33 e_34
        have hs_35 : MI s_33 := by rw [e_34]; exact mw79 hs_29 _ _
        have hf_36 : gF [76, 77, 78, 79, 80, 81] [] s s_33 := by rw [e_34]; exact gF.wI hf_30 (Or.inl rfl)
        have q_37 : gp_I s_33 81 p0.toNat = gp_I s_27 81 p0.toNat := by rw [e_34] <;> rfl
        have q_38 : gp_I s_33 81 p1.toNat = gp_I s_27 81 p1.toNat := by rw [e_34] <;> rfl
        refine ⟨by omega, ?_⟩
        have f_39 := mr80 hs_35 (Int.toNat ((64 * p0) + v3_10))
        refine ⟨by omega, ?_⟩
        intro s_40 e_41
        have hs_42 : MI s_40 := by rw [e_41]; exact mw80 hs_35 _ _ (by omega)
        have hf_43 : gF [76, 77, 78, 79, 80, 81] [] s s_40 := by rw [e_41]; exact gF.wI hf_36 (Or.inl rfl)
        have q_44 : gp_I s_40 81 p0.toNat = gp_I s_33 81 p0.toNat := by rw [e_41] <;> rfl
        have q_45 : gp_I s_40 81 p1.toNat = gp_I s_33 81 p1.toNat := by rw [e_41] <;> rfl
        try rw [show gp_wr (v3_10 + 1) = v3_10 + 1 from gp_wr_id (by omega) (by omega)]
        exact ih_10 _ _ _ _ hs_42 hf_43 (by omega) (by first | rfl | omega) (by first | rfl | omega) (by subst_vars; assumption) (by omega)
      · exact k s_10 hs_s_10 hf_s_10 (by first | omega | assumption) (iv0_10)
  exact lp_10 _ _ _ _ _ hs_6 hf_7 (by omega) (by first | rfl | omega) (by first | rfl | omega) (by subst_vars; exact fun k hk => (gz_rw _ _ _ _ _).2 (fun h => hk h.symm)) (Nat.lt_succ_self _)
set_option maxRecDepth 100000 in
/-- GatheredPointsModel.forgets -/
theorem vm_forgets  {L d : Nat} {K : Option gV → gH → Prop} {s : gH}   (hs : MI s)   (k : ∀ (t : gH), MI t → gF [86] [] s t → (∀ k : Nat, (k : Int) < 4096 → gp_I t 86 k = 0) → K none t) : gs_C L d 3089 2 [gp_r (some 74)] s K := by
  refine s_3089_e ?_
  have lp_1 : ∀ (n_1 : Nat) (v1_1 : Int) (s_1 : gH), (MI s_1) → (gF [86] [] s s_1) → (0 ≤ v1_1 ∧ v1_1 ≤ 4096) → (∀ k : Nat, (k : Int) < v1_1 → gp_I s_1 86 k = 0) → (4097 - v1_1).toNat < n_1 → gs_E L d 3089 2 [gp_r (some 74), gp_i v1_1] [] s_1 K := by
    intro n_1
    induction n_1 with
    | zero => intro v1_1 s_1 hs_s_1 hf_s_1 hv1_1 iv0_1 hm_1; exact absurd hm_1 (Nat.not_lt_zero _)
    | succ n_1 ih_1 =>
      intro v1_1 s_1 hs_s_1 hf_s_1 hv1_1 iv0_1 hm_1
      refine s_3089_2 _ ?_
      refine ⟨fun h_2 => ?_, fun h_2 => ?_⟩
      · refine ⟨by omega, ?_⟩
        intro s_3 e_4
        have hs_5 : MI s_3 := by rw [e_4]; exact mw86 hs_s_1 _ _ (by omega)
        have hf_6 : gF [86] [] s s_3 := by rw [e_4]; exact gF.wI hf_s_1 (Or.inl rfl)
        try rw [show gp_wr (v1_1 + 1) = v1_1 + 1 from gp_wr_id (by omega) (by omega)]
        exact ih_1 _ _ hs_5 hf_6 (by omega) (by subst_vars; exact z_step (by omega) (by assumption)) (by omega)
      · exact k s_1 hs_s_1 hf_s_1 (fun k hk => iv0_1 k (by omega))
  exact lp_1 _ _ _ hs (gF.refl _ _ _) (by omega) (fun k hk => absurd hk (by omega)) (Nat.lt_succ_self _)
set_option maxRecDepth 100000 in
/-- GatheredPointsModel.begins -/
theorem vm_begins  {L d : Nat} {K : Option gV → gH → Prop} {s : gH}   (hs : MI s)   (k : ∀ (t : gH), MI t → gF [81, 86] [15] s t → (gp_I t 81 20 = 0) → (gp_I t 74 15 = 0) → K none t) : gs_C L (d + 1) 3085 1 [gp_r (some 74)] s K := by
  have f_1 := mr81 hs 20
  have f_2 := mr74_15 hs
  refine s_3085_e ?_
  intro s_3 e_4
  have hs_5 : MI s_3 := by rw [e_4]; exact mw81 hs _ _ (by omega)
  have hf_6 : gF [81, 86] [15] s s_3 := by rw [e_4]; exact gF.wI (gF.refl _ _ _) (Or.inl rfl)
  have q_7 : gp_I s_3 81 20 = 0 := by rw [e_4]; exact (gz_rw _ _ _ _ _).1 rfl
  have q_8 : gp_I s_3 74 15 = gp_I s 74 15 := by rw [e_4] <;> rfl
  intro s_9 e_10
  have hs_11 : MI s_9 := by rw [e_10]; exact mw74_15 hs_5 _ (by omega)
  have hf_12 : gF [81, 86] [15] s s_9 := by rw [e_10]; exact gF.wI hf_6 (Or.inr ⟨rfl, rfl⟩)
  have q_13 : gp_I s_9 81 20 = gp_I s_3 81 20 := by rw [e_10] <;> rfl
  have q_14 : gp_I s_9 74 15 = 0 := by rw [e_10]; exact (gz_rw _ _ _ _ _).1 rfl
  refine vm_forgets hs_11 (fun s_15 hs_16 hf_17 p_18 => ⟨rfl, ?_⟩)
  have hf_19 : gF [81, 86] [15] s s_15 := gF.trans hf_12 hf_17 rfl rfl
  have q_20 := (hf_17.2 81 20 rfl (fun h => absurd h (by decide))).1
  have q_21 := (hf_17.2 74 15 rfl (fun _ => rfl)).1
  exact k s_15 hs_16 hf_19 (by first | omega | assumption) (by first | omega | assumption)
set_option maxRecDepth 100000 in
/-- GatheredPointsModel.isBig -/
theorem vm_isBig  {L d : Nat} {K : Option gV → gH → Prop} {s : gH}  (p0 : Int) (hs : MI s) (h_p0 : 0 ≤ p0 ∧ p0 ≤ 84)  (k : ∀ (r : Int), (0 ≤ r ∧ r ≤ 1) → K (some (gp_i r)) s) : gs_C L (d + 1) 3095 4 [gp_r (some 74), gp_i p0] s K := by
  refine s_3095_e _ ?_
  have lp_1 : ∀ (n_1 : Nat) (v2_1 : Int) (v3_1 : Int), (0 ≤ v2_1 ∧ v2_1 ≤ 1) → (0 ≤ v3_1 ∧ v3_1 ≤ 60) → (61 - v3_1).toNat < n_1 → gs_E L (d + 1) 3095 4 [gp_r (some 74), gp_i p0, gp_i v2_1, gp_i v3_1] [] s K := by
    intro n_1
    induction n_1 with
    | zero => intro v2_1 v3_1 hv2_1 hv3_1 hm_1; exact absurd hm_1 (Nat.not_lt_zero _)
    | succ n_1 ih_1 =>
      intro v2_1 v3_1 hv2_1 hv3_1 hm_1
      refine s_3095_4 _ _ _ ?_
      refine ⟨by omega, ?_⟩
      have f_2 := mr81 hs (Int.toNat p0)
      refine ⟨fun h_3 => ?_, fun h_3 => ?_⟩
      · have jn103_6 : ∀ (j_5 : Int), (0 ≤ j_5 ∧ j_5 ≤ 1) → gs_E L (d + 1) 3095 103 [gp_r (some 74), gp_i p0, gp_i v2_1, gp_i v3_1] [gp_i j_5] s K := by
          intro j_5 hj_6
          refine s_3095_103 _ _ _ _ ?_
          try rw [show gp_wr (v3_1 + 1) = v3_1 + 1 from gp_wr_id (by omega) (by omega)]
          exact ih_1 _ _ (by omega) (by omega) (by omega)
        refine ⟨fun h_4 => ?_, fun h_4 => ?_⟩
        · try rw [show gp_wr (64 * p0) = 64 * p0 from gp_wr_id (by omega) (by omega)]
          try rw [show gp_wr ((64 * p0) + v3_1) = (64 * p0) + v3_1 from gp_wr_id (by omega) (by omega)]
          refine ⟨by omega, ?_⟩
          have b_8 := mr76 hs p0 v3_1 (by omega) (by omega)
          refine ⟨fun h_9 => ?_, fun h_9 => ?_⟩
          · have hz_10 : gp_L s 76 (Int.toNat ((64 * p0) + v3_1)) = 0#64 := (gm_cmp0 _ _).mp h_9
            try rw [show gp_wr (64 * p0) = 64 * p0 from gp_wr_id (by omega) (by omega)]
            try rw [show gp_wr ((64 * p0) + v3_1) = (64 * p0) + v3_1 from gp_wr_id (by omega) (by omega)]
            refine ⟨by omega, ?_⟩
            refine vm_isIn _ _ _ (fun x_11 p_12 p_13 => ⟨_, rfl, ?_⟩)
            have w_14 : BitVec.toInt (BitVec.ofInt 64 (-99999)) = (-99999) := by decide
            have w_15 : BitVec.toInt (BitVec.ofInt 64 99999) = 99999 := by decide
            refine ⟨fun h_16 => ?_, fun h_16 => ?_⟩
            · refine s_3095_98 _ _ _ ?_
              exact jn103_6 _ (by omega)
            · refine s_3095_58 _ _ _ ?_
              try rw [show gp_wr (64 * p0) = 64 * p0 from gp_wr_id (by omega) (by omega)]
              try rw [show gp_wr ((64 * p0) + v3_1) = (64 * p0) + v3_1 from gp_wr_id (by omega) (by omega)]
              refine ⟨by omega, ?_⟩
              have b_17 := mr77 hs p0 v3_1 (by omega) (by omega)
              refine ⟨fun h_18 => ?_, fun h_18 => ?_⟩
              · have hz_19 : gp_L s 77 (Int.toNat ((64 * p0) + v3_1)) = 0#64 := (gm_cmp0 _ _).mp h_18
                try rw [show gp_wr (64 * p0) = 64 * p0 from gp_wr_id (by omega) (by omega)]
                try rw [show gp_wr ((64 * p0) + v3_1) = (64 * p0) + v3_1 from gp_wr_id (by omega) (by omega)]
                refine ⟨by omega, ?_⟩
                refine vm_isIn _ _ _ (fun x_20 p_21 p_22 => ⟨_, rfl, ?_⟩)
                have w_23 : BitVec.toInt (BitVec.ofInt 64 (-99999)) = (-99999) := by decide
                have w_24 : BitVec.toInt (BitVec.ofInt 64 99999) = 99999 := by decide
                refine ⟨fun h_25 => ?_, fun h_25 => ?_⟩
                · refine s_3095_98 _ _ _ ?_
                  exact jn103_6 _ (by omega)
                · refine s_3095_102 _ _ _ ?_
                  exact jn103_6 _ (by omega)
              · have hz_26 : ¬ (gp_L s 77 (Int.toNat ((64 * p0) + v3_1))) = 0#64 := fun q => h_18 ((gm_cmp0 _ _).mpr q)
                refine s_3095_102 _ _ _ ?_
                exact jn103_6 _ (by omega)
          · have hz_27 : ¬ (gp_L s 76 (Int.toNat ((64 * p0) + v3_1))) = 0#64 := fun q => h_9 ((gm_cmp0 _ _).mpr q)
            refine s_3095_58 _ _ _ ?_
            try rw [show gp_wr (64 * p0) = 64 * p0 from gp_wr_id (by omega) (by omega)]
            try rw [show gp_wr ((64 * p0) + v3_1) = (64 * p0) + v3_1 from gp_wr_id (by omega) (by omega)]
            refine ⟨by omega, ?_⟩
            have b_28 := mr77 hs p0 v3_1 (by omega) (by omega)
            refine ⟨fun h_29 => ?_, fun h_29 => ?_⟩
            · have hz_30 : gp_L s 77 (Int.toNat ((64 * p0) + v3_1)) = 0#64 := (gm_cmp0 _ _).mp h_29
              try rw [show gp_wr (64 * p0) = 64 * p0 from gp_wr_id (by omega) (by omega)]
              try rw [show gp_wr ((64 * p0) + v3_1) = (64 * p0) + v3_1 from gp_wr_id (by omega) (by omega)]
              refine ⟨by omega, ?_⟩
              refine vm_isIn _ _ _ (fun x_31 p_32 p_33 => ⟨_, rfl, ?_⟩)
              have w_34 : BitVec.toInt (BitVec.ofInt 64 (-99999)) = (-99999) := by decide
              have w_35 : BitVec.toInt (BitVec.ofInt 64 99999) = 99999 := by decide
              refine ⟨fun h_36 => ?_, fun h_36 => ?_⟩
              · refine s_3095_98 _ _ _ ?_
                exact jn103_6 _ (by omega)
              · refine s_3095_102 _ _ _ ?_
                exact jn103_6 _ (by omega)
            · have hz_37 : ¬ (gp_L s 77 (Int.toNat ((64 * p0) + v3_1))) = 0#64 := fun q => h_29 ((gm_cmp0 _ _).mpr q)
              refine s_3095_102 _ _ _ ?_
              exact jn103_6 _ (by omega)
        · refine s_3095_98 _ _ _ ?_
          exact jn103_6 _ (by omega)
      · refine ⟨by omega, ?_⟩
        exact k _ (by omega)
  exact lp_1 _ _ _ (by omega) (by omega) (Nat.lt_succ_self _)
set_option maxRecDepth 100000 in
/-- GatheredPointsModel.best -/
theorem vm_best_90  {L d : Nat} {K : Option gV → gH → Prop} {s : gH}  (p0 : Int) (p1 : Int) (hs : MI s) (h_p0 : 0 ≤ p0 ∧ p0 ≤ 84) (h_p1 : 0 ≤ p1 ∧ p1 ≤ 63)  (k : ∀ (r : Int), K (some (gp_i r)) s) : gs_C L (d + 1) 3097 9 [gp_r (some 74), gp_i p0, gp_i p1, gp_r (some 90), gp_i 1, gp_i 0] s K := by
  refine s_3097_e _ _ _ _ _ ?_
  try rw [show gp_wr (64 * p0) = 64 * p0 from gp_wr_id (by omega) (by omega)]
  try rw [show gp_wr ((64 * p0) + p1) = (64 * p0) + p1 from gp_wr_id (by omega) (by omega)]
  refine ⟨by omega, ?_⟩
  have b_1 := mr76 hs p0 p1 (by omega) (by omega)
  have jn32_5 : ∀ (j_5 : Int), gs_E L (d + 1) 3097 32 [gp_r (some 74), gp_i p0, gp_i p1, gp_r (some 90), gp_i 1, gp_i 0, gp_i ((64 * p0) + p1), gp_n, gp_n] [gp_i j_5] s K := by
    intro j_5
    refine s_3097_32 _ _ _ _ _ _ _ _ _ ?_
    have lp_8 : ∀ (n_8 : Nat) (v7_8 : Int) (v8_8 : Int), (0 ≤ v8_8 ∧ v8_8 ≤ 63) → (64 - v8_8).toNat < n_8 → gs_E L (d + 1) 3097 37 [gp_r (some 74), gp_i p0, gp_i p1, gp_r (some 90), gp_i 1, gp_i 0, gp_i ((64 * p0) + p1), gp_i v7_8, gp_i v8_8] [] s K := by
      intro n_8
      induction n_8 with
      | zero => intro v7_8 v8_8 hv8_8 hm_8; exact absurd hm_8 (Nat.not_lt_zero _)
      | succ n_8 ih_8 =>
        intro v7_8 v8_8 hv8_8 hm_8
        refine s_3097_37 _ _ _ _ _ _ _ _ ?_
        refine ⟨fun h_9 => ?_, fun h_9 => ?_⟩
        · refine ⟨by omega, ?_⟩
          have b_10 := mr76 hs p0 p1 (by omega) (by omega)
          refine vm_has _ _ (by omega) (fun x_11 p_12 p_13 => ⟨_, rfl, ?_⟩)
          have jn88_18 : ∀ (j_18 : Int), gs_E L (d + 1) 3097 88 [gp_r (some 74), gp_i p0, gp_i p1, gp_r (some 90), gp_i 1, gp_i 0, gp_i ((64 * p0) + p1), gp_i v7_8, gp_i v8_8] [gp_i j_18] s K := by
            intro j_18
            refine s_3097_88 _ _ _ _ _ _ _ _ _ ?_
            try rw [show gp_wr (v8_8 + 1) = v8_8 + 1 from gp_wr_id (by omega) (by omega)]
            exact ih_8 _ _ (by omega) (by omega)
          refine ⟨fun h_14 => ?_, fun h_14 => ?_⟩
          · have hb_21 := hasF p_13 h_14
            refine s_3097_86 _ _ _ _ _ _ _ _ ?_
            exact jn88_18 _
          · have hb_24 := hasT p_13 h_14
            try rw [show gp_wr (1 * v8_8) = 1 * v8_8 from gp_wr_id (by omega) (by omega)]
            try rw [show gp_wr ((1 * v8_8) + 0) = (1 * v8_8) + 0 from gp_wr_id (by omega) (by omega)]
            refine ⟨90, rfl, ?_⟩
            refine ⟨⟨rfl, by show 0 ≤ (1 * v8_8) + 0 ∧ (1 * v8_8) + 0 < 64; omega⟩, ?_⟩
            refine ⟨fun h_25 => ?_, fun h_25 => ?_⟩
            · try rw [show gp_wr (1 * v8_8) = 1 * v8_8 from gp_wr_id (by omega) (by omega)]
              try rw [show gp_wr ((1 * v8_8) + 0) = (1 * v8_8) + 0 from gp_wr_id (by omega) (by omega)]
              refine ⟨⟨rfl, by show 0 ≤ (1 * v8_8) + 0 ∧ (1 * v8_8) + 0 < 64; omega⟩, ?_⟩
              exact jn88_18 _
            · refine s_3097_86 _ _ _ _ _ _ _ _ ?_
              exact jn88_18 _
        · exact k _
    exact lp_8 _ _ _ (by omega) (Nat.lt_succ_self _)
  refine ⟨fun h_2 => ?_, fun h_2 => ?_⟩
  · have hz_29 : gp_L s 76 (Int.toNat ((64 * p0) + p1)) = 0#64 := (gm_cmp0 _ _).mp h_2
    refine ⟨by omega, ?_⟩
    exact jn32_5 _
  · have hz_31 : ¬ (gp_L s 76 (Int.toNat ((64 * p0) + p1))) = 0#64 := fun q => h_2 ((gm_cmp0 _ _).mpr q)
    exact jn32_5 _
set_option maxRecDepth 100000 in
/-- GatheredPointsModel.best -/
theorem vm_best_91  {L d : Nat} {K : Option gV → gH → Prop} {s : gH}  (p0 : Int) (p1 : Int) (hs : MI s) (h_p0 : 0 ≤ p0 ∧ p0 ≤ 84) (h_p1 : 0 ≤ p1 ∧ p1 ≤ 63)  (k : ∀ (r : Int), K (some (gp_i r)) s) : gs_C L (d + 1) 3097 9 [gp_r (some 74), gp_i p0, gp_i p1, gp_r (some 91), gp_i 1, gp_i 0] s K := by
  refine s_3097_e _ _ _ _ _ ?_
  try rw [show gp_wr (64 * p0) = 64 * p0 from gp_wr_id (by omega) (by omega)]
  try rw [show gp_wr ((64 * p0) + p1) = (64 * p0) + p1 from gp_wr_id (by omega) (by omega)]
  refine ⟨by omega, ?_⟩
  have b_1 := mr76 hs p0 p1 (by omega) (by omega)
  have jn32_5 : ∀ (j_5 : Int), gs_E L (d + 1) 3097 32 [gp_r (some 74), gp_i p0, gp_i p1, gp_r (some 91), gp_i 1, gp_i 0, gp_i ((64 * p0) + p1), gp_n, gp_n] [gp_i j_5] s K := by
    intro j_5
    refine s_3097_32 _ _ _ _ _ _ _ _ _ ?_
    have lp_8 : ∀ (n_8 : Nat) (v7_8 : Int) (v8_8 : Int), (0 ≤ v8_8 ∧ v8_8 ≤ 63) → (64 - v8_8).toNat < n_8 → gs_E L (d + 1) 3097 37 [gp_r (some 74), gp_i p0, gp_i p1, gp_r (some 91), gp_i 1, gp_i 0, gp_i ((64 * p0) + p1), gp_i v7_8, gp_i v8_8] [] s K := by
      intro n_8
      induction n_8 with
      | zero => intro v7_8 v8_8 hv8_8 hm_8; exact absurd hm_8 (Nat.not_lt_zero _)
      | succ n_8 ih_8 =>
        intro v7_8 v8_8 hv8_8 hm_8
        refine s_3097_37 _ _ _ _ _ _ _ _ ?_
        refine ⟨fun h_9 => ?_, fun h_9 => ?_⟩
        · refine ⟨by omega, ?_⟩
          have b_10 := mr76 hs p0 p1 (by omega) (by omega)
          refine vm_has _ _ (by omega) (fun x_11 p_12 p_13 => ⟨_, rfl, ?_⟩)
          have jn88_18 : ∀ (j_18 : Int), gs_E L (d + 1) 3097 88 [gp_r (some 74), gp_i p0, gp_i p1, gp_r (some 91), gp_i 1, gp_i 0, gp_i ((64 * p0) + p1), gp_i v7_8, gp_i v8_8] [gp_i j_18] s K := by
            intro j_18
            refine s_3097_88 _ _ _ _ _ _ _ _ _ ?_
            try rw [show gp_wr (v8_8 + 1) = v8_8 + 1 from gp_wr_id (by omega) (by omega)]
            exact ih_8 _ _ (by omega) (by omega)
          refine ⟨fun h_14 => ?_, fun h_14 => ?_⟩
          · have hb_21 := hasF p_13 h_14
            refine s_3097_86 _ _ _ _ _ _ _ _ ?_
            exact jn88_18 _
          · have hb_24 := hasT p_13 h_14
            try rw [show gp_wr (1 * v8_8) = 1 * v8_8 from gp_wr_id (by omega) (by omega)]
            try rw [show gp_wr ((1 * v8_8) + 0) = (1 * v8_8) + 0 from gp_wr_id (by omega) (by omega)]
            refine ⟨91, rfl, ?_⟩
            refine ⟨⟨rfl, by show 0 ≤ (1 * v8_8) + 0 ∧ (1 * v8_8) + 0 < 64; omega⟩, ?_⟩
            refine ⟨fun h_25 => ?_, fun h_25 => ?_⟩
            · try rw [show gp_wr (1 * v8_8) = 1 * v8_8 from gp_wr_id (by omega) (by omega)]
              try rw [show gp_wr ((1 * v8_8) + 0) = (1 * v8_8) + 0 from gp_wr_id (by omega) (by omega)]
              refine ⟨⟨rfl, by show 0 ≤ (1 * v8_8) + 0 ∧ (1 * v8_8) + 0 < 64; omega⟩, ?_⟩
              exact jn88_18 _
            · refine s_3097_86 _ _ _ _ _ _ _ _ ?_
              exact jn88_18 _
        · exact k _
    exact lp_8 _ _ _ (by omega) (Nat.lt_succ_self _)
  refine ⟨fun h_2 => ?_, fun h_2 => ?_⟩
  · have hz_29 : gp_L s 76 (Int.toNat ((64 * p0) + p1)) = 0#64 := (gm_cmp0 _ _).mp h_2
    refine ⟨by omega, ?_⟩
    exact jn32_5 _
  · have hz_31 : ¬ (gp_L s 76 (Int.toNat ((64 * p0) + p1))) = 0#64 := fun q => h_2 ((gm_cmp0 _ _).mpr q)
    exact jn32_5 _
set_option maxRecDepth 100000 in
/-- GatheredPointsModel.best -/
theorem vm_best_94  {L d : Nat} {K : Option gV → gH → Prop} {s : gH}  (p0 : Int) (p1 : Int) (p4 : Int) (hs : MI s) (h_p0 : 0 ≤ p0 ∧ p0 ≤ 84) (h_p1 : 0 ≤ p1 ∧ p1 ≤ 63) (h_p4 : 0 ≤ p4 ∧ p4 ≤ 63)  (k : ∀ (r : Int), K (some (gp_i r)) s) : gs_C L (d + 1) 3097 9 [gp_r (some 74), gp_i p0, gp_i p1, gp_r (some 94), gp_i 64, gp_i p4] s K := by
  refine s_3097_e _ _ _ _ _ ?_
  try rw [show gp_wr (64 * p0) = 64 * p0 from gp_wr_id (by omega) (by omega)]
  try rw [show gp_wr ((64 * p0) + p1) = (64 * p0) + p1 from gp_wr_id (by omega) (by omega)]
  refine ⟨by omega, ?_⟩
  have b_1 := mr76 hs p0 p1 (by omega) (by omega)
  have jn32_5 : ∀ (j_5 : Int), gs_E L (d + 1) 3097 32 [gp_r (some 74), gp_i p0, gp_i p1, gp_r (some 94), gp_i 64, gp_i p4, gp_i ((64 * p0) + p1), gp_n, gp_n] [gp_i j_5] s K := by
    intro j_5
    refine s_3097_32 _ _ _ _ _ _ _ _ _ ?_
    have lp_8 : ∀ (n_8 : Nat) (v7_8 : Int) (v8_8 : Int), (0 ≤ v8_8 ∧ v8_8 ≤ 63) → (64 - v8_8).toNat < n_8 → gs_E L (d + 1) 3097 37 [gp_r (some 74), gp_i p0, gp_i p1, gp_r (some 94), gp_i 64, gp_i p4, gp_i ((64 * p0) + p1), gp_i v7_8, gp_i v8_8] [] s K := by
      intro n_8
      induction n_8 with
      | zero => intro v7_8 v8_8 hv8_8 hm_8; exact absurd hm_8 (Nat.not_lt_zero _)
      | succ n_8 ih_8 =>
        intro v7_8 v8_8 hv8_8 hm_8
        refine s_3097_37 _ _ _ _ _ _ _ _ ?_
        refine ⟨fun h_9 => ?_, fun h_9 => ?_⟩
        · refine ⟨by omega, ?_⟩
          have b_10 := mr76 hs p0 p1 (by omega) (by omega)
          refine vm_has _ _ (by omega) (fun x_11 p_12 p_13 => ⟨_, rfl, ?_⟩)
          have jn88_18 : ∀ (j_18 : Int), gs_E L (d + 1) 3097 88 [gp_r (some 74), gp_i p0, gp_i p1, gp_r (some 94), gp_i 64, gp_i p4, gp_i ((64 * p0) + p1), gp_i v7_8, gp_i v8_8] [gp_i j_18] s K := by
            intro j_18
            refine s_3097_88 _ _ _ _ _ _ _ _ _ ?_
            try rw [show gp_wr (v8_8 + 1) = v8_8 + 1 from gp_wr_id (by omega) (by omega)]
            exact ih_8 _ _ (by omega) (by omega)
          refine ⟨fun h_14 => ?_, fun h_14 => ?_⟩
          · have hb_21 := hasF p_13 h_14
            refine s_3097_86 _ _ _ _ _ _ _ _ ?_
            exact jn88_18 _
          · have hb_24 := hasT p_13 h_14
            try rw [show gp_wr (64 * v8_8) = 64 * v8_8 from gp_wr_id (by omega) (by omega)]
            try rw [show gp_wr ((64 * v8_8) + p4) = (64 * v8_8) + p4 from gp_wr_id (by omega) (by omega)]
            refine ⟨94, rfl, ?_⟩
            refine ⟨⟨rfl, by show 0 ≤ (64 * v8_8) + p4 ∧ (64 * v8_8) + p4 < 4096; omega⟩, ?_⟩
            refine ⟨fun h_25 => ?_, fun h_25 => ?_⟩
            · try rw [show gp_wr (64 * v8_8) = 64 * v8_8 from gp_wr_id (by omega) (by omega)]
              try rw [show gp_wr ((64 * v8_8) + p4) = (64 * v8_8) + p4 from gp_wr_id (by omega) (by omega)]
              refine ⟨⟨rfl, by show 0 ≤ (64 * v8_8) + p4 ∧ (64 * v8_8) + p4 < 4096; omega⟩, ?_⟩
              exact jn88_18 _
            · refine s_3097_86 _ _ _ _ _ _ _ _ ?_
              exact jn88_18 _
        · exact k _
    exact lp_8 _ _ _ (by omega) (Nat.lt_succ_self _)
  refine ⟨fun h_2 => ?_, fun h_2 => ?_⟩
  · have hz_29 : gp_L s 76 (Int.toNat ((64 * p0) + p1)) = 0#64 := (gm_cmp0 _ _).mp h_2
    refine ⟨by omega, ?_⟩
    exact jn32_5 _
  · have hz_31 : ¬ (gp_L s 76 (Int.toNat ((64 * p0) + p1))) = 0#64 := fun q => h_2 ((gm_cmp0 _ _).mpr q)
    exact jn32_5 _
set_option maxRecDepth 100000 in
/-- GatheredPointsModel.best -/
theorem vm_best_95  {L d : Nat} {K : Option gV → gH → Prop} {s : gH}  (p0 : Int) (p1 : Int) (p4 : Int) (hs : MI s) (h_p0 : 0 ≤ p0 ∧ p0 ≤ 84) (h_p1 : 0 ≤ p1 ∧ p1 ≤ 63) (h_p4 : 0 ≤ p4 ∧ p4 ≤ 63)  (k : ∀ (r : Int), K (some (gp_i r)) s) : gs_C L (d + 1) 3097 9 [gp_r (some 74), gp_i p0, gp_i p1, gp_r (some 95), gp_i 64, gp_i p4] s K := by
  refine s_3097_e _ _ _ _ _ ?_
  try rw [show gp_wr (64 * p0) = 64 * p0 from gp_wr_id (by omega) (by omega)]
  try rw [show gp_wr ((64 * p0) + p1) = (64 * p0) + p1 from gp_wr_id (by omega) (by omega)]
  refine ⟨by omega, ?_⟩
  have b_1 := mr76 hs p0 p1 (by omega) (by omega)
  have jn32_5 : ∀ (j_5 : Int), gs_E L (d + 1) 3097 32 [gp_r (some 74), gp_i p0, gp_i p1, gp_r (some 95), gp_i 64, gp_i p4, gp_i ((64 * p0) + p1), gp_n, gp_n] [gp_i j_5] s K := by
    intro j_5
    refine s_3097_32 _ _ _ _ _ _ _ _ _ ?_
    have lp_8 : ∀ (n_8 : Nat) (v7_8 : Int) (v8_8 : Int), (0 ≤ v8_8 ∧ v8_8 ≤ 63) → (64 - v8_8).toNat < n_8 → gs_E L (d + 1) 3097 37 [gp_r (some 74), gp_i p0, gp_i p1, gp_r (some 95), gp_i 64, gp_i p4, gp_i ((64 * p0) + p1), gp_i v7_8, gp_i v8_8] [] s K := by
      intro n_8
      induction n_8 with
      | zero => intro v7_8 v8_8 hv8_8 hm_8; exact absurd hm_8 (Nat.not_lt_zero _)
      | succ n_8 ih_8 =>
        intro v7_8 v8_8 hv8_8 hm_8
        refine s_3097_37 _ _ _ _ _ _ _ _ ?_
        refine ⟨fun h_9 => ?_, fun h_9 => ?_⟩
        · refine ⟨by omega, ?_⟩
          have b_10 := mr76 hs p0 p1 (by omega) (by omega)
          refine vm_has _ _ (by omega) (fun x_11 p_12 p_13 => ⟨_, rfl, ?_⟩)
          have jn88_18 : ∀ (j_18 : Int), gs_E L (d + 1) 3097 88 [gp_r (some 74), gp_i p0, gp_i p1, gp_r (some 95), gp_i 64, gp_i p4, gp_i ((64 * p0) + p1), gp_i v7_8, gp_i v8_8] [gp_i j_18] s K := by
            intro j_18
            refine s_3097_88 _ _ _ _ _ _ _ _ _ ?_
            try rw [show gp_wr (v8_8 + 1) = v8_8 + 1 from gp_wr_id (by omega) (by omega)]
            exact ih_8 _ _ (by omega) (by omega)
          refine ⟨fun h_14 => ?_, fun h_14 => ?_⟩
          · have hb_21 := hasF p_13 h_14
            refine s_3097_86 _ _ _ _ _ _ _ _ ?_
            exact jn88_18 _
          · have hb_24 := hasT p_13 h_14
            try rw [show gp_wr (64 * v8_8) = 64 * v8_8 from gp_wr_id (by omega) (by omega)]
            try rw [show gp_wr ((64 * v8_8) + p4) = (64 * v8_8) + p4 from gp_wr_id (by omega) (by omega)]
            refine ⟨95, rfl, ?_⟩
            refine ⟨⟨rfl, by show 0 ≤ (64 * v8_8) + p4 ∧ (64 * v8_8) + p4 < 4096; omega⟩, ?_⟩
            refine ⟨fun h_25 => ?_, fun h_25 => ?_⟩
            · try rw [show gp_wr (64 * v8_8) = 64 * v8_8 from gp_wr_id (by omega) (by omega)]
              try rw [show gp_wr ((64 * v8_8) + p4) = (64 * v8_8) + p4 from gp_wr_id (by omega) (by omega)]
              refine ⟨⟨rfl, by show 0 ≤ (64 * v8_8) + p4 ∧ (64 * v8_8) + p4 < 4096; omega⟩, ?_⟩
              exact jn88_18 _
            · refine s_3097_86 _ _ _ _ _ _ _ _ ?_
              exact jn88_18 _
        · exact k _
    exact lp_8 _ _ _ (by omega) (Nat.lt_succ_self _)
  refine ⟨fun h_2 => ?_, fun h_2 => ?_⟩
  · have hz_29 : gp_L s 76 (Int.toNat ((64 * p0) + p1)) = 0#64 := (gm_cmp0 _ _).mp h_2
    refine ⟨by omega, ?_⟩
    exact jn32_5 _
  · have hz_31 : ¬ (gp_L s 76 (Int.toNat ((64 * p0) + p1))) = 0#64 := fun q => h_2 ((gm_cmp0 _ _).mpr q)
    exact jn32_5 _
set_option maxRecDepth 100000 in
/-- GatheredPointsModel.best -/
theorem vm_best_96  {L d : Nat} {K : Option gV → gH → Prop} {s : gH}  (p0 : Int) (p1 : Int) (p4 : Int) (hs : MI s) (h_p0 : 0 ≤ p0 ∧ p0 ≤ 84) (h_p1 : 0 ≤ p1 ∧ p1 ≤ 63) (h_p4 : 0 ≤ p4 ∧ p4 ≤ 63)  (k : ∀ (r : Int), K (some (gp_i r)) s) : gs_C L (d + 1) 3097 9 [gp_r (some 74), gp_i p0, gp_i p1, gp_r (some 96), gp_i 64, gp_i p4] s K := by
  refine s_3097_e _ _ _ _ _ ?_
  try rw [show gp_wr (64 * p0) = 64 * p0 from gp_wr_id (by omega) (by omega)]
  try rw [show gp_wr ((64 * p0) + p1) = (64 * p0) + p1 from gp_wr_id (by omega) (by omega)]
  refine ⟨by omega, ?_⟩
  have b_1 := mr76 hs p0 p1 (by omega) (by omega)
  have jn32_5 : ∀ (j_5 : Int), gs_E L (d + 1) 3097 32 [gp_r (some 74), gp_i p0, gp_i p1, gp_r (some 96), gp_i 64, gp_i p4, gp_i ((64 * p0) + p1), gp_n, gp_n] [gp_i j_5] s K := by
    intro j_5
    refine s_3097_32 _ _ _ _ _ _ _ _ _ ?_
    have lp_8 : ∀ (n_8 : Nat) (v7_8 : Int) (v8_8 : Int), (0 ≤ v8_8 ∧ v8_8 ≤ 63) → (64 - v8_8).toNat < n_8 → gs_E L (d + 1) 3097 37 [gp_r (some 74), gp_i p0, gp_i p1, gp_r (some 96), gp_i 64, gp_i p4, gp_i ((64 * p0) + p1), gp_i v7_8, gp_i v8_8] [] s K := by
      intro n_8
      induction n_8 with
      | zero => intro v7_8 v8_8 hv8_8 hm_8; exact absurd hm_8 (Nat.not_lt_zero _)
      | succ n_8 ih_8 =>
        intro v7_8 v8_8 hv8_8 hm_8
        refine s_3097_37 _ _ _ _ _ _ _ _ ?_
        refine ⟨fun h_9 => ?_, fun h_9 => ?_⟩
        · refine ⟨by omega, ?_⟩
          have b_10 := mr76 hs p0 p1 (by omega) (by omega)
          refine vm_has _ _ (by omega) (fun x_11 p_12 p_13 => ⟨_, rfl, ?_⟩)
          have jn88_18 : ∀ (j_18 : Int), gs_E L (d + 1) 3097 88 [gp_r (some 74), gp_i p0, gp_i p1, gp_r (some 96), gp_i 64, gp_i p4, gp_i ((64 * p0) + p1), gp_i v7_8, gp_i v8_8] [gp_i j_18] s K := by
            intro j_18
            refine s_3097_88 _ _ _ _ _ _ _ _ _ ?_
            try rw [show gp_wr (v8_8 + 1) = v8_8 + 1 from gp_wr_id (by omega) (by omega)]
            exact ih_8 _ _ (by omega) (by omega)
          refine ⟨fun h_14 => ?_, fun h_14 => ?_⟩
          · have hb_21 := hasF p_13 h_14
            refine s_3097_86 _ _ _ _ _ _ _ _ ?_
            exact jn88_18 _
          · have hb_24 := hasT p_13 h_14
            try rw [show gp_wr (64 * v8_8) = 64 * v8_8 from gp_wr_id (by omega) (by omega)]
            try rw [show gp_wr ((64 * v8_8) + p4) = (64 * v8_8) + p4 from gp_wr_id (by omega) (by omega)]
            refine ⟨96, rfl, ?_⟩
            refine ⟨⟨rfl, by show 0 ≤ (64 * v8_8) + p4 ∧ (64 * v8_8) + p4 < 4096; omega⟩, ?_⟩
            refine ⟨fun h_25 => ?_, fun h_25 => ?_⟩
            · try rw [show gp_wr (64 * v8_8) = 64 * v8_8 from gp_wr_id (by omega) (by omega)]
              try rw [show gp_wr ((64 * v8_8) + p4) = (64 * v8_8) + p4 from gp_wr_id (by omega) (by omega)]
              refine ⟨⟨rfl, by show 0 ≤ (64 * v8_8) + p4 ∧ (64 * v8_8) + p4 < 4096; omega⟩, ?_⟩
              exact jn88_18 _
            · refine s_3097_86 _ _ _ _ _ _ _ _ ?_
              exact jn88_18 _
        · exact k _
    exact lp_8 _ _ _ (by omega) (Nat.lt_succ_self _)
  refine ⟨fun h_2 => ?_, fun h_2 => ?_⟩
  · have hz_29 : gp_L s 76 (Int.toNat ((64 * p0) + p1)) = 0#64 := (gm_cmp0 _ _).mp h_2
    refine ⟨by omega, ?_⟩
    exact jn32_5 _
  · have hz_31 : ¬ (gp_L s 76 (Int.toNat ((64 * p0) + p1))) = 0#64 := fun q => h_2 ((gm_cmp0 _ _).mpr q)
    exact jn32_5 _
set_option maxRecDepth 100000 in
/-- GatheredPointsModel.best -/
theorem vm_best_97  {L d : Nat} {K : Option gV → gH → Prop} {s : gH}  (p0 : Int) (p1 : Int) (p4 : Int) (hs : MI s) (h_p0 : 0 ≤ p0 ∧ p0 ≤ 84) (h_p1 : 0 ≤ p1 ∧ p1 ≤ 63) (h_p4 : 0 ≤ p4 ∧ p4 ≤ 63)  (k : ∀ (r : Int), K (some (gp_i r)) s) : gs_C L (d + 1) 3097 9 [gp_r (some 74), gp_i p0, gp_i p1, gp_r (some 97), gp_i 64, gp_i p4] s K := by
  refine s_3097_e _ _ _ _ _ ?_
  try rw [show gp_wr (64 * p0) = 64 * p0 from gp_wr_id (by omega) (by omega)]
  try rw [show gp_wr ((64 * p0) + p1) = (64 * p0) + p1 from gp_wr_id (by omega) (by omega)]
  refine ⟨by omega, ?_⟩
  have b_1 := mr76 hs p0 p1 (by omega) (by omega)
  have jn32_5 : ∀ (j_5 : Int), gs_E L (d + 1) 3097 32 [gp_r (some 74), gp_i p0, gp_i p1, gp_r (some 97), gp_i 64, gp_i p4, gp_i ((64 * p0) + p1), gp_n, gp_n] [gp_i j_5] s K := by
    intro j_5
    refine s_3097_32 _ _ _ _ _ _ _ _ _ ?_
    have lp_8 : ∀ (n_8 : Nat) (v7_8 : Int) (v8_8 : Int), (0 ≤ v8_8 ∧ v8_8 ≤ 63) → (64 - v8_8).toNat < n_8 → gs_E L (d + 1) 3097 37 [gp_r (some 74), gp_i p0, gp_i p1, gp_r (some 97), gp_i 64, gp_i p4, gp_i ((64 * p0) + p1), gp_i v7_8, gp_i v8_8] [] s K := by
      intro n_8
      induction n_8 with
      | zero => intro v7_8 v8_8 hv8_8 hm_8; exact absurd hm_8 (Nat.not_lt_zero _)
      | succ n_8 ih_8 =>
        intro v7_8 v8_8 hv8_8 hm_8
        refine s_3097_37 _ _ _ _ _ _ _ _ ?_
        refine ⟨fun h_9 => ?_, fun h_9 => ?_⟩
        · refine ⟨by omega, ?_⟩
          have b_10 := mr76 hs p0 p1 (by omega) (by omega)
          refine vm_has _ _ (by omega) (fun x_11 p_12 p_13 => ⟨_, rfl, ?_⟩)
          have jn88_18 : ∀ (j_18 : Int), gs_E L (d + 1) 3097 88 [gp_r (some 74), gp_i p0, gp_i p1, gp_r (some 97), gp_i 64, gp_i p4, gp_i ((64 * p0) + p1), gp_i v7_8, gp_i v8_8] [gp_i j_18] s K := by
            intro j_18
            refine s_3097_88 _ _ _ _ _ _ _ _ _ ?_
            try rw [show gp_wr (v8_8 + 1) = v8_8 + 1 from gp_wr_id (by omega) (by omega)]
            exact ih_8 _ _ (by omega) (by omega)
          refine ⟨fun h_14 => ?_, fun h_14 => ?_⟩
          · have hb_21 := hasF p_13 h_14
            refine s_3097_86 _ _ _ _ _ _ _ _ ?_
            exact jn88_18 _
          · have hb_24 := hasT p_13 h_14
            try rw [show gp_wr (64 * v8_8) = 64 * v8_8 from gp_wr_id (by omega) (by omega)]
            try rw [show gp_wr ((64 * v8_8) + p4) = (64 * v8_8) + p4 from gp_wr_id (by omega) (by omega)]
            refine ⟨97, rfl, ?_⟩
            refine ⟨⟨rfl, by show 0 ≤ (64 * v8_8) + p4 ∧ (64 * v8_8) + p4 < 4096; omega⟩, ?_⟩
            refine ⟨fun h_25 => ?_, fun h_25 => ?_⟩
            · try rw [show gp_wr (64 * v8_8) = 64 * v8_8 from gp_wr_id (by omega) (by omega)]
              try rw [show gp_wr ((64 * v8_8) + p4) = (64 * v8_8) + p4 from gp_wr_id (by omega) (by omega)]
              refine ⟨⟨rfl, by show 0 ≤ (64 * v8_8) + p4 ∧ (64 * v8_8) + p4 < 4096; omega⟩, ?_⟩
              exact jn88_18 _
            · refine s_3097_86 _ _ _ _ _ _ _ _ ?_
              exact jn88_18 _
        · exact k _
    exact lp_8 _ _ _ (by omega) (Nat.lt_succ_self _)
  refine ⟨fun h_2 => ?_, fun h_2 => ?_⟩
  · have hz_29 : gp_L s 76 (Int.toNat ((64 * p0) + p1)) = 0#64 := (gm_cmp0 _ _).mp h_2
    refine ⟨by omega, ?_⟩
    exact jn32_5 _
  · have hz_31 : ¬ (gp_L s 76 (Int.toNat ((64 * p0) + p1))) = 0#64 := fun q => h_2 ((gm_cmp0 _ _).mpr q)
    exact jn32_5 _
set_option maxRecDepth 100000 in
/-- GatheredPointsModel.worst -/
theorem vm_worst_90  {L d : Nat} {K : Option gV → gH → Prop} {s : gH}  (p0 : Int) (p1 : Int) (hs : MI s) (h_p0 : 0 ≤ p0 ∧ p0 ≤ 84) (h_p1 : 0 ≤ p1 ∧ p1 ≤ 63)  (k : ∀ (r : Int), K (some (gp_i r)) s) : gs_C L (d + 1) 3098 9 [gp_r (some 74), gp_i p0, gp_i p1, gp_r (some 90), gp_i 1, gp_i 0] s K := by
  refine s_3098_e _ _ _ _ _ ?_
  try rw [show gp_wr (64 * p0) = 64 * p0 from gp_wr_id (by omega) (by omega)]
  try rw [show gp_wr ((64 * p0) + p1) = (64 * p0) + p1 from gp_wr_id (by omega) (by omega)]
  refine ⟨by omega, ?_⟩
  have b_1 := mr77 hs p0 p1 (by omega) (by omega)
  have jn32_5 : ∀ (j_5 : Int), gs_E L (d + 1) 3098 32 [gp_r (some 74), gp_i p0, gp_i p1, gp_r (some 90), gp_i 1, gp_i 0, gp_i ((64 * p0) + p1), gp_n, gp_n] [gp_i j_5] s K := by
    intro j_5
    refine s_3098_32 _ _ _ _ _ _ _ _ _ ?_
    have lp_8 : ∀ (n_8 : Nat) (v7_8 : Int) (v8_8 : Int), (0 ≤ v8_8 ∧ v8_8 ≤ 63) → (64 - v8_8).toNat < n_8 → gs_E L (d + 1) 3098 37 [gp_r (some 74), gp_i p0, gp_i p1, gp_r (some 90), gp_i 1, gp_i 0, gp_i ((64 * p0) + p1), gp_i v7_8, gp_i v8_8] [] s K := by
      intro n_8
      induction n_8 with
      | zero => intro v7_8 v8_8 hv8_8 hm_8; exact absurd hm_8 (Nat.not_lt_zero _)
      | succ n_8 ih_8 =>
        intro v7_8 v8_8 hv8_8 hm_8
        refine s_3098_37 _ _ _ _ _ _ _ _ ?_
        refine ⟨fun h_9 => ?_, fun h_9 => ?_⟩
        · refine ⟨by omega, ?_⟩
          have b_10 := mr77 hs p0 p1 (by omega) (by omega)
          refine vm_has _ _ (by omega) (fun x_11 p_12 p_13 => ⟨_, rfl, ?_⟩)
          have jn88_18 : ∀ (j_18 : Int), gs_E L (d + 1) 3098 88 [gp_r (some 74), gp_i p0, gp_i p1, gp_r (some 90), gp_i 1, gp_i 0, gp_i ((64 * p0) + p1), gp_i v7_8, gp_i v8_8] [gp_i j_18] s K := by
            intro j_18
            refine s_3098_88 _ _ _ _ _ _ _ _ _ ?_
            try rw [show gp_wr (v8_8 + 1) = v8_8 + 1 from gp_wr_id (by omega) (by omega)]
            exact ih_8 _ _ (by omega) (by omega)
          refine ⟨fun h_14 => ?_, fun h_14 => ?_⟩
          · have hb_21 := hasF p_13 h_14
            refine s_3098_86 _ _ _ _ _ _ _ _ ?_
            exact jn88_18 _
          · have hb_24 := hasT p_13 h_14
            try rw [show gp_wr (1 * v8_8) = 1 * v8_8 from gp_wr_id (by omega) (by omega)]
            try rw [show gp_wr ((1 * v8_8) + 0) = (1 * v8_8) + 0 from gp_wr_id (by omega) (by omega)]
            refine ⟨90, rfl, ?_⟩
            refine ⟨⟨rfl, by show 0 ≤ (1 * v8_8) + 0 ∧ (1 * v8_8) + 0 < 64; omega⟩, ?_⟩
            refine ⟨fun h_25 => ?_, fun h_25 => ?_⟩
            · try rw [show gp_wr (1 * v8_8) = 1 * v8_8 from gp_wr_id (by omega) (by omega)]
              try rw [show gp_wr ((1 * v8_8) + 0) = (1 * v8_8) + 0 from gp_wr_id (by omega) (by omega)]
              refine ⟨⟨rfl, by show 0 ≤ (1 * v8_8) + 0 ∧ (1 * v8_8) + 0 < 64; omega⟩, ?_⟩
              exact jn88_18 _
            · refine s_3098_86 _ _ _ _ _ _ _ _ ?_
              exact jn88_18 _
        · exact k _
    exact lp_8 _ _ _ (by omega) (Nat.lt_succ_self _)
  refine ⟨fun h_2 => ?_, fun h_2 => ?_⟩
  · have hz_29 : gp_L s 77 (Int.toNat ((64 * p0) + p1)) = 0#64 := (gm_cmp0 _ _).mp h_2
    refine ⟨by omega, ?_⟩
    exact jn32_5 _
  · have hz_31 : ¬ (gp_L s 77 (Int.toNat ((64 * p0) + p1))) = 0#64 := fun q => h_2 ((gm_cmp0 _ _).mpr q)
    exact jn32_5 _
set_option maxRecDepth 100000 in
/-- GatheredPointsModel.worst -/
theorem vm_worst_91  {L d : Nat} {K : Option gV → gH → Prop} {s : gH}  (p0 : Int) (p1 : Int) (hs : MI s) (h_p0 : 0 ≤ p0 ∧ p0 ≤ 84) (h_p1 : 0 ≤ p1 ∧ p1 ≤ 63)  (k : ∀ (r : Int), K (some (gp_i r)) s) : gs_C L (d + 1) 3098 9 [gp_r (some 74), gp_i p0, gp_i p1, gp_r (some 91), gp_i 1, gp_i 0] s K := by
  refine s_3098_e _ _ _ _ _ ?_
  try rw [show gp_wr (64 * p0) = 64 * p0 from gp_wr_id (by omega) (by omega)]
  try rw [show gp_wr ((64 * p0) + p1) = (64 * p0) + p1 from gp_wr_id (by omega) (by omega)]
  refine ⟨by omega, ?_⟩
  have b_1 := mr77 hs p0 p1 (by omega) (by omega)
  have jn32_5 : ∀ (j_5 : Int), gs_E L (d + 1) 3098 32 [gp_r (some 74), gp_i p0, gp_i p1, gp_r (some 91), gp_i 1, gp_i 0, gp_i ((64 * p0) + p1), gp_n, gp_n] [gp_i j_5] s K := by
    intro j_5
    refine s_3098_32 _ _ _ _ _ _ _ _ _ ?_
    have lp_8 : ∀ (n_8 : Nat) (v7_8 : Int) (v8_8 : Int), (0 ≤ v8_8 ∧ v8_8 ≤ 63) → (64 - v8_8).toNat < n_8 → gs_E L (d + 1) 3098 37 [gp_r (some 74), gp_i p0, gp_i p1, gp_r (some 91), gp_i 1, gp_i 0, gp_i ((64 * p0) + p1), gp_i v7_8, gp_i v8_8] [] s K := by
      intro n_8
      induction n_8 with
      | zero => intro v7_8 v8_8 hv8_8 hm_8; exact absurd hm_8 (Nat.not_lt_zero _)
      | succ n_8 ih_8 =>
        intro v7_8 v8_8 hv8_8 hm_8
        refine s_3098_37 _ _ _ _ _ _ _ _ ?_
        refine ⟨fun h_9 => ?_, fun h_9 => ?_⟩
        · refine ⟨by omega, ?_⟩
          have b_10 := mr77 hs p0 p1 (by omega) (by omega)
          refine vm_has _ _ (by omega) (fun x_11 p_12 p_13 => ⟨_, rfl, ?_⟩)
          have jn88_18 : ∀ (j_18 : Int), gs_E L (d + 1) 3098 88 [gp_r (some 74), gp_i p0, gp_i p1, gp_r (some 91), gp_i 1, gp_i 0, gp_i ((64 * p0) + p1), gp_i v7_8, gp_i v8_8] [gp_i j_18] s K := by
            intro j_18
            refine s_3098_88 _ _ _ _ _ _ _ _ _ ?_
            try rw [show gp_wr (v8_8 + 1) = v8_8 + 1 from gp_wr_id (by omega) (by omega)]
            exact ih_8 _ _ (by omega) (by omega)
          refine ⟨fun h_14 => ?_, fun h_14 => ?_⟩
          · have hb_21 := hasF p_13 h_14
            refine s_3098_86 _ _ _ _ _ _ _ _ ?_
            exact jn88_18 _
          · have hb_24 := hasT p_13 h_14
            try rw [show gp_wr (1 * v8_8) = 1 * v8_8 from gp_wr_id (by omega) (by omega)]
            try rw [show gp_wr ((1 * v8_8) + 0) = (1 * v8_8) + 0 from gp_wr_id (by omega) (by omega)]
            refine ⟨91, rfl, ?_⟩
            refine ⟨⟨rfl, by show 0 ≤ (1 * v8_8) + 0 ∧ (1 * v8_8) + 0 < 64; omega⟩, ?_⟩
            refine ⟨fun h_25 => ?_, fun h_25 => ?_⟩
            · try rw [show gp_wr (1 * v8_8) = 1 * v8_8 from gp_wr_id (by omega) (by omega)]
              try rw [show gp_wr ((1 * v8_8) + 0) = (1 * v8_8) + 0 from gp_wr_id (by omega) (by omega)]
              refine ⟨⟨rfl, by show 0 ≤ (1 * v8_8) + 0 ∧ (1 * v8_8) + 0 < 64; omega⟩, ?_⟩
              exact jn88_18 _
            · refine s_3098_86 _ _ _ _ _ _ _ _ ?_
              exact jn88_18 _
        · exact k _
    exact lp_8 _ _ _ (by omega) (Nat.lt_succ_self _)
  refine ⟨fun h_2 => ?_, fun h_2 => ?_⟩
  · have hz_29 : gp_L s 77 (Int.toNat ((64 * p0) + p1)) = 0#64 := (gm_cmp0 _ _).mp h_2
    refine ⟨by omega, ?_⟩
    exact jn32_5 _
  · have hz_31 : ¬ (gp_L s 77 (Int.toNat ((64 * p0) + p1))) = 0#64 := fun q => h_2 ((gm_cmp0 _ _).mpr q)
    exact jn32_5 _
set_option maxRecDepth 100000 in
/-- GatheredPointsModel.worst -/
theorem vm_worst_94  {L d : Nat} {K : Option gV → gH → Prop} {s : gH}  (p0 : Int) (p1 : Int) (p4 : Int) (hs : MI s) (h_p0 : 0 ≤ p0 ∧ p0 ≤ 84) (h_p1 : 0 ≤ p1 ∧ p1 ≤ 63) (h_p4 : 0 ≤ p4 ∧ p4 ≤ 63)  (k : ∀ (r : Int), K (some (gp_i r)) s) : gs_C L (d + 1) 3098 9 [gp_r (some 74), gp_i p0, gp_i p1, gp_r (some 94), gp_i 64, gp_i p4] s K := by
  refine s_3098_e _ _ _ _ _ ?_
  try rw [show gp_wr (64 * p0) = 64 * p0 from gp_wr_id (by omega) (by omega)]
  try rw [show gp_wr ((64 * p0) + p1) = (64 * p0) + p1 from gp_wr_id (by omega) (by omega)]
  refine ⟨by omega, ?_⟩
  have b_1 := mr77 hs p0 p1 (by omega) (by omega)
  have jn32_5 : ∀ (j_5 : Int), gs_E L (d + 1) 3098 32 [gp_r (some 74), gp_i p0, gp_i p1, gp_r (some 94), gp_i 64, gp_i p4, gp_i ((64 * p0) + p1), gp_n, gp_n] [gp_i j_5] s K := by
    intro j_5
    refine s_3098_32 _ _ _ _ _ _ _ _ _ ?_
    have lp_8 : ∀ (n_8 : Nat) (v7_8 : Int) (v8_8 : Int), (0 ≤ v8_8 ∧ v8_8 ≤ 63) → (64 - v8_8).toNat < n_8 → gs_E L (d + 1) 3098 37 [gp_r (some 74), gp_i p0, gp_i p1, gp_r (some 94), gp_i 64, gp_i p4, gp_i ((64 * p0) + p1), gp_i v7_8, gp_i v8_8] [] s K := by
      intro n_8
      induction n_8 with
      | zero => intro v7_8 v8_8 hv8_8 hm_8; exact absurd hm_8 (Nat.not_lt_zero _)
      | succ n_8 ih_8 =>
        intro v7_8 v8_8 hv8_8 hm_8
        refine s_3098_37 _ _ _ _ _ _ _ _ ?_
        refine ⟨fun h_9 => ?_, fun h_9 => ?_⟩
        · refine ⟨by omega, ?_⟩
          have b_10 := mr77 hs p0 p1 (by omega) (by omega)
          refine vm_has _ _ (by omega) (fun x_11 p_12 p_13 => ⟨_, rfl, ?_⟩)
          have jn88_18 : ∀ (j_18 : Int), gs_E L (d + 1) 3098 88 [gp_r (some 74), gp_i p0, gp_i p1, gp_r (some 94), gp_i 64, gp_i p4, gp_i ((64 * p0) + p1), gp_i v7_8, gp_i v8_8] [gp_i j_18] s K := by
            intro j_18
            refine s_3098_88 _ _ _ _ _ _ _ _ _ ?_
            try rw [show gp_wr (v8_8 + 1) = v8_8 + 1 from gp_wr_id (by omega) (by omega)]
            exact ih_8 _ _ (by omega) (by omega)
          refine ⟨fun h_14 => ?_, fun h_14 => ?_⟩
          · have hb_21 := hasF p_13 h_14
            refine s_3098_86 _ _ _ _ _ _ _ _ ?_
            exact jn88_18 _
          · have hb_24 := hasT p_13 h_14
            try rw [show gp_wr (64 * v8_8) = 64 * v8_8 from gp_wr_id (by omega) (by omega)]
            try rw [show gp_wr ((64 * v8_8) + p4) = (64 * v8_8) + p4 from gp_wr_id (by omega) (by omega)]
            refine ⟨94, rfl, ?_⟩
            refine ⟨⟨rfl, by show 0 ≤ (64 * v8_8) + p4 ∧ (64 * v8_8) + p4 < 4096; omega⟩, ?_⟩
            refine ⟨fun h_25 => ?_, fun h_25 => ?_⟩
            · try rw [show gp_wr (64 * v8_8) = 64 * v8_8 from gp_wr_id (by omega) (by omega)]
              try rw [show gp_wr ((64 * v8_8) + p4) = (64 * v8_8) + p4 from gp_wr_id (by omega) (by omega)]
              refine ⟨⟨rfl, by show 0 ≤ (64 * v8_8) + p4 ∧ (64 * v8_8) + p4 < 4096; omega⟩, ?_⟩
              exact jn88_18 _
            · refine s_3098_86 _ _ _ _ _ _ _ _ ?_
              exact jn88_18 _
        · exact k _
    exact lp_8 _ _ _ (by omega) (Nat.lt_succ_self _)
  refine ⟨fun h_2 => ?_, fun h_2 => ?_⟩
  · have hz_29 : gp_L s 77 (Int.toNat ((64 * p0) + p1)) = 0#64 := (gm_cmp0 _ _).mp h_2
    refine ⟨by omega, ?_⟩
    exact jn32_5 _
  · have hz_31 : ¬ (gp_L s 77 (Int.toNat ((64 * p0) + p1))) = 0#64 := fun q => h_2 ((gm_cmp0 _ _).mpr q)
    exact jn32_5 _
set_option maxRecDepth 100000 in
/-- GatheredPointsModel.worst -/
theorem vm_worst_95  {L d : Nat} {K : Option gV → gH → Prop} {s : gH}  (p0 : Int) (p1 : Int) (p4 : Int) (hs : MI s) (h_p0 : 0 ≤ p0 ∧ p0 ≤ 84) (h_p1 : 0 ≤ p1 ∧ p1 ≤ 63) (h_p4 : 0 ≤ p4 ∧ p4 ≤ 63)  (k : ∀ (r : Int), K (some (gp_i r)) s) : gs_C L (d + 1) 3098 9 [gp_r (some 74), gp_i p0, gp_i p1, gp_r (some 95), gp_i 64, gp_i p4] s K := by
  refine s_3098_e _ _ _ _ _ ?_
  try rw [show gp_wr (64 * p0) = 64 * p0 from gp_wr_id (by omega) (by omega)]
  try rw [show gp_wr ((64 * p0) + p1) = (64 * p0) + p1 from gp_wr_id (by omega) (by omega)]
  refine ⟨by omega, ?_⟩
  have b_1 := mr77 hs p0 p1 (by omega) (by omega)
  have jn32_5 : ∀ (j_5 : Int), gs_E L (d + 1) 3098 32 [gp_r (some 74), gp_i p0, gp_i p1, gp_r (some 95), gp_i 64, gp_i p4, gp_i ((64 * p0) + p1), gp_n, gp_n] [gp_i j_5] s K := by
    intro j_5
    refine s_3098_32 _ _ _ _ _ _ _ _ _ ?_
    have lp_8 : ∀ (n_8 : Nat) (v7_8 : Int) (v8_8 : Int), (0 ≤ v8_8 ∧ v8_8 ≤ 63) → (64 - v8_8).toNat < n_8 → gs_E L (d + 1) 3098 37 [gp_r (some 74), gp_i p0, gp_i p1, gp_r (some 95), gp_i 64, gp_i p4, gp_i ((64 * p0) + p1), gp_i v7_8, gp_i v8_8] [] s K := by
      intro n_8
      induction n_8 with
      | zero => intro v7_8 v8_8 hv8_8 hm_8; exact absurd hm_8 (Nat.not_lt_zero _)
      | succ n_8 ih_8 =>
        intro v7_8 v8_8 hv8_8 hm_8
        refine s_3098_37 _ _ _ _ _ _ _ _ ?_
        refine ⟨fun h_9 => ?_, fun h_9 => ?_⟩
        · refine ⟨by omega, ?_⟩
          have b_10 := mr77 hs p0 p1 (by omega) (by omega)
          refine vm_has _ _ (by omega) (fun x_11 p_12 p_13 => ⟨_, rfl, ?_⟩)
          have jn88_18 : ∀ (j_18 : Int), gs_E L (d + 1) 3098 88 [gp_r (some 74), gp_i p0, gp_i p1, gp_r (some 95), gp_i 64, gp_i p4, gp_i ((64 * p0) + p1), gp_i v7_8, gp_i v8_8] [gp_i j_18] s K := by
            intro j_18
            refine s_3098_88 _ _ _ _ _ _ _ _ _ ?_
            try rw [show gp_wr (v8_8 + 1) = v8_8 + 1 from gp_wr_id (by omega) (by omega)]
            exact ih_8 _ _ (by omega) (by omega)
          refine ⟨fun h_14 => ?_, fun h_14 => ?_⟩
          · have hb_21 := hasF p_13 h_14
            refine s_3098_86 _ _ _ _ _ _ _ _ ?_
            exact jn88_18 _
          · have hb_24 := hasT p_13 h_14
            try rw [show gp_wr (64 * v8_8) = 64 * v8_8 from gp_wr_id (by omega) (by omega)]
            try rw [show gp_wr ((64 * v8_8) + p4) = (64 * v8_8) + p4 from gp_wr_id (by omega) (by omega)]
            refine ⟨95, rfl, ?_⟩
            refine ⟨⟨rfl, by show 0 ≤ (64 * v8_8) + p4 ∧ (64 * v8_8) + p4 < 4096; omega⟩, ?_⟩
            refine ⟨fun h_25 => ?_, fun h_25 => ?_⟩
            · try rw [show gp_wr (64 * v8_8) = 64 * v8_8 from gp_wr_id (by omega) (by omega)]
              try rw [show gp_wr ((64 * v8_8) + p4) = (64 * v8_8) + p4 from gp_wr_id (by omega) (by omega)]
              refine ⟨⟨rfl, by show 0 ≤ (64 * v8_8) + p4 ∧ (64 * v8_8) + p4 < 4096; omega⟩, ?_⟩
              exact jn88_18 _
            · refine s_3098_86 _ _ _ _ _ _ _ _ ?_
              exact jn88_18 _
        · exact k _
    exact lp_8 _ _ _ (by omega) (Nat.lt_succ_self _)
  refine ⟨fun h_2 => ?_, fun h_2 => ?_⟩
  · have hz_29 : gp_L s 77 (Int.toNat ((64 * p0) + p1)) = 0#64 := (gm_cmp0 _ _).mp h_2
    refine ⟨by omega, ?_⟩
    exact jn32_5 _
  · have hz_31 : ¬ (gp_L s 77 (Int.toNat ((64 * p0) + p1))) = 0#64 := fun q => h_2 ((gm_cmp0 _ _).mpr q)
    exact jn32_5 _
set_option maxRecDepth 100000 in
/-- GatheredPointsModel.worst -/
theorem vm_worst_96  {L d : Nat} {K : Option gV → gH → Prop} {s : gH}  (p0 : Int) (p1 : Int) (p4 : Int) (hs : MI s) (h_p0 : 0 ≤ p0 ∧ p0 ≤ 84) (h_p1 : 0 ≤ p1 ∧ p1 ≤ 63) (h_p4 : 0 ≤ p4 ∧ p4 ≤ 63)  (k : ∀ (r : Int), K (some (gp_i r)) s) : gs_C L (d + 1) 3098 9 [gp_r (some 74), gp_i p0, gp_i p1, gp_r (some 96), gp_i 64, gp_i p4] s K := by
  refine s_3098_e _ _ _ _ _ ?_
  try rw [show gp_wr (64 * p0) = 64 * p0 from gp_wr_id (by omega) (by omega)]
  try rw [show gp_wr ((64 * p0) + p1) = (64 * p0) + p1 from gp_wr_id (by omega) (by omega)]
  refine ⟨by omega, ?_⟩
  have b_1 := mr77 hs p0 p1 (by omega) (by omega)
  have jn32_5 : ∀ (j_5 : Int), gs_E L (d + 1) 3098 32 [gp_r (some 74), gp_i p0, gp_i p1, gp_r (some 96), gp_i 64, gp_i p4, gp_i ((64 * p0) + p1), gp_n, gp_n] [gp_i j_5] s K := by
    intro j_5
    refine s_3098_32 _ _ _ _ _ _ _ _ _ ?_
    have lp_8 : ∀ (n_8 : Nat) (v7_8 : Int) (v8_8 : Int), (0 ≤ v8_8 ∧ v8_8 ≤ 63) → (64 - v8_8).toNat < n_8 → gs_E L (d + 1) 3098 37 [gp_r (some 74), gp_i p0, gp_i p1, gp_r (some 96), gp_i 64, gp_i p4, gp_i ((64 * p0) + p1), gp_i v7_8, gp_i v8_8] [] s K := by
      intro n_8
      induction n_8 with
      | zero => intro v7_8 v8_8 hv8_8 hm_8; exact absurd hm_8 (Nat.not_lt_zero _)
      | succ n_8 ih_8 =>
        intro v7_8 v8_8 hv8_8 hm_8
        refine s_3098_37 _ _ _ _ _ _ _ _ ?_
        refine ⟨fun h_9 => ?_, fun h_9 => ?_⟩
        · refine ⟨by omega, ?_⟩
          have b_10 := mr77 hs p0 p1 (by omega) (by omega)
          refine vm_has _ _ (by omega) (fun x_11 p_12 p_13 => ⟨_, rfl, ?_⟩)
          have jn88_18 : ∀ (j_18 : Int), gs_E L (d + 1) 3098 88 [gp_r (some 74), gp_i p0, gp_i p1, gp_r (some 96), gp_i 64, gp_i p4, gp_i ((64 * p0) + p1), gp_i v7_8, gp_i v8_8] [gp_i j_18] s K := by
            intro j_18
            refine s_3098_88 _ _ _ _ _ _ _ _ _ ?_
            try rw [show gp_wr (v8_8 + 1) = v8_8 + 1 from gp_wr_id (by omega) (by omega)]
            exact ih_8 _ _ (by omega) (by omega)
          refine ⟨fun h_14 => ?_, fun h_14 => ?_⟩
          · have hb_21 := hasF p_13 h_14
            refine s_3098_86 _ _ _ _ _ _ _ _ ?_
            exact jn88_18 _
          · have hb_24 := hasT p_13 h_14
            try rw [show gp_wr (64 * v8_8) = 64 * v8_8 from gp_wr_id (by omega) (by omega)]
            try rw [show gp_wr ((64 * v8_8) + p4) = (64 * v8_8) + p4 from gp_wr_id (by omega) (by omega)]
            refine ⟨96, rfl, ?_⟩
            refine ⟨⟨rfl, by show 0 ≤ (64 * v8_8) + p4 ∧ (64 * v8_8) + p4 < 4096; omega⟩, ?_⟩
            refine ⟨fun h_25 => ?_, fun h_25 => ?_⟩
            · try rw [show gp_wr (64 * v8_8) = 64 * v8_8 from gp_wr_id (by omega) (by omega)]
              try rw [show gp_wr ((64 * v8_8) + p4) = (64 * v8_8) + p4 from gp_wr_id (by omega) (by omega)]
              refine ⟨⟨rfl, by show 0 ≤ (64 * v8_8) + p4 ∧ (64 * v8_8) + p4 < 4096; omega⟩, ?_⟩
              exact jn88_18 _
            · refine s_3098_86 _ _ _ _ _ _ _ _ ?_
              exact jn88_18 _
        · exact k _
    exact lp_8 _ _ _ (by omega) (Nat.lt_succ_self _)
  refine ⟨fun h_2 => ?_, fun h_2 => ?_⟩
  · have hz_29 : gp_L s 77 (Int.toNat ((64 * p0) + p1)) = 0#64 := (gm_cmp0 _ _).mp h_2
    refine ⟨by omega, ?_⟩
    exact jn32_5 _
  · have hz_31 : ¬ (gp_L s 77 (Int.toNat ((64 * p0) + p1))) = 0#64 := fun q => h_2 ((gm_cmp0 _ _).mpr q)
    exact jn32_5 _
set_option maxRecDepth 100000 in
/-- GatheredPointsModel.worst -/
theorem vm_worst_97  {L d : Nat} {K : Option gV → gH → Prop} {s : gH}  (p0 : Int) (p1 : Int) (p4 : Int) (hs : MI s) (h_p0 : 0 ≤ p0 ∧ p0 ≤ 84) (h_p1 : 0 ≤ p1 ∧ p1 ≤ 63) (h_p4 : 0 ≤ p4 ∧ p4 ≤ 63)  (k : ∀ (r : Int), K (some (gp_i r)) s) : gs_C L (d + 1) 3098 9 [gp_r (some 74), gp_i p0, gp_i p1, gp_r (some 97), gp_i 64, gp_i p4] s K := by
  refine s_3098_e _ _ _ _ _ ?_
  try rw [show gp_wr (64 * p0) = 64 * p0 from gp_wr_id (by omega) (by omega)]
  try rw [show gp_wr ((64 * p0) + p1) = (64 * p0) + p1 from gp_wr_id (by omega) (by omega)]
  refine ⟨by omega, ?_⟩
  have b_1 := mr77 hs p0 p1 (by omega) (by omega)
  have jn32_5 : ∀ (j_5 : Int), gs_E L (d + 1) 3098 32 [gp_r (some 74), gp_i p0, gp_i p1, gp_r (some 97), gp_i 64, gp_i p4, gp_i ((64 * p0) + p1), gp_n, gp_n] [gp_i j_5] s K := by
    intro j_5
    refine s_3098_32 _ _ _ _ _ _ _ _ _ ?_
    have lp_8 : ∀ (n_8 : Nat) (v7_8 : Int) (v8_8 : Int), (0 ≤ v8_8 ∧ v8_8 ≤ 63) → (64 - v8_8).toNat < n_8 → gs_E L (d + 1) 3098 37 [gp_r (some 74), gp_i p0, gp_i p1, gp_r (some 97), gp_i 64, gp_i p4, gp_i ((64 * p0) + p1), gp_i v7_8, gp_i v8_8] [] s K := by
      intro n_8
      induction n_8 with
      | zero => intro v7_8 v8_8 hv8_8 hm_8; exact absurd hm_8 (Nat.not_lt_zero _)
      | succ n_8 ih_8 =>
        intro v7_8 v8_8 hv8_8 hm_8
        refine s_3098_37 _ _ _ _ _ _ _ _ ?_
        refine ⟨fun h_9 => ?_, fun h_9 => ?_⟩
        · refine ⟨by omega, ?_⟩
          have b_10 := mr77 hs p0 p1 (by omega) (by omega)
          refine vm_has _ _ (by omega) (fun x_11 p_12 p_13 => ⟨_, rfl, ?_⟩)
          have jn88_18 : ∀ (j_18 : Int), gs_E L (d + 1) 3098 88 [gp_r (some 74), gp_i p0, gp_i p1, gp_r (some 97), gp_i 64, gp_i p4, gp_i ((64 * p0) + p1), gp_i v7_8, gp_i v8_8] [gp_i j_18] s K := by
            intro j_18
            refine s_3098_88 _ _ _ _ _ _ _ _ _ ?_
            try rw [show gp_wr (v8_8 + 1) = v8_8 + 1 from gp_wr_id (by omega) (by omega)]
            exact ih_8 _ _ (by omega) (by omega)
          refine ⟨fun h_14 => ?_, fun h_14 => ?_⟩
          · have hb_21 := hasF p_13 h_14
            refine s_3098_86 _ _ _ _ _ _ _ _ ?_
            exact jn88_18 _
          · have hb_24 := hasT p_13 h_14
            try rw [show gp_wr (64 * v8_8) = 64 * v8_8 from gp_wr_id (by omega) (by omega)]
            try rw [show gp_wr ((64 * v8_8) + p4) = (64 * v8_8) + p4 from gp_wr_id (by omega) (by omega)]
            refine ⟨97, rfl, ?_⟩
            refine ⟨⟨rfl, by show 0 ≤ (64 * v8_8) + p4 ∧ (64 * v8_8) + p4 < 4096; omega⟩, ?_⟩
            refine ⟨fun h_25 => ?_, fun h_25 => ?_⟩
            · try rw [show gp_wr (64 * v8_8) = 64 * v8_8 from gp_wr_id (by omega) (by omega)]
              try rw [show gp_wr ((64 * v8_8) + p4) = (64 * v8_8) + p4 from gp_wr_id (by omega) (by omega)]
              refine ⟨⟨rfl, by show 0 ≤ (64 * v8_8) + p4 ∧ (64 * v8_8) + p4 < 4096; omega⟩, ?_⟩
              exact jn88_18 _
            · refine s_3098_86 _ _ _ _ _ _ _ _ ?_
              exact jn88_18 _
        · exact k _
    exact lp_8 _ _ _ (by omega) (Nat.lt_succ_self _)
  refine ⟨fun h_2 => ?_, fun h_2 => ?_⟩
  · have hz_29 : gp_L s 77 (Int.toNat ((64 * p0) + p1)) = 0#64 := (gm_cmp0 _ _).mp h_2
    refine ⟨by omega, ?_⟩
    exact jn32_5 _
  · have hz_31 : ¬ (gp_L s 77 (Int.toNat ((64 * p0) + p1))) = 0#64 := fun q => h_2 ((gm_cmp0 _ _).mpr q)
    exact jn32_5 _
set_option maxRecDepth 100000 in
/-- GatheredPointsModel.scores -/
theorem vm_scores  {L d : Nat} {K : Option gV → gH → Prop} {s : gH}  (p0 : Int) (hs : MI s) (h_p0 : 0 ≤ p0 ∧ p0 ≤ 84)  (k : ∀ (t : gH), MI t → gF [90, 91] [] s t → K none t) : gs_C L (d + 2) 3099 3 [gp_r (some 74), gp_i p0] s K := by
  refine s_3099_e _ ?_
  have lp_1 : ∀ (n_1 : Nat) (v2_1 : Int) (s_1 : gH), (MI s_1) → (gF [90, 91] [] s s_1) → (0 ≤ v2_1 ∧ v2_1 ≤ 60) → (61 - v2_1).toNat < n_1 → gs_E L (d + 2) 3099 2 [gp_r (some 74), gp_i p0, gp_i v2_1] [] s_1 K := by
    intro n_1
    induction n_1 with
    | zero => intro v2_1 s_1 hs_s_1 hf_s_1 hv2_1 hm_1; exact absurd hm_1 (Nat.not_lt_zero _)
    | succ n_1 ih_1 =>
      intro v2_1 s_1 hs_s_1 hf_s_1 hv2_1 hm_1
      refine s_3099_2 _ _ ?_
      refine ⟨by omega, ?_⟩
      have f_2 := mr81 hs_s_1 (Int.toNat p0)
      refine ⟨fun h_3 => ?_, fun h_3 => ?_⟩
      · refine vm_best_91 _ _ hs_s_1 (by omega) (by omega) (fun x_4 => ⟨_, rfl, ?_⟩)
        refine ⟨by omega, ?_⟩
        intro s_5 e_6
        have hs_7 : MI s_5 := by rw [e_6]; exact mw90 hs_s_1 _ _
        have hf_8 : gF [90, 91] [] s s_5 := by rw [e_6]; exact gF.wI hf_s_1 (Or.inl rfl)
        refine vm_worst_90 _ _ hs_7 (by omega) (by omega) (fun x_9 => ⟨_, rfl, ?_⟩)
        refine ⟨by omega, ?_⟩
        intro s_10 e_11
        have hs_12 : MI s_10 := by rw [e_11]; exact mw91 hs_7 _ _
        have hf_13 : gF [90, 91] [] s s_10 := by rw [e_11]; exact gF.wI hf_8 (Or.inl rfl)
        try rw [show gp_wr (v2_1 + 1) = v2_1 + 1 from gp_wr_id (by omega) (by omega)]
        exact ih_1 _ _ hs_12 hf_13 (by omega) (by omega)
      · exact k s_1 hs_s_1 hf_s_1
  exact lp_1 _ _ _ hs (gF.refl _ _ _) (by omega) (Nat.lt_succ_self _)
set_option maxRecDepth 100000 in
/-- GatheredPointsModel.bound -/
theorem vm_bound  {L d : Nat} {K : Option gV → gH → Prop} {s : gH}  (p0 : Int) (p1 : Int) (hs : MI s) (h_p0 : 0 ≤ p0 ∧ p0 ≤ 84) (h_p1 : 0 ≤ p1 ∧ p1 ≤ 62)  (k : ∀ (t : gH), MI t → gF [92, 93, 94, 95, 96, 97] [] s t → (mX 95 93 p1 t) → (mX 96 92 p1 t) → K none t) : gs_C L (d + 2) 3100 8 [gp_r (some 74), gp_i p0, gp_i p1] s K := by
  refine s_3100_e _ _ ?_
  try rw [show gp_wr (64 * p0) = 64 * p0 from gp_wr_id (by omega) (by omega)]
  try rw [show gp_wr ((64 * p0) + p1) = (64 * p0) + p1 from gp_wr_id (by omega) (by omega)]
  have lp_1 : ∀ (n_1 : Nat) (v4_1 : Int) (v5_1 : gV) (v6_1 : gV) (v7_1 : gV) (s_1 : gH), (MI s_1) → (gF [92, 93, 94, 95, 96, 97] [] s s_1) → (0 ≤ v4_1 ∧ v4_1 ≤ 61) → (62 - v4_1).toNat < n_1 → gs_E L (d + 2) 3100 10 [gp_r (some 74), gp_i p0, gp_i p1, gp_i ((64 * p0) + p1), gp_i v4_1, v5_1, v6_1, v7_1] [] s_1 K := by
    intro n_1
    induction n_1 with
    | zero => intro v4_1 v5_1 v6_1 v7_1 s_1 hs_s_1 hf_s_1 hv4_1 hm_1; exact absurd hm_1 (Nat.not_lt_zero _)
    | succ n_1 ih_1 =>
      intro v4_1 v5_1 v6_1 v7_1 s_1 hs_s_1 hf_s_1 hv4_1 hm_1
      refine s_3100_10 _ _ _ _ _ _ _ ?_
      refine ⟨fun h_2 => ?_, fun h_2 => ?_⟩
      · try rw [show gp_wr (64 * p1) = 64 * p1 from gp_wr_id (by omega) (by omega)]
        refine ⟨by omega, ?_⟩
        refine ⟨by omega, ?_⟩
        intro s_3 e_4
        have hs_5 : MI s_3 := by rw [e_4]; exact mw92 hs_s_1 _ _
        have hf_6 : gF [92, 93, 94, 95, 96, 97] [] s s_3 := by rw [e_4]; exact gF.wI hf_s_1 (Or.inl rfl)
        try rw [show gp_wr (64 * p1) = 64 * p1 from gp_wr_id (by omega) (by omega)]
        refine ⟨by omega, ?_⟩
        refine ⟨by omega, ?_⟩
        intro s_7 e_8
        have hs_9 : MI s_7 := by rw [e_8]; exact mw93 hs_5 _ _
        have hf_10 : gF [92, 93, 94, 95, 96, 97] [] s s_7 := by rw [e_8]; exact gF.wI hf_6 (Or.inl rfl)
        have lp_11 : ∀ (n_11 : Nat) (v4_11 : Int) (v5_11 : gV) (v6_11 : gV) (v7_11 : gV) (s_11 : gH), (MI s_11) → (gF [92, 93, 94, 95, 96, 97] [] s s_11) → (1 ≤ v4_11 ∧ v4_11 ≤ 65) → (mX 95 93 p1 s_11) → (mX 96 92 p1 s_11) → (66 - v4_11).toNat < n_11 → gs_E L (d + 2) 3100 275 [gp_r (some 74), gp_i p0, gp_i p1, gp_i ((64 * p0) + p1), gp_i v4_11, v5_11, v6_11, v7_11] [] s_11 K := by
          intro n_11
          induction n_11 with
          | zero => intro v4_11 v5_11 v6_11 v7_11 s_11 hs_s_11 hf_s_11 hv4_11 iv0_11 iv1_11 hm_11; exact absurd hm_11 (Nat.not_lt_zero _)
          | succ n_11 ih_11 =>
            intro v4_11 v5_11 v6_11 v7_11 s_11 hs_s_11 hf_s_11 hv4_11 iv0_11 iv1_11 hm_11
            refine s_3100_275 _ _ _ _ _ _ _ ?_
            refine ⟨by omega, ?_⟩
            have f_12 := mr80 hs_s_11 (Int.toNat ((64 * p0) + p1))
            try rw [show gp_wr ((gp_I s_11 80 (Int.toNat ((64 * p0) + p1))) + 1) = (gp_I s_11 80 (Int.toNat ((64 * p0) + p1))) + 1 from gp_wr_id (by omega) (by omega)]
            refine ⟨fun h_13 => ?_, fun h_13 => ?_⟩
            · exact k s_11 hs_s_11 hf_s_11 (by first | omega | assumption) (by first | omega | assumption)
            · try rw [show gp_wr (64 * p1) = 64 * p1 from gp_wr_id (by omega) (by omega)]
              try rw [show gp_wr ((64 * p1) + v4_11) = (64 * p1) + v4_11 from gp_wr_id (by omega) (by omega)]
              refine ⟨by omega, ?_⟩
              refine ⟨by omega, ?_⟩
              have jn335_16 : ∀ (j_15 : Int), ((j_15 = gp_I s_11 96 (Int.toNat (64 * p1 + v4_11)) ∨ j_15 = gp_I s_11 92 p1.toNat)) → gs_E L (d + 2) 3100 335 [gp_r (some 74), gp_i p0, gp_i p1, gp_i ((64 * p0) + p1), gp_i v4_11, v5_11, v6_11, v7_11] [gp_i j_15, gp_i p1, gp_r (some 92)] s_11 K := by
                intro j_15 ij_16
                refine s_3100_335 _ _ _ _ _ _ _ _ _ ?_
                refine ⟨by omega, ?_⟩
                intro s_18 e_19
                have hs_20 : MI s_18 := by rw [e_19]; exact mw92 hs_s_11 _ _
                have hf_21 : gF [92, 93, 94, 95, 96, 97] [] s s_18 := by rw [e_19]; exact gF.wI hf_s_11 (Or.inl rfl)
                try rw [show gp_wr (64 * p1) = 64 * p1 from gp_wr_id (by omega) (by omega)]
                try rw [show gp_wr ((64 * p1) + v4_11) = (64 * p1) + v4_11 from gp_wr_id (by omega) (by omega)]
                refine ⟨by omega, ?_⟩
                refine ⟨by omega, ?_⟩
                have jn383_24 : ∀ (j_23 : Int), ((j_23 = gp_I s_18 95 (Int.toNat (64 * p1 + v4_11)) ∨ j_23 = gp_I s_18 93 p1.toNat)) → gs_E L (d + 2) 3100 383 [gp_r (some 74), gp_i p0, gp_i p1, gp_i ((64 * p0) + p1), gp_i v4_11, v5_11, v6_11, v7_11] [gp_i j_23, gp_i p1, gp_r (some 93)] s_18 K := by
                  intro j_23 ij_24
                  refine s_3100_383 _ _ _ _ _ _ _ _ _ ?_
                  refine ⟨by omega, ?_⟩
                  intro s_26 e_27
                  have hs_28 : MI s_26 := by rw [e_27]; exact mw93 hs_20 _ _
                  have hf_29 : gF [92, 93, 94, 95, 96, 97] [] s s_26 := by rw [e_27]; exact gF.wI hf_21 (Or.inl rfl)
                  try rw [show gp_wr (v4_11 + 1) = v4_11 + 1 from gp_wr_id (by omega) (by omega)]
                  exact ih_11 _ _ _ _ _ hs_28 hf_29 (by omega) (by subst_vars; rcases ‹_ = gp_I (gp_wI _ _ _ _) 95 _ ∨ _› with q | q; exact mX_3 (by omega) (by omega) q; exact mX_4 (by assumption) q) (by subst_vars; rcases ‹_ = gp_I _ 96 _ ∨ _› with q | q; exact mX_1 (by omega) (by omega) q; exact mX_2 (by assumption) q) (by omega)
                refine ⟨fun h_22 => ?_, fun h_22 => ?_⟩
                · try rw [show gp_wr (64 * p1) = 64 * p1 from gp_wr_id (by omega) (by omega)]
                  try rw [show gp_wr ((64 * p1) + v4_11) = (64 * p1) + v4_11 from gp_wr_id (by omega) (by omega)]
                  refine ⟨by omega, ?_⟩
                  exact jn383_24 _ (by first | exact Or.inl rfl | exact Or.inr rfl)
                · refine ⟨by omega, ?_⟩
                  exact jn383_24 _ (by first | exact Or.inl rfl | exact Or.inr rfl)
              refine ⟨fun h_14 => ?_, fun h_14 => ?_⟩
              · try rw [show gp_wr (64 * p1) = 64 * p1 from gp_wr_id (by omega) (by omega)]
                try rw [show gp_wr ((64 * p1) + v4_11) = (64 * p1) + v4_11 from gp_wr_id (by omega) (by omega)]
                refine ⟨by omega, ?_⟩
                exact jn335_16 _ (by first | exact Or.inl rfl | exact Or.inr rfl)
              · refine ⟨by omega, ?_⟩
                exact jn335_16 _ (by first | exact Or.inl rfl | exact Or.inr rfl)
        exact lp_11 _ _ _ _ _ _ hs_9 hf_10 (by omega) (by subst_vars; exact mX_3 (n := 0) (by omega) (by omega) (by rw [Int.add_zero])) (by subst_vars; exact mX_1 (n := 0) (by omega) (by omega) (by rw [Int.add_zero])) (Nat.lt_succ_self _)
      · try rw [show gp_wr (64 * p1) = 64 * p1 from gp_wr_id (by omega) (by omega)]
        try rw [show gp_wr ((64 * p1) + v4_1) = (64 * p1) + v4_1 from gp_wr_id (by omega) (by omega)]
        refine vm_worst_94 _ _ _ hs_s_1 (by omega) (by omega) (by omega) (fun x_30 => ⟨_, rfl, ?_⟩)
        refine ⟨by omega, ?_⟩
        intro s_31 e_32
        have hs_33 : MI s_31 := by rw [e_32]; exact mw95 hs_s_1 _ _
        have hf_34 : gF [92, 93, 94, 95, 96, 97] [] s s_31 := by rw [e_32]; exact gF.wI hf_s_1 (Or.inl rfl)
        refine vm_best_97 _ _ _ hs_33 (by omega) (by omega) (by omega) (fun x_35 => ⟨_, rfl, ?_⟩)
        refine ⟨by omega, ?_⟩
        intro s_36 e_37
        have hs_38 : MI s_36 := by rw [e_37]; exact mw96 hs_33 _ _
        have hf_39 : gF [92, 93, 94, 95, 96, 97] [] s s_36 := by rw [e_37]; exact gF.wI hf_34 (Or.inl rfl)
        refine ⟨by omega, ?_⟩
        have b_40 := mr76 hs_38 p0 p1 (by omega) (by omega)
        have jn110_42 : ∀ (j_42 : Int), gs_E L (d + 2) 3100 110 [gp_r (some 74), gp_i p0, gp_i p1, gp_i ((64 * p0) + p1), gp_i v4_1, gp_i ((64 * p1) + v4_1), v6_1, v7_1] [gp_i j_42] s_36 K := by
          intro j_42
          refine s_3100_110 _ _ _ _ _ _ _ _ ?_
          refine ⟨by omega, ?_⟩
          have b_44 := mr77 hs_38 p0 p1 (by omega) (by omega)
          have jn154_46 : ∀ (j_46 : Int), gs_E L (d + 2) 3100 154 [gp_r (some 74), gp_i p0, gp_i p1, gp_i ((64 * p0) + p1), gp_i v4_1, gp_i ((64 * p1) + v4_1), gp_i j_42, v7_1] [gp_i j_46] s_36 K := by
            intro j_46
            refine s_3100_154 _ _ _ _ _ _ _ _ ?_
            have jn195_49 : ∀ (j_49 : Int), gs_E L (d + 2) 3100 195 [gp_r (some 74), gp_i p0, gp_i p1, gp_i ((64 * p0) + p1), gp_i v4_1, gp_i ((64 * p1) + v4_1), gp_i j_42, gp_i j_46] [gp_i j_49, gp_i ((64 * p1) + v4_1), gp_r (some 94)] s_36 K := by
              intro j_49
              refine s_3100_195 _ _ _ _ _ _ _ _ _ ?_
              refine ⟨by omega, ?_⟩
              intro s_51 e_52
              have hs_53 : MI s_51 := by rw [e_52]; exact mw94 hs_38 _ _
              have hf_54 : gF [92, 93, 94, 95, 96, 97] [] s s_51 := by rw [e_52]; exact gF.wI hf_39 (Or.inl rfl)
              have jn235_56 : ∀ (j_56 : Int), gs_E L (d + 2) 3100 235 [gp_r (some 74), gp_i p0, gp_i p1, gp_i ((64 * p0) + p1), gp_i v4_1, gp_i ((64 * p1) + v4_1), gp_i j_42, gp_i j_46] [gp_i j_56, gp_i ((64 * p1) + v4_1), gp_r (some 97)] s_51 K := by
                intro j_56
                refine s_3100_235 _ _ _ _ _ _ _ _ _ ?_
                refine ⟨by omega, ?_⟩
                intro s_58 e_59
                have hs_60 : MI s_58 := by rw [e_59]; exact mw97 hs_53 _ _
                have hf_61 : gF [92, 93, 94, 95, 96, 97] [] s s_58 := by rw [e_59]; exact gF.wI hf_54 (Or.inl rfl)
                try rw [show gp_wr (v4_1 + 1) = v4_1 + 1 from gp_wr_id (by omega) (by omega)]
                exact ih_1 _ _ _ _ _ hs_60 hf_61 (by omega) (by omega)
              refine ⟨fun h_55 => ?_, fun h_55 => ?_⟩
              · try rw [show gp_wr (((64 * p1) + v4_1) - 1) = ((64 * p1) + v4_1) - 1 from gp_wr_id (by omega) (by omega)]
                refine ⟨by omega, ?_⟩
                refine ⟨fun h_62 => ?_, fun h_62 => ?_⟩
                · try rw [show gp_wr (((64 * p1) + v4_1) - 1) = ((64 * p1) + v4_1) - 1 from gp_wr_id (by omega) (by omega)]
                  refine ⟨by omega, ?_⟩
                  exact jn235_56 _
                · refine s_3100_233 _ _ _ _ _ _ _ _ ?_
                  exact jn235_56 _
              · refine s_3100_233 _ _ _ _ _ _ _ _ ?_
                exact jn235_56 _
            refine ⟨fun h_48 => ?_, fun h_48 => ?_⟩
            · try rw [show gp_wr (((64 * p1) + v4_1) - 1) = ((64 * p1) + v4_1) - 1 from gp_wr_id (by omega) (by omega)]
              refine ⟨by omega, ?_⟩
              refine ⟨fun h_63 => ?_, fun h_63 => ?_⟩
              · try rw [show gp_wr (((64 * p1) + v4_1) - 1) = ((64 * p1) + v4_1) - 1 from gp_wr_id (by omega) (by omega)]
                refine ⟨by omega, ?_⟩
                exact jn195_49 _
              · refine s_3100_193 _ _ _ _ _ _ _ _ ?_
                exact jn195_49 _
            · refine s_3100_193 _ _ _ _ _ _ _ _ ?_
              exact jn195_49 _
          refine ⟨fun h_45 => ?_, fun h_45 => ?_⟩
          · have hz_64 : gp_L s_36 77 (Int.toNat ((64 * p0) + p1)) = 0#64 := (gm_cmp0 _ _).mp h_45
            refine ⟨fun h_65 => ?_, fun h_65 => ?_⟩
            · try rw [show gp_wr (((64 * p1) + v4_1) - 1) = ((64 * p1) + v4_1) - 1 from gp_wr_id (by omega) (by omega)]
              refine ⟨by omega, ?_⟩
              exact jn154_46 _
            · refine s_3100_140 _ _ _ _ _ _ _ ?_
              refine vm_worst_96 _ _ _ hs_38 (by omega) (by omega) (by omega) (fun x_66 => ⟨_, rfl, ?_⟩)
              exact jn154_46 _
          · have hz_67 : ¬ (gp_L s_36 77 (Int.toNat ((64 * p0) + p1))) = 0#64 := fun q => h_45 ((gm_cmp0 _ _).mpr q)
            refine s_3100_140 _ _ _ _ _ _ _ ?_
            refine vm_worst_96 _ _ _ hs_38 (by omega) (by omega) (by omega) (fun x_68 => ⟨_, rfl, ?_⟩)
            exact jn154_46 _
        refine ⟨fun h_41 => ?_, fun h_41 => ?_⟩
        · have hz_69 : gp_L s_36 76 (Int.toNat ((64 * p0) + p1)) = 0#64 := (gm_cmp0 _ _).mp h_41
          refine ⟨fun h_70 => ?_, fun h_70 => ?_⟩
          · try rw [show gp_wr (((64 * p1) + v4_1) - 1) = ((64 * p1) + v4_1) - 1 from gp_wr_id (by omega) (by omega)]
            refine ⟨by omega, ?_⟩
            exact jn110_42 _
          · refine s_3100_96 _ _ _ _ _ _ _ ?_
            refine vm_best_95 _ _ _ hs_38 (by omega) (by omega) (by omega) (fun x_71 => ⟨_, rfl, ?_⟩)
            exact jn110_42 _
        · have hz_72 : ¬ (gp_L s_36 76 (Int.toNat ((64 * p0) + p1))) = 0#64 := fun q => h_41 ((gm_cmp0 _ _).mpr q)
          refine s_3100_96 _ _ _ _ _ _ _ ?_
          refine vm_best_95 _ _ _ hs_38 (by omega) (by omega) (by omega) (fun x_73 => ⟨_, rfl, ?_⟩)
          exact jn110_42 _
  exact lp_1 _ _ _ _ _ _ hs (gF.refl _ _ _) (by omega) (Nat.lt_succ_self _)
set_option maxRecDepth 100000 in
/-- GatheredPointsModel.bounds -/
theorem vm_bounds  {L d : Nat} {K : Option gV → gH → Prop} {s : gH}  (p0 : Int) (hs : MI s) (h_p0 : 0 ≤ p0 ∧ p0 ≤ 84)  (k : ∀ (t : gH), MI t → gF [92, 93, 94, 95, 96, 97] [] s t → (1 ≤ gp_I s 81 p0.toNat → mX 95 93 (gp_I s 81 p0.toNat - 1) t) → (1 ≤ gp_I s 81 p0.toNat → mX 96 92 (gp_I s 81 p0.toNat - 1) t) → K none t) : gs_C L (d + 3) 3101 3 [gp_r (some 74), gp_i p0] s K := by
  have f_1 := mr81 hs p0.toNat
  refine s_3101_e _ ?_
  have lp_2 : ∀ (n_2 : Nat) (v2_2 : Int) (s_2 : gH), (MI s_2) → (gF [92, 93, 94, 95, 96, 97] [] s s_2) → (0 ≤ v2_2 ∧ v2_2 ≤ 60) → (gp_I s_2 81 p0.toNat = gp_I s 81 p0.toNat) → (v2_2 ≤ gp_I s_2 81 p0.toNat) → (1 ≤ v2_2 → mX 95 93 (v2_2 - 1) s_2) → (1 ≤ v2_2 → mX 96 92 (v2_2 - 1) s_2) → (61 - v2_2).toNat < n_2 → gs_E L (d + 3) 3101 2 [gp_r (some 74), gp_i p0, gp_i v2_2] [] s_2 K := by
    intro n_2
    induction n_2 with
    | zero => intro v2_2 s_2 hs_s_2 hf_s_2 hv2_2 tk0_2 iv0_2 iv1_2 iv2_2 hm_2; exact absurd hm_2 (Nat.not_lt_zero _)
    | succ n_2 ih_2 =>
      intro v2_2 s_2 hs_s_2 hf_s_2 hv2_2 tk0_2 iv0_2 iv1_2 iv2_2 hm_2
      refine s_3101_2 _ _ ?_
      refine ⟨by omega, ?_⟩
      have f_3 := mr81 hs_s_2 (Int.toNat p0)
      refine ⟨fun h_4 => ?_, fun h_4 => ?_⟩
      · refine vm_bound _ _ hs_s_2 (by omega) (by omega) (fun s_5 hs_6 hf_7 p_8 p_9 => ⟨rfl, ?_⟩)
        have hf_10 : gF [92, 93, 94, 95, 96, 97] [] s s_5 := gF.trans hf_s_2 hf_7 rfl rfl
        have q_11 := (hf_7.2 81 p0.toNat rfl (fun h => absurd h (by decide))).1
        try rw [show gp_wr (v2_2 + 1) = v2_2 + 1 from gp_wr_id (by omega) (by omega)]
        exact ih_2 _ _ hs_6 hf_10 (by omega) (by first | rfl | omega) (by first | omega | assumption) (by first | (intro h0; omega) | (intro h0; rw [Int.add_sub_cancel]; assumption)) (by first | (intro h0; omega) | (intro h0; rw [Int.add_sub_cancel]; assumption)) (by omega)
      · exact k s_2 hs_s_2 hf_s_2 (fun h0 => by rw [show gp_I s 81 p0.toNat = v2_2 by omega]; exact iv1_2 (by omega)) (fun h0 => by rw [show gp_I s 81 p0.toNat = v2_2 by omega]; exact iv2_2 (by omega))
  exact lp_2 _ _ _ hs (gF.refl _ _ _) (by omega) (by first | rfl | omega) (by first | omega | assumption) (by first | (intro h0; omega) | (intro h0; rw [Int.add_sub_cancel]; assumption)) (by first | (intro h0; omega) | (intro h0; rw [Int.add_sub_cancel]; assumption)) (Nat.lt_succ_self _)
set_option maxRecDepth 100000 in
/-- GatheredPointsModel.price -/
theorem vm_price0  {L d : Nat} {K : Option gV → gH → Prop} {s : gH}  (p0 : Int) (hs : MI s) (h_p0 : 0 ≤ p0 ∧ p0 ≤ 62) (q0 : mX 95 93 p0 s) (k : ∀ (r : Int), (0 ≤ r ∧ r ≤ 64) → K (some (gp_i r)) s) : gs_C L d 3102 4 [gp_r (some 74), gp_i p0, gp_i 0] s K := by
  refine s_3102_e _ _ ?_
  obtain ⟨n1, hn1, en1⟩ := q0
  have lp_1 : ∀ (n_1 : Nat) (v3_1 : Int), (0 ≤ v3_1 ∧ v3_1 ≤ 64) → (v3_1 ≤ n1) → (65 - v3_1).toNat < n_1 → gs_E L d 3102 2 [gp_r (some 74), gp_i p0, gp_i 0, gp_i v3_1] [] s K := by
    intro n_1
    induction n_1 with
    | zero => intro v3_1 hv3_1 iv0_1 hm_1; exact absurd hm_1 (Nat.not_lt_zero _)
    | succ n_1 ih_1 =>
      intro v3_1 hv3_1 iv0_1 hm_1
      refine s_3102_2 _ _ _ ?_
      refine ⟨fun h_2 => ?_, fun h_2 => ?_⟩
      · try rw [show gp_wr (64 * p0) = 64 * p0 from gp_wr_id (by omega) (by omega)]
        try rw [show gp_wr ((64 * p0) + v3_1) = (64 * p0) + v3_1 from gp_wr_id (by omega) (by omega)]
        refine ⟨by omega, ?_⟩
        refine ⟨by omega, ?_⟩
        refine ⟨fun h_3 => ?_, fun h_3 => ?_⟩
        · refine s_3102_55 _ _ _ ?_
          exact k _ (by omega)
        · refine s_3102_49 _ _ _ ?_
          try rw [show gp_wr (v3_1 + 1) = v3_1 + 1 from gp_wr_id (by omega) (by omega)]
          have hb := pr_step (x := fun j => gp_I s 95 (Int.toNat (64 * p0 + j))) en1 iv0_1 (by assumption)
          exact ih_1 _ (by omega) (by first | omega | assumption) (by omega)
      · exfalso; omega
  exact lp_1 _ _ (by omega) (by first | omega | assumption) (Nat.lt_succ_self _)
set_option maxRecDepth 100000 in
/-- GatheredPointsModel.price -/
theorem vm_price1  {L d : Nat} {K : Option gV → gH → Prop} {s : gH}  (p0 : Int) (hs : MI s) (h_p0 : 0 ≤ p0 ∧ p0 ≤ 62) (q0 : mX 96 92 p0 s) (k : ∀ (r : Int), (0 ≤ r ∧ r ≤ 64) → K (some (gp_i r)) s) : gs_C L d 3102 4 [gp_r (some 74), gp_i p0, gp_i 1] s K := by
  refine s_3102_e _ _ ?_
  obtain ⟨n1, hn1, en1⟩ := q0
  have lp_1 : ∀ (n_1 : Nat) (v3_1 : Int), (0 ≤ v3_1 ∧ v3_1 ≤ 64) → (v3_1 ≤ n1) → (65 - v3_1).toNat < n_1 → gs_E L d 3102 2 [gp_r (some 74), gp_i p0, gp_i 1, gp_i v3_1] [] s K := by
    intro n_1
    induction n_1 with
    | zero => intro v3_1 hv3_1 iv0_1 hm_1; exact absurd hm_1 (Nat.not_lt_zero _)
    | succ n_1 ih_1 =>
      intro v3_1 hv3_1 iv0_1 hm_1
      refine s_3102_2 _ _ _ ?_
      refine ⟨fun h_2 => ?_, fun h_2 => ?_⟩
      · exfalso; omega
      · try rw [show gp_wr (64 * p0) = 64 * p0 from gp_wr_id (by omega) (by omega)]
        try rw [show gp_wr ((64 * p0) + v3_1) = (64 * p0) + v3_1 from gp_wr_id (by omega) (by omega)]
        refine ⟨by omega, ?_⟩
        refine ⟨by omega, ?_⟩
        refine ⟨fun h_3 => ?_, fun h_3 => ?_⟩
        · refine s_3102_55 _ _ _ ?_
          exact k _ (by omega)
        · refine s_3102_49 _ _ _ ?_
          try rw [show gp_wr (v3_1 + 1) = v3_1 + 1 from gp_wr_id (by omega) (by omega)]
          have hb := pr_step (x := fun j => gp_I s 96 (Int.toNat (64 * p0 + j))) en1 iv0_1 (by assumption)
          exact ih_1 _ (by omega) (by first | omega | assumption) (by omega)
  exact lp_1 _ _ (by omega) (by first | omega | assumption) (Nat.lt_succ_self _)
theorem vm_price {L d : Nat} {K : Option gV → gH → Prop} {s : gH} (p0 : Int) (p1 : Int) (hs : MI s) (h_p0 : 0 ≤ p0 ∧ p0 ≤ 62) (h_p1 : 0 ≤ p1 ∧ p1 ≤ 1) (q0 : mX 95 93 p0 s) (q1 : mX 96 92 p0 s) (k : ∀ (r : Int), 0 ≤ r ∧ r ≤ 64 → K (some (gp_i r)) s) : gs_C L d 3102 4 [gp_r (some 74), gp_i p0, gp_i p1] s K := by
  rcases (by omega : p1 = 0 ∨ p1 = 1) with h | h
  · subst h; exact vm_price0 p0 hs h_p0 q0 k
  · subst h; exact vm_price1 p0 hs h_p0 q1 k
set_option maxRecDepth 100000 in
/-- GatheredPointsModel.isSure -/
theorem vm_isSure  {L d : Nat} {K : Option gV → gH → Prop} {s : gH}  (p0 : Int) (hs : MI s) (h_p0 : 0 ≤ p0 ∧ p0 ≤ 84)  (k : ∀ (r : Int), (0 ≤ r ∧ r ≤ 1) → K (some (gp_i r)) s) : gs_C L (d + 1) 3103 9 [gp_r (some 74), gp_i p0] s K := by
  refine s_3103_e _ ?_
  have lp_1 : ∀ (n_1 : Nat) (v2_1 : Int) (v3_1 : gV) (v4_1 : gV) (v5_1 : gV) (v6_1 : gV) (v7_1 : gV) (v8_1 : gV), (0 ≤ v2_1 ∧ v2_1 ≤ 60) → (61 - v2_1).toNat < n_1 → gs_E L (d + 1) 3103 2 [gp_r (some 74), gp_i p0, gp_i v2_1, v3_1, v4_1, v5_1, v6_1, v7_1, v8_1] [] s K := by
    intro n_1
    induction n_1 with
    | zero => intro v2_1 v3_1 v4_1 v5_1 v6_1 v7_1 v8_1 hv2_1 hm_1; exact absurd hm_1 (Nat.not_lt_zero _)
    | succ n_1 ih_1 =>
      intro v2_1 v3_1 v4_1 v5_1 v6_1 v7_1 v8_1 hv2_1 hm_1
      refine s_3103_2 _ _ _ _ _ _ _ _ ?_
      refine ⟨by omega, ?_⟩
      have f_2 := mr81 hs (Int.toNat p0)
      refine ⟨fun h_3 => ?_, fun h_3 => ?_⟩
      · try rw [show gp_wr (64 * p0) = 64 * p0 from gp_wr_id (by omega) (by omega)]
        try rw [show gp_wr ((64 * p0) + v2_1) = (64 * p0) + v2_1 from gp_wr_id (by omega) (by omega)]
        have lp_4 : ∀ (n_4 : Nat) (v4_4 : BitVec 64) (v6_4 : Int) (v7_4 : gV) (v8_4 : gV), ((-1) ≤ v6_4 ∧ v6_4 ≤ 59) → (v6_4 + 2).toNat < n_4 → gs_E L (d + 1) 3103 27 [gp_r (some 74), gp_i p0, gp_i v2_1, gp_i ((64 * p0) + v2_1), gp_l v4_4, gp_n, gp_i v6_4, v7_4, v8_4] [] s K := by
          intro n_4
          induction n_4 with
          | zero => intro v4_4 v6_4 v7_4 v8_4 hv6_4 hm_4; exact absurd hm_4 (Nat.not_lt_zero _)
          | succ n_4 ih_4 =>
            intro v4_4 v6_4 v7_4 v8_4 hv6_4 hm_4
            refine s_3103_27 _ _ _ _ _ _ _ ?_
            refine ⟨fun h_5 => ?_, fun h_5 => ?_⟩
            · have lp_6 : ∀ (n_6 : Nat) (v6_6 : Int) (v7_6 : gV) (v8_6 : gV), (0 ≤ v6_6 ∧ v6_6 ≤ 60) → (61 - v6_6).toNat < n_6 → gs_E L (d + 1) 3103 85 [gp_r (some 74), gp_i p0, gp_i v2_1, gp_i ((64 * p0) + v2_1), gp_l v4_4, gp_n, gp_i v6_6, v7_6, v8_6] [] s K := by
                intro n_6
                induction n_6 with
                | zero => intro v6_6 v7_6 v8_6 hv6_6 hm_6; exact absurd hm_6 (Nat.not_lt_zero _)
                | succ n_6 ih_6 =>
                  intro v6_6 v7_6 v8_6 hv6_6 hm_6
                  refine s_3103_85 _ _ _ _ _ _ _ ?_
                  refine ⟨fun h_7 => ?_, fun h_7 => ?_⟩
                  · try rw [show gp_wr (v2_1 + 1) = v2_1 + 1 from gp_wr_id (by omega) (by omega)]
                    exact ih_1 _ _ _ _ _ _ _ (by omega) (by omega)
                  · have lp_8 : ∀ (n_8 : Nat) (v7_8 : Int) (v8_8 : gV), (0 ≤ v7_8 ∧ v7_8 ≤ 2) → (3 - v7_8).toNat < n_8 → gs_E L (d + 1) 3103 94 [gp_r (some 74), gp_i p0, gp_i v2_1, gp_i ((64 * p0) + v2_1), gp_l v4_4, gp_n, gp_i v6_6, gp_i v7_8, v8_8] [] s K := by
                      intro n_8
                      induction n_8 with
                      | zero => intro v7_8 v8_8 hv7_8 hm_8; exact absurd hm_8 (Nat.not_lt_zero _)
                      | succ n_8 ih_8 =>
                        intro v7_8 v8_8 hv7_8 hm_8
                        refine s_3103_94 _ _ _ _ _ _ _ ?_
                        refine ⟨fun h_9 => ?_, fun h_9 => ?_⟩
                        · refine vm_has _ _ (by omega) (fun x_10 p_11 p_12 => ⟨_, rfl, ?_⟩)
                          refine ⟨fun h_13 => ?_, fun h_13 => ?_⟩
                          · have hb_14 := hasF p_12 h_13
                            refine s_3103_202 _ _ _ _ _ _ _ ?_
                            try rw [show gp_wr (v6_6 + 1) = v6_6 + 1 from gp_wr_id (by omega) (by omega)]
                            exact ih_6 _ _ _ (by omega) (by omega)
                          · have hb_15 := hasT p_12 h_13
                            refine vm_sideOf _ _ _ hs (by omega) (by omega) (fun m_16 p_17 p_18 p_19 p_20 => ⟨_, rfl, ?_⟩)
                            have jn129_23 : ∀ (j_22 : Int), (0 ≤ j_22 ∧ j_22 ≤ 1) → gs_E L (d + 1) 3103 129 [gp_r (some 74), gp_i p0, gp_i v2_1, gp_i ((64 * p0) + v2_1), gp_l v4_4, gp_n, gp_i v6_6, gp_i v7_8, v8_8] [gp_i j_22] s K := by
                              intro j_22 hj_23
                              refine s_3103_129 _ _ _ _ _ _ _ _ ?_
                              refine ⟨fun h_25 => ?_, fun h_25 => ?_⟩
                              · refine s_3103_196 _ _ _ _ _ _ _ ?_
                                try rw [show gp_wr (v7_8 + 1) = v7_8 + 1 from gp_wr_id (by omega) (by omega)]
                                exact ih_8 _ _ (by omega) (by omega)
                              · refine ⟨by omega, ?_⟩
                                have b_26 := mr76 hs p0 v2_1 (by omega) (by omega)
                                refine ⟨fun h_27 => ?_, fun h_27 => ?_⟩
                                · have hz_28 : gp_L s 76 (Int.toNat ((64 * p0) + v2_1)) = 0#64 := (gm_cmp0 _ _).mp h_27
                                  refine vm_shut _ _ _ hs (by omega) (by omega) (fun x_29 p_30 p_31 => ⟨_, rfl, ?_⟩)
                                  refine ⟨by omega, ?_⟩
                                  refine ⟨fun h_32 => ?_, fun h_32 => ?_⟩
                                  · refine s_3103_194 _ _ _ _ _ _ _ ?_
                                    exact k _ (by omega)
                                  · refine s_3103_165 _ _ _ _ _ _ _ ?_
                                    refine ⟨by omega, ?_⟩
                                    have b_33 := mr77 hs p0 v2_1 (by omega) (by omega)
                                    refine ⟨fun h_34 => ?_, fun h_34 => ?_⟩
                                    · have hz_35 : gp_L s 77 (Int.toNat ((64 * p0) + v2_1)) = 0#64 := (gm_cmp0 _ _).mp h_34
                                      refine vm_shut _ _ _ hs (by omega) (by omega) (fun x_36 p_37 p_38 => ⟨_, rfl, ?_⟩)
                                      refine ⟨by omega, ?_⟩
                                      refine ⟨fun h_39 => ?_, fun h_39 => ?_⟩
                                      · refine s_3103_194 _ _ _ _ _ _ _ ?_
                                        exact k _ (by omega)
                                      · refine s_3103_196 _ _ _ _ _ _ _ ?_
                                        try rw [show gp_wr (v7_8 + 1) = v7_8 + 1 from gp_wr_id (by omega) (by omega)]
                                        exact ih_8 _ _ (by omega) (by omega)
                                    · have hz_40 : ¬ (gp_L s 77 (Int.toNat ((64 * p0) + v2_1))) = 0#64 := fun q => h_34 ((gm_cmp0 _ _).mpr q)
                                      refine s_3103_196 _ _ _ _ _ _ _ ?_
                                      try rw [show gp_wr (v7_8 + 1) = v7_8 + 1 from gp_wr_id (by omega) (by omega)]
                                      exact ih_8 _ _ (by omega) (by omega)
                                · have hz_41 : ¬ (gp_L s 76 (Int.toNat ((64 * p0) + v2_1))) = 0#64 := fun q => h_27 ((gm_cmp0 _ _).mpr q)
                                  refine s_3103_165 _ _ _ _ _ _ _ ?_
                                  refine ⟨by omega, ?_⟩
                                  have b_42 := mr77 hs p0 v2_1 (by omega) (by omega)
                                  refine ⟨fun h_43 => ?_, fun h_43 => ?_⟩
                                  · have hz_44 : gp_L s 77 (Int.toNat ((64 * p0) + v2_1)) = 0#64 := (gm_cmp0 _ _).mp h_43
                                    refine vm_shut _ _ _ hs (by omega) (by omega) (fun x_45 p_46 p_47 => ⟨_, rfl, ?_⟩)
                                    refine ⟨by omega, ?_⟩
                                    refine ⟨fun h_48 => ?_, fun h_48 => ?_⟩
                                    · refine s_3103_194 _ _ _ _ _ _ _ ?_
                                      exact k _ (by omega)
                                    · refine s_3103_196 _ _ _ _ _ _ _ ?_
                                      try rw [show gp_wr (v7_8 + 1) = v7_8 + 1 from gp_wr_id (by omega) (by omega)]
                                      exact ih_8 _ _ (by omega) (by omega)
                                  · have hz_49 : ¬ (gp_L s 77 (Int.toNat ((64 * p0) + v2_1))) = 0#64 := fun q => h_43 ((gm_cmp0 _ _).mpr q)
                                    refine s_3103_196 _ _ _ _ _ _ _ ?_
                                    try rw [show gp_wr (v7_8 + 1) = v7_8 + 1 from gp_wr_id (by omega) (by omega)]
                                    exact ih_8 _ _ (by omega) (by omega)
                            refine ⟨fun h_21 => ?_, fun h_21 => ?_⟩
                            · have hz_50 : m_16 = 0#64 := (gm_cmp0 _ _).mp h_21
                              exact jn129_23 _ (by omega)
                            · have hz_51 : ¬ m_16 = 0#64 := fun q => h_21 ((gm_cmp0 _ _).mpr q)
                              exact jn129_23 _ (by omega)
                        · refine s_3103_202 _ _ _ _ _ _ _ ?_
                          try rw [show gp_wr (v6_6 + 1) = v6_6 + 1 from gp_wr_id (by omega) (by omega)]
                          exact ih_6 _ _ _ (by omega) (by omega)
                    exact lp_8 _ _ _ (by omega) (Nat.lt_succ_self _)
              exact lp_6 _ _ _ _ (by omega) (Nat.lt_succ_self _)
            · refine vm_has _ _ (by omega) (fun x_52 p_53 p_54 => ⟨_, rfl, ?_⟩)
              have jn73_56 : ∀ (j_56 : BitVec 64), gs_E L (d + 1) 3103 73 [gp_r (some 74), gp_i p0, gp_i v2_1, gp_i ((64 * p0) + v2_1), gp_l v4_4, gp_n, gp_i v6_4, v7_4, v8_4] [gp_l j_56, gp_l v4_4] s K := by
                intro j_56
                refine s_3103_73 _ _ _ _ _ _ _ _ _ ?_
                try rw [show gp_wr (v6_4 + (-1)) = v6_4 + (-1) from gp_wr_id (by omega) (by omega)]
                exact ih_4 _ _ _ _ (by omega) (by omega)
              refine ⟨fun h_55 => ?_, fun h_55 => ?_⟩
              · have hb_58 := hasF p_54 h_55
                exact jn73_56 _
              · have hb_59 := hasT p_54 h_55
                try rw [show gp_wr (64 * p0) = 64 * p0 from gp_wr_id (by omega) (by omega)]
                try rw [show gp_wr ((64 * p0) + v6_4) = (64 * p0) + v6_4 from gp_wr_id (by omega) (by omega)]
                refine ⟨by omega, ?_⟩
                have b_60 := mr76 hs p0 v6_4 (by omega) (by omega)
                try rw [show gp_wr (64 * p0) = 64 * p0 from gp_wr_id (by omega) (by omega)]
                try rw [show gp_wr ((64 * p0) + v6_4) = (64 * p0) + v6_4 from gp_wr_id (by omega) (by omega)]
                refine ⟨by omega, ?_⟩
                have b_61 := mr77 hs p0 v6_4 (by omega) (by omega)
                exact jn73_56 _
        exact lp_4 _ _ _ _ _ (by omega) (Nat.lt_succ_self _)
      · exact k _ (by omega)
  exact lp_1 _ _ _ _ _ _ _ _ (by omega) (Nat.lt_succ_self _)
set_option maxRecDepth 100000 in
/-- GatheredPointsModel.compares -/
theorem vm_compares  {L d : Nat} {K : Option gV → gH → Prop} {s : gH}  (p0 : Int) (p1 : Int) (hs : MI s) (h_p0 : 0 ≤ p0 ∧ p0 ≤ 84) (h_p1 : 0 ≤ p1 ∧ p1 ≤ 84)  (k : ∀ (t : gH), MI t → gF [92, 93, 94, 95, 96, 97, 98, 99, 100, 101, 102, 103] [] s t → K none t) : gs_C L (d + 4) 3104 4 [gp_r (some 74), gp_i p0, gp_i p1] s K := by
  have f_1 := mr81 hs p0.toNat
  have f_2 := mr81 hs p1.toNat
  refine s_3104_e _ _ ?_
  refine vm_bounds _ hs (by omega) (fun s_3 hs_4 hf_5 p_6 p_7 => ⟨rfl, ?_⟩)
  have hf_8 : gF [92, 93, 94, 95, 96, 97, 98, 99, 100, 101, 102, 103] [] s s_3 := gF.sub hf_5 rfl rfl
  have q_9 := (hf_5.2 81 p0.toNat rfl (fun h => absurd h (by decide))).1
  have q_10 := (hf_5.2 81 p1.toNat rfl (fun h => absurd h (by decide))).1
  have lp_11 : ∀ (n_11 : Nat) (v3_11 : Int) (s_11 : gH), (MI s_11) → (gF [92, 93, 94, 95, 96, 97, 98, 99, 100, 101, 102, 103] [] s s_11) → (0 ≤ v3_11 ∧ v3_11 ≤ 60) → (gp_I s_11 81 p0.toNat = gp_I s_3 81 p0.toNat) → (gp_I s_11 81 p1.toNat = gp_I s_3 81 p1.toNat) → (61 - v3_11).toNat < n_11 → gs_E L (d + 4) 3104 7 [gp_r (some 74), gp_i p0, gp_i p1, gp_i v3_11] [] s_11 K := by
    intro n_11
    induction n_11 with
    | zero => intro v3_11 s_11 hs_s_11 hf_s_11 hv3_11 tk0_11 tk1_11 hm_11; exact absurd hm_11 (Nat.not_lt_zero _)
    | succ n_11 ih_11 =>
      intro v3_11 s_11 hs_s_11 hf_s_11 hv3_11 tk0_11 tk1_11 hm_11
      refine s_3104_7 _ _ _ ?_
      refine ⟨by omega, ?_⟩
      have f_12 := mr81 hs_s_11 (Int.toNat p0)
      refine ⟨fun h_13 => ?_, fun h_13 => ?_⟩
      · refine ⟨by omega, ?_⟩
        refine ⟨by omega, ?_⟩
        intro s_14 e_15
        have hs_16 : MI s_14 := by rw [e_15]; exact mw100 hs_s_11 _ _
        have hf_17 : gF [92, 93, 94, 95, 96, 97, 98, 99, 100, 101, 102, 103] [] s s_14 := by rw [e_15]; exact gF.wI hf_s_11 (Or.inl rfl)
        have q_18 : gp_I s_14 81 p0.toNat = gp_I s_11 81 p0.toNat := by rw [e_15] <;> rfl
        have q_19 : gp_I s_14 81 p1.toNat = gp_I s_11 81 p1.toNat := by rw [e_15] <;> rfl
        refine ⟨by omega, ?_⟩
        refine ⟨by omega, ?_⟩
        intro s_20 e_21
        have hs_22 : MI s_20 := by rw [e_21]; exact mw101 hs_16 _ _
        have hf_23 : gF [92, 93, 94, 95, 96, 97, 98, 99, 100, 101, 102, 103] [] s s_20 := by rw [e_21]; exact gF.wI hf_17 (Or.inl rfl)
        have q_24 : gp_I s_20 81 p0.toNat = gp_I s_14 81 p0.toNat := by rw [e_21] <;> rfl
        have q_25 : gp_I s_20 81 p1.toNat = gp_I s_14 81 p1.toNat := by rw [e_21] <;> rfl
        try rw [show gp_wr (v3_11 + 1) = v3_11 + 1 from gp_wr_id (by omega) (by omega)]
        exact ih_11 _ _ hs_22 hf_23 (by omega) (by first | rfl | omega) (by first | rfl | omega) (by omega)
      · refine vm_bounds _ hs_s_11 (by omega) (fun s_26 hs_27 hf_28 p_29 p_30 => ⟨rfl, ?_⟩)
        have hf_31 : gF [92, 93, 94, 95, 96, 97, 98, 99, 100, 101, 102, 103] [] s s_26 := gF.trans hf_s_11 hf_28 rfl rfl
        have q_32 := (hf_28.2 81 p0.toNat rfl (fun h => absurd h (by decide))).1
        have q_33 := (hf_28.2 81 p1.toNat rfl (fun h => absurd h (by decide))).1
        have lp_34 : ∀ (n_34 : Nat) (v3_34 : Int) (s_34 : gH), (MI s_34) → (gF [92, 93, 94, 95, 96, 97, 98, 99, 100, 101, 102, 103] [] s s_34) → (0 ≤ v3_34 ∧ v3_34 ≤ 60) → (gp_I s_34 81 p0.toNat = gp_I s_26 81 p0.toNat) → (gp_I s_34 81 p1.toNat = gp_I s_26 81 p1.toNat) → (61 - v3_34).toNat < n_34 → gs_E L (d + 4) 3104 54 [gp_r (some 74), gp_i p0, gp_i p1, gp_i v3_34] [] s_34 K := by
          intro n_34
          induction n_34 with
          | zero => intro v3_34 s_34 hs_s_34 hf_s_34 hv3_34 tk0_34 tk1_34 hm_34; exact absurd hm_34 (Nat.not_lt_zero _)
          | succ n_34 ih_34 =>
            intro v3_34 s_34 hs_s_34 hf_s_34 hv3_34 tk0_34 tk1_34 hm_34
            refine s_3104_54 _ _ _ ?_
            refine ⟨by omega, ?_⟩
            have f_35 := mr81 hs_s_34 (Int.toNat p1)
            refine ⟨fun h_36 => ?_, fun h_36 => ?_⟩
            · refine ⟨by omega, ?_⟩
              refine ⟨by omega, ?_⟩
              intro s_37 e_38
              have hs_39 : MI s_37 := by rw [e_38]; exact mw102 hs_s_34 _ _
              have hf_40 : gF [92, 93, 94, 95, 96, 97, 98, 99, 100, 101, 102, 103] [] s s_37 := by rw [e_38]; exact gF.wI hf_s_34 (Or.inl rfl)
              have q_41 : gp_I s_37 81 p0.toNat = gp_I s_34 81 p0.toNat := by rw [e_38] <;> rfl
              have q_42 : gp_I s_37 81 p1.toNat = gp_I s_34 81 p1.toNat := by rw [e_38] <;> rfl
              refine ⟨by omega, ?_⟩
              refine ⟨by omega, ?_⟩
              intro s_43 e_44
              have hs_45 : MI s_43 := by rw [e_44]; exact mw103 hs_39 _ _
              have hf_46 : gF [92, 93, 94, 95, 96, 97, 98, 99, 100, 101, 102, 103] [] s s_43 := by rw [e_44]; exact gF.wI hf_40 (Or.inl rfl)
              have q_47 : gp_I s_43 81 p0.toNat = gp_I s_37 81 p0.toNat := by rw [e_44] <;> rfl
              have q_48 : gp_I s_43 81 p1.toNat = gp_I s_37 81 p1.toNat := by rw [e_44] <;> rfl
              try rw [show gp_wr (v3_34 + 1) = v3_34 + 1 from gp_wr_id (by omega) (by omega)]
              exact ih_34 _ _ hs_45 hf_46 (by omega) (by first | rfl | omega) (by first | rfl | omega) (by omega)
            · have lp_49 : ∀ (n_49 : Nat) (v3_49 : Int) (s_49 : gH), (MI s_49) → (gF [92, 93, 94, 95, 96, 97, 98, 99, 100, 101, 102, 103] [] s s_49) → (0 ≤ v3_49 ∧ v3_49 ≤ 4096) → (gp_I s_49 81 p0.toNat = gp_I s_34 81 p0.toNat) → (gp_I s_49 81 p1.toNat = gp_I s_34 81 p1.toNat) → (4097 - v3_49).toNat < n_49 → gs_E L (d + 4) 3104 96 [gp_r (some 74), gp_i p0, gp_i p1, gp_i v3_49] [] s_49 K := by
                intro n_49
                induction n_49 with
                | zero => intro v3_49 s_49 hs_s_49 hf_s_49 hv3_49 tk0_49 tk1_49 hm_49; exact absurd hm_49 (Nat.not_lt_zero _)
                | succ n_49 ih_49 =>
                  intro v3_49 s_49 hs_s_49 hf_s_49 hv3_49 tk0_49 tk1_49 hm_49
                  refine s_3104_96 _ _ _ ?_
                  refine ⟨fun h_50 => ?_, fun h_50 => ?_⟩
                  · refine ⟨by omega, ?_⟩
                    intro s_51 e_52
                    have hs_53 : MI s_51 := by rw [e_52]; exact mw98 hs_s_49 _ _ (by omega)
                    have hf_54 : gF [92, 93, 94, 95, 96, 97, 98, 99, 100, 101, 102, 103] [] s s_51 := by rw [e_52]; exact gF.wI hf_s_49 (Or.inl rfl)
                    have q_55 : gp_I s_51 81 p0.toNat = gp_I s_49 81 p0.toNat := by rw [e_52] <;> rfl
                    have q_56 : gp_I s_51 81 p1.toNat = gp_I s_49 81 p1.toNat := by rw [e_52] <;> rfl
                    refine ⟨by omega, ?_⟩
                    intro s_57 e_58
                    have hs_59 : MI s_57 := by rw [e_58]; exact mw99 hs_53 _ _ (by omega)
                    have hf_60 : gF [92, 93, 94, 95, 96, 97, 98, 99, 100, 101, 102, 103] [] s s_57 := by rw [e_58]; exact gF.wI hf_54 (Or.inl rfl)
                    have q_61 : gp_I s_57 81 p0.toNat = gp_I s_51 81 p0.toNat := by rw [e_58] <;> rfl
                    have q_62 : gp_I s_57 81 p1.toNat = gp_I s_51 81 p1.toNat := by rw [e_58] <;> rfl
                    try rw [show gp_wr (v3_49 + 1) = v3_49 + 1 from gp_wr_id (by omega) (by omega)]
                    exact ih_49 _ _ hs_59 hf_60 (by omega) (by first | rfl | omega) (by first | rfl | omega) (by omega)
                  · exact k s_49 hs_s_49 hf_s_49
              exact lp_49 _ _ _ hs_s_34 hf_s_34 (by omega) (by first | rfl | omega) (by first | rfl | omega) (Nat.lt_succ_self _)
        exact lp_34 _ _ _ hs_27 hf_31 (by omega) (by first | rfl | omega) (by first | rfl | omega) (Nat.lt_succ_self _)
  exact lp_11 _ _ _ hs_4 hf_8 (by omega) (by first | rfl | omega) (by first | rfl | omega) (Nat.lt_succ_self _)
set_option maxRecDepth 100000 in
/-- GatheredPointsModel.holds -/
theorem vm_holds  {L d : Nat} {K : Option gV → gH → Prop} {s : gH}  (p0 : Int) (hs : MI s) (h_p0 : 0 ≤ p0 ∧ p0 ≤ 7) (q0 : 1 ≤ gp_I s 81 19) (k : ∀ (r : Int), ∀ (t : gH), MI t → gF [76, 77, 78, 79, 80, 81] [] s t → (0 ≤ r ∧ r ≤ 64) → (∀ k : Nat, k ≠ p0.toNat → gp_I t 81 k = gp_I s 81 k) → (mK s t) → K (some (gp_i r)) t) : gs_C L (d + 1) 3123 2 [gp_r (some 74), gp_i p0] s K := by
  have f_1 := mr81 hs 19
  refine s_3123_e _ ?_
  refine vm_copies _ _ hs (by omega) (by omega) (by first | omega | assumption) (by show (p0 < 8 → 1 ≤ gp_I s 81 19); first | omega | assumption) (fun s_2 hs_3 hf_4 p_5 p_6 => ⟨rfl, ?_⟩)
  have hf_7 : gF [76, 77, 78, 79, 80, 81] [] s s_2 := gF.sub hf_4 rfl rfl
  have p_8 : gp_I s_2 81 p0.toNat = gp_I s 81 19 := p_5
  refine ⟨by omega, ?_⟩
  have f_9 := mr81 hs_3 (Int.toNat p0)
  have f_10 := mr81s hs_3 (Int.toNat p0) (by omega)
  exact k _ s_2 hs_3 hf_7 (by omega) (by assumption) (fun k a b c => p_6 k (by omega))
