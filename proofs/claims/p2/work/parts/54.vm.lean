set_option maxRecDepth 100000 in
/-- GatheredPointsModel.begins -/
theorem vm_begins2  {L d : Nat} {K : Option gV → gH → Prop} {s : gH}   (hs : MI s)   (k : ∀ (t : gH), MI t → gF [81, 86] [15] s t → (gp_I t 81 20 = 0) → (gp_I t 74 15 = 0) → (MDi t) → (mOut s t) → K none t) : gs_C L (d + 1) 3085 1 [gp_r (some 74)] s K := by
  have f_1 := mr81 hs 20
  have f_2 := mr74_15 hs
  refine s_3085_e ?_
  intro s_3 e_4
  have hs_5 : MI s_3 := by rw [e_4]; exact mw81 hs _ _ (by omega)
  have hf_6 : gF [81, 86] [15] s s_3 := by rw [e_4]; exact gF.wI (gF.refl _ _ _) (Or.inl rfl)
  have q_7 : gp_I s_3 81 20 = 0 := by rw [e_4]; exact (gz_rw _ _ _ _ _).1 rfl
  have q_8 : gp_I s_3 74 15 = gp_I s 74 15 := by rw [e_4] <;> rfl
  have mo_9 : mOut s s_3 := by rw [e_4]; exact mOut_81 (mOut.refl _)
  intro s_10 e_11
  have hs_12 : MI s_10 := by rw [e_11]; exact mw74_15 hs_5 _ (by omega)
  have hf_13 : gF [81, 86] [15] s s_10 := by rw [e_11]; exact gF.wI hf_6 (Or.inr ⟨rfl, rfl⟩)
  have q_14 : gp_I s_10 81 20 = gp_I s_3 81 20 := by rw [e_11] <;> rfl
  have q_15 : gp_I s_10 74 15 = 0 := by rw [e_11]; exact (gz_rw _ _ _ _ _).1 rfl
  have mo_16 : mOut s s_10 := by rw [e_11]; exact mOut_wI mo_9 (by decide)
  refine vm_forgets hs_12 (fun s_17 hs_18 hf_19 p_20 => ⟨rfl, ?_⟩)
  have hf_21 : gF [81, 86] [15] s s_17 := gF.trans hf_13 hf_19 rfl rfl
  have mo_22 : mOut s s_17 := mOut_fr mo_16 hf_19 rfl rfl rfl rfl rfl rfl
  have q_23 := (hf_19.2 81 20 rfl (fun h => absurd h (by decide))).1
  have q_24 := (hf_19.2 74 15 rfl (fun _ => rfl)).1
  exact k s_17 hs_18 hf_21 (by first | omega | assumption) (by first | omega | assumption) (MDi_0 (by assumption) (by omega)) mo_22
set_option maxRecDepth 100000 in
/-- GatheredPointsModel.depthOf -/
theorem vm_depthOf  {L d : Nat} {K : Option gV → gH → Prop} {s : gH} (N : Int) (p0 : Int) (p1 : BitVec 64) (hs : MI s) (h_p0 : 0 ≤ p0 ∧ p0 ≤ 84) (q0 : 0 ≤ N ∧ N ≤ 63) (q1 : ∀ w : Nat, p1.getLsbD w = true → gp_I s 80 (Int.toNat (64 * p0 + w)) < N) (k : ∀ (r : Int), (0 ≤ r ∧ r ≤ 63) → (r ≤ N) → (∀ w : Nat, p1.getLsbD w = true → gp_I s 80 (Int.toNat (64 * p0 + w)) < r) → K (some (gp_i r)) s) : gs_C L (d + 1) 3086 6 [gp_r (some 74), gp_i p0, gp_l p1] s K := by
  refine s_3086_e _ _ ?_
  have lp_1 : ∀ (n_1 : Nat) (v4_1 : Int) (v5_1 : Int), ((-1) ≤ v4_1 ∧ v4_1 ≤ 62) → (0 ≤ v5_1 ∧ v5_1 ≤ 64) → (v4_1 < N) → (∀ w : Nat, (w : Int) < v5_1 → p1.getLsbD w = true → gp_I s 80 (Int.toNat (64 * p0 + w)) ≤ v4_1) → (65 - v5_1).toNat < n_1 → gs_E L (d + 1) 3086 6 [gp_r (some 74), gp_i p0, gp_l p1, gp_n, gp_i v4_1, gp_i v5_1] [] s K := by
    intro n_1
    induction n_1 with
    | zero => intro v4_1 v5_1 hv4_1 hv5_1 iv0_1 iv1_1 hm_1; exact absurd hm_1 (Nat.not_lt_zero _)
    | succ n_1 ih_1 =>
      intro v4_1 v5_1 hv4_1 hv5_1 iv0_1 iv1_1 hm_1
      refine s_3086_6 _ _ _ _ ?_
      refine ⟨fun h_2 => ?_, fun h_2 => ?_⟩
      · refine vm_has _ _ (by omega) (fun x_3 p_4 p_5 => ⟨_, rfl, ?_⟩)
        refine ⟨fun h_6 => ?_, fun h_6 => ?_⟩
        · have hb_7 := hasF p_5 h_6
          refine s_3086_54 _ _ _ _ ?_
          refine s_3086_56 _ _ _ _ _ ?_
          try rw [show gp_wr (v5_1 + 1) = v5_1 + 1 from gp_wr_id (by omega) (by omega)]
          exact ih_1 _ _ (by omega) (by omega) (by first | omega | assumption) (by refine dp_step (by omega) iv1_1 (by omega) (fun hh => ?_); first | omega | exact absurd (Eq.trans (Eq.symm ‹p1.getLsbD _ = false›) hh) (by decide)) (by omega)
        · have hb_8 := hasT p_5 h_6
          try rw [show gp_wr (64 * p0) = 64 * p0 from gp_wr_id (by omega) (by omega)]
          try rw [show gp_wr ((64 * p0) + v5_1) = (64 * p0) + v5_1 from gp_wr_id (by omega) (by omega)]
          refine ⟨by omega, ?_⟩
          have f_9 := mr80 hs (Int.toNat ((64 * p0) + v5_1))
          refine ⟨fun h_10 => ?_, fun h_10 => ?_⟩
          · have hq0 := q1 (Int.toNat v5_1) (by assumption)
            rw [Int.toNat_of_nonneg (by omega)] at hq0
            try rw [show gp_wr (64 * p0) = 64 * p0 from gp_wr_id (by omega) (by omega)]
            try rw [show gp_wr ((64 * p0) + v5_1) = (64 * p0) + v5_1 from gp_wr_id (by omega) (by omega)]
            refine ⟨by omega, ?_⟩
            have f_11 := mr80 hs (Int.toNat ((64 * p0) + v5_1))
            refine s_3086_56 _ _ _ _ _ ?_
            try rw [show gp_wr (v5_1 + 1) = v5_1 + 1 from gp_wr_id (by omega) (by omega)]
            exact ih_1 _ _ (by omega) (by omega) (by first | omega | assumption) (by refine dp_step (by omega) iv1_1 (by omega) (fun hh => ?_); first | omega | exact absurd (Eq.trans (Eq.symm ‹p1.getLsbD _ = false›) hh) (by decide)) (by omega)
          · refine s_3086_54 _ _ _ _ ?_
            refine s_3086_56 _ _ _ _ _ ?_
            try rw [show gp_wr (v5_1 + 1) = v5_1 + 1 from gp_wr_id (by omega) (by omega)]
            exact ih_1 _ _ (by omega) (by omega) (by first | omega | assumption) (by refine dp_step (by omega) iv1_1 (by omega) (fun hh => ?_); first | omega | exact absurd (Eq.trans (Eq.symm ‹p1.getLsbD _ = false›) hh) (by decide)) (by omega)
      · try rw [show gp_wr (v4_1 + 1) = v4_1 + 1 from gp_wr_id (by omega) (by omega)]
        exact k _ (by omega) (by first | omega | assumption) (fun w hw => by have := iv1_1 w (by have := BitVec.lt_of_getLsbD hw; omega) hw; omega)
  exact lp_1 _ _ _ (by omega) (by omega) (by first | omega | assumption) (fun w hw => absurd hw (by omega)) (Nat.lt_succ_self _)
set_option maxRecDepth 100000 in
/-- GatheredPointsModel.lays -/
theorem vm_lays  {L d : Nat} {K : Option gV → gH → Prop} {s : gH}  (p0 : Int) (p1 : BitVec 64) (p2 : BitVec 64) (p3 : Int) (p4 : Int) (hs : MI s) (h_p0 : 0 ≤ p0 ∧ p0 ≤ 63) (q0 : bd p1 p0) (q1 : bd p2 p0) (k : ∀ (t : gH), MI t → gF [76, 77, 78, 79, 80] [] s t → (LayP s t p0.toNat p1 p2 p3 p4) → (mOut s t) → K none t) : gs_C L (d + 2) 3087 9 [gp_r (some 74), gp_i p0, gp_l p1, gp_l p2, gp_i p3, gp_i p4] s K := by
  refine s_3087_e _ _ _ _ _ ?_
  try rw [show gp_wr (1280 + p0) = 1280 + p0 from gp_wr_id (by omega) (by omega)]
  refine ⟨by omega, ?_⟩
  intro s_1 e_2
  have hs_3 : MI s_1 := by rw [e_2]; exact mw76 hs _ _ (by exact bd_le q0 (by omega))
  have hf_4 : gF [76, 77, 78, 79, 80] [] s s_1 := by rw [e_2]; exact gF.wL (gF.refl _ _ _) (Or.inl rfl)
  refine ⟨by omega, ?_⟩
  intro s_5 e_6
  have hs_7 : MI s_5 := by rw [e_6]; exact mw77 hs_3 _ _ (by exact bd_le q1 (by omega))
  have hf_8 : gF [76, 77, 78, 79, 80] [] s s_5 := by rw [e_6]; exact gF.wL hf_4 (Or.inl rfl)
  have jn42_11 : ∀ (j_10 : Int), ((p1 = 0#64 → j_10 = p3) ∧ (¬ p1 = 0#64 → j_10 = 0)) → gs_E L (d + 2) 3087 42 [gp_r (some 74), gp_i p0, gp_l p1, gp_n, gp_l p2, gp_n, gp_i p3, gp_i p4, gp_i (1280 + p0)] [gp_i j_10, gp_i (1280 + p0), gp_r (some 78)] s_5 K := by
    intro j_10 ij_11
    refine s_3087_42 _ _ _ _ _ _ _ _ ?_
    refine ⟨by omega, ?_⟩
    intro s_13 e_14
    have hs_15 : MI s_13 := by rw [e_14]; exact mw78 hs_7 _ _
    have hf_16 : gF [76, 77, 78, 79, 80] [] s s_13 := by rw [e_14]; exact gF.wI hf_8 (Or.inl rfl)
    have jn62_19 : ∀ (j_18 : Int), ((p2 = 0#64 → j_18 = p4) ∧ (¬ p2 = 0#64 → j_18 = 0)) → gs_E L (d + 2) 3087 62 [gp_r (some 74), gp_i p0, gp_l p1, gp_n, gp_l p2, gp_n, gp_i p3, gp_i p4, gp_i (1280 + p0)] [gp_i j_18, gp_i (1280 + p0), gp_r (some 79)] s_13 K := by
      intro j_18 ij_19
      refine s_3087_62 _ _ _ _ _ _ _ _ ?_
      refine ⟨by omega, ?_⟩
      intro s_21 e_22
      have hs_23 : MI s_21 := by rw [e_22]; exact mw79 hs_15 _ _
      have hf_24 : gF [76, 77, 78, 79, 80] [] s s_21 := by rw [e_22]; exact gF.wI hf_16 (Or.inl rfl)
      refine vm_depthOf p0 _ _ hs_23 (by omega) (by omega) (by intro w hw; have hw2 := bd_or q0 q1 w hw; have hw3 := mr80m hs_23 w (by omega); omega) (fun x_25 p_26 p_27 p_28 => ⟨_, rfl, ?_⟩)
      refine ⟨by omega, ?_⟩
      intro s_29 e_30
      have hs_31 : MI s_29 := by rw [e_30]; exact mw80 hs_23 _ _ (by omega)
      have hf_32 : gF [76, 77, 78, 79, 80] [] s s_29 := by rw [e_30]; exact gF.wI hf_24 (Or.inl rfl)
      exact k s_29 hs_31 hf_32 (by subst_vars; exact lay_fin (by omega) (by assumption) (by assumption) q0 q1 (by assumption)) (by subst_vars; exact mOut_5 (by omega))
    refine ⟨fun h_17 => ?_, fun h_17 => ?_⟩
    · have hz_33 : p2 = 0#64 := (gm_cmp0 _ _).mp h_17
      exact jn62_19 _ (by constructor <;> intro h0 <;> first | rfl | contradiction)
    · have hz_34 : ¬ p2 = 0#64 := fun q => h_17 ((gm_cmp0 _ _).mpr q)
      exact jn62_19 _ (by constructor <;> intro h0 <;> first | rfl | contradiction)
  refine ⟨fun h_9 => ?_, fun h_9 => ?_⟩
  · have hz_35 : p1 = 0#64 := (gm_cmp0 _ _).mp h_9
    exact jn42_11 _ (by constructor <;> intro h0 <;> first | rfl | contradiction)
  · have hz_36 : ¬ p1 = 0#64 := fun q => h_9 ((gm_cmp0 _ _).mpr q)
    exact jn42_11 _ (by constructor <;> intro h0 <;> first | rfl | contradiction)
set_option maxRecDepth 100000 in
/-- GatheredPointsModel.made -/
theorem vm_made  {L d : Nat} {K : Option gV → gH → Prop} {s : gH}  (p0 : BitVec 64) (p1 : BitVec 64) (p2 : Int) (p3 : Int) (hs : MI s)  (q0 : MDi s) (q1 : bd p0 (gp_I s 81 20)) (q2 : bd p1 (gp_I s 81 20)) (k : ∀ (r : Int), ∀ (t : gH), MI t → gF [76, 77, 78, 79, 80, 81] [15] s t → (0 ≤ r ∧ r ≤ 63) → (MDi t) → (r < gp_I t 81 20) → (gp_I s 81 20 ≤ gp_I t 81 20) → (gp_I t 81 20 ≤ gp_I s 81 20 + 1) → (mOut s t) → (gp_I s 81 20 < 60 → gp_I t 74 15 = gp_I s 74 15) → K (some (gp_i r)) t) : gs_C L (d + 3) 3088 9 [gp_r (some 74), gp_l p0, gp_l p1, gp_i p2, gp_i p3] s K := by
  have f_1 := mr81 hs 20
  have f_2 := mr74_15 hs
  refine s_3088_e _ _ _ _ ?_
  have lp_3 : ∀ (n_3 : Nat) (v7_3 : Int) (v8_3 : gV), (0 ≤ v7_3 ∧ v7_3 ≤ 60) → (∀ f : Int, 0 ≤ f → f < v7_3 → ¬ (gp_L s 76 (Int.toNat (1280 + f)) = p0 ∧ gp_L s 77 (Int.toNat (1280 + f)) = p1 ∧ (p0 = 0#64 → gp_I s 78 (Int.toNat (1280 + f)) = p2) ∧ (p1 = 0#64 → gp_I s 79 (Int.toNat (1280 + f)) = p3))) → (61 - v7_3).toNat < n_3 → gs_E L (d + 3) 3088 3 [gp_r (some 74), gp_l p0, gp_n, gp_l p1, gp_n, gp_i p2, gp_i p3, gp_i v7_3, v8_3] [] s K := by
    intro n_3
    induction n_3 with
    | zero => intro v7_3 v8_3 hv7_3 iv0_3 hm_3; exact absurd hm_3 (Nat.not_lt_zero _)
    | succ n_3 ih_3 =>
      intro v7_3 v8_3 hv7_3 iv0_3 hm_3
      refine s_3088_3 _ _ _ _ _ _ ?_
      have f_4 := mr81 hs 20
      have f_5 := mr81m hs
      refine ⟨fun h_6 => ?_, fun h_6 => ?_⟩
      · try rw [show gp_wr (1280 + v7_3) = 1280 + v7_3 from gp_wr_id (by omega) (by omega)]
        refine ⟨by omega, ?_⟩
        have b_7 := mr76m hs v7_3 (by omega)
        have w_8 := gz_cmp (gp_L s 76 (Int.toNat (1280 + v7_3))) p0
        refine ⟨fun h_9 => ?_, fun h_9 => ?_⟩
        · have hz_10 : gp_L s 76 (Int.toNat (1280 + v7_3)) = p0 := (gm_cmp0 _ _).mp h_9
          refine ⟨by omega, ?_⟩
          have b_11 := mr77m hs v7_3 (by omega)
          have w_12 := gz_cmp (gp_L s 77 (Int.toNat (1280 + v7_3))) p1
          refine ⟨fun h_13 => ?_, fun h_13 => ?_⟩
          · have hz_14 : gp_L s 77 (Int.toNat (1280 + v7_3)) = p1 := (gm_cmp0 _ _).mp h_13
            refine ⟨fun h_15 => ?_, fun h_15 => ?_⟩
            · have hz_16 : p0 = 0#64 := (gm_cmp0 _ _).mp h_15
              refine ⟨by omega, ?_⟩
              refine ⟨fun h_17 => ?_, fun h_17 => ?_⟩
              · refine s_3088_65 _ _ _ _ _ _ ?_
                refine ⟨fun h_18 => ?_, fun h_18 => ?_⟩
                · have hz_19 : p1 = 0#64 := (gm_cmp0 _ _).mp h_18
                  refine ⟨by omega, ?_⟩
                  refine ⟨fun h_20 => ?_, fun h_20 => ?_⟩
                  · refine s_3088_83 _ _ _ _ _ _ ?_
                    exact k _ s hs (gF.refl _ _ _) (by omega) (by assumption) (by first | omega | assumption) (by first | omega | assumption) (by first | omega | assumption) (mOut.refl _) (by first | omega | assumption)
                  · refine s_3088_86 _ _ _ _ _ _ ?_
                    try rw [show gp_wr (v7_3 + 1) = v7_3 + 1 from gp_wr_id (by omega) (by omega)]
                    exact ih_3 _ _ (by omega) (nf_step iv0_3 (fun q => by first | (refine absurd q.1 ?_; assumption) | (refine absurd q.2.1 ?_; assumption) | (refine absurd (q.2.2.1 ?_) ?_ <;> assumption) | (refine absurd (q.2.2.2 ?_) ?_ <;> assumption))) (by omega)
                · have hz_21 : ¬ p1 = 0#64 := fun q => h_18 ((gm_cmp0 _ _).mpr q)
                  refine s_3088_83 _ _ _ _ _ _ ?_
                  exact k _ s hs (gF.refl _ _ _) (by omega) (by assumption) (by first | omega | assumption) (by first | omega | assumption) (by first | omega | assumption) (mOut.refl _) (by first | omega | assumption)
              · refine s_3088_86 _ _ _ _ _ _ ?_
                try rw [show gp_wr (v7_3 + 1) = v7_3 + 1 from gp_wr_id (by omega) (by omega)]
                exact ih_3 _ _ (by omega) (nf_step iv0_3 (fun q => by first | (refine absurd q.1 ?_; assumption) | (refine absurd q.2.1 ?_; assumption) | (refine absurd (q.2.2.1 ?_) ?_ <;> assumption) | (refine absurd (q.2.2.2 ?_) ?_ <;> assumption))) (by omega)
            · have hz_22 : ¬ p0 = 0#64 := fun q => h_15 ((gm_cmp0 _ _).mpr q)
              refine s_3088_65 _ _ _ _ _ _ ?_
              refine ⟨fun h_23 => ?_, fun h_23 => ?_⟩
              · have hz_24 : p1 = 0#64 := (gm_cmp0 _ _).mp h_23
                refine ⟨by omega, ?_⟩
                refine ⟨fun h_25 => ?_, fun h_25 => ?_⟩
                · refine s_3088_83 _ _ _ _ _ _ ?_
                  exact k _ s hs (gF.refl _ _ _) (by omega) (by assumption) (by first | omega | assumption) (by first | omega | assumption) (by first | omega | assumption) (mOut.refl _) (by first | omega | assumption)
                · refine s_3088_86 _ _ _ _ _ _ ?_
                  try rw [show gp_wr (v7_3 + 1) = v7_3 + 1 from gp_wr_id (by omega) (by omega)]
                  exact ih_3 _ _ (by omega) (nf_step iv0_3 (fun q => by first | (refine absurd q.1 ?_; assumption) | (refine absurd q.2.1 ?_; assumption) | (refine absurd (q.2.2.1 ?_) ?_ <;> assumption) | (refine absurd (q.2.2.2 ?_) ?_ <;> assumption))) (by omega)
              · have hz_26 : ¬ p1 = 0#64 := fun q => h_23 ((gm_cmp0 _ _).mpr q)
                refine s_3088_83 _ _ _ _ _ _ ?_
                exact k _ s hs (gF.refl _ _ _) (by omega) (by assumption) (by first | omega | assumption) (by first | omega | assumption) (by first | omega | assumption) (mOut.refl _) (by first | omega | assumption)
          · have hz_27 : ¬ (gp_L s 77 (Int.toNat (1280 + v7_3))) = p1 := fun q => h_13 ((gm_cmp0 _ _).mpr q)
            refine s_3088_86 _ _ _ _ _ _ ?_
            try rw [show gp_wr (v7_3 + 1) = v7_3 + 1 from gp_wr_id (by omega) (by omega)]
            exact ih_3 _ _ (by omega) (nf_step iv0_3 (fun q => by first | (refine absurd q.1 ?_; assumption) | (refine absurd q.2.1 ?_; assumption) | (refine absurd (q.2.2.1 ?_) ?_ <;> assumption) | (refine absurd (q.2.2.2 ?_) ?_ <;> assumption))) (by omega)
        · have hz_28 : ¬ (gp_L s 76 (Int.toNat (1280 + v7_3))) = p0 := fun q => h_9 ((gm_cmp0 _ _).mpr q)
          refine s_3088_86 _ _ _ _ _ _ ?_
          try rw [show gp_wr (v7_3 + 1) = v7_3 + 1 from gp_wr_id (by omega) (by omega)]
          exact ih_3 _ _ (by omega) (nf_step iv0_3 (fun q => by first | (refine absurd q.1 ?_; assumption) | (refine absurd q.2.1 ?_; assumption) | (refine absurd (q.2.2.1 ?_) ?_ <;> assumption) | (refine absurd (q.2.2.2 ?_) ?_ <;> assumption))) (by omega)
      · have f_29 := mr81 hs 20
        have f_30 := mr81m hs
        refine ⟨fun h_31 => ?_, fun h_31 => ?_⟩
        · intro s_32 e_33
          have hs_34 : MI s_32 := by rw [e_33]; exact mw74_15 hs _ (by omega)
          have hf_35 : gF [76, 77, 78, 79, 80, 81] [15] s s_32 := by rw [e_33]; exact gF.wI (gF.refl _ _ _) (Or.inr ⟨rfl, rfl⟩)
          have q_36 : gp_I s_32 81 20 = gp_I s 81 20 := by rw [e_33] <;> rfl
          have q_37 : gp_I s_32 74 15 = 1 := by rw [e_33]; exact (gz_rw _ _ _ _ _).1 rfl
          exact k _ s_32 hs_34 hf_35 (by omega) (by subst_vars; exact q0) (by first | omega | assumption) (by first | omega | assumption) (by first | omega | assumption) (by subst_vars; exact mOut_wI (mOut.refl _) (by decide)) (by first | omega | assumption)
        · have f_38 := mr81 hs 20
          have f_39 := mr81m hs
          refine vm_lays _ _ _ _ _ hs (by omega) (by first | assumption | exact bd_le (by assumption) (by omega) | exact bd_0 _) (by first | assumption | exact bd_le (by assumption) (by omega) | exact bd_0 _) (fun s_40 hs_41 hf_42 p_43 p_44 => ⟨rfl, ?_⟩)
          have hf_45 : gF [76, 77, 78, 79, 80, 81] [15] s s_40 := gF.sub hf_42 rfl rfl
          have q_46 := (hf_42.2 81 20 rfl (fun h => absurd h (by decide))).1
          have q_47 := (hf_42.2 74 15 rfl (fun _ => rfl)).1
          have f_48 := mr81 hs_41 20
          have f_49 := mr81m hs_41
          try rw [show gp_wr ((gp_I s_40 81 20) + 1) = (gp_I s_40 81 20) + 1 from gp_wr_id (by omega) (by omega)]
          intro s_50 e_51
          have hs_52 : MI s_50 := by rw [e_51]; exact mw81 hs_41 _ _ (by omega)
          have hf_53 : gF [76, 77, 78, 79, 80, 81] [15] s s_50 := by rw [e_51]; exact gF.wI hf_45 (Or.inl rfl)
          have q_54 : gp_I s_50 81 20 = (gp_I s_40 81 20) + 1 := by rw [e_51]; exact (gz_rw _ _ _ _ _).1 rfl
          have q_55 : gp_I s_50 74 15 = gp_I s_40 74 15 := by rw [e_51] <;> rfl
          have f_56 := mr81 hs_52 20
          have f_57 := mr81m hs_52
          try rw [show gp_wr ((gp_I s_50 81 20) - 1) = (gp_I s_50 81 20) - 1 from gp_wr_id (by omega) (by omega)]
          exact k _ s_50 hs_52 hf_53 (by omega) (by subst_vars; exact MDi_new q0 hs (by omega) (by assumption) (by assumption) q1 q2 (fun f a b => iv0_3 f a (by omega)) (by omega)) (by first | omega | assumption) (by first | omega | assumption) (by first | omega | assumption) (by subst_vars; exact mOut_81 (by assumption)) (by first | omega | assumption)
  exact lp_3 _ _ _ (by omega) (fun f h0 h1 => absurd h1 (by omega)) (Nat.lt_succ_self _)
set_option maxRecDepth 100000 in
/-- GatheredPointsModel.placed -/
theorem vm_placed  {L d : Nat} {K : Option gV → gH → Prop} {s : gH} (N : Int) (p0 : BitVec 64) (hs : MI s)  (q0 : ∀ w : Nat, p0.getLsbD w = true → gp_I s 88 w < N) (k : ∀ (r : BitVec 64), (bd r N) → K (some (gp_l r)) s) : gs_C L (d + 1) 3094 6 [gp_r (some 74), gp_l p0] s K := by
  refine s_3094_e _ ?_
  have lp_1 : ∀ (n_1 : Nat) (v3_1 : BitVec 64) (v5_1 : Int), (0 ≤ v5_1 ∧ v5_1 ≤ 64) → (bd v3_1 N) → (65 - v5_1).toNat < n_1 → gs_E L (d + 1) 3094 5 [gp_r (some 74), gp_l p0, gp_n, gp_l v3_1, gp_n, gp_i v5_1] [] s K := by
    intro n_1
    induction n_1 with
    | zero => intro v3_1 v5_1 hv5_1 iv0_1 hm_1; exact absurd hm_1 (Nat.not_lt_zero _)
    | succ n_1 ih_1 =>
      intro v3_1 v5_1 hv5_1 iv0_1 hm_1
      refine s_3094_5 _ _ _ ?_
      refine ⟨fun h_2 => ?_, fun h_2 => ?_⟩
      · refine vm_has _ _ (by omega) (fun x_3 p_4 p_5 => ⟨_, rfl, ?_⟩)
        refine ⟨fun h_6 => ?_, fun h_6 => ?_⟩
        · have hb_7 := hasF p_5 h_6
          refine s_3094_35 _ _ _ _ _ ?_
          try rw [show gp_wr (v5_1 + 1) = v5_1 + 1 from gp_wr_id (by omega) (by omega)]
          exact ih_1 _ _ (by omega) (by first | (refine bd_or (by assumption) ?_; exact bd_0 _) | (refine bd_or (by assumption) (bd_sh ?_ ?_ ?_) <;> omega)) (by omega)
        · have hb_8 := hasT p_5 h_6
          refine ⟨by omega, ?_⟩
          have f_9 := mr88 hs (Int.toNat v5_1)
          have hq0 := q0 (Int.toNat v5_1) (by assumption)
          refine s_3094_35 _ _ _ _ _ ?_
          try rw [show gp_wr (v5_1 + 1) = v5_1 + 1 from gp_wr_id (by omega) (by omega)]
          exact ih_1 _ _ (by omega) (by first | (refine bd_or (by assumption) ?_; exact bd_0 _) | (refine bd_or (by assumption) (bd_sh ?_ ?_ ?_) <;> omega)) (by omega)
      · exact k _ (by first | assumption | exact bd_le (by assumption) (by omega) | exact bd_0 _)
  exact lp_1 _ _ _ (by omega) (bd_0 _) (Nat.lt_succ_self _)
set_option maxRecDepth 100000 in
/-- GatheredPointsModel.ends -/
theorem vm_ends  {L d : Nat} {K : Option gV → gH → Prop} {s : gH}  (p0 : Int) (hs : MI s) (h_p0 : 0 ≤ p0 ∧ p0 ≤ 63) (q0 : MDi s) (q1 : p0 < gp_I s 81 20) (k : ∀ (t : gH), MI t → gF [76, 77, 78, 79, 80, 81, 86, 87, 88] [] s t → (1 ≤ gp_I t 81 19 ∧ gp_I t 81 19 ≤ 60) → K none t) : gs_C L (d + 184) 3093 9 [gp_r (some 74), gp_i p0, gp_i 19] s K := by
  have f_1 := mr81 hs 20
  have f_2 := mr81 hs 19
  refine s_3093_e _ _ ?_
  obtain ⟨o, hms, hmc⟩ := q0
  have h60 := mr81m hs
  obtain ⟨N, hN⟩ : ∃ N : Nat, gp_I s 81 20 = N := ⟨_, (Int.toNat_of_nonneg (by omega)).symm⟩
  rw [hN] at hms hmc
  rw [Int.toNat_natCast] at hms hmc
  refine vm_forgets hs (fun s_3 hs_4 hf_5 p_6 => ⟨rfl, ?_⟩)
  have hf_7 : gF [76, 77, 78, 79, 80, 81, 86, 87, 88] [] s s_3 := gF.sub hf_5 rfl rfl
  have q_8 := (hf_5.2 81 20 rfl (fun h => absurd h (by decide))).1
  have q_9 := (hf_5.2 81 19 rfl (fun h => absurd h (by decide))).1
  have hms1 := MS_fr hms hf_5 rfl rfl rfl rfl rfl
  have hmc1 : MC s_3 N o := MC_z (by assumption)
  have lp_10 : ∀ (n_10 : Nat) (v3_10 : BitVec 64) (v5_10 : Int) (v6_10 : gV) (v7_10 : gV) (v8_10 : gV), ((-1) ≤ v5_10 ∧ v5_10 ≤ 63) → (bd v3_10 (p0 + 1)) → ((v3_10).getLsbD p0.toNat = true) → (∀ i j : Nat, v5_10 < i → (v3_10).getLsbD i = true → ((mL s_3 i).getLsbD j = true ∨ (mR s_3 i).getLsbD j = true) → (v3_10).getLsbD j = true) → (v5_10 ≤ p0) → (v5_10 + 2).toNat < n_10 → gs_E L (d + 184) 3093 11 [gp_r (some 74), gp_i p0, gp_i 19, gp_l v3_10, gp_n, gp_i v5_10, v6_10, v7_10, v8_10] [] s_3 K := by
    intro n_10
    induction n_10 with
    | zero => intro v3_10 v5_10 v6_10 v7_10 v8_10 hv5_10 iv0_10 iv1_10 iv2_10 iv3_10 hm_10; exact absurd hm_10 (Nat.not_lt_zero _)
    | succ n_10 ih_10 =>
      intro v3_10 v5_10 v6_10 v7_10 v8_10 hv5_10 iv0_10 iv1_10 iv2_10 iv3_10 hm_10
      refine s_3093_11 _ _ _ _ _ _ _ ?_
      refine ⟨fun h_11 => ?_, fun h_11 => ?_⟩
      · have hcl : ClP s_3 v3_10 := fun i j => iv2_10 i j (by omega)
        have hc1 := cnt_pos iv1_10
        have hc2 := cnt_bd iv0_10 (by omega)
        have hSN : bd v3_10 N := bd_le iv0_10 (by omega)
        refine vm_size _ (fun x_12 p_13 p_14 => ⟨_, rfl, ?_⟩)
        have lp_15 : ∀ (n_15 : Nat) (v6_15 : Int) (v7_15 : gV) (v8_15 : gV) (s_15 : gH), (MI s_15) → (gF [76, 77, 78, 79, 80, 81, 86, 87, 88] [] s s_15) → (0 ≤ v6_15 ∧ v6_15 ≤ 64) → (gp_I s_15 81 20 = gp_I s_3 81 20) → (gp_I s_15 81 19 = gp_I s_3 81 19) → (MS s_15 N o) → (MC s_15 N o) → (RowP s_15 o v3_10 v6_15) → (ClP s_15 v3_10) → (v6_15 ≤ x_12) → (65 - v6_15).toNat < n_15 → gs_E L (d + 184) 3093 70 [gp_r (some 74), gp_i p0, gp_i 19, gp_l v3_10, gp_n, gp_i x_12, gp_i v6_15, v7_15, v8_15] [] s_15 K := by
          intro n_15
          induction n_15 with
          | zero => intro v6_15 v7_15 v8_15 s_15 hs_s_15 hf_s_15 hv6_15 tk0_15 tk1_15 iv0_15 iv1_15 iv2_15 iv3_15 iv4_15 hm_15; exact absurd hm_15 (Nat.not_lt_zero _)
          | succ n_15 ih_15 =>
            intro v6_15 v7_15 v8_15 s_15 hs_s_15 hf_s_15 hv6_15 tk0_15 tk1_15 iv0_15 iv1_15 iv2_15 iv3_15 iv4_15 hm_15
            refine s_3093_70 _ _ _ _ _ _ _ ?_
            refine ⟨fun h_16 => ?_, fun h_16 => ?_⟩
            · refine vm_option20 N o _ _ hs_s_15 (by omega) (by assumption) (by assumption) (by first | omega | assumption) (by first | assumption | exact bd_le (by assumption) (by omega) | exact bd_0 _) (by first | omega | assumption) (fun x_17 s_18 hs_19 hf_20 p_21 p_22 p_23 p_24 => ⟨_, rfl, ?_⟩)
              have hf_25 : gF [76, 77, 78, 79, 80, 81, 86, 87, 88] [] s s_18 := gF.trans hf_s_15 hf_20 rfl rfl
              have q_26 := (hf_20.2 81 20 rfl (fun h => absurd h (by decide))).1
              have q_27 := (hf_20.2 81 19 rfl (fun h => absurd h (by decide))).1
              have hrow := RowP_fr iv2_15 hf_20 rfl rfl
              have hcl7 := ClP_fr iv3_15 hf_20 rfl rfl
              refine ⟨by omega, ?_⟩
              intro s_28 e_29
              have hs_30 : MI s_28 := by rw [e_29]; exact mw87 hs_19 _ _ (by omega)
              have hf_31 : gF [76, 77, 78, 79, 80, 81, 86, 87, 88] [] s s_28 := by rw [e_29]; exact gF.wI hf_25 (Or.inl rfl)
              have q_32 : gp_I s_28 81 20 = gp_I s_18 81 20 := by rw [e_29] <;> rfl
              have q_33 : gp_I s_28 81 19 = gp_I s_18 81 19 := by rw [e_29] <;> rfl
              refine ⟨by omega, ?_⟩
              have f_34 := mr87 hs_30 (Int.toNat v6_15)
              refine ⟨by omega, ?_⟩
              intro s_35 e_36
              have hs_37 : MI s_35 := by rw [e_36]; exact mw88 hs_30 _ _ (by omega)
              have hf_38 : gF [76, 77, 78, 79, 80, 81, 86, 87, 88] [] s s_35 := by rw [e_36]; exact gF.wI hf_31 (Or.inl rfl)
              have q_39 : gp_I s_35 81 20 = gp_I s_28 81 20 := by rw [e_36] <;> rfl
              have q_40 : gp_I s_35 81 19 = gp_I s_28 81 19 := by rw [e_36] <;> rfl
              try rw [show gp_wr (v6_15 + 1) = v6_15 + 1 from gp_wr_id (by omega) (by omega)]
              exact ih_15 _ _ _ _ hs_37 hf_38 (by omega) (by first | rfl | omega) (by first | rfl | omega) (by subst_vars; assumption) (by subst_vars; assumption) (by subst_vars; exact RowP_s hrow (by omega) (by assumption) ((gz_rw _ _ _ _ _).1 rfl)) (by subst_vars; exact hcl7) (by first | omega | assumption) (by omega)
            · refine ⟨by omega, ?_⟩
              intro s_41 e_42
              have hs_43 : MI s_41 := by rw [e_42]; exact mw81 hs_s_15 _ _ (by omega)
              have hf_44 : gF [76, 77, 78, 79, 80, 81, 86, 87, 88] [] s s_41 := by rw [e_42]; exact gF.wI hf_s_15 (Or.inl rfl)
              have q_45 := gz_rw s_15 81 (Int.toNat 19) 20 x_12; rw [← e_42] at q_45
              have q_46 := gz_rw s_15 81 (Int.toNat 19) 19 x_12; rw [← e_42] at q_46
              have lp_47 : ∀ (n_47 : Nat) (v6_47 : Int) (v7_47 : gV) (v8_47 : gV) (s_47 : gH), (MI s_47) → (gF [76, 77, 78, 79, 80, 81, 86, 87, 88] [] s s_47) → (0 ≤ v6_47 ∧ v6_47 ≤ 64) → (gp_I s_47 81 20 = gp_I s_41 81 20) → (gp_I s_47 81 19 = gp_I s_41 81 19) → (MS s_47 N o) → (RowP s_47 o v3_10 x_12) → (ClP s_47 v3_10) → (65 - v6_47).toNat < n_47 → gs_E L (d + 184) 3093 124 [gp_r (some 74), gp_i p0, gp_i 19, gp_l v3_10, gp_n, gp_i x_12, gp_i v6_47, v7_47, v8_47] [] s_47 K := by
                intro n_47
                induction n_47 with
                | zero => intro v6_47 v7_47 v8_47 s_47 hs_s_47 hf_s_47 hv6_47 tk0_47 tk1_47 iv0_47 iv1_47 iv2_47 hm_47; exact absurd hm_47 (Nat.not_lt_zero _)
                | succ n_47 ih_47 =>
                  intro v6_47 v7_47 v8_47 s_47 hs_s_47 hf_s_47 hv6_47 tk0_47 tk1_47 iv0_47 iv1_47 iv2_47 hm_47
                  refine s_3093_124 _ _ _ _ _ _ _ ?_
                  refine ⟨fun h_48 => ?_, fun h_48 => ?_⟩
                  · refine ⟨by omega, ?_⟩
                    have f_49 := mr87 hs_s_47 (Int.toNat v6_47)
                    try rw [show gp_wr (1280 + (gp_I s_47 87 (Int.toNat v6_47))) = 1280 + (gp_I s_47 87 (Int.toNat v6_47)) from gp_wr_id (by omega) (by omega)]
                    try rw [show gp_wr (64 * 19) = 64 * 19 from gp_wr_id (by omega) (by omega)]
                    try rw [show gp_wr ((64 * 19) + v6_47) = (64 * 19) + v6_47 from gp_wr_id (by omega) (by omega)]
                    refine ⟨by omega, ?_⟩
                    have b_50 := mr76m hs_s_47 (gp_I s_47 87 (Int.toNat v6_47)) (by omega)
                    refine vm_placed v6_47 _ hs_s_47 (by intro w hw; rw [ix20m (by omega)] at hw; exact place_lt iv0_47 hSN (by first | rfl | assumption) iv1_47 (by omega) iv2_47 (Or.inl hw)) (fun m_51 p_52 => ⟨_, rfl, ?_⟩)
                    refine ⟨by omega, ?_⟩
                    intro s_53 e_54
                    have hs_55 : MI s_53 := by rw [e_54]; exact mw76 hs_s_47 _ _ (by exact bd_le (by assumption) (by omega))
                    have hf_56 : gF [76, 77, 78, 79, 80, 81, 86, 87, 88] [] s s_53 := by rw [e_54]; exact gF.wL hf_s_47 (Or.inl rfl)
                    have q_57 : gp_I s_53 81 20 = gp_I s_47 81 20 := by rw [e_54] <;> rfl
                    have q_58 : gp_I s_53 81 19 = gp_I s_47 81 19 := by rw [e_54] <;> rfl
                    refine ⟨by omega, ?_⟩
                    have b_59 := mr77m hs_55 (gp_I s_47 87 (Int.toNat v6_47)) (by omega)
                    refine vm_placed v6_47 _ hs_55 (by subst_vars; intro w hw; rw [ix20m (by omega)] at hw; exact place_lt iv0_47 hSN (by first | rfl | assumption) iv1_47 (by omega) iv2_47 (Or.inr hw)) (fun m_60 p_61 => ⟨_, rfl, ?_⟩)
                    refine ⟨by omega, ?_⟩
                    intro s_62 e_63
                    have hs_64 : MI s_62 := by rw [e_63]; exact mw77 hs_55 _ _ (by exact bd_le (by assumption) (by omega))
                    have hf_65 : gF [76, 77, 78, 79, 80, 81, 86, 87, 88] [] s s_62 := by rw [e_63]; exact gF.wL hf_56 (Or.inl rfl)
                    have q_66 : gp_I s_62 81 20 = gp_I s_53 81 20 := by rw [e_63] <;> rfl
                    have q_67 : gp_I s_62 81 19 = gp_I s_53 81 19 := by rw [e_63] <;> rfl
                    refine ⟨by omega, ?_⟩
                    refine ⟨by omega, ?_⟩
                    intro s_68 e_69
                    have hs_70 : MI s_68 := by rw [e_69]; exact mw78 hs_64 _ _
                    have hf_71 : gF [76, 77, 78, 79, 80, 81, 86, 87, 88] [] s s_68 := by rw [e_69]; exact gF.wI hf_65 (Or.inl rfl)
                    have q_72 : gp_I s_68 81 20 = gp_I s_62 81 20 := by rw [e_69] <;> rfl
                    have q_73 : gp_I s_68 81 19 = gp_I s_62 81 19 := by rw [e_69] <;> rfl
                    refine ⟨by omega, ?_⟩
                    refine ⟨by omega, ?_⟩
                    intro s_74 e_75
                    have hs_76 : MI s_74 := by rw [e_75]; exact mw79 hs_70 _ _
                    have hf_77 : gF [76, 77, 78, 79, 80, 81, 86, 87, 88] [] s s_74 := by rw [e_75]; exact gF.wI hf_71 (Or.inl rfl)
                    have q_78 : gp_I s_74 81 20 = gp_I s_68 81 20 := by rw [e_75] <;> rfl
                    have q_79 : gp_I s_74 81 19 = gp_I s_68 81 19 := by rw [e_75] <;> rfl
                    refine ⟨by omega, ?_⟩
                    have f_80 := mr80 hs_76 (Int.toNat (1280 + (gp_I s_47 87 (Int.toNat v6_47))))
                    refine ⟨by omega, ?_⟩
                    intro s_81 e_82
                    have hs_83 : MI s_81 := by rw [e_82]; exact mw80 hs_76 _ _ (by omega)
                    have hf_84 : gF [76, 77, 78, 79, 80, 81, 86, 87, 88] [] s s_81 := by rw [e_82]; exact gF.wI hf_77 (Or.inl rfl)
                    have q_85 : gp_I s_81 81 20 = gp_I s_74 81 20 := by rw [e_82] <;> rfl
                    have q_86 : gp_I s_81 81 19 = gp_I s_74 81 19 := by rw [e_82] <;> rfl
                    try rw [show gp_wr (v6_47 + 1) = v6_47 + 1 from gp_wr_id (by omega) (by omega)]
                    exact ih_47 _ _ _ _ hs_83 hf_84 (by omega) (by first | rfl | omega) (by first | rfl | omega) (by subst_vars; exact MS_5 iv0_47 (by omega)) (by subst_vars; exact iv1_47) (by subst_vars; exact ClP_5 iv2_47 (by omega)) (by omega)
                  · exact k s_47 hs_s_47 hf_s_47 (by first | omega | assumption)
              exact lp_47 _ _ _ _ _ hs_43 hf_44 (by omega) (by first | rfl | omega) (by first | rfl | omega) (by subst_vars; exact iv0_15) (by subst_vars; exact fun j hj => iv2_15 j (by omega)) (by subst_vars; exact iv3_15) (Nat.lt_succ_self _)
        exact lp_15 _ _ _ _ _ hs_4 hf_7 (by omega) (by first | rfl | omega) (by first | rfl | omega) (by subst_vars; assumption) (by subst_vars; assumption) (fun j hj => absurd hj (by omega)) (hcl) (by first | omega | assumption) (Nat.lt_succ_self _)
      · refine vm_has _ _ (by omega) (fun x_87 p_88 p_89 => ⟨_, rfl, ?_⟩)
        refine ⟨fun h_90 => ?_, fun h_90 => ?_⟩
        · have hb_91 := hasF p_89 h_90
          refine s_3093_53 _ _ _ _ _ _ _ _ _ ?_
          try rw [show gp_wr (v5_10 + (-1)) = v5_10 + (-1) from gp_wr_id (by omega) (by omega)]
          exact ih_10 _ _ _ _ _ (by omega) (by first | (refine bd_or iv0_10 ?_; exact bd_0 _) | (refine bd_or iv0_10 (bd_or (bd_le (by assumption) ?_) (bd_le (by assumption) ?_)) <;> omega)) (or_bit iv1_10) (by first | (refine cl_3 ?_ ?_ iv2_10 <;> first | omega | assumption) | (refine cl_2 ?_ ?_ ?_ ?_ iv2_10 <;> first | omega | assumption)) (by first | omega | assumption) (by omega)
        · have hb_92 := hasT p_89 h_90
          try rw [show gp_wr (1280 + v5_10) = 1280 + v5_10 from gp_wr_id (by omega) (by omega)]
          refine ⟨by omega, ?_⟩
          have b_93 := mr76m hs_4 v5_10 (by omega)
          try rw [show gp_wr (1280 + v5_10) = 1280 + v5_10 from gp_wr_id (by omega) (by omega)]
          refine ⟨by omega, ?_⟩
          have b_94 := mr77m hs_4 v5_10 (by omega)
          refine s_3093_53 _ _ _ _ _ _ _ _ _ ?_
          try rw [show gp_wr (v5_10 + (-1)) = v5_10 + (-1) from gp_wr_id (by omega) (by omega)]
          exact ih_10 _ _ _ _ _ (by omega) (by first | (refine bd_or iv0_10 ?_; exact bd_0 _) | (refine bd_or iv0_10 (bd_or (bd_le (by assumption) ?_) (bd_le (by assumption) ?_)) <;> omega)) (or_bit iv1_10) (by first | (refine cl_3 ?_ ?_ iv2_10 <;> first | omega | assumption) | (refine cl_2 ?_ ?_ ?_ ?_ iv2_10 <;> first | omega | assumption)) (by first | omega | assumption) (by omega)
  exact lp_10 _ _ _ _ _ _ (by omega) (bd_sh (by omega) (by omega) (by omega)) (one_self (by omega) (by omega)) (fun i j h0 h1 => absurd (bd_sh (n := p0 + 1) (by omega) (by omega) (by omega) i h1) (by omega)) (by first | omega | assumption) (Nat.lt_succ_self _)
