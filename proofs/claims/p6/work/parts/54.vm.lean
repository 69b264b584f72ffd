set_option maxRecDepth 100000 in
/-- GatheredPointsModel.begins -/
theorem vm_begins2  {L d : Nat} {K : Option gV → gH → Prop} {s : gH}   (hs : MI s)   (k : ∀ (t : gH), MI t → gF [81, 86] [15] s t → (gp_I t 81 20 = 0) → (gp_I t 74 15 = 0) → (MDi t) → (mOut s t) → K none t) : gs_C L (d + 1) 3085 1 [gp_r (some 74)] s K := by
  have f_1 := mr81 hs 20
  have f_2 := mr74_15 hs
  refine s_3085_e ?_
  intro s_3 e_4
  have hs_5 : MI s_3 := by rw [e_4]; exact mw81 hs _ _ (by omega)
  have hf_6 : gF [81, 86] [15] s s_3 := by rw [e_4]; exact gF.wI (gF.refl _ _ _) (Or.inl rfl)
  have q_7 : gp_I s_3 81 20 = 0 := by rw [e_4]; exact (gz_rw _ _ _ _ _).1 rfl
  have q_8 : gp_I s_3 74 15 = gp_I s 74 15 := by rw [e_4] <;> rfl
  have mo_9 : mOut s s_3 := by rw [e_4]; exact mOut_81 (mOut.refl _)
  intro s_10 e_11
  have hs_12 : MI s_10 := by rw [e_11]; exact mw74_15 hs_5 _ (by omega)
  have hf_13 : gF [81, 86] [15] s s_10 := by rw [e_11]; exact gF.wI hf_6 (Or.inr ⟨rfl, rfl⟩)
  have q_14 : gp_I s_10 81 20 = gp_I s_3 81 20 := by rw [e_11] <;> rfl
  have q_15 : gp_I s_10 74 15 = 0 := by rw [e_11]; exact (gz_rw _ _ _ _ _).1 rfl
  have mo_16 : mOut s s_10 := by rw [e_11]; exact mOut_wI mo_9 (by decide)
  refine vm_forgets hs_12 (fun s_17 hs_18 hf_19 p_20 => ⟨rfl, ?_⟩)
  have hf_21 : gF [81, 86] [15] s s_17 := gF.trans hf_13 hf_19 rfl rfl
  have mo_22 : mOut s s_17 := mOut_fr mo_16 hf_19 rfl rfl rfl rfl rfl rfl
  have q_23 := (hf_19.2 81 20 rfl (fun h => absurd h (by decide))).1
  have q_24 := (hf_19.2 74 15 rfl (fun _ => rfl)).1
  exact k s_17 hs_18 hf_21 (by first | omega | assumption) (by first | omega | assumption) (MDi_0 (by assumption) (by omega)) mo_22
set_option maxRecDepth 100000 in
/-- GatheredPointsModel.depthOf -/
theorem vm_depthOf  {L d : Nat} {K : Option gV → gH → Prop} {s : gH} (N : Int) (p0 : Int) (p1 : BitVec 64) (hs : MI s) (h_p0 : 0 ≤ p0 ∧ p0 ≤ 84) (q0 : 0 ≤ N ∧ N ≤ 63) (q1 : ∀ w : Nat, p1.getLsbD w = true → gp_I s 80 (Int.toNat (64 * p0 + w)) < N) (k : ∀ (r : Int), (0 ≤ r ∧ r ≤ 63) → (r ≤ N) → (∀ w : Nat, p1.getLsbD w = true → gp_I s 80 (Int.toNat (64 * p0 + w)) < r) → K (some (gp_i r)) s) : gs_C L (d + 1) 3086 6 [gp_r (some 74), gp_i p0, gp_l p1] s K := by
  refine s_3086_e _ _ ?_
  have lp_1 : ∀ (n_1 : Nat) (v4_1 : Int) (v5_1 : Int), ((-1) ≤ v4_1 ∧ v4_1 ≤ 62) → (0 ≤ v5_1 ∧ v5_1 ≤ 64) → (v4_1 < N) → (∀ w : Nat, (w : Int) < v5_1 → p1.getLsbD w = true → gp_I s 80 (Int.toNat (64 * p0 + w)) ≤ v4_1) → (65 - v5_1).toNat < n_1 → gs_E L (d + 1) 3086 6 [gp_r (some 74), gp_i p0, gp_l p1, gp_n, gp_i v4_1, gp_i v5_1] [] s K := by
    intro n_1
    induction n_1 with
    | zero => intro v4_1 v5_1 hv4_1 hv5_1 iv0_1 iv1_1 hm_1; exact absurd hm_1 (Nat.not_lt_zero _)
    | succ n_1 ih_1 =>
      intro v4_1 v5_1 hv4_1 hv5_1 iv0_1 iv1_1 hm_1
      refine s_3086_6 _ _ _ _ ?_
      refine ⟨fun h_2 => ?_, fun h_2 => ?_⟩
      · refine vm_has _ _ (by omega) (fun x_3 p_4 p_5 => ⟨_, rfl, ?_⟩)
        refine ⟨fun h_6 => ?_, fun h_6 => ?_⟩
        · have hb_7 := hasF p_5 h_6
          refine s_3086_54 _ _ _ _ ?_
          refine s_3086_56 _ _ _ _ _ ?_
          try rw [show gp_wr (v5_1 + 1) = v5_1 + 1 from gp_wr_id (by omega) (by omega)]
          exact ih_1 _ _ (by omega) (by omega) (by first | omega | assumption) (by refine dp_step (by omega) iv1_1 (by omega) (fun hh => ?_); first | omega | exact absurd (Eq.trans (Eq.symm ‹p1.getLsbD _ = false›) hh) (by decide)) (by omega)
        · have hb_8 := hasT p_5 h_6
          try rw [show gp_wr (64 * p0) = 64 * p0 from gp_wr_id (by omega) (by omega)]
          try rw [show gp_wr ((64 * p0) + v5_1) = (64 * p0) + v5_1 from gp_wr_id (by omega) (by omega)]
          refine ⟨by omega, ?_⟩
          have f_9 := mr80 hs (Int.toNat ((64 * p0) + v5_1))
          refine ⟨fun h_10 => ?_, fun h_10 => ?_⟩
          · have hq0 := q1 (Int.toNat v5_1) (by assumption)
            rw [Int.toNat_of_nonneg (by omega)] at hq0
            try rw [show gp_wr (64 * p0) = 64 * p0 from gp_wr_id (by omega) (by omega)]
            try rw [show gp_wr ((64 * p0) + v5_1) = (64 * p0) + v5_1 from gp_wr_id (by omega) (by omega)]
            refine ⟨by omega, ?_⟩
            have f_11 := mr80 hs (Int.toNat ((64 * p0) + v5_1))
            refine s_3086_56 _ _ _ _ _ ?_
            try rw [show gp_wr (v5_1 + 1) = v5_1 + 1 from gp_wr_id (by omega) (by omega)]
            exact ih_1 _ _ (by omega) (by omega) (by first | omega | assumption) (by refine dp_step (by omega) iv1_1 (by omega) (fun hh => ?_); first | omega | exact absurd (Eq.trans (Eq.symm ‹p1.getLsbD _ = false›) hh) (by decide)) (by omega)
          · refine s_3086_54 _ _ _ _ ?_
            refine s_3086_56 _ _ _ _ _ ?_
            try rw [show gp_wr (v5_1 + 1) = v5_1 + 1 from gp_wr_id (by omega) (by omega)]
            exact ih_1 _ _ (by omega) (by omega) (by first | omega | assumption) (by refine dp_step (by omega) iv1_1 (by omega) (fun hh => ?_); first | omega | exact absurd (Eq.trans (Eq.symm ‹p1.getLsbD _ = false›) hh) (by decide)) (by omega)
      · try rw [show gp_wr (v4_1 + 1) = v4_1 + 1 from gp_wr_id (by omega) (by omega)]
        exact k _ (by omega) (by first | omega | assumption) (fun w hw => by have := iv1_1 w (by have := BitVec.lt_of_getLsbD hw; omega) hw; omega)
  exact lp_1 _ _ _ (by omega) (by omega) (by first | omega | assumption) (fun w hw => absurd hw (by omega)) (Nat.lt_succ_self _)
set_option maxRecDepth 100000 in
/-- GatheredPointsModel.lays -/
theorem vm_lays  {L d : Nat} {K : Option gV → gH → Prop} {s : gH}  (p0 : Int) (p1 : BitVec 64) (p2 : BitVec 64) (p3 : Int) (p4 : Int) (hs : MI s) (h_p0 : 0 ≤ p0 ∧ p0 ≤ 63) (q0 : bd p1 p0) (q1 : bd p2 p0) (k : ∀ (t : gH), MI t → gF [76, 77, 78, 79, 80] [] s t → (LayP s t p0.toNat p1 p2 p3 p4) → (mOut s t) → K none t) : gs_C L (d + 2) 3087 9 [gp_r (some 74), gp_i p0, gp_l p1, gp_l p2, gp_i p3, gp_i p4] s K := by
  refine s_3087_e _ _ _ _ _ ?_
  try rw [show gp_wr (1280 + p0) = 1280 + p0 from gp_wr_id (by omega) (by omega)]
  refine ⟨by omega, ?_⟩
  intro s_1 e_2
  have hs_3 : MI s_1 := by rw [e_2]; exact mw76 hs _ _ (by exact bd_le q0 (by omega))
  have hf_4 : gF [76, 77, 78, 79, 80] [] s s_1 := by rw [e_2]; exact gF.wL (gF.refl _ _ _) (Or.inl rfl)
  refine ⟨by omega, ?_⟩
  intro s_5 e_6
  have hs_7 : MI s_5 := by rw [e_6]; exact mw77 hs_3 _ _ (by exact bd_le q1 (by omega))
  have hf_8 : gF [76, 77, 78, 79, 80] [] s s_5 := by rw [e_6]; exact gF.wL hf_4 (Or.inl rfl)
  have jn42_11 : ∀ (j_10 : Int), ((p1 = 0#64 → j_10 = p3) ∧ (¬ p1 = 0#64 → j_10 = 0)) → gs_E L (d + 2) 3087 42 [gp_r (some 74), gp_i p0, gp_l p1, gp_n, gp_l p2, gp_n, gp_i p3, gp_i p4, gp_i (1280 + p0)] [gp_i j_10, gp_i (1280 + p0), gp_r (some 78)] s_5 K := by
    intro j_10 ij_11
    refine s_3087_42 _ _ _ _ _ _ _ _ ?_
    refine ⟨by omega, ?_⟩
    intro s_13 e_14
    have hs_15 : MI s_13 := by rw [e_14]; exact mw78 hs_7 _ _
    have hf_16 : gF [76, 77, 78, 79, 80] [] s s_13 := by rw [e_14]; exact gF.wI hf_8 (Or.inl rfl)
    have jn62_19 : ∀ (j_18 : Int), ((p2 = 0#64 → j_18 = p4) ∧ (¬ p2 = 0#64 → j_18 = 0)) → gs_E L (d + 2) 3087 62 [gp_r (some 74), gp_i p0, gp_l p1, gp_n, gp_l p2, gp_n, gp_i p3, gp_i p4, gp_i (1280 + p0)] [gp_i j_18, gp_i (1280 + p0), gp_r (some 79)] s_13 K := by
      intro j_18 ij_19
      refine s_3087_62 _ _ _ _ _ _ _ _ ?_
      refine ⟨by omega, ?_⟩
      intro s_21 e_22
      have hs_23 : MI s_21 := by rw [e_22]; exact mw79 hs_15 _ _
      have hf_24 : gF [76, 77, 78, 79, 80] [] s s_21 := by rw [e_22]; exact gF.wI hf_16 (Or.inl rfl)
      refine vm_depthOf p0 _ _ hs_23 (by omega) (by omega) (by intro w hw; have hw2 := bd_or q0 q1 w hw; have hw3 := mr80m hs_23 w (by omega); omega) (fun x_25 p_26 p_27 p_28 => ⟨_, rfl, ?_⟩)
      refine ⟨by omega, ?_⟩
      intro s_29 e_30
      have hs_31 : MI s_29 := by rw [e_30]; exact mw80 hs_23 _ _ (by omega)
      have hf_32 : gF [76, 77, 78, 79, 80] [] s s_29 := by rw [e_30]; exact gF.wI hf_24 (Or.inl rfl)
      exact k s_29 hs_31 hf_32 (by subst_vars; exact lay_fin (by omega) (by assumption) (by assumption) q0 q1 (by assumption)) (by subst_vars; exact mOut_5 (by omega))
    refine ⟨fun h_17 => ?_, fun h_17 => ?_⟩
    · have hz_33 : p2 = 0#64 := (gm_cmp0 _ _).mp h_17
      exact jn62_19 _ (by constructor <;> intro h0 <;> first | rfl | contradiction)
    · have hz_34 : ¬ p2 = 0#64 := fun q => h_17 ((gm_cmp0 _ _).mpr q)
      exact jn62_19 _ (by constructor <;> intro h0 <;> first | rfl | contradiction)
  refine ⟨fun h_9 => ?_, fun h_9 => ?_⟩
  · have hz_35 : p1 = 0#64 := (gm_cmp0 _ _).mp h_9
    exact jn42_11 _ (by constructor <;> intro h0 <;> first | rfl | contradiction)
  · have hz_36 : ¬ p1 = 0#64 := fun q => h_9 ((gm_cmp0 _ _).mpr q)
    exact jn42_11 _ (by constructor <;> intro h0 <;> first | rfl | contradiction)
set_option maxRecDepth 100000 in
/-- GatheredPointsModel.made -/
theorem vm_made  {L d : Nat} {K : Option gV → gH → Prop} {s : gH}  (p0 : BitVec 64) (p1 : BitVec 64) (p2 : Int) (p3 : Int) (hs : MI s)  (q0 : MDi s) (q1 : bd p0 (gp_I s 81 20)) (q2 : bd p1 (gp_I s 81 20)) (k : ∀ (r : Int), ∀ (t : gH), MI t → gF [76, 77, 78, 79, 80, 81] [15] s t → (0 ≤ r ∧ r ≤ 63) → (MDi t) → (r < gp_I t 81 20) → (gp_I s 81 20 ≤ gp_I t 81 20) → (gp_I t 81 20 ≤ gp_I s 81 20 + 1) → (mOut s t) → (gp_I s 81 20 < 60 → gp_I t 74 15 = gp_I s 74 15) → K (some (gp_i r)) t) : gs_C L (d + 3) 3088 9 [gp_r (some 74), gp_l p0, gp_l p1, gp_i p2, gp_i p3] s K := by
  have f_1 := mr81 hs 20
  have f_2 := mr74_15 hs
  refine s_3088_e _ _ _ _ ?_
  have lp_3 : ∀ (n_3 : Nat) (v7_3 : Int) (v8_3 : gV), (0 ≤ v7_3 ∧ v7_3 ≤ 60) → (∀ f : Int, 0 ≤ f → f < v7_3 → ¬ (gp_L s 76 (Int.toNat (1280 + f)) = p0 ∧ gp_L s 77 (Int.toNat (1280 + f)) = p1 ∧ (p0 = 0#64 → gp_I s 78 (Int.toNat (1280 + f)) = p2) ∧ (p1 = 0#64 → gp_I s 79 (Int.toNat (1280 + f)) = p3))) → (61 - v7_3).toNat < n_3 → gs_E L (d + 3) 3088 3 [gp_r (some 74), gp_l p0, gp_n, gp_l p1, gp_n, gp_i p2, gp_i p3, gp_i v7_3, v8_3] [] s K := by
    intro n_3
    induction n_3 with
    | zero => intro v7_3 v8_3 hv7_3 iv0_3 hm_3; exact absurd hm_3 (Nat.not_lt_zero _)
    | succ n_3 ih_3 =>
      intro v7_3 v8_3 hv7_3 iv0_3 hm_3
      refine s_3088_3 _ _ _ _ _ _ ?_
      have f_4 := mr81 hs 20
      have f_5 := mr81m hs
      refine ⟨fun h_6 => ?_, fun h_6 => ?_⟩
      · try rw [show gp_wr (1280 + v7_3) = 1280 + v7_3 from gp_wr_id (by omega) (by omega)]
        refine ⟨by omega, ?_⟩
        have b_7 := mr76m hs v7_3 (by omega)
        have w_8 := gz_cmp (gp_L s 76 (Int.toNat (1280 + v7_3))) p0
        refine ⟨fun h_9 => ?_, fun h_9 => ?_⟩
        · have hz_10 : gp_L s 76 (Int.toNat (1280 + v7_3)) = p0 := (gm_cmp0 _ _).mp h_9
          refine ⟨by omega, ?_⟩
          have b_11 := mr77m hs v7_3 (by omega)
          have w_12 := gz_cmp (gp_L s 77 (Int.toNat (1280 + v7_3))) p1
          refine ⟨fun h_13 => ?_, fun h_13 => ?_⟩
          · have hz_14 : gp_L s 77 (Int.toNat (1280 + v7_3)) = p1 := (gm_cmp0 _ _).mp h_13
            refine ⟨fun h_15 => ?_, fun h_15 => ?_⟩
            · have hz_16 : p0 = 0#64 := (gm_cmp0 _ _).mp h_15
              refine ⟨by omega, ?_⟩
              refine ⟨fun h_17 => ?_, fun h_17 => ?_⟩
              · refine s_3088_65 _ _ _ _ _ _ ?_
                refine ⟨fun h_18 => ?_, fun h_18 => ?_⟩
                · have hz_19 : p1 = 0#64 := (gm_cmp0 _ _).mp h_18
                  refine ⟨by omega, ?_⟩
                  refine ⟨fun h_20 => ?_, fun h_20 => ?_⟩
                  · refine s_3088_83 _ _ _ _ _ _ ?_
                    exact k _ s hs (gF.refl _ _ _) (by omega) (by assumption) (by first | omega | assumption) (by first | omega | assumption) (by first | omega | assumption) (mOut.refl _) (by first | omega | assumption)
                  · refine s_3088_86 _ _ _ _ _ _ ?_
                    try rw [show gp_wr (v7_3 + 1) = v7_3 + 1 from gp_wr_id (by omega) (by omega)]
                    exact ih_3 _ _ (by omega) (nf_step iv0_3 (fun q => by first | (refine absurd q.1 ?_; assumption) | (refine absurd q.2.1 ?_; assumption) | (refine absurd (q.2.2.1 ?_) ?_ <;> assumption) | (refine absurd (q.2.2.2 ?_) ?_ <;> assumption))) (by omega)
                · have hz_21 : ¬ p1 = 0#64 := fun q => h_18 ((gm_cmp0 _ _).mpr q)
                  refine s_3088_83 _ _ _ _ _ _ ?_
                  exact k _ s hs (gF.refl _ _ _) (by omega) (by assumption) (by first | omega | assumption) (by first | omega | assumption) (by first | omega | assumption) (mOut.refl _) (by first | omega | assumption)
              · refine s_3088_86 _ _ _ _ _ _ ?_
                try rw [show gp_wr (v7_3 + 1) = v7_3 + 1 from gp_wr_id (by omega) (by omega)]
                exact ih_3 _ _ (by omega) (nf_step iv0_3 (fun q => by first | (refine absurd q.1 ?_; assumption) | (refine absurd q.2.1 ?_; assumption) | (refine absurd (q.2.2.1 ?_) ?_ <;> assumption) | (refine absurd (q.2.2.2 ?_) ?_ <;> assumption))) (by omega)
            · have hz_22 : ¬ p0 = 0#64 := fun q => h_15 ((gm_cmp0 _ _).mpr q)
              refine s_3088_65 _ _ _ _ _ _ ?_
              refine ⟨fun h_23 => ?_, fun h_23 => ?_⟩
              · have hz_24 : p1 = 0#64 := (gm_cmp0 _ _).mp h_23
                refine ⟨by omega, ?_⟩
                refine ⟨fun h_25 => ?_, fun h_25 => ?_⟩
                · refine s_3088_83 _ _ _ _ _ _ ?_
                  exact k _ s hs (gF.refl _ _ _) (by omega) (by assumption) (by first | omega | assumption) (by first | omega | assumption) (by first | omega | assumption) (mOut.refl _) (by first | omega | assumption)
                · refine s_3088_86 _ _ _ _ _ _ ?_
                  try rw [show gp_wr (v7_3 + 1) = v7_3 + 1 from gp_wr_id (by omega) (by omega)]
                  exact ih_3 _ _ (by omega) (nf_step iv0_3 (fun q => by first | (refine absurd q.1 ?_; assumption) | (refine absurd q.2.1 ?_; assumption) | (refine absurd (q.2.2.1 ?_) ?_ <;> assumption) | (refine absurd (q.2.2.2 ?_) ?_ <;> assumption))) (by omega)
              · have hz_26 : ¬ p1 = 0#64 := fun q => h_23 ((gm_cmp0 _ _).mpr q)
                refine s_3088_83 _ _ _ _ _ _ ?_
                exact k _ s hs (gF.refl _ _ _) (by omega) (by assumption) (by first | omega | assumption) (by first | omega | assumption) (by first | omega | assumption) (mOut.refl _) (by first | omega | assumption)
          · have hz_27 : ¬ (gp_L s 77 (Int.toNat (1280 + v7_3))) = p1 := fun q => h_13 ((gm_cmp0 _ _).mpr q)
            refine s_3088_86 _ _ _ _ _ _ ?_
            try rw [show gp_wr (v7_3 + 1) = v7_3 + 1 from gp_wr_id (by omega) (by omega)]
            exact ih_3 _ _ (by omega) (nf_step iv0_3 (fun q => by first | (refine absurd q.1 ?_; assumption) | (refine absurd q.2.1 ?_; assumption) | (refine absurd (q.2.2.1 ?_) ?_ <;> assumption) | (refine absurd (q.2.2.2 ?_) ?_ <;> assumption))) (by omega)
        · have hz_28 : ¬ (gp_L s 76 (Int.toNat (1280 + v7_3))) = p0 := fun q => h_9 ((gm_cmp0 _ _).mpr q)
          refine s_3088_86 _ _ _ _ _ _ ?_
          try rw [show gp_wr (v7_3 + 1) = v7_3 + 1 from gp_wr_id (by omega) (by omega)]
          exact ih_3 _ _ (by omega) (nf_step iv0_3 (fun q => by first | (refine absurd q.1 ?_; assumption) | (refine absurd q.2.1 ?_; assumption) | (refine absurd (q.2.2.1 ?_) ?_ <;> assumption) | (refine absurd (q.2.2.2 ?_) ?_ <;> assumption))) (by omega)
      · have f_29 := mr81 hs 20
        have f_30 := mr81m hs
        refine ⟨fun h_31 => ?_, fun h_31 => ?_⟩
        · intro s_32 e_33
          have hs_34 : MI s_32 := by rw [e_33]; exact mw74_15 hs _ (by omega)
          have hf_35 : gF [76, 77, 78, 79, 80, 81] [15] s s_32 := by rw [e_33]; exact gF.wI (gF.refl _ _ _) (Or.inr ⟨rfl, rfl⟩)
          have q_36 : gp_I s_32 81 20 = gp_I s 81 20 := by rw [e_33] <;> rfl
          have q_37 : gp_I s_32 74 15 = 1 := by rw [e_33]; exact (gz_rw _ _ _ _ _).1 rfl
          exact k _ s_32 hs_34 hf_35 (by omega) (by subst_vars; exact q0) (by first | omega | assumption) (by first | omega | assumption) (by first | omega | assumption) (by subst_vars; exact mOut_wI (mOut.refl _) (by decide)) (by first | omega | assumption)
        · have f_38 := mr81 hs 20
          have f_39 := mr81m hs
          refine vm_lays _ _ _ _ _ hs (by omega) (by first | assumption | exact bd_le (by assumption) (by omega) | exact bd_0 _) (by first | assumption | exact bd_le (by assumption) (by omega) | exact bd_0 _) (fun s_40 hs_41 hf_42 p_43 p_44 => ⟨rfl, ?_⟩)
          have hf_45 : gF [76, 77, 78, 79, 80, 81] [15] s s_40 := gF.sub hf_42 rfl rfl
          have q_46 := (hf_42.2 81 20 rfl (fun h => absurd h (by decide))).1
          have q_47 := (hf_42.2 74 15 rfl (fun _ => rfl)).1
          have f_48 := mr81 hs_41 20
          have f_49 := mr81m hs_41
          try rw [show gp_wr ((gp_I s_40 81 20) + 1) = (gp_I s_40 81 20) + 1 from gp_wr_id (by omega) (by omega)]
          intro s_50 e_51
          have hs_52 : MI s_50 := by rw [e_51]; exact mw81 hs_41 _ _ (by omega)
          have hf_53 : gF [76, 77, 78, 79, 80, 81] [15] s s_50 := by rw [e_51]; exact gF.wI hf_45 (Or.inl rfl)
          have q_54 : gp_I s_50 81 20 = (gp_I s_40 81 20) + 1 := by rw [e_51]; exact (gz_rw _ _ _ _ _).1 rfl
          have q_55 : gp_I s_50 74 15 = gp_I s_40 74 15 := by rw [e_51] <;> rfl
          have f_56 := mr81 hs_52 20
          have f_57 := mr81m hs_52
          try rw [show gp_wr ((gp_I s_50 81 20) - 1) = (gp_I s_50 81 20) - 1 from gp_wr_id (by omega) (by omega)]
          exact k _ s_50 hs_52 hf_53 (by omega) (by subst_vars; exact MDi_new q0 hs (by omega) (by assumption) (by assumption) q1 q2 (fun f a b => iv0_3 f a (by omega)) (by omega)) (by first | omega | assumption) (by first | omega | assumption) (by first | omega | assumption) (by subst_vars; exact mOut_81 (by assumption)) (by first | omega | assumption)
  exact lp_3 _ _ _ (by omega) (fun f h0 h1 => absurd h1 (by omega)) (Nat.lt_succ_self _)
set_option maxRecDepth 100000 in
/-- GatheredPointsModel.placed -/
theorem vm_placed  {L d : Nat} {K : Option gV → gH → Prop} {s : gH} (N : Int) (p0 : BitVec 64) (hs : MI s)  (q0 : ∀ w : Nat, p0.getLsbD w = true → gp_I s 88 w < N) (k : ∀ (r : BitVec 64), (bd r N) → K (some (gp_l r)) s) : gs_C L (d + 1) 3094 6 [gp_r (some 74), gp_l p0] s K := by
  refine s_3094_e _ ?_
  have lp_1 : ∀ (n_1 : Nat) (v3_1 : BitVec 64) (v5_1 : Int), (0 ≤ v5_1 ∧ v5_1 ≤ 64) → (bd v3_1 N) → (65 - v5_1).toNat < n_1 → gs_E L (d + 1) 3094 5 [gp_r (some 74), gp_l p0, gp_n, gp_l v3_1, gp_n, gp_i v5_1] [] s K := by
    intro n_1
    induction n_1 with
    | zero => intro v3_1 v5_1 hv5_1 iv0_1 hm_1; exact absurd hm_1 (Nat.not_lt_zero _)
    | succ n_1 ih_1 =>
      intro v3_1 v5_1 hv5_1 iv0_1 hm_1
      refine s_3094_5 _ _ _ ?_
      refine ⟨fun h_2 => ?_, fun h_2 => ?_⟩
      · refine vm_has _ _ (by omega) (fun x_3 p_4 p_5 => ⟨_, rfl, ?_⟩)
        refine ⟨fun h_6 => ?_, fun h_6 => ?_⟩
        · have hb_7 := hasF p_5 h_6
          refine s_3094_35 _ _ _ _ _ ?_
          try rw [show gp_wr (v5_1 + 1) = v5_1 + 1 from gp_wr_id (by omega) (by omega)]
          exact ih_1 _ _ (by omega) (by first | (refine bd_or (by assumption) ?_; exact bd_0 _) | (refine bd_or (by assumption) (bd_sh ?_ ?_ ?_) <;> omega)) (by omega)
        · have hb_8 := hasT p_5 h_6
          refine ⟨by omega, ?_⟩
          have f_9 := mr88 hs (Int.toNat v5_1)
          have hq0 := q0 (Int.toNat v5_1) (by assumption)
          refine s_3094_35 _ _ _ _ _ ?_
          try rw [show gp_wr (v5_1 + 1) = v5_1 + 1 from gp_wr_id (by omega) (by omega)]
          exact ih_1 _ _ (by omega) (by first | (refine bd_or (by assumption) ?_; exact bd_0 _) | (refine bd_or (by assumption) (bd_sh ?_ ?_ ?_) <;> omega)) (by omega)
      · exact k _ (by first | assumption | exact bd_le (by assumption) (by omega) | exact bd_0 _)
  exact lp_1 _ _ _ (by omega) (bd_0 _) (Nat.lt_succ_self _)
set_option maxRecDepth 100000 in
/-- GatheredPointsModel.ends -/
theorem vm_ends  {L d : Nat} {K : Option gV → gH → Prop} {s : gH}  (p0 : Int) (hs : MI s) (h_p0 : 0 ≤ p0 ∧ p0 ≤ 63) (q0 : MDi s) (q1 : p0 < gp_I s 81 20) (k : ∀ (t : gH), MI t → gF [76, 77, 78, 79, 80, 81, 86, 87, 88] [] s t → (1 ≤ gp_I t 81 19 ∧ gp_I t 81 19 ≤ 60) → (mK s t) → K none t) : gs_C L (d + 184) 3093 9 [gp_r (some 74), gp_i p0, gp_i 19] s K := by
  have f_1 := mr81 hs 20
  have f_2 := mr81 hs 19
  refine s_3093_e _ _ ?_
  obtain ⟨o, hms, hmc⟩ := q0
  have h60 := mr81m hs
  obtain ⟨N, hN⟩ : ∃ N : Nat, gp_I s 81 20 = N := ⟨_, (Int.toNat_of_nonneg (by omega)).symm⟩
  rw [hN] at hms hmc
  rw [Int.toNat_natCast] at hms hmc
  refine vm_forgets hs (fun s_3 hs_4 hf_5 p_6 => ⟨rfl, ?_⟩)
  have hf_7 : gF [76, 77, 78, 79, 80, 81, 86, 87, 88] [] s s_3 := gF.sub hf_5 rfl rfl
  have mb_8 : mK s s_3 := mK_fr (mK.refl _) hf_5 rfl
  have q_9 := (hf_5.2 81 20 rfl (fun h => absurd h (by decide))).1
  have q_10 := (hf_5.2 81 19 rfl (fun h => absurd h (by decide))).1
  have hms1 := MS_fr hms hf_5 rfl rfl rfl rfl rfl
  have hmc1 : MC s_3 N o := MC_z (by assumption)
  have lp_11 : ∀ (n_11 : Nat) (v3_11 : BitVec 64) (v5_11 : Int) (v6_11 : gV) (v7_11 : gV) (v8_11 : gV), ((-1) ≤ v5_11 ∧ v5_11 ≤ 63) → (bd v3_11 (p0 + 1)) → ((v3_11).getLsbD p0.toNat = true) → (∀ i j : Nat, v5_11 < i → (v3_11).getLsbD i = true → ((mL s_3 i).getLsbD j = true ∨ (mR s_3 i).getLsbD j = true) → (v3_11).getLsbD j = true) → (v5_11 ≤ p0) → (v5_11 + 2).toNat < n_11 → gs_E L (d + 184) 3093 11 [gp_r (some 74), gp_i p0, gp_i 19, gp_l v3_11, gp_n, gp_i v5_11, v6_11, v7_11, v8_11] [] s_3 K := by
    intro n_11
    induction n_11 with
    | zero => intro v3_11 v5_11 v6_11 v7_11 v8_11 hv5_11 iv0_11 iv1_11 iv2_11 iv3_11 hm_11; exact absurd hm_11 (Nat.not_lt_zero _)
    | succ n_11 ih_11 =>
      intro v3_11 v5_11 v6_11 v7_11 v8_11 hv5_11 iv0_11 iv1_11 iv2_11 iv3_11 hm_11
      refine s_3093_11 _ _ _ _ _ _ _ ?_
      refine ⟨fun h_12 => ?_, fun h_12 => ?_⟩
      · have hcl : ClP s_3 v3_11 := fun i j => iv2_11 i j (by omega)
        have hc1 := cnt_pos iv1_11
        have hc2 := cnt_bd iv0_11 (by omega)
        have hSN : bd v3_11 N := bd_le iv0_11 (by omega)
        refine vm_size _ (fun x_13 p_14 p_15 => ⟨_, rfl, ?_⟩)
        have lp_16 : ∀ (n_16 : Nat) (v6_16 : Int) (v7_16 : gV) (v8_16 : gV) (s_16 : gH), (MI s_16) → (gF [76, 77, 78, 79, 80, 81, 86, 87, 88] [] s s_16) → (mK s s_16) → (0 ≤ v6_16 ∧ v6_16 ≤ 64) → (gp_I s_16 81 20 = gp_I s_3 81 20) → (gp_I s_16 81 19 = gp_I s_3 81 19) → (MS s_16 N o) → (MC s_16 N o) → (RowP s_16 o v3_11 v6_16) → (ClP s_16 v3_11) → (v6_16 ≤ x_13) → (65 - v6_16).toNat < n_16 → gs_E L (d + 184) 3093 70 [gp_r (some 74), gp_i p0, gp_i 19, gp_l v3_11, gp_n, gp_i x_13, gp_i v6_16, v7_16, v8_16] [] s_16 K := by
          intro n_16
          induction n_16 with
          | zero => intro v6_16 v7_16 v8_16 s_16 hs_s_16 hf_s_16 mK_s_16 hv6_16 tk0_16 tk1_16 iv0_16 iv1_16 iv2_16 iv3_16 iv4_16 hm_16; exact absurd hm_16 (Nat.not_lt_zero _)
          | succ n_16 ih_16 =>
            intro v6_16 v7_16 v8_16 s_16 hs_s_16 hf_s_16 mK_s_16 hv6_16 tk0_16 tk1_16 iv0_16 iv1_16 iv2_16 iv3_16 iv4_16 hm_16
            refine s_3093_70 _ _ _ _ _ _ _ ?_
            refine ⟨fun h_17 => ?_, fun h_17 => ?_⟩
            · refine vm_option20 N o _ _ hs_s_16 (by omega) (by assumption) (by assumption) (by first | omega | assumption) (by first | assumption | exact bd_le (by assumption) (by omega) | exact bd_0 _) (by first | omega | assumption) (fun x_18 s_19 hs_20 hf_21 p_22 p_23 p_24 p_25 => ⟨_, rfl, ?_⟩)
              have hf_26 : gF [76, 77, 78, 79, 80, 81, 86, 87, 88] [] s s_19 := gF.trans hf_s_16 hf_21 rfl rfl
              have mb_27 : mK s s_19 := mK_fr mK_s_16 hf_21 rfl
              have q_28 := (hf_21.2 81 20 rfl (fun h => absurd h (by decide))).1
              have q_29 := (hf_21.2 81 19 rfl (fun h => absurd h (by decide))).1
              have hrow := RowP_fr iv2_16 hf_21 rfl rfl
              have hcl7 := ClP_fr iv3_16 hf_21 rfl rfl
              refine ⟨by omega, ?_⟩
              intro s_30 e_31
              have hs_32 : MI s_30 := by rw [e_31]; exact mw87 hs_20 _ _ (by omega)
              have hf_33 : gF [76, 77, 78, 79, 80, 81, 86, 87, 88] [] s s_30 := by rw [e_31]; exact gF.wI hf_26 (Or.inl rfl)
              have q_34 : gp_I s_30 81 20 = gp_I s_19 81 20 := by rw [e_31] <;> rfl
              have q_35 : gp_I s_30 81 19 = gp_I s_19 81 19 := by rw [e_31] <;> rfl
              have mb_36 : mK s s_30 := by rw [e_31]; exact mK_wI mb_27 (by decide)
              refine ⟨by omega, ?_⟩
              have f_37 := mr87 hs_32 (Int.toNat v6_16)
              refine ⟨by omega, ?_⟩
              intro s_38 e_39
              have hs_40 : MI s_38 := by rw [e_39]; exact mw88 hs_32 _ _ (by omega)
              have hf_41 : gF [76, 77, 78, 79, 80, 81, 86, 87, 88] [] s s_38 := by rw [e_39]; exact gF.wI hf_33 (Or.inl rfl)
              have q_42 : gp_I s_38 81 20 = gp_I s_30 81 20 := by rw [e_39] <;> rfl
              have q_43 : gp_I s_38 81 19 = gp_I s_30 81 19 := by rw [e_39] <;> rfl
              have mb_44 : mK s s_38 := by rw [e_39]; exact mK_wI mb_36 (by decide)
              try rw [show gp_wr (v6_16 + 1) = v6_16 + 1 from gp_wr_id (by omega) (by omega)]
              exact ih_16 _ _ _ _ hs_40 hf_41 mb_44 (by omega) (by first | rfl | omega) (by first | rfl | omega) (by subst_vars; assumption) (by subst_vars; assumption) (by subst_vars; exact RowP_s hrow (by omega) (by assumption) ((gz_rw _ _ _ _ _).1 rfl)) (by subst_vars; exact hcl7) (by first | omega | assumption) (by omega)
            · refine ⟨by omega, ?_⟩
              intro s_45 e_46
              have hs_47 : MI s_45 := by rw [e_46]; exact mw81 hs_s_16 _ _ (by omega)
              have hf_48 : gF [76, 77, 78, 79, 80, 81, 86, 87, 88] [] s s_45 := by rw [e_46]; exact gF.wI hf_s_16 (Or.inl rfl)
              have q_49 := gz_rw s_16 81 (Int.toNat 19) 20 x_13; rw [← e_46] at q_49
              have q_50 := gz_rw s_16 81 (Int.toNat 19) 19 x_13; rw [← e_46] at q_50
              have mb_51 : mK s s_45 := by rw [e_46]; exact mK_81 mK_s_16 (by omega)
              have lp_52 : ∀ (n_52 : Nat) (v6_52 : Int) (v7_52 : gV) (v8_52 : gV) (s_52 : gH), (MI s_52) → (gF [76, 77, 78, 79, 80, 81, 86, 87, 88] [] s s_52) → (mK s s_52) → (0 ≤ v6_52 ∧ v6_52 ≤ 64) → (gp_I s_52 81 20 = gp_I s_45 81 20) → (gp_I s_52 81 19 = gp_I s_45 81 19) → (MS s_52 N o) → (RowP s_52 o v3_11 x_13) → (ClP s_52 v3_11) → (65 - v6_52).toNat < n_52 → gs_E L (d + 184) 3093 124 [gp_r (some 74), gp_i p0, gp_i 19, gp_l v3_11, gp_n, gp_i x_13, gp_i v6_52, v7_52, v8_52] [] s_52 K := by
                intro n_52
                induction n_52 with
                | zero => intro v6_52 v7_52 v8_52 s_52 hs_s_52 hf_s_52 mK_s_52 hv6_52 tk0_52 tk1_52 iv0_52 iv1_52 iv2_52 hm_52; exact absurd hm_52 (Nat.not_lt_zero _)
                | succ n_52 ih_52 =>
                  intro v6_52 v7_52 v8_52 s_52 hs_s_52 hf_s_52 mK_s_52 hv6_52 tk0_52 tk1_52 iv0_52 iv1_52 iv2_52 hm_52
                  refine s_3093_124 _ _ _ _ _ _ _ ?_
                  refine ⟨fun h_53 => ?_, fun h_53 => ?_⟩
                  · refine ⟨by omega, ?_⟩
                    have f_54 := mr87 hs_s_52 (Int.toNat v6_52)
                    try rw [show gp_wr (1280 + (gp_I s_52 87 (Int.toNat v6_52))) = 1280 + (gp_I s_52 87 (Int.toNat v6_52)) from gp_wr_id (by omega) (by omega)]
                    try rw [show gp_wr (64 * 19) = 64 * 19 from gp_wr_id (by omega) (by omega)]
                    try rw [show gp_wr ((64 * 19) + v6_52) = (64 * 19) + v6_52 from gp_wr_id (by omega) (by omega)]
                    refine ⟨by omega, ?_⟩
                    have b_55 := mr76m hs_s_52 (gp_I s_52 87 (Int.toNat v6_52)) (by omega)
                    refine vm_placed v6_52 _ hs_s_52 (by intro w hw; rw [ix20m (by omega)] at hw; exact place_lt iv0_52 hSN (by first | rfl | assumption) iv1_52 (by omega) iv2_52 (Or.inl hw)) (fun m_56 p_57 => ⟨_, rfl, ?_⟩)
                    refine ⟨by omega, ?_⟩
                    intro s_58 e_59
                    have hs_60 : MI s_58 := by rw [e_59]; exact mw76 hs_s_52 _ _ (by exact bd_le (by assumption) (by omega))
                    have hf_61 : gF [76, 77, 78, 79, 80, 81, 86, 87, 88] [] s s_58 := by rw [e_59]; exact gF.wL hf_s_52 (Or.inl rfl)
                    have q_62 : gp_I s_58 81 20 = gp_I s_52 81 20 := by rw [e_59] <;> rfl
                    have q_63 : gp_I s_58 81 19 = gp_I s_52 81 19 := by rw [e_59] <;> rfl
                    have mb_64 : mK s s_58 := by rw [e_59]; exact mK_wL mK_s_52 (by decide)
                    refine ⟨by omega, ?_⟩
                    have b_65 := mr77m hs_60 (gp_I s_52 87 (Int.toNat v6_52)) (by omega)
                    refine vm_placed v6_52 _ hs_60 (by subst_vars; intro w hw; rw [ix20m (by omega)] at hw; exact place_lt iv0_52 hSN (by first | rfl | assumption) iv1_52 (by omega) iv2_52 (Or.inr hw)) (fun m_66 p_67 => ⟨_, rfl, ?_⟩)
                    refine ⟨by omega, ?_⟩
                    intro s_68 e_69
                    have hs_70 : MI s_68 := by rw [e_69]; exact mw77 hs_60 _ _ (by exact bd_le (by assumption) (by omega))
                    have hf_71 : gF [76, 77, 78, 79, 80, 81, 86, 87, 88] [] s s_68 := by rw [e_69]; exact gF.wL hf_61 (Or.inl rfl)
                    have q_72 : gp_I s_68 81 20 = gp_I s_58 81 20 := by rw [e_69] <;> rfl
                    have q_73 : gp_I s_68 81 19 = gp_I s_58 81 19 := by rw [e_69] <;> rfl
                    have mb_74 : mK s s_68 := by rw [e_69]; exact mK_wL mb_64 (by decide)
                    refine ⟨by omega, ?_⟩
                    refine ⟨by omega, ?_⟩
                    intro s_75 e_76
                    have hs_77 : MI s_75 := by rw [e_76]; exact mw78 hs_70 _ _
                    have hf_78 : gF [76, 77, 78, 79, 80, 81, 86, 87, 88] [] s s_75 := by rw [e_76]; exact gF.wI hf_71 (Or.inl rfl)
                    have q_79 : gp_I s_75 81 20 = gp_I s_68 81 20 := by rw [e_76] <;> rfl
                    have q_80 : gp_I s_75 81 19 = gp_I s_68 81 19 := by rw [e_76] <;> rfl
                    have mb_81 : mK s s_75 := by rw [e_76]; exact mK_wI mb_74 (by decide)
                    refine ⟨by omega, ?_⟩
                    refine ⟨by omega, ?_⟩
                    intro s_82 e_83
                    have hs_84 : MI s_82 := by rw [e_83]; exact mw79 hs_77 _ _
                    have hf_85 : gF [76, 77, 78, 79, 80, 81, 86, 87, 88] [] s s_82 := by rw [e_83]; exact gF.wI hf_78 (Or.inl rfl)
                    have q_86 : gp_I s_82 81 20 = gp_I s_75 81 20 := by rw [e_83] <;> rfl
                    have q_87 : gp_I s_82 81 19 = gp_I s_75 81 19 := by rw [e_83] <;> rfl
                    have mb_88 : mK s s_82 := by rw [e_83]; exact mK_wI mb_81 (by decide)
                    refine ⟨by omega, ?_⟩
                    have f_89 := mr80 hs_84 (Int.toNat (1280 + (gp_I s_52 87 (Int.toNat v6_52))))
                    refine ⟨by omega, ?_⟩
                    intro s_90 e_91
                    have hs_92 : MI s_90 := by rw [e_91]; exact mw80 hs_84 _ _ (by omega)
                    have hf_93 : gF [76, 77, 78, 79, 80, 81, 86, 87, 88] [] s s_90 := by rw [e_91]; exact gF.wI hf_85 (Or.inl rfl)
                    have q_94 : gp_I s_90 81 20 = gp_I s_82 81 20 := by rw [e_91] <;> rfl
                    have q_95 : gp_I s_90 81 19 = gp_I s_82 81 19 := by rw [e_91] <;> rfl
                    have mb_96 : mK s s_90 := by rw [e_91]; exact mK_wI mb_88 (by decide)
                    try rw [show gp_wr (v6_52 + 1) = v6_52 + 1 from gp_wr_id (by omega) (by omega)]
                    exact ih_52 _ _ _ _ hs_92 hf_93 mb_96 (by omega) (by first | rfl | omega) (by first | rfl | omega) (by subst_vars; exact MS_5 iv0_52 (by omega)) (by subst_vars; exact iv1_52) (by subst_vars; exact ClP_5 iv2_52 (by omega)) (by omega)
                  · exact k s_52 hs_s_52 hf_s_52 (by first | omega | assumption) mK_s_52
              exact lp_52 _ _ _ _ _ hs_47 hf_48 mb_51 (by omega) (by first | rfl | omega) (by first | rfl | omega) (by subst_vars; exact iv0_16) (by subst_vars; exact fun j hj => iv2_16 j (by omega)) (by subst_vars; exact iv3_16) (Nat.lt_succ_self _)
        exact lp_16 _ _ _ _ _ hs_4 hf_7 mb_8 (by omega) (by first | rfl | omega) (by first | rfl | omega) (by subst_vars; assumption) (by subst_vars; assumption) (fun j hj => absurd hj (by omega)) (hcl) (by first | omega | assumption) (Nat.lt_succ_self _)
      · refine vm_has _ _ (by omega) (fun x_97 p_98 p_99 => ⟨_, rfl, ?_⟩)
        refine ⟨fun h_100 => ?_, fun h_100 => ?_⟩
        · have hb_101 := hasF p_99 h_100
          refine s_3093_53 _ _ _ _ _ _ _ _ _ ?_
          try rw [show gp_wr (v5_11 + (-1)) = v5_11 + (-1) from gp_wr_id (by omega) (by omega)]
          exact ih_11 _ _ _ _ _ (by omega) (by first | (refine bd_or iv0_11 ?_; exact bd_0 _) | (refine bd_or iv0_11 (bd_or (bd_le (by assumption) ?_) (bd_le (by assumption) ?_)) <;> omega)) (or_bit iv1_11) (by first | (refine cl_3 ?_ ?_ iv2_11 <;> first | omega | assumption) | (refine cl_2 ?_ ?_ ?_ ?_ iv2_11 <;> first | omega | assumption)) (by first | omega | assumption) (by omega)
        · have hb_102 := hasT p_99 h_100
          try rw [show gp_wr (1280 + v5_11) = 1280 + v5_11 from gp_wr_id (by omega) (by omega)]
          refine ⟨by omega, ?_⟩
          have b_103 := mr76m hs_4 v5_11 (by omega)
          try rw [show gp_wr (1280 + v5_11) = 1280 + v5_11 from gp_wr_id (by omega) (by omega)]
          refine ⟨by omega, ?_⟩
          have b_104 := mr77m hs_4 v5_11 (by omega)
          refine s_3093_53 _ _ _ _ _ _ _ _ _ ?_
          try rw [show gp_wr (v5_11 + (-1)) = v5_11 + (-1) from gp_wr_id (by omega) (by omega)]
          exact ih_11 _ _ _ _ _ (by omega) (by first | (refine bd_or iv0_11 ?_; exact bd_0 _) | (refine bd_or iv0_11 (bd_or (bd_le (by assumption) ?_) (bd_le (by assumption) ?_)) <;> omega)) (or_bit iv1_11) (by first | (refine cl_3 ?_ ?_ iv2_11 <;> first | omega | assumption) | (refine cl_2 ?_ ?_ ?_ ?_ iv2_11 <;> first | omega | assumption)) (by first | omega | assumption) (by omega)
  exact lp_11 _ _ _ _ _ _ (by omega) (bd_sh (by omega) (by omega) (by omega)) (one_self (by omega) (by omega)) (fun i j h0 h1 => absurd (bd_sh (n := p0 + 1) (by omega) (by omega) (by omega) i h1) (by omega)) (by first | omega | assumption) (Nat.lt_succ_self _)
