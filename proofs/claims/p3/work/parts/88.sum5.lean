theorem pr3_N {L P n0 n1 n2 : Nat} {s : gH} (h : SVN L P n0 n1 n2 s) : pr3 L P s = p3m n0 n1 n2 := by
  obtain ⟨⟨a, q1, q2⟩, ⟨b, q3, q4⟩, ⟨c, q5, q6⟩, h3⟩ := h
  unfold pr3 p3m
  rw [pn_of q1 q2, pn_of q3 q4, pn_of q5 q6]
/-- a move that may be made -/
def MVok (L P A : Nat) (s : gH) (r side : Int) : Prop := r = -1 ∨ (0 ≤ r ∧ r ≤ 299 ∧ r % 100 < (chc L P A s (Int.toNat (r / 100)) side : Nat))
theorem mv_of {L P A : Nat} {s : gH} {b i side : Int} (h0 : 0 ≤ b) (h1 : b ≤ 2) (h2 : 0 ≤ i) (h3 : i < (chc L P A s (Int.toNat b) side : Nat)) (h4 : i ≤ 99) : MVok L P A s (b * 100 + i) side := by
  refine Or.inr ⟨by omega, by omega, ?_⟩
  rw [show (b * 100 + i) / 100 = b by omega, show (b * 100 + i) % 100 = i by omega]
  exact h3
theorem imod_rng (a : Int) {b : Int} (hb : 0 < b) : 0 ≤ a % b ∧ a % b < b := ⟨Int.emod_nonneg a (by omega), Int.emod_lt_of_pos a hb⟩
set_option maxRecDepth 100000 in
/-- Sum.drawn -/
theorem xm_sdrawn51  {L d : Nat} {K : Option gV → gH → Prop} {s : gH}  (p0 : Int) (p1 : Int) (hs : XI L 0 s) (h_p1 : 0 ≤ p1 ∧ p1 ≤ 16777215) (q0 : SVP L 52 s) (k : ∀ (r : Int), ((-1) ≤ r ∧ r ≤ 299) → (MVok L 52 53 s r p0) → K (some (gp_i r)) s) : gs_C L (d + 3) 2058 7 [gp_r (some 51), gp_i p0, gp_i p1] s K := by
  refine s_2058_e _ _ _ ?_
  refine ⟨51, rfl, ?_⟩
  refine ⟨rfl, ?_⟩
  refine xm_sallChoices51 _ hs (q0) (fun x_1 p_2 => ⟨_, rfl, ?_⟩)
  refine ⟨fun h_3 => ?_, fun h_3 => ?_⟩
  · refine ⟨by omega, ?_⟩
    have w_4 := gz_td (p1) (x_1) (by omega)
    have hmd := imod_rng p1 (b := x_1) (by omega)
    refine s_2058_17 _ _ _ _ _ _ _ _ ?_
    have lp_7 : ∀ (n_7 : Nat) (v4_7 : Int) (v5_7 : Int) (v6_7 : gV), (0 ≤ v4_7 ∧ v4_7 ≤ 16777215) → (0 ≤ v5_7 ∧ v5_7 ≤ 3) → (4 - v5_7).toNat < n_7 → gs_E L (d + 3) 2058 22 [gp_r (some 51), gp_i p0, gp_i p1, gp_i x_1, gp_i v4_7, gp_i v5_7, v6_7] [] s K := by
      intro n_7
      induction n_7 with
      | zero => intro v4_7 v5_7 v6_7 hv4_7 hv5_7 hm_7; exact absurd hm_7 (Nat.not_lt_zero _)
      | succ n_7 ih_7 =>
        intro v4_7 v5_7 v6_7 hv4_7 hv5_7 hm_7
        refine s_2058_22 _ _ _ _ _ _ _ ?_
        refine ⟨51, rfl, ?_⟩
        refine ⟨rfl, ?_⟩
        have f_8 := xr51_4 hs
        refine ⟨fun h_9 => ?_, fun h_9 => ?_⟩
        · refine ⟨rfl, ?_⟩
          refine xm_schoices51 _ _ hs (by omega) (q0) (fun x_10 p_11 p_12 => ⟨_, rfl, ?_⟩)
          refine ⟨fun h_13 => ?_, fun h_13 => ?_⟩
          · try rw [show gp_wr (v5_7 * 100) = v5_7 * 100 from gp_wr_id (by omega) (by omega)]
            try rw [show gp_wr ((v5_7 * 100) + v4_7) = (v5_7 * 100) + v4_7 from gp_wr_id (by omega) (by omega)]
            exact k _ (by omega) (mv_of (by omega) (by omega) (by omega) (by omega) (by omega))
          · try rw [show gp_wr (v4_7 - x_10) = v4_7 - x_10 from gp_wr_id (by omega) (by omega)]
            try rw [show gp_wr (v5_7 + 1) = v5_7 + 1 from gp_wr_id (by omega) (by omega)]
            exact ih_7 _ _ _ (by omega) (by omega) (by omega)
        · exact k _ (by omega) (Or.inl rfl)
    exact lp_7 _ _ _ _ (by omega) (by omega) (Nat.lt_succ_self _)
  · refine s_2058_17 _ _ _ _ _ _ _ _ ?_
    have lp_17 : ∀ (n_17 : Nat) (v4_17 : Int) (v5_17 : Int) (v6_17 : gV), (0 ≤ v4_17 ∧ v4_17 ≤ 16777215) → (0 ≤ v5_17 ∧ v5_17 ≤ 3) → (4 - v5_17).toNat < n_17 → gs_E L (d + 3) 2058 22 [gp_r (some 51), gp_i p0, gp_i p1, gp_i x_1, gp_i v4_17, gp_i v5_17, v6_17] [] s K := by
      intro n_17
      induction n_17 with
      | zero => intro v4_17 v5_17 v6_17 hv4_17 hv5_17 hm_17; exact absurd hm_17 (Nat.not_lt_zero _)
      | succ n_17 ih_17 =>
        intro v4_17 v5_17 v6_17 hv4_17 hv5_17 hm_17
        refine s_2058_22 _ _ _ _ _ _ _ ?_
        refine ⟨51, rfl, ?_⟩
        refine ⟨rfl, ?_⟩
        have f_18 := xr51_4 hs
        refine ⟨fun h_19 => ?_, fun h_19 => ?_⟩
        · refine ⟨rfl, ?_⟩
          refine xm_schoices51 _ _ hs (by omega) (q0) (fun x_20 p_21 p_22 => ⟨_, rfl, ?_⟩)
          refine ⟨fun h_23 => ?_, fun h_23 => ?_⟩
          · try rw [show gp_wr (v5_17 * 100) = v5_17 * 100 from gp_wr_id (by omega) (by omega)]
            try rw [show gp_wr ((v5_17 * 100) + v4_17) = (v5_17 * 100) + v4_17 from gp_wr_id (by omega) (by omega)]
            exact k _ (by omega) (mv_of (by omega) (by omega) (by omega) (by omega) (by omega))
          · try rw [show gp_wr (v4_17 - x_20) = v4_17 - x_20 from gp_wr_id (by omega) (by omega)]
            try rw [show gp_wr (v5_17 + 1) = v5_17 + 1 from gp_wr_id (by omega) (by omega)]
            exact ih_17 _ _ _ (by omega) (by omega) (by omega)
        · exact k _ (by omega) (Or.inl rfl)
    exact lp_17 _ _ _ _ (by omega) (by omega) (Nat.lt_succ_self _)
set_option maxRecDepth 100000 in
/-- Sum.drawn -/
theorem xm_sdrawn60  {L d : Nat} {K : Option gV → gH → Prop} {s : gH}  (p0 : Int) (p1 : Int) (hs : XI L 0 s) (h_p1 : 0 ≤ p1 ∧ p1 ≤ 16777215) (q0 : SVP L 61 s) (k : ∀ (r : Int), ((-1) ≤ r ∧ r ≤ 299) → (MVok L 61 62 s r p0) → K (some (gp_i r)) s) : gs_C L (d + 3) 2058 7 [gp_r (some 60), gp_i p0, gp_i p1] s K := by
  refine s_2058_e _ _ _ ?_
  refine ⟨60, rfl, ?_⟩
  refine ⟨rfl, ?_⟩
  refine xm_sallChoices60 _ hs (q0) (fun x_1 p_2 => ⟨_, rfl, ?_⟩)
  refine ⟨fun h_3 => ?_, fun h_3 => ?_⟩
  · refine ⟨by omega, ?_⟩
    have w_4 := gz_td (p1) (x_1) (by omega)
    have hmd := imod_rng p1 (b := x_1) (by omega)
    refine s_2058_17 _ _ _ _ _ _ _ _ ?_
    have lp_7 : ∀ (n_7 : Nat) (v4_7 : Int) (v5_7 : Int) (v6_7 : gV), (0 ≤ v4_7 ∧ v4_7 ≤ 16777215) → (0 ≤ v5_7 ∧ v5_7 ≤ 3) → (4 - v5_7).toNat < n_7 → gs_E L (d + 3) 2058 22 [gp_r (some 60), gp_i p0, gp_i p1, gp_i x_1, gp_i v4_7, gp_i v5_7, v6_7] [] s K := by
      intro n_7
      induction n_7 with
      | zero => intro v4_7 v5_7 v6_7 hv4_7 hv5_7 hm_7; exact absurd hm_7 (Nat.not_lt_zero _)
      | succ n_7 ih_7 =>
        intro v4_7 v5_7 v6_7 hv4_7 hv5_7 hm_7
        refine s_2058_22 _ _ _ _ _ _ _ ?_
        refine ⟨60, rfl, ?_⟩
        refine ⟨rfl, ?_⟩
        have f_8 := xr60_4 hs
        refine ⟨fun h_9 => ?_, fun h_9 => ?_⟩
        · refine ⟨rfl, ?_⟩
          refine xm_schoices60 _ _ hs (by omega) (q0) (fun x_10 p_11 p_12 => ⟨_, rfl, ?_⟩)
          refine ⟨fun h_13 => ?_, fun h_13 => ?_⟩
          · try rw [show gp_wr (v5_7 * 100) = v5_7 * 100 from gp_wr_id (by omega) (by omega)]
            try rw [show gp_wr ((v5_7 * 100) + v4_7) = (v5_7 * 100) + v4_7 from gp_wr_id (by omega) (by omega)]
            exact k _ (by omega) (mv_of (by omega) (by omega) (by omega) (by omega) (by omega))
          · try rw [show gp_wr (v4_7 - x_10) = v4_7 - x_10 from gp_wr_id (by omega) (by omega)]
            try rw [show gp_wr (v5_7 + 1) = v5_7 + 1 from gp_wr_id (by omega) (by omega)]
            exact ih_7 _ _ _ (by omega) (by omega) (by omega)
        · exact k _ (by omega) (Or.inl rfl)
    exact lp_7 _ _ _ _ (by omega) (by omega) (Nat.lt_succ_self _)
  · refine s_2058_17 _ _ _ _ _ _ _ _ ?_
    have lp_17 : ∀ (n_17 : Nat) (v4_17 : Int) (v5_17 : Int) (v6_17 : gV), (0 ≤ v4_17 ∧ v4_17 ≤ 16777215) → (0 ≤ v5_17 ∧ v5_17 ≤ 3) → (4 - v5_17).toNat < n_17 → gs_E L (d + 3) 2058 22 [gp_r (some 60), gp_i p0, gp_i p1, gp_i x_1, gp_i v4_17, gp_i v5_17, v6_17] [] s K := by
      intro n_17
      induction n_17 with
      | zero => intro v4_17 v5_17 v6_17 hv4_17 hv5_17 hm_17; exact absurd hm_17 (Nat.not_lt_zero _)
      | succ n_17 ih_17 =>
        intro v4_17 v5_17 v6_17 hv4_17 hv5_17 hm_17
        refine s_2058_22 _ _ _ _ _ _ _ ?_
        refine ⟨60, rfl, ?_⟩
        refine ⟨rfl, ?_⟩
        have f_18 := xr60_4 hs
        refine ⟨fun h_19 => ?_, fun h_19 => ?_⟩
        · refine ⟨rfl, ?_⟩
          refine xm_schoices60 _ _ hs (by omega) (q0) (fun x_20 p_21 p_22 => ⟨_, rfl, ?_⟩)
          refine ⟨fun h_23 => ?_, fun h_23 => ?_⟩
          · try rw [show gp_wr (v5_17 * 100) = v5_17 * 100 from gp_wr_id (by omega) (by omega)]
            try rw [show gp_wr ((v5_17 * 100) + v4_17) = (v5_17 * 100) + v4_17 from gp_wr_id (by omega) (by omega)]
            exact k _ (by omega) (mv_of (by omega) (by omega) (by omega) (by omega) (by omega))
          · try rw [show gp_wr (v4_17 - x_20) = v4_17 - x_20 from gp_wr_id (by omega) (by omega)]
            try rw [show gp_wr (v5_17 + 1) = v5_17 + 1 from gp_wr_id (by omega) (by omega)]
            exact ih_17 _ _ _ (by omega) (by omega) (by omega)
        · exact k _ (by omega) (Or.inl rfl)
    exact lp_17 _ _ _ _ (by omega) (by omega) (Nat.lt_succ_self _)
set_option maxRecDepth 100000 in
/-- Sum.worth -/
theorem xm_sworth51  {L d : Nat} {K : Option gV → gH → Prop} {s : gH} (A N0 N1 N2 : Nat) (p0 : Int) (hs : XI L 0 s)  (q0 : SVP L 52 s) (q1 : SVN L 52 N0 N1 N2 s) (q2 : SVA L 51 A s) (q3 : gp_I s 51 8 = 0 ∨ p3m N0 N1 N2 ≤ A) (k : ∀ (r : Int), ∀ (t : gH), XI L 0 t → gX L true [55, 56, 64, 65, 2638, 2639, 2640] s t → (SVP L 52 t) → (SVN L 52 N0 N1 N2 t) → (∃ B, SVA L 51 B t ∧ p3m N0 N1 N2 ≤ B ∧ gp_sz t ≤ gp_sz s + 2 ∧ gp_us t + 2 * pot B ≤ gp_us s + 2 * pot A ∧ pot B ≤ pot A) → K (some (gp_i r)) t) : gs_C L (d + 5) 2056 2 [gp_r (some 51), gp_i p0] s K := by
  refine s_2056_e _ _ ?_
  refine ⟨51, rfl, ?_⟩
  refine ⟨rfl, ?_⟩
  refine xm_sfill51 A N0 N1 N2 hs (q1) (q2) (by first | omega | assumption) (fun s_1 hs_2 hf_3 p_4 p_5 => ⟨rfl, ?_⟩)
  have hf_6 : gX L true [55, 56, 64, 65, 2638, 2639, 2640] s s_1 := gX.sub hf_3 rfl rfl
  have pd_7 : SVP L 52 s_1 := SVP52_fr q0 hf_3 rfl rfl
  obtain ⟨B, hB1, hB2⟩ := p_5
  have hpr := pr3_N p_4
  refine ⟨fun h_8 => ?_, fun h_8 => ?_⟩
  · refine ⟨rfl, ?_⟩
    refine ⟨rfl, ?_⟩
    refine xm_splace51 hs_2 (pd_7) (fun x_9 p_10 p_11 => ⟨_, rfl, ?_⟩)
    obtain ⟨b_12, rb_12, lb_12, hb_12, tb_12, cb_12⟩ := SVA.arr6 hB1
    refine ⟨b_12, rb_12, ?_⟩
    refine ⟨gin hb_12 (by omega), ?_⟩
    refine s_2056_29 _ _ _ ?_
    exact k _ s_1 hs_2 hf_6 (pd_7) (p_4) (⟨B, by assumption, by omega, by omega, by omega, by omega⟩)
  · refine ⟨rfl, ?_⟩
    refine ⟨rfl, ?_⟩
    refine xm_splace51 hs_2 (pd_7) (fun x_14 p_15 p_16 => ⟨_, rfl, ?_⟩)
    obtain ⟨b_17, rb_17, lb_17, hb_17, tb_17, cb_17⟩ := SVA.arr7 hB1
    refine ⟨b_17, rb_17, ?_⟩
    refine ⟨gin hb_17 (by omega), ?_⟩
    refine s_2056_29 _ _ _ ?_
    exact k _ s_1 hs_2 hf_6 (pd_7) (p_4) (⟨B, by assumption, by omega, by omega, by omega, by omega⟩)
set_option maxRecDepth 100000 in
/-- Sum.worth -/
theorem xm_sworth60  {L d : Nat} {K : Option gV → gH → Prop} {s : gH} (A N0 N1 N2 : Nat) (p0 : Int) (hs : XI L 0 s)  (q0 : SVP L 61 s) (q1 : SVN L 61 N0 N1 N2 s) (q2 : SVA L 60 A s) (q3 : gp_I s 60 8 = 0 ∨ p3m N0 N1 N2 ≤ A) (k : ∀ (r : Int), ∀ (t : gH), XI L 0 t → gX L true [55, 56, 64, 65, 2926, 2927, 2928] s t → (SVP L 61 t) → (SVN L 61 N0 N1 N2 t) → (∃ B, SVA L 60 B t ∧ p3m N0 N1 N2 ≤ B ∧ gp_sz t ≤ gp_sz s + 2 ∧ gp_us t + 2 * pot B ≤ gp_us s + 2 * pot A ∧ pot B ≤ pot A) → K (some (gp_i r)) t) : gs_C L (d + 5) 2056 2 [gp_r (some 60), gp_i p0] s K := by
  refine s_2056_e _ _ ?_
  refine ⟨60, rfl, ?_⟩
  refine ⟨rfl, ?_⟩
  refine xm_sfill60 A N0 N1 N2 hs (q1) (q2) (by first | omega | assumption) (fun s_1 hs_2 hf_3 p_4 p_5 => ⟨rfl, ?_⟩)
  have hf_6 : gX L true [55, 56, 64, 65, 2926, 2927, 2928] s s_1 := gX.sub hf_3 rfl rfl
  have pd_7 : SVP L 61 s_1 := SVP61_fr q0 hf_3 rfl rfl
  obtain ⟨B, hB1, hB2⟩ := p_5
  have hpr := pr3_N p_4
  refine ⟨fun h_8 => ?_, fun h_8 => ?_⟩
  · refine ⟨rfl, ?_⟩
    refine ⟨rfl, ?_⟩
    refine xm_splace60 hs_2 (pd_7) (fun x_9 p_10 p_11 => ⟨_, rfl, ?_⟩)
    obtain ⟨b_12, rb_12, lb_12, hb_12, tb_12, cb_12⟩ := SVA.arr6 hB1
    refine ⟨b_12, rb_12, ?_⟩
    refine ⟨gin hb_12 (by omega), ?_⟩
    refine s_2056_29 _ _ _ ?_
    exact k _ s_1 hs_2 hf_6 (pd_7) (p_4) (⟨B, by assumption, by omega, by omega, by omega, by omega⟩)
  · refine ⟨rfl, ?_⟩
    refine ⟨rfl, ?_⟩
    refine xm_splace60 hs_2 (pd_7) (fun x_14 p_15 p_16 => ⟨_, rfl, ?_⟩)
    obtain ⟨b_17, rb_17, lb_17, hb_17, tb_17, cb_17⟩ := SVA.arr7 hB1
    refine ⟨b_17, rb_17, ?_⟩
    refine ⟨gin hb_17 (by omega), ?_⟩
    refine s_2056_29 _ _ _ ?_
    exact k _ s_1 hs_2 hf_6 (pd_7) (p_4) (⟨B, by assumption, by omega, by omega, by omega, by omega⟩)
