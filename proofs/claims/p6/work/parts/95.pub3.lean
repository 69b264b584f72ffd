set_option maxRecDepth 100000 in
/-- GatheredPoints.feed -/
theorem xp_feed  {L d : Nat} {K : Option gV → gH → Prop} {s : gH}  (p0 : BitVec 64) (p1 : Int) (hs : XI L 0 s) (h_p1 : (-2147483648) ≤ p1 ∧ p1 ≤ 2147483647)  (k : ∀ (r : Int), ∀ (t : gH), XI L 0 t → gX L false [2, 3, 1034] s t → (1 ≤ p1 ∧ p1 ≤ 8 ∧ gp_I s 1 2 + p1 ≤ 100 → r = gp_I s 1 2 + p1 ∧ gp_I t 1 2 = gp_I s 1 2 + p1) → (¬ (1 ≤ p1 ∧ p1 ≤ 8) → r = -1000000001 ∧ gp_I t 1 2 = gp_I s 1 2) → (1 ≤ p1 ∧ p1 ≤ 8 ∧ 100 < gp_I s 1 2 + p1 → r = -1000000004 ∧ gp_I t 1 2 = gp_I s 1 2) → K (some (gp_i r)) t) : gs_C L (d + 1) 2817 5 [gp_r (some 1), gp_l p0, gp_i p1] s K := by
  have f_1 := xr1_2 hs
  refine s_2817_e _ _ ?_
  refine ⟨fun h_2 => ?_, fun h_2 => ?_⟩
  · refine s_2817_11 _ _ _ ?_
    refine xp_refused _ hs (by omega) (fun x_3 s_4 hs_5 hf_6 p_7 => ⟨_, rfl, ?_⟩)
    have hf_8 : gX L false [2, 3, 1034] s s_4 := gX.sub hf_6 rfl rfl
    have q_9 : gp_I s_4 1 2 = gp_I s 1 2 := (hf_6.2.2.1 1 2 (by decide) (by decide) rfl).1
    exact k _ s_4 hs_5 hf_8 (by first | omega | assumption) (by first | omega | assumption) (by first | omega | assumption)
  · refine ⟨fun h_10 => ?_, fun h_10 => ?_⟩
    · refine s_2817_11 _ _ _ ?_
      refine xp_refused _ hs (by omega) (fun x_11 s_12 hs_13 hf_14 p_15 => ⟨_, rfl, ?_⟩)
      have hf_16 : gX L false [2, 3, 1034] s s_12 := gX.sub hf_14 rfl rfl
      have q_17 : gp_I s_12 1 2 = gp_I s 1 2 := (hf_14.2.2.1 1 2 (by decide) (by decide) rfl).1
      exact k _ s_12 hs_13 hf_16 (by first | omega | assumption) (by first | omega | assumption) (by first | omega | assumption)
    · have f_18 := xr1_2 hs
      try rw [show gp_wr ((gp_I s 1 2) + p1) = (gp_I s 1 2) + p1 from gp_wr_id (by omega) (by omega)]
      refine ⟨fun h_19 => ?_, fun h_19 => ?_⟩
      · refine xp_refused _ hs (by omega) (fun x_20 s_21 hs_22 hf_23 p_24 => ⟨_, rfl, ?_⟩)
        have hf_25 : gX L false [2, 3, 1034] s s_21 := gX.sub hf_23 rfl rfl
        have q_26 : gp_I s_21 1 2 = gp_I s 1 2 := (hf_23.2.2.1 1 2 (by decide) (by decide) rfl).1
        exact k _ s_21 hs_22 hf_25 (by first | omega | assumption) (by first | omega | assumption) (by first | omega | assumption)
      · have lp_27 : ∀ (n_27 : Nat) (v4_27 : Int) (s_27 : gH), (XI L 0 s_27) → (gX L false [2, 3, 1034] s s_27) → (0 ≤ v4_27 ∧ v4_27 ≤ 8) → (gp_I s_27 1 2 = gp_I s 1 2) → (gp_I s_27 1 2 = gp_I s 1 2) → (v4_27 ≤ p1) → (9 - v4_27).toNat < n_27 → gs_E L (d + 1) 2817 37 [gp_r (some 1), gp_l p0, gp_n, gp_i p1, gp_i v4_27] [] s_27 K := by
          intro n_27
          induction n_27 with
          | zero => intro v4_27 s_27 hs_s_27 hf_s_27 hv4_27 tk0_27 iv0_27 iv1_27 hm_27; exact absurd hm_27 (Nat.not_lt_zero _)
          | succ n_27 ih_27 =>
            intro v4_27 s_27 hs_s_27 hf_s_27 hv4_27 tk0_27 iv0_27 iv1_27 hm_27
            refine s_2817_37 _ _ _ ?_
            refine ⟨fun h_28 => ?_, fun h_28 => ?_⟩
            · have f_29 := xr1_2 hs_s_27
              try rw [show gp_wr ((gp_I s_27 1 2) + v4_27) = (gp_I s_27 1 2) + v4_27 from gp_wr_id (by omega) (by omega)]
              try rw [show gp_wr (8 * v4_27) = 8 * v4_27 from gp_wr_id (by omega) (by omega)]
              have w_30 := wr_rng ((p0 >>> (Int.toNat ((8 * v4_27) % 64))).toInt)
              have w_31 := gz_b (gp_wr (p0 >>> (Int.toNat ((8 * v4_27) % 64))).toInt)
              have hby : -128 ≤ gp_b ((gp_b (gp_wr (p0 >>> (Int.toNat ((8 * v4_27) % 64))).toInt))) ∧ gp_b ((gp_b (gp_wr (p0 >>> (Int.toNat ((8 * v4_27) % 64))).toInt))) ≤ 127 := by have h9 := gz_b ((gp_b (gp_wr (p0 >>> (Int.toNat ((8 * v4_27) % 64))).toInt))); omega
              refine ⟨by omega, ?_⟩
              intro s_32 e_33
              have hs_34 : XI L 0 s_32 := by rw [e_33]; exact xw3 hs_s_27 _ _ (by omega)
              have hf_35 : gX L false [2, 3, 1034] s s_32 := by rw [e_33]; exact gX.wI hf_s_27 (Or.inl rfl)
              have q_36 : gp_I s_32 1 2 = gp_I s_27 1 2 := by rw [e_33] <;> first | rfl | exact I_ne (by omega)
              try rw [show gp_wr (v4_27 + 1) = v4_27 + 1 from gp_wr_id (by omega) (by omega)]
              exact ih_27 _ _ hs_34 hf_35 (by omega) (by first | rfl | omega) (by first | omega | assumption) (by first | omega | assumption) (by omega)
            · have f_37 := xr1_2 hs_s_27
              try rw [show gp_wr ((gp_I s_27 1 2) + p1) = (gp_I s_27 1 2) + p1 from gp_wr_id (by omega) (by omega)]
              intro s_38 e_39
              have hs_40 : XI L 0 s_38 := by rw [e_39]; exact xw1_2 hs_s_27 _ (by omega)
              have hf_41 : gX L false [2, 3, 1034] s s_38 := by rw [e_39]; exact gX.wI hf_s_27 (Or.inl rfl)
              have q_42 : gp_I s_38 1 2 = (gp_I s_27 1 2) + p1 := by rw [e_39]; exact (gz_rw _ _ _ _ _).1 rfl
              have f_43 := xr1_2 hs_40
              exact k _ s_38 hs_40 hf_41 (by first | omega | assumption) (by first | omega | assumption) (by first | omega | assumption)
        exact lp_27 _ _ _ hs (gX.refl _ _ _ _) (by omega) (by first | rfl | omega) (by first | omega | assumption) (by first | omega | assumption) (Nat.lt_succ_self _)
set_option maxRecDepth 100000 in
/-- GatheredPoints.game -/
theorem xp_game  {L d : Nat} {K : Option gV → gH → Prop} {s : gH}  (p0 : Int) (hs : XI L 0 s) (h_p0 : (-2147483648) ≤ p0 ∧ p0 ≤ 2147483647) (q0 : XS L s) (k : ∀ (r : Int), ∀ (t : gH), XI L 0 t → gX L true [2, 4, 8, 9, 10, 11, 12, 13, 14, 15, 21, 22, 47, 1034, 1196, 2475, 2476, 2477, 2478, 2479, 2480] s t → (XS L t) → (0 ≤ p0 ∧ p0 ≤ 7 → gp_I t 1 2 = 0) → (p0 < 0 ∨ 7 < p0 → gp_I t 1 2 = gp_I s 1 2) → ((gp_sz t : Int) + 6 * gp_I t 1 2 ≤ gp_sz s + 6 * gp_I s 1 2) → ((gp_us t : Int) + 310 * gp_I t 1 2 ≤ gp_us s + 310 * gp_I s 1 2) → K (some (gp_i r)) t) : gs_C L (d + 59) 2818 3 [gp_r (some 1), gp_i p0] s K := by
  have f_1 := xr1_2 hs
  refine s_2818_e _ ?_
  have htp := xr1_2 hs
  refine xm_noSlot _ (by omega) (fun x_2 p_3 p_4 p_5 => ⟨_, rfl, ?_⟩)
  refine ⟨fun h_6 => ?_, fun h_6 => ?_⟩
  · have f_7 := xr1_2 hs
    refine xm_read _ hs (by omega) (fun o_8 s_9 hs_10 hf_11 p_12 p_13 => ⟨_, rfl, ?_⟩)
    have hf_14 : gX L true [2, 4, 8, 9, 10, 11, 12, 13, 14, 15, 21, 22, 47, 1034, 1196, 2475, 2476, 2477, 2478, 2479, 2480] s s_9 := gX.sub hf_11 rfl rfl
    have pd_15 : XS L s_9 := XS_fr q0 hf_11 rfl
    have q_16 : gp_I s_9 1 2 = gp_I s 1 2 := (hf_11.2.2.1 1 2 (by decide) (by decide) rfl).1
    obtain ⟨a_17, n_18, rfl, kt_19, hn_20⟩ := p_12
    have hn_a_17 := kt_19.n hs_10
    intro s_21 e_22
    have hs_23 : XI L 0 s_21 := by rw [e_22]; exact xw1_2 hs_10 _ (by omega)
    have hf_24 : gX L true [2, 4, 8, 9, 10, 11, 12, 13, 14, 15, 21, 22, 47, 1034, 1196, 2475, 2476, 2477, 2478, 2479, 2480] s s_21 := by rw [e_22]; exact gX.wI hf_14 (Or.inl rfl)
    have kt_25 : kT L s_21 a_17 n_18 := by rw [e_22]; exact kt_19
    have z_26 : gp_sz s_21 = gp_sz s_9 ∧ gp_us s_21 = gp_us s_9 := by rw [e_22]; exact ⟨rfl, rfl⟩
    have q_27 : gp_I s_21 1 2 = 0 := by rw [e_22]; exact (gz_rw _ _ _ _ _).1 rfl
    have pd_28 : XS L s_21 := by rw [e_22]; exact XS_fr pd_15 (gX.wI (gX.refl L true [1034] _) (Or.inl rfl)) rfl
    have f_29 := xr46_7 hs_23
    refine ⟨fun h_30 => ?_, fun h_30 => ?_⟩
    · have f_31 := xr46_8 hs_23
      refine ⟨fun h_32 => ?_, fun h_32 => ?_⟩
      · refine xp_hold n_18 _ _ hs_23 (by omega) (by first | assumption | exact kT7 hs_23.1.1 | exact kT25 hs_23.1.1) (by first | omega | assumption) (pd_28) (fun x_33 s_34 hs_35 hf_36 p_37 p_38 => ⟨_, rfl, ?_⟩)
        have hf_39 : gX L true [2, 4, 8, 9, 10, 11, 12, 13, 14, 15, 21, 22, 47, 1034, 1196, 2475, 2476, 2477, 2478, 2479, 2480] s s_34 := gX.trans hf_24 hf_36 rfl rfl
        have kt_40 : kT L s_34 a_17 n_18 := kt_25.fr hf_36.1
        have q_41 : gp_I s_34 1 2 = gp_I s_21 1 2 := (hf_36.2.2.1 1 2 (by decide) (by decide) rfl).1
        have z_42 : gp_sz s_34 = gp_sz s_21 ∧ gp_us s_34 = gp_us s_21 := hf_36.2.1 rfl
        exact k _ s_34 hs_35 hf_39 (p_38) (by first | omega | assumption) (by first | omega | assumption) (by first | omega | assumption) (by first | omega | assumption)
      · have f_43 := xr46_8 hs_23
        refine xp_refused _ hs_23 (by omega) (fun x_44 s_45 hs_46 hf_47 p_48 => ⟨_, rfl, ?_⟩)
        have hf_49 : gX L true [2, 4, 8, 9, 10, 11, 12, 13, 14, 15, 21, 22, 47, 1034, 1196, 2475, 2476, 2477, 2478, 2479, 2480] s s_45 := gX.trans hf_24 hf_47 rfl rfl
        have kt_50 : kT L s_45 a_17 n_18 := kt_25.fr hf_47.1
        have pd_51 : XS L s_45 := XS_fr pd_28 hf_47 rfl
        have q_52 : gp_I s_45 1 2 = gp_I s_21 1 2 := (hf_47.2.2.1 1 2 (by decide) (by decide) rfl).1
        have z_53 : gp_sz s_45 = gp_sz s_21 ∧ gp_us s_45 = gp_us s_21 := hf_47.2.1 rfl
        exact k _ s_45 hs_46 hf_49 (pd_51) (by first | omega | assumption) (by first | omega | assumption) (by first | omega | assumption) (by first | omega | assumption)
    · have f_54 := xr46_7 hs_23
      try rw [show gp_wr ((-10) - (gp_I s_21 46 7)) = (-10) - (gp_I s_21 46 7) from gp_wr_id (by omega) (by omega)]
      exact k _ s_21 hs_23 hf_24 (pd_28) (by first | omega | assumption) (by first | omega | assumption) (by first | omega | assumption) (by first | omega | assumption)
  · refine xp_refused _ hs (by omega) (fun x_55 s_56 hs_57 hf_58 p_59 => ⟨_, rfl, ?_⟩)
    have hf_60 : gX L true [2, 4, 8, 9, 10, 11, 12, 13, 14, 15, 21, 22, 47, 1034, 1196, 2475, 2476, 2477, 2478, 2479, 2480] s s_56 := gX.sub hf_58 rfl rfl
    have pd_61 : XS L s_56 := XS_fr q0 hf_58 rfl
    have q_62 : gp_I s_56 1 2 = gp_I s 1 2 := (hf_58.2.2.1 1 2 (by decide) (by decide) rfl).1
    have z_63 : gp_sz s_56 = gp_sz s ∧ gp_us s_56 = gp_us s := hf_58.2.1 rfl
    exact k _ s_56 hs_57 hf_60 (pd_61) (by first | omega | assumption) (by first | omega | assumption) (by first | omega | assumption) (by first | omega | assumption)
set_option maxRecDepth 100000 in
/-- GatheredPoints.strip -/
theorem xp_strip  {L d : Nat} {K : Option gV → gH → Prop} {s : gH}  (p0 : Int) (hs : XI L 0 s) (h_p0 : (-2147483648) ≤ p0 ∧ p0 ≤ 2147483647) (q0 : XS L s) (k : ∀ (r : Int), ∀ (t : gH), XI L 0 t → gX L true [2, 4, 8, 9, 10, 11, 12, 13, 14, 15, 49, 50, 1034, 1196, 2538] s t → (XS L t) → (0 ≤ p0 ∧ p0 ≤ 7 → gp_I t 1 2 = 0) → (p0 < 0 ∨ 7 < p0 → gp_I t 1 2 = gp_I s 1 2) → (gp_sz t ≤ gp_sz s + 6) → (gp_us t ≤ gp_us s + 310) → K (some (gp_i r)) t) : gs_C L (d + 52) 2819 4 [gp_r (some 1), gp_i p0] s K := by
  have f_1 := xr1_2 hs
  refine s_2819_e _ ?_
  refine xm_noSlot _ (by omega) (fun x_2 p_3 p_4 p_5 => ⟨_, rfl, ?_⟩)
  refine ⟨fun h_6 => ?_, fun h_6 => ?_⟩
  · have f_7 := xr1_2 hs
    refine xm_firstWrong _ hs (by omega) (fun x_8 p_9 p_10 => ⟨_, rfl, ?_⟩)
    have hok := p_10
    refine ⟨fun h_11 => ?_, fun h_11 => ?_⟩
    · have f_12 := xr1_2 hs
      refine xm_walk _ hs (by omega) ((hok (by omega)).2.2) (fun o_13 s_14 hs_15 hf_16 p_17 p_18 p_19 => ⟨_, rfl, ?_⟩)
      have hf_20 : gX L true [2, 4, 8, 9, 10, 11, 12, 13, 14, 15, 49, 50, 1034, 1196, 2538] s s_14 := gX.sub hf_16 rfl rfl
      have pd_21 : XS L s_14 := XS_fr q0 hf_16 rfl
      have q_22 : gp_I s_14 1 2 = gp_I s 1 2 := (hf_16.2.2.1 1 2 (by decide) (by decide) rfl).1
      have hrn0 := p_17
      refine s_2819_52 _ _ _ _ ?_
      intro s_24 e_25
      have hs_26 : XI L 0 s_24 := by rw [e_25]; exact xw1_2 hs_15 _ (by omega)
      have hf_27 : gX L true [2, 4, 8, 9, 10, 11, 12, 13, 14, 15, 49, 50, 1034, 1196, 2538] s s_24 := by rw [e_25]; exact gX.wI hf_20 (Or.inl rfl)
      have z_28 : gp_sz s_24 = gp_sz s_14 ∧ gp_us s_24 = gp_us s_14 := by rw [e_25]; exact ⟨rfl, rfl⟩
      have q_29 : gp_I s_24 1 2 = 0 := by rw [e_25]; exact (gz_rw _ _ _ _ _).1 rfl
      have pd_30 : XS L s_24 := by rw [e_25]; exact XS_fr pd_21 (gX.wI (gX.refl L true [1034] _) (Or.inl rfl)) rfl
      have hRN : (o_13 : Option Nat) = none ∨ ∃ a n, (o_13 : Option Nat) = some a ∧ kT L s_24 a n ∧ n ≤ 60 := by rw [‹s_24 = gp_wI _ 1 2 _›]; first | exact Or.inl rfl | exact hrn0
      refine ⟨fun h_31 => ?_, fun h_31 => ?_⟩
      · refine ⟨fun hq_32 => ?_, fun q_33 hq_32 => ?_⟩
        · refine xp_refused _ hs_26 (by omega) (fun x_34 s_35 hs_36 hf_37 p_38 => ⟨_, rfl, ?_⟩)
          have hf_39 : gX L true [2, 4, 8, 9, 10, 11, 12, 13, 14, 15, 49, 50, 1034, 1196, 2538] s s_35 := gX.trans hf_27 hf_37 rfl rfl
          have pd_40 : XS L s_35 := XS_fr pd_30 hf_37 rfl
          have q_41 : gp_I s_35 1 2 = gp_I s_24 1 2 := (hf_37.2.2.1 1 2 (by decide) (by decide) rfl).1
          have z_42 : gp_sz s_35 = gp_sz s_24 ∧ gp_us s_35 = gp_us s_24 := hf_37.2.1 rfl
          exact k _ s_35 hs_36 hf_39 (pd_40) (by first | omega | assumption) (by first | omega | assumption) (by first | omega | assumption) (by first | omega | assumption)
        · obtain ⟨n_43, kt_44, hn_45⟩ := nn_of hRN hq_32
          have hn_q_33 := kt_44.n hs_26
          refine xp_hold n_43 _ _ hs_26 (by omega) (by first | assumption | exact kT7 hs_26.1.1 | exact kT25 hs_26.1.1) (by first | omega | assumption) (pd_30) (fun x_46 s_47 hs_48 hf_49 p_50 p_51 => ⟨_, rfl, ?_⟩)
          have hf_52 : gX L true [2, 4, 8, 9, 10, 11, 12, 13, 14, 15, 49, 50, 1034, 1196, 2538] s s_47 := gX.trans hf_27 hf_49 rfl rfl
          have kt_53 : kT L s_47 q_33 n_43 := kt_44.fr hf_49.1
          have q_54 : gp_I s_47 1 2 = gp_I s_24 1 2 := (hf_49.2.2.1 1 2 (by decide) (by decide) rfl).1
          have z_55 : gp_sz s_47 = gp_sz s_24 ∧ gp_us s_47 = gp_us s_24 := hf_49.2.1 rfl
          exact k _ s_47 hs_48 hf_52 (p_51) (by first | omega | assumption) (by first | omega | assumption) (by first | omega | assumption) (by first | omega | assumption)
      · exfalso; omega
    · refine s_2819_52 _ _ _ _ ?_
      intro s_57 e_58
      have hs_59 : XI L 0 s_57 := by rw [e_58]; exact xw1_2 hs _ (by omega)
      have hf_60 : gX L true [2, 4, 8, 9, 10, 11, 12, 13, 14, 15, 49, 50, 1034, 1196, 2538] s s_57 := by rw [e_58]; exact gX.wI (gX.refl _ _ _ _) (Or.inl rfl)
      have z_61 : gp_sz s_57 = gp_sz s ∧ gp_us s_57 = gp_us s := by rw [e_58]; exact ⟨rfl, rfl⟩
      have q_62 : gp_I s_57 1 2 = 0 := by rw [e_58]; exact (gz_rw _ _ _ _ _).1 rfl
      have pd_63 : XS L s_57 := by rw [e_58]; exact XS_fr q0 (gX.wI (gX.refl L true [1034] _) (Or.inl rfl)) rfl
      have hRN : (none : Option Nat) = none ∨ ∃ a n, (none : Option Nat) = some a ∧ kT L s_57 a n ∧ n ≤ 60 := by rw [‹s_57 = gp_wI _ 1 2 _›]; first | exact Or.inl rfl | exact hrn0
      refine ⟨fun h_64 => ?_, fun h_64 => ?_⟩
      · exfalso; omega
      · try rw [show gp_wr ((-10) - x_8) = (-10) - x_8 from gp_wr_id (by omega) (by omega)]
        exact k _ s_57 hs_59 hf_60 (pd_63) (by first | omega | assumption) (by first | omega | assumption) (by first | omega | assumption) (by first | omega | assumption)
  · refine xp_refused _ hs (by omega) (fun x_65 s_66 hs_67 hf_68 p_69 => ⟨_, rfl, ?_⟩)
    have hf_70 : gX L true [2, 4, 8, 9, 10, 11, 12, 13, 14, 15, 49, 50, 1034, 1196, 2538] s s_66 := gX.sub hf_68 rfl rfl
    have pd_71 : XS L s_66 := XS_fr q0 hf_68 rfl
    have q_72 : gp_I s_66 1 2 = gp_I s 1 2 := (hf_68.2.2.1 1 2 (by decide) (by decide) rfl).1
    have z_73 : gp_sz s_66 = gp_sz s ∧ gp_us s_66 = gp_us s := hf_68.2.1 rfl
    exact k _ s_66 hs_67 hf_70 (pd_71) (by first | omega | assumption) (by first | omega | assumption) (by first | omega | assumption) (by first | omega | assumption)
set_option maxRecDepth 100000 in
/-- GatheredPoints.sizes -/
theorem xp_sizes  {L d : Nat} {K : Option gV → gH → Prop} {s : gH}   (hs : XI L 0 s)  (q0 : XS L s) (k : ∀ (r : Int), (0 ≤ r ∧ r ≤ 480) → K (some (gp_i r)) s) : gs_C L d 2852 3 [gp_r (some 1)] s K := by
  refine s_2852_e ?_
  have lp_1 : ∀ (n_1 : Nat) (v1_1 : Int) (v2_1 : Int), (0 ≤ v1_1 ∧ v1_1 ≤ 480) → (0 ≤ v2_1 ∧ v2_1 ≤ 8) → (v1_1 ≤ 60 * v2_1) → (9 - v2_1).toNat < n_1 → gs_E L d 2852 4 [gp_r (some 1), gp_i v1_1, gp_i v2_1] [] s K := by
    intro n_1
    induction n_1 with
    | zero => intro v1_1 v2_1 hv1_1 hv2_1 iv0_1 hm_1; exact absurd hm_1 (Nat.not_lt_zero _)
    | succ n_1 ih_1 =>
      intro v1_1 v2_1 hv1_1 hv2_1 iv0_1 hm_1
      refine s_2852_4 _ _ ?_
      refine ⟨fun h_2 => ?_, fun h_2 => ?_⟩
      · refine ⟨by omega, ?_⟩
        obtain ⟨a_3, n_4, e_5, kt_6, hn_7⟩ := XS.get (q0) (Int.toNat v2_1) (by omega)
        have hn_a_3 := kt_6.n hs
        refine ⟨a_3, e_5, ?_⟩
        refine ⟨kt_6.2.1, ?_⟩
        have f_8 := (kt_6.tt hs).1.2.2.1
        have f_9 := kt_6.n hs
        try rw [show gp_wr (v1_1 + (gp_I s a_3 0)) = v1_1 + (gp_I s a_3 0) from gp_wr_id (by omega) (by omega)]
        try rw [show gp_wr (v2_1 + 1) = v2_1 + 1 from gp_wr_id (by omega) (by omega)]
        exact ih_1 _ _ (by omega) (by omega) (by first | omega | assumption) (by omega)
      · exact k _ (by omega)
  exact lp_1 _ _ _ (by omega) (by omega) (by first | omega | assumption) (Nat.lt_succ_self _)
set_option maxRecDepth 100000 in
/-- GatheredPoints.sureSlots -/
theorem xp_sureSlots  {L d : Nat} {K : Option gV → gH → Prop} {s : gH}   (hs : XI L 0 s)  (q0 : XS L s) (k : ∀ (r : Int), ∀ (t : gH), XI L 0 t → gX L false [36, 37] s t → (0 ≤ r ∧ r ≤ 8) → K (some (gp_i r)) t) : gs_C L (d + 4) 2853 3 [gp_r (some 1)] s K := by
  refine s_2853_e ?_
  have lp_1 : ∀ (n_1 : Nat) (v1_1 : Int) (v2_1 : Int) (s_1 : gH), (XI L 0 s_1) → (gX L false [36, 37] s s_1) → (XS L s_1) → (0 ≤ v1_1 ∧ v1_1 ≤ 8) → (0 ≤ v2_1 ∧ v2_1 ≤ 8) → (v1_1 ≤ v2_1) → (Int.toNat (9 - v2_1)) < n_1 → gs_E L (d + 4) 2853 4 [gp_r (some 1), gp_i v1_1, gp_i v2_1] [] s_1 K := by
    intro n_1
    induction n_1 with
    | zero => intro v1_1 v2_1 s_1 hs_s_1 hf_s_1 XS_L_s_1 hv1_1 hv2_1 iv0_1 hm_1; exact absurd hm_1 (Nat.not_lt_zero _)
    | succ n_1 ih_1 =>
      intro v1_1 v2_1 s_1 hs_s_1 hf_s_1 XS_L_s_1 hv1_1 hv2_1 iv0_1 hm_1
      refine s_2853_4 _ _ ?_
      refine ⟨fun h_2 => ?_, fun h_2 => ?_⟩
      · refine ⟨by omega, ?_⟩
        obtain ⟨a_3, n_4, e_5, kt_6, hn_7⟩ := XS.get (XS_L_s_1) (Int.toNat v2_1) (by omega)
        have hn_a_3 := kt_6.n hs_s_1
        rw [show gp_r (gp_R (gp_mk L s_1) 4 (Int.toNat v2_1)) = gp_r (some a_3) from congrArg gp_r e_5]
        refine xm_sure n_4 _ hs_s_1 (by first | assumption | exact kT7 hs_s_1.1.1 | exact kT25 hs_s_1.1.1) (by first | omega | assumption) (fun x_8 s_9 hs_10 hf_11 p_12 => ⟨_, rfl, ?_⟩)
        have hf_13 : gX L false [36, 37] s s_9 := gX.trans hf_s_1 hf_11 rfl rfl
        have kt_14 : kT L s_9 a_3 n_4 := kt_6.fr hf_11.1
        have pd_15 : XS L s_9 := XS_fr XS_L_s_1 hf_11 rfl
        refine ⟨fun h_16 => ?_, fun h_16 => ?_⟩
        · refine s_2853_29 _ _ ?_
          try rw [show gp_wr (v2_1 + 1) = v2_1 + 1 from gp_wr_id (by omega) (by omega)]
          exact ih_1 _ _ _ hs_10 hf_13 pd_15 (by omega) (by omega) (by first | omega | assumption) (by omega)
        · try rw [show gp_wr (v1_1 + 1) = v1_1 + 1 from gp_wr_id (by omega) (by omega)]
          refine s_2853_29 _ _ ?_
          try rw [show gp_wr (v2_1 + 1) = v2_1 + 1 from gp_wr_id (by omega) (by omega)]
          exact ih_1 _ _ _ hs_10 hf_13 pd_15 (by omega) (by omega) (by first | omega | assumption) (by omega)
      · exact k _ s_1 hs_s_1 hf_s_1 (by omega)
  exact lp_1 _ _ _ _ hs (gX.refl _ _ _ _) q0 (by omega) (by omega) (by first | omega | assumption) (Nat.lt_succ_self _)
set_option maxRecDepth 100000 in
/-- GatheredPoints.seed -/
theorem xp_seed  {L d : Nat} {K : Option gV → gH → Prop} {s : gH}  (p0 : Int) (hs : XI L 0 s) (h_p0 : (-2147483648) ≤ p0 ∧ p0 ≤ 2147483647)  (k : ∀ (r : Int), ∀ (t : gH), XI L 0 t → gX L false [1039] s t → K (some (gp_i r)) t) : gs_C L d 2847 3 [gp_r (some 1), gp_i p0] s K := by
  refine s_2847_e _ ?_
  intro s_1 e_2
  have hs_3 : XI L 0 s_1 := by rw [e_2]; exact xw1_7 hs _
  have hf_4 : gX L false [1039] s s_1 := by rw [e_2]; exact gX.wI (gX.refl _ _ _ _) (Or.inl rfl)
  exact k _ s_1 hs_3 hf_4
set_option maxRecDepth 100000 in
/-- GatheredPoints.told -/
theorem xp_told  {L d : Nat} {K : Option gV → gH → Prop} {s : gH}  (p0 : Int) (hs : XI L 0 s) (h_p0 : (-2147483648) ≤ p0 ∧ p0 ≤ 2147483647)  (k : ∀ (r : Int), ∀ (t : gH), XI L 0 t → gX L false [2] s t → K (some (gp_i r)) t) : gs_C L (d + 1) 2851 2 [gp_r (some 1), gp_i p0] s K := by
  refine s_2851_e _ ?_
  refine ⟨fun h_1 => ?_, fun h_1 => ?_⟩
  · refine s_2851_11 _ ?_
    refine xp_refused _ hs (by omega) (fun x_2 s_3 hs_4 hf_5 p_6 => ⟨_, rfl, ?_⟩)
    have hf_7 : gX L false [2] s s_3 := gX.sub hf_5 rfl rfl
    exact k _ s_3 hs_4 hf_7
  · refine ⟨fun h_8 => ?_, fun h_8 => ?_⟩
    · refine s_2851_11 _ ?_
      refine xp_refused _ hs (by omega) (fun x_9 s_10 hs_11 hf_12 p_13 => ⟨_, rfl, ?_⟩)
      have hf_14 : gX L false [2] s s_10 := gX.sub hf_12 rfl rfl
      exact k _ s_10 hs_11 hf_14
    · refine ⟨by omega, ?_⟩
      exact k _ s hs (gX.refl _ _ _ _)
set_option maxRecDepth 100000 in
/-- GatheredPoints.count -/
theorem xp_count  {L d : Nat} {K : Option gV → gH → Prop} {s : gH}  (p0 : Int) (hs : XI L 0 s) (h_p0 : (-2147483648) ≤ p0 ∧ p0 ≤ 2147483647) (q0 : XS L s) (k : ∀ (r : Int), ∀ (t : gH), XI L 0 t → gX L false [2, 36, 37] s t → K (some (gp_i r)) t) : gs_C L (d + 5) 2850 2 [gp_r (some 1), gp_i p0] s K := by
  refine s_2850_e _ ?_
  refine ⟨fun h_1 => ?_, fun h_1 => ?_, fun h_1 => ?_, fun h_1 => ?_, fun h_1 => ?_, fun h_1 => ?_⟩
  · refine xp_sizes hs (q0) (fun x_2 p_3 => ⟨_, rfl, ?_⟩)
    exact k _ s hs (gX.refl _ _ _ _)
  · refine xp_sureSlots hs (q0) (fun x_4 s_5 hs_6 hf_7 p_8 => ⟨_, rfl, ?_⟩)
    have hf_9 : gX L false [2, 36, 37] s s_5 := gX.sub hf_7 rfl rfl
    have pd_10 : XS L s_5 := XS_fr q0 hf_7 rfl
    exact k _ s_5 hs_6 hf_9
  · have f_11 := xr1_2 hs
    exact k _ s hs (gX.refl _ _ _ _)
  · have f_12 := xr57_1 hs
    refine ⟨fun h_13 => ?_, fun h_13 => ?_⟩
    · refine s_2850_72 _ _ ?_
      exact k _ s hs (gX.refl _ _ _ _)
    · have f_14 := xr57_3 hs
      refine s_2850_72 _ _ ?_
      exact k _ s hs (gX.refl _ _ _ _)
  · exact k _ s hs (gX.refl _ _ _ _)
  · refine xp_refused _ hs (by omega) (fun x_15 s_16 hs_17 hf_18 p_19 => ⟨_, rfl, ?_⟩)
    have hf_20 : gX L false [2, 36, 37] s s_16 := gX.sub hf_18 rfl rfl
    have pd_21 : XS L s_16 := XS_fr q0 hf_18 rfl
    exact k _ s_16 hs_17 hf_20
set_option maxRecDepth 100000 in
/-- GatheredPoints.image -/
theorem xp_image  {L d : Nat} {K : Option gV → gH → Prop} {s : gH}   (hs : XI L 0 s)  (q0 : XS L s) (q1 : XK L s) (k : ∀ (r : Int), ∀ (t : gH), XI L 0 t → gX L false [5, 1037, 1038] s t → (XK L t) → K (some (gp_i r)) t) : gs_C L d 2848 2 [gp_r (some 1)] s K := by
  refine s_2848_e ?_
  have lp_1 : ∀ (n_1 : Nat) (v1_1 : Int) (s_1 : gH), (XI L 0 s_1) → (gX L false [5, 1037, 1038] s s_1) → (XS L s_1) → (XK L s_1) → (0 ≤ v1_1 ∧ v1_1 ≤ 8) → (9 - v1_1).toNat < n_1 → gs_E L d 2848 2 [gp_r (some 1), gp_i v1_1] [] s_1 K := by
    intro n_1
    induction n_1 with
    | zero => intro v1_1 s_1 hs_s_1 hf_s_1 XS_L_s_1 XK_L_s_1 hv1_1 hm_1; exact absurd hm_1 (Nat.not_lt_zero _)
    | succ n_1 ih_1 =>
      intro v1_1 s_1 hs_s_1 hf_s_1 XS_L_s_1 XK_L_s_1 hv1_1 hm_1
      refine s_2848_2 _ ?_
      refine ⟨fun h_2 => ?_, fun h_2 => ?_⟩
      · refine ⟨by omega, ?_⟩
        obtain ⟨a_3, n_4, e_5, kt_6, hn_7⟩ := XS.get (XS_L_s_1) (Int.toNat v1_1) (by omega)
        have hn_a_3 := kt_6.n hs_s_1
        have hxk9 := XK_L_s_1
        refine ⟨a_3, e_5, ?_⟩
        refine ⟨by omega, ?_⟩
        refine ⟨kt_6.2.1, ?_⟩
        intro s_8 e_9
        have hs_10 : XI L 0 s_8 := by rw [e_9]; exact XI.wR hs_s_1 5 (Int.toNat v1_1) _ (Or.inl (show ¬ (gp_ss 5).1 = 9 by decide))
        have hf_11 : gX L false [5, 1037, 1038] s s_8 := by rw [e_9]; exact gX.wR hf_s_1 (Or.inl rfl) (Or.inl (show ¬ (gp_ss 5).1 = 9 by decide))
        have kt_12 : kT L s_8 a_3 n_4 := by rw [e_9]; exact kt_6
        have pd_13 : XS L s_8 := by rw [e_9]; exact XS_fr XS_L_s_1 (gX.wR (gX.refl L true [5] _) (Or.inl rfl) (Or.inl (show ¬ (gp_ss 5).1 = 9 by decide))) rfl
        have hxk8 : XK L s_8 := XK_set hxk9 (by assumption) (by assumption) (by omega)
        try rw [show gp_wr (v1_1 + 1) = v1_1 + 1 from gp_wr_id (by omega) (by omega)]
        exact ih_1 _ _ hs_10 hf_11 pd_13 hxk8 (by omega) (by omega)
      · intro s_14 e_15
        have hs_16 : XI L 0 s_14 := by rw [e_15]; exact xw1_5 hs_s_1 _
        have hf_17 : gX L false [5, 1037, 1038] s s_14 := by rw [e_15]; exact gX.wI hf_s_1 (Or.inl rfl)
        have pd_18 : XS L s_14 := by rw [e_15]; exact XS_fr XS_L_s_1 (gX.wI (gX.refl L true [1037] _) (Or.inl rfl)) rfl
        have pd_19 : XK L s_14 := by rw [e_15]; exact XK_fr XK_L_s_1 (gX.wI (gX.refl L true [1037] _) (Or.inl rfl)) rfl
        have w_20 := wr_rng ((gp_I s_14 1 6) + 1)
        intro s_21 e_22
        have hs_23 : XI L 0 s_21 := by rw [e_22]; exact xw1_6 hs_16 _
        have hf_24 : gX L false [5, 1037, 1038] s s_21 := by rw [e_22]; exact gX.wI hf_17 (Or.inl rfl)
        have pd_25 : XS L s_21 := by rw [e_22]; exact XS_fr pd_18 (gX.wI (gX.refl L true [1038] _) (Or.inl rfl)) rfl
        have pd_26 : XK L s_21 := by rw [e_22]; exact XK_fr pd_19 (gX.wI (gX.refl L true [1038] _) (Or.inl rfl)) rfl
        exact k _ s_21 hs_23 hf_24 (pd_26)
  exact lp_1 _ _ _ hs (gX.refl _ _ _ _) q0 q1 (by omega) (Nat.lt_succ_self _)
set_option maxRecDepth 100000 in
/-- GatheredPoints.restore -/
theorem xp_restore  {L d : Nat} {K : Option gV → gH → Prop} {s : gH}   (hs : XI L 0 s)  (q0 : XS L s) (q1 : XK L s) (k : ∀ (r : Int), ∀ (t : gH), XI L 0 t → gX L false [2, 4, 1039] s t → (XS L t) → K (some (gp_i r)) t) : gs_C L (d + 1) 2849 2 [gp_r (some 1)] s K := by
  refine s_2849_e ?_
  refine ⟨fun h_1 => ?_, fun h_1 => ?_⟩
  · refine xp_refused _ hs (by omega) (fun x_2 s_3 hs_4 hf_5 p_6 => ⟨_, rfl, ?_⟩)
    have hf_7 : gX L false [2, 4, 1039] s s_3 := gX.sub hf_5 rfl rfl
    have pd_8 : XS L s_3 := XS_fr q0 hf_5 rfl
    have pd_9 : XK L s_3 := XK_fr q1 hf_5 rfl
    exact k _ s_3 hs_4 hf_7 (pd_8)
  · have lp_10 : ∀ (n_10 : Nat) (v1_10 : Int) (s_10 : gH), (XI L 0 s_10) → (gX L false [2, 4, 1039] s s_10) → (XS L s_10) → (XK L s_10) → (0 ≤ v1_10 ∧ v1_10 ≤ 8) → (9 - v1_10).toNat < n_10 → gs_E L (d + 1) 2849 15 [gp_r (some 1), gp_i v1_10] [] s_10 K := by
      intro n_10
      induction n_10 with
      | zero => intro v1_10 s_10 hs_s_10 hf_s_10 XS_L_s_10 XK_L_s_10 hv1_10 hm_10; exact absurd hm_10 (Nat.not_lt_zero _)
      | succ n_10 ih_10 =>
        intro v1_10 s_10 hs_s_10 hf_s_10 XS_L_s_10 XK_L_s_10 hv1_10 hm_10
        refine s_2849_15 _ ?_
        refine ⟨fun h_11 => ?_, fun h_11 => ?_⟩
        · refine ⟨by omega, ?_⟩
          obtain ⟨a_12, n_13, e_14, kt_15, hn_16⟩ := XS.kept (XK_L_s_10) (Int.toNat v1_10) (by omega)
          have hn_a_12 := kt_15.n hs_s_10
          have hxs9 := XS_L_s_10
          refine ⟨a_12, e_14, ?_⟩
          refine ⟨by omega, ?_⟩
          refine ⟨kt_15.2.1, ?_⟩
          intro s_17 e_18
          have hs_19 : XI L 0 s_17 := by rw [e_18]; exact XI.wR hs_s_10 4 (Int.toNat v1_10) _ (Or.inl (show ¬ (gp_ss 4).1 = 9 by decide))
          have hf_20 : gX L false [2, 4, 1039] s s_17 := by rw [e_18]; exact gX.wR hf_s_10 (Or.inl rfl) (Or.inl (show ¬ (gp_ss 4).1 = 9 by decide))
          have kt_21 : kT L s_17 a_12 n_13 := by rw [e_18]; exact kt_15
          have pd_22 : XK L s_17 := by rw [e_18]; exact XK_fr XK_L_s_10 (gX.wR (gX.refl L true [4] _) (Or.inl rfl) (Or.inl (show ¬ (gp_ss 4).1 = 9 by decide))) rfl
          have hxs8 : XS L s_17 := XS_set hxs9 (by assumption) (by assumption) (by omega)
          try rw [show gp_wr (v1_10 + 1) = v1_10 + 1 from gp_wr_id (by omega) (by omega)]
          exact ih_10 _ _ hs_19 hf_20 hxs8 pd_22 (by omega) (by omega)
        · intro s_23 e_24
          have hs_25 : XI L 0 s_23 := by rw [e_24]; exact xw1_7 hs_s_10 _
          have hf_26 : gX L false [2, 4, 1039] s s_23 := by rw [e_24]; exact gX.wI hf_s_10 (Or.inl rfl)
          have pd_27 : XS L s_23 := by rw [e_24]; exact XS_fr XS_L_s_10 (gX.wI (gX.refl L true [1039] _) (Or.inl rfl)) rfl
          have pd_28 : XK L s_23 := by rw [e_24]; exact XK_fr XK_L_s_10 (gX.wI (gX.refl L true [1039] _) (Or.inl rfl)) rfl
          refine xp_sizes hs_25 (pd_27) (fun x_29 p_30 => ⟨_, rfl, ?_⟩)
          exact k _ s_23 hs_25 hf_26 (pd_27)
    exact lp_10 _ _ _ hs (gX.refl _ _ _ _) q0 q1 (by omega) (Nat.lt_succ_self _)
set_option maxRecDepth 100000 in
/-- GatheredPoints.sheet -/
theorem xp_sheet  {L d : Nat} {K : Option gV → gH → Prop} {s : gH}  (p0 : Int) (p1 : Int) (p2 : Int) (hs : XI L 0 s) (h_p0 : (-2147483648) ≤ p0 ∧ p0 ≤ 2147483647) (h_p1 : (-2147483648) ≤ p1 ∧ p1 ≤ 2147483647) (h_p2 : (-2147483648) ≤ p2 ∧ p2 ≤ 2147483647)  (k : ∀ (r : Int), ∀ (t : gH), XI L 0 t → gX L false [2, 68, 69, 70, 71, 72, 73] s t → K (some (gp_i r)) t) : gs_C L (d + 1) 2842 4 [gp_r (some 1), gp_i p0, gp_i p1, gp_i p2] s K := by
  refine s_2842_e _ _ _ ?_
  refine xm_sh_beyond _ hs (fun x_1 p_2 p_3 => ⟨_, rfl, ?_⟩)
  refine ⟨fun h_4 => ?_, fun h_4 => ?_⟩
  · refine ⟨fun h_5 => ?_, fun h_5 => ?_⟩
    · refine s_2842_39 _ _ _ ?_
      refine ⟨fun h_6 => ?_, fun h_6 => ?_⟩
      · refine s_2842_53 _ _ _ ?_
        refine ⟨fun h_7 => ?_, fun h_7 => ?_⟩
        · refine s_2842_69 _ _ _ ?_
          refine ⟨fun h_8 => ?_, fun h_8 => ?_⟩
          · refine s_2842_84 _ _ _ _ _ _ ?_
            refine xm_sh_lay _ _ _ hs (by omega) (by omega) (fun s_9 hs_10 hf_11 => ⟨rfl, ?_⟩)
            have hf_12 : gX L false [2, 68, 69, 70, 71, 72, 73] s s_9 := gX.sub hf_11 rfl rfl
            exact k _ s_9 hs_10 hf_12
          · exfalso; omega
        · exfalso; omega
      · exfalso; omega
    · refine ⟨fun h_13 => ?_, fun h_13 => ?_⟩
      · refine s_2842_39 _ _ _ ?_
        refine ⟨fun h_14 => ?_, fun h_14 => ?_⟩
        · exfalso; omega
        · refine ⟨fun h_15 => ?_, fun h_15 => ?_⟩
          · refine xp_refused _ hs (by omega) (fun x_16 s_17 hs_18 hf_19 p_20 => ⟨_, rfl, ?_⟩)
            have hf_21 : gX L false [2, 68, 69, 70, 71, 72, 73] s s_17 := gX.sub hf_19 rfl rfl
            exact k _ s_17 hs_18 hf_21
          · refine s_2842_53 _ _ _ ?_
            refine ⟨fun h_22 => ?_, fun h_22 => ?_⟩
            · exfalso; omega
            · refine ⟨fun h_23 => ?_, fun h_23 => ?_⟩
              · refine xp_refused _ hs (by omega) (fun x_24 s_25 hs_26 hf_27 p_28 => ⟨_, rfl, ?_⟩)
                have hf_29 : gX L false [2, 68, 69, 70, 71, 72, 73] s s_25 := gX.sub hf_27 rfl rfl
                exact k _ s_25 hs_26 hf_29
              · refine s_2842_69 _ _ _ ?_
                refine ⟨fun h_30 => ?_, fun h_30 => ?_⟩
                · exfalso; omega
                · refine s_2842_84 _ _ _ _ _ _ ?_
                  refine xm_sh_lay _ _ _ hs (by omega) (by omega) (fun s_31 hs_32 hf_33 => ⟨rfl, ?_⟩)
                  have hf_34 : gX L false [2, 68, 69, 70, 71, 72, 73] s s_31 := gX.sub hf_33 rfl rfl
                  exact k _ s_31 hs_32 hf_34
      · refine ⟨fun h_35 => ?_, fun h_35 => ?_⟩
        · refine s_2842_39 _ _ _ ?_
          refine ⟨fun h_36 => ?_, fun h_36 => ?_⟩
          · exfalso; omega
          · refine ⟨fun h_37 => ?_, fun h_37 => ?_⟩
            · refine xp_refused _ hs (by omega) (fun x_38 s_39 hs_40 hf_41 p_42 => ⟨_, rfl, ?_⟩)
              have hf_43 : gX L false [2, 68, 69, 70, 71, 72, 73] s s_39 := gX.sub hf_41 rfl rfl
              exact k _ s_39 hs_40 hf_43
            · refine s_2842_53 _ _ _ ?_
              refine ⟨fun h_44 => ?_, fun h_44 => ?_⟩
              · exfalso; omega
              · refine ⟨fun h_45 => ?_, fun h_45 => ?_⟩
                · refine xp_refused _ hs (by omega) (fun x_46 s_47 hs_48 hf_49 p_50 => ⟨_, rfl, ?_⟩)
                  have hf_51 : gX L false [2, 68, 69, 70, 71, 72, 73] s s_47 := gX.sub hf_49 rfl rfl
                  exact k _ s_47 hs_48 hf_51
                · refine s_2842_69 _ _ _ ?_
                  refine ⟨fun h_52 => ?_, fun h_52 => ?_⟩
                  · exfalso; omega
                  · refine s_2842_84 _ _ _ _ _ _ ?_
                    refine xm_sh_lay _ _ _ hs (by omega) (by omega) (fun s_53 hs_54 hf_55 => ⟨rfl, ?_⟩)
                    have hf_56 : gX L false [2, 68, 69, 70, 71, 72, 73] s s_53 := gX.sub hf_55 rfl rfl
                    exact k _ s_53 hs_54 hf_56
        · refine ⟨fun h_57 => ?_, fun h_57 => ?_⟩
          · refine s_2842_39 _ _ _ ?_
            refine ⟨fun h_58 => ?_, fun h_58 => ?_⟩
            · exfalso; omega
            · refine ⟨fun h_59 => ?_, fun h_59 => ?_⟩
              · refine xp_refused _ hs (by omega) (fun x_60 s_61 hs_62 hf_63 p_64 => ⟨_, rfl, ?_⟩)
                have hf_65 : gX L false [2, 68, 69, 70, 71, 72, 73] s s_61 := gX.sub hf_63 rfl rfl
                exact k _ s_61 hs_62 hf_65
              · refine s_2842_53 _ _ _ ?_
                refine ⟨fun h_66 => ?_, fun h_66 => ?_⟩
                · exfalso; omega
                · refine ⟨fun h_67 => ?_, fun h_67 => ?_⟩
                  · refine xp_refused _ hs (by omega) (fun x_68 s_69 hs_70 hf_71 p_72 => ⟨_, rfl, ?_⟩)
                    have hf_73 : gX L false [2, 68, 69, 70, 71, 72, 73] s s_69 := gX.sub hf_71 rfl rfl
                    exact k _ s_69 hs_70 hf_73
                  · refine s_2842_69 _ _ _ ?_
                    refine ⟨fun h_74 => ?_, fun h_74 => ?_⟩
                    · exfalso; omega
                    · refine s_2842_84 _ _ _ _ _ _ ?_
                      refine xm_sh_lay _ _ _ hs (by omega) (by omega) (fun s_75 hs_76 hf_77 => ⟨rfl, ?_⟩)
                      have hf_78 : gX L false [2, 68, 69, 70, 71, 72, 73] s s_75 := gX.sub hf_77 rfl rfl
                      exact k _ s_75 hs_76 hf_78
          · refine s_2842_33 _ _ _ ?_
            refine xp_refused _ hs (by omega) (fun x_79 s_80 hs_81 hf_82 p_83 => ⟨_, rfl, ?_⟩)
            have hf_84 : gX L false [2, 68, 69, 70, 71, 72, 73] s s_80 := gX.sub hf_82 rfl rfl
            exact k _ s_80 hs_81 hf_84
  · refine s_2842_33 _ _ _ ?_
    refine xp_refused _ hs (by omega) (fun x_85 s_86 hs_87 hf_88 p_89 => ⟨_, rfl, ?_⟩)
    have hf_90 : gX L false [2, 68, 69, 70, 71, 72, 73] s s_86 := gX.sub hf_88 rfl rfl
    exact k _ s_86 hs_87 hf_90
set_option maxRecDepth 100000 in
/-- GatheredPoints.put -/
theorem xp_put  {L d : Nat} {K : Option gV → gH → Prop} {s : gH}  (p0 : Int) (p1 : Int) (p2 : Int) (hs : XI L 0 s) (h_p0 : (-2147483648) ≤ p0 ∧ p0 ≤ 2147483647) (h_p1 : (-2147483648) ≤ p1 ∧ p1 ≤ 2147483647) (h_p2 : (-2147483648) ≤ p2 ∧ p2 ≤ 2147483647)  (k : ∀ (r : Int), ∀ (t : gH), XI L 0 t → gX L false [2, 68, 69, 70, 71] s t → K (some (gp_i r)) t) : gs_C L (d + 1) 2843 4 [gp_r (some 1), gp_i p0, gp_i p1, gp_i p2] s K := by
  refine s_2843_e _ _ _ ?_
  refine xm_sh_beyond _ hs (fun x_1 p_2 p_3 => ⟨_, rfl, ?_⟩)
  refine ⟨fun h_4 => ?_, fun h_4 => ?_⟩
  · refine xm_sh_missing _ hs (by omega) (fun x_5 p_6 => ⟨_, rfl, ?_⟩)
    refine ⟨fun h_7 => ?_, fun h_7 => ?_⟩
    · refine ⟨fun h_8 => ?_, fun h_8 => ?_⟩
      · refine s_2843_51 _ _ _ ?_
        refine xp_refused _ hs (by omega) (fun x_9 s_10 hs_11 hf_12 p_13 => ⟨_, rfl, ?_⟩)
        have hf_14 : gX L false [2, 68, 69, 70, 71] s s_10 := gX.sub hf_12 rfl rfl
        exact k _ s_10 hs_11 hf_14
      · refine ⟨by omega, ?_⟩
        have f_15 := xr73 hs (Int.toNat p0)
        refine ⟨fun h_16 => ?_, fun h_16 => ?_⟩
        · refine xm_sh_write _ _ _ hs (by omega) (by omega) (fun s_17 hs_18 hf_19 => ⟨rfl, ?_⟩)
          have hf_20 : gX L false [2, 68, 69, 70, 71] s s_17 := gX.sub hf_19 rfl rfl
          exact k _ s_17 hs_18 hf_20
        · refine s_2843_51 _ _ _ ?_
          refine xp_refused _ hs (by omega) (fun x_21 s_22 hs_23 hf_24 p_25 => ⟨_, rfl, ?_⟩)
          have hf_26 : gX L false [2, 68, 69, 70, 71] s s_22 := gX.sub hf_24 rfl rfl
          exact k _ s_22 hs_23 hf_26
    · refine xp_refused _ hs (by omega) (fun x_27 s_28 hs_29 hf_30 p_31 => ⟨_, rfl, ?_⟩)
      have hf_32 : gX L false [2, 68, 69, 70, 71] s s_28 := gX.sub hf_30 rfl rfl
      exact k _ s_28 hs_29 hf_32
  · refine xp_refused _ hs (by omega) (fun x_33 s_34 hs_35 hf_36 p_37 => ⟨_, rfl, ?_⟩)
    have hf_38 : gX L false [2, 68, 69, 70, 71] s s_34 := gX.sub hf_36 rfl rfl
    exact k _ s_34 hs_35 hf_38
set_option maxRecDepth 100000 in
/-- GatheredPoints.number -/
theorem xp_number  {L d : Nat} {K : Option gV → gH → Prop} {s : gH}  (p0 : Int) (p1 : Int) (hs : XI L 0 s) (h_p0 : (-2147483648) ≤ p0 ∧ p0 ≤ 2147483647) (h_p1 : (-2147483648) ≤ p1 ∧ p1 ≤ 2147483647)  (k : ∀ (r : Int), ∀ (t : gH), XI L 0 t → gX L false [2] s t → K (some (gp_i r)) t) : gs_C L (d + 1) 2844 3 [gp_r (some 1), gp_i p0, gp_i p1] s K := by
  refine s_2844_e _ _ ?_
  refine xm_sh_beyond _ hs (fun x_1 p_2 p_3 => ⟨_, rfl, ?_⟩)
  refine ⟨fun h_4 => ?_, fun h_4 => ?_⟩
  · refine xm_sh_missing _ hs (by omega) (fun x_5 p_6 => ⟨_, rfl, ?_⟩)
    refine ⟨fun h_7 => ?_, fun h_7 => ?_⟩
    · refine ⟨fun h_8 => ?_, fun h_8 => ?_⟩
      · refine s_2844_51 _ _ ?_
        refine xp_refused _ hs (by omega) (fun x_9 s_10 hs_11 hf_12 p_13 => ⟨_, rfl, ?_⟩)
        have hf_14 : gX L false [2] s s_10 := gX.sub hf_12 rfl rfl
        exact k _ s_10 hs_11 hf_14
      · refine ⟨by omega, ?_⟩
        have f_15 := xr73 hs (Int.toNat p0)
        refine ⟨fun h_16 => ?_, fun h_16 => ?_⟩
        · refine ⟨by omega, ?_⟩
          refine ⟨(68 + Int.toNat p0), shR (by omega), ?_⟩
          refine ⟨gin (rowsh ⟨by omega, by omega⟩) (by omega), ?_⟩
          exact k _ s hs (gX.refl _ _ _ _)
        · refine s_2844_51 _ _ ?_
          refine xp_refused _ hs (by omega) (fun x_17 s_18 hs_19 hf_20 p_21 => ⟨_, rfl, ?_⟩)
          have hf_22 : gX L false [2] s s_18 := gX.sub hf_20 rfl rfl
          exact k _ s_18 hs_19 hf_22
    · refine xp_refused _ hs (by omega) (fun x_23 s_24 hs_25 hf_26 p_27 => ⟨_, rfl, ?_⟩)
      have hf_28 : gX L false [2] s s_24 := gX.sub hf_26 rfl rfl
      exact k _ s_24 hs_25 hf_28
  · refine xp_refused _ hs (by omega) (fun x_29 s_30 hs_31 hf_32 p_33 => ⟨_, rfl, ?_⟩)
    have hf_34 : gX L false [2] s s_30 := gX.sub hf_32 rfl rfl
    exact k _ s_30 hs_31 hf_34
set_option maxRecDepth 100000 in
/-- GatheredPoints.shift -/
theorem xp_shift  {L d : Nat} {K : Option gV → gH → Prop} {s : gH}  (p0 : Int) (p1 : Int) (p2 : Int) (p3 : Int) (p4 : Int) (hs : XI L 0 s) (h_p0 : (-2147483648) ≤ p0 ∧ p0 ≤ 2147483647) (h_p1 : (-2147483648) ≤ p1 ∧ p1 ≤ 2147483647) (h_p2 : (-2147483648) ≤ p2 ∧ p2 ≤ 2147483647) (h_p3 : (-2147483648) ≤ p3 ∧ p3 ≤ 2147483647) (h_p4 : (-2147483648) ≤ p4 ∧ p4 ≤ 2147483647)  (k : ∀ (r : Int), ∀ (t : gH), XI L 0 t → gX L false [2, 68, 69, 70, 71] s t → K (some (gp_i r)) t) : gs_C L (d + 1) 2845 6 [gp_r (some 1), gp_i p0, gp_i p1, gp_i p2, gp_i p3, gp_i p4] s K := by
  refine s_2845_e _ _ _ _ _ ?_
  refine xm_sh_beyond _ hs (fun x_1 p_2 p_3 => ⟨_, rfl, ?_⟩)
  refine ⟨fun h_4 => ?_, fun h_4 => ?_⟩
  · refine xm_sh_beyond _ hs (fun x_5 p_6 p_7 => ⟨_, rfl, ?_⟩)
    refine ⟨fun h_8 => ?_, fun h_8 => ?_⟩
    · refine xm_sh_missing _ hs (by omega) (fun x_9 p_10 => ⟨_, rfl, ?_⟩)
      refine ⟨fun h_11 => ?_, fun h_11 => ?_⟩
      · refine xm_sh_missing _ hs (by omega) (fun x_12 p_13 => ⟨_, rfl, ?_⟩)
        refine ⟨fun h_14 => ?_, fun h_14 => ?_⟩
        · refine ⟨by omega, ?_⟩
          refine ⟨by omega, ?_⟩
          refine ⟨fun h_15 => ?_, fun h_15 => ?_⟩
          · refine xm_sh_stand _ _ _ hs (by omega) (fun x_16 p_17 p_18 => ⟨_, rfl, ?_⟩)
            refine ⟨fun h_19 => ?_, fun h_19 => ?_⟩
            · refine s_2845_112 _ _ _ _ _ ?_
              refine xp_refused _ hs (by omega) (fun x_20 s_21 hs_22 hf_23 p_24 => ⟨_, rfl, ?_⟩)
              have hf_25 : gX L false [2, 68, 69, 70, 71] s s_21 := gX.sub hf_23 rfl rfl
              exact k _ s_21 hs_22 hf_25
            · refine xm_sh_stand _ _ _ hs (by omega) (fun x_26 p_27 p_28 => ⟨_, rfl, ?_⟩)
              refine ⟨fun h_29 => ?_, fun h_29 => ?_⟩
              · refine s_2845_112 _ _ _ _ _ ?_
                refine xp_refused _ hs (by omega) (fun x_30 s_31 hs_32 hf_33 p_34 => ⟨_, rfl, ?_⟩)
                have hf_35 : gX L false [2, 68, 69, 70, 71] s s_31 := gX.sub hf_33 rfl rfl
                exact k _ s_31 hs_32 hf_35
              · refine ⟨by omega, ?_⟩
                refine ⟨by omega, ?_⟩
                refine ⟨(68 + Int.toNat p0), shR (by omega), ?_⟩
                refine ⟨(68 + Int.toNat p2), shR (by omega), ?_⟩
                refine ⟨⟨by rw [rowsh ⟨by omega, by omega⟩], by rw [rowsh ⟨by omega, by omega⟩], by omega, by omega, by omega, by rw [rowsh ⟨by omega, by omega⟩]; show _ ≤ ((20 : Nat) : Int); omega, by rw [rowsh ⟨by omega, by omega⟩]; show _ ≤ ((20 : Nat) : Int); omega⟩, fun s_36 e_37 => ?_⟩
                have hs_38 : XI L 0 s_36 := by rw [e_37]; exact XI.ur hs _ _ (by rw [rowsh ⟨by omega, by omega⟩]) (NTrw ⟨by omega, by omega⟩) (fun _ _ => xPrw ⟨by omega, by omega⟩)
                have hf_39 : gX L false [2, 68, 69, 70, 71] s s_36 := by rw [e_37]; exact gX.ur (gX.refl _ _ _ _) (fun _ => gXrw ⟨by omega, by omega⟩ rfl)
                exact k _ s_36 hs_38 hf_39
          · refine xp_refused _ hs (by omega) (fun x_40 s_41 hs_42 hf_43 p_44 => ⟨_, rfl, ?_⟩)
            have hf_45 : gX L false [2, 68, 69, 70, 71] s s_41 := gX.sub hf_43 rfl rfl
            exact k _ s_41 hs_42 hf_45
        · refine s_2845_50 _ _ _ _ _ ?_
          refine xp_refused _ hs (by omega) (fun x_46 s_47 hs_48 hf_49 p_50 => ⟨_, rfl, ?_⟩)
          have hf_51 : gX L false [2, 68, 69, 70, 71] s s_47 := gX.sub hf_49 rfl rfl
          exact k _ s_47 hs_48 hf_51
      · refine s_2845_50 _ _ _ _ _ ?_
        refine xp_refused _ hs (by omega) (fun x_52 s_53 hs_54 hf_55 p_56 => ⟨_, rfl, ?_⟩)
        have hf_57 : gX L false [2, 68, 69, 70, 71] s s_53 := gX.sub hf_55 rfl rfl
        exact k _ s_53 hs_54 hf_57
    · refine s_2845_22 _ _ _ _ _ ?_
      refine xp_refused _ hs (by omega) (fun x_58 s_59 hs_60 hf_61 p_62 => ⟨_, rfl, ?_⟩)
      have hf_63 : gX L false [2, 68, 69, 70, 71] s s_59 := gX.sub hf_61 rfl rfl
      exact k _ s_59 hs_60 hf_63
  · refine s_2845_22 _ _ _ _ _ ?_
    refine xp_refused _ hs (by omega) (fun x_64 s_65 hs_66 hf_67 p_68 => ⟨_, rfl, ?_⟩)
    have hf_69 : gX L false [2, 68, 69, 70, 71] s s_65 := gX.sub hf_67 rfl rfl
    exact k _ s_65 hs_66 hf_69
