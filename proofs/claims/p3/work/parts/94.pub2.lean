/-! the class's sums and matches, from without -/
theorem SVA_keep {L S A : Nat} {s t : gH} (h : SVA L S A t) (z : gp_sz t = gp_sz s ∧ gp_us t = gp_us s) : ∃ B, SVA L S B t ∧ gp_sz t ≤ gp_sz s + 2 ∧ gp_us t + 2 * pot B ≤ gp_us s + 2 * pot A := ⟨A, h, by omega, by omega⟩
theorem SVA_keepp {L S A : Nat} {s t : gH} (h : SVA L S A t) (z : gp_sz t = gp_sz s ∧ gp_us t = gp_us s) : ∃ B, SVA L S B t ∧ gp_sz t ≤ gp_sz s + 40 ∧ gp_us t + 2 * pot B ≤ gp_us s + 2 * pot A := ⟨A, h, by omega, by omega⟩
set_option maxRecDepth 100000 in
/-- GatheredPoints.score -/
theorem xp_score  {L d : Nat} {K : Option gV → gH → Prop} {s : gH} (A : Nat) (p0 : Int) (p1 : Int) (hs : XI L 0 s) (h_p0 : (-2147483648) ≤ p0 ∧ p0 ≤ 2147483647) (h_p1 : (-2147483648) ≤ p1 ∧ p1 ≤ 2147483647) (q0 : XS L s) (q1 : SVP L 52 s) (q2 : SVF L 52 51 s) (q3 : SVA L 51 A s) (k : ∀ (r : Int), ∀ (t : gH), XI L 0 t → gX L true [2, 52, 53, 54, 55, 56, 64, 65, 2634, 2636, 2638, 2639, 2640] s t → (SVP L 52 t) → (SVF L 52 51 t) → (∃ B, SVA L 51 B t ∧ gp_sz t ≤ gp_sz s + 2 ∧ gp_us t + 2 * pot B ≤ gp_us s + 2 * pot A) → K (some (gp_i r)) t) : gs_C L (d + 6) 2832 3 [gp_r (some 1), gp_i p0, gp_i p1] s K := by
  refine s_2832_e _ _ ?_
  refine xm_noSet _ (by omega) (fun x_1 p_2 p_3 => ⟨_, rfl, ?_⟩)
  refine ⟨fun h_4 => ?_, fun h_4 => ?_⟩
  · refine xm_noSide _ (by omega) (fun x_5 p_6 p_7 p_8 => ⟨_, rfl, ?_⟩)
    refine ⟨fun h_9 => ?_, fun h_9 => ?_⟩
    · refine xm_slay51 _ hs (by omega) (q0) (q1) (q2) (fun s_10 hs_11 hf_12 p_13 p_14 => ⟨rfl, ?_⟩)
      have hf_15 : gX L true [2, 52, 53, 54, 55, 56, 64, 65, 2634, 2636, 2638, 2639, 2640] s s_10 := gX.sub hf_12 rfl rfl
      have pd_16 : XS L s_10 := XS_fr q0 hf_12 rfl
      have pd_17 : SVA L 51 A s_10 := SVA51_fr q3 hf_12 rfl rfl
      have z_18 : gp_sz s_10 = gp_sz s ∧ gp_us s_10 = gp_us s := hf_12.2.1 rfl
      have hNN := SVN_of p_13
      obtain ⟨N0, N1, N2, hN9⟩ : ∃ a b c, SVN L 52 a b c s_10 := ⟨_, _, _, hNN⟩
      have hfl := SVF_fl p_14 hN9 pd_17
      refine xm_sworth51 A N0 N1 N2 _ hs_11 (p_13) (hN9) (pd_17) (by first | omega | assumption) (fun x_19 s_20 hs_21 hf_22 p_23 p_24 p_25 => ⟨_, rfl, ?_⟩)
      have hf_26 : gX L true [2, 52, 53, 54, 55, 56, 64, 65, 2634, 2636, 2638, 2639, 2640] s s_20 := gX.trans hf_15 hf_22 rfl rfl
      have pd_27 : XS L s_20 := XS_fr pd_16 hf_22 rfl
      obtain ⟨B, hB1, hB2⟩ := p_25
      have hB9 := SVF_of p_24 hB1 hB2.1
      exact k _ s_20 hs_21 hf_26 (p_23) (hB9) (⟨B, hB1, by omega, by omega⟩)
    · refine s_2832_14 _ _ ?_
      refine xp_refused _ hs (by omega) (fun x_28 s_29 hs_30 hf_31 p_32 => ⟨_, rfl, ?_⟩)
      have hf_33 : gX L true [2, 52, 53, 54, 55, 56, 64, 65, 2634, 2636, 2638, 2639, 2640] s s_29 := gX.sub hf_31 rfl rfl
      have pd_34 : XS L s_29 := XS_fr q0 hf_31 rfl
      have pd_35 : SVP L 52 s_29 := SVP52_fr q1 hf_31 rfl rfl
      have pd_36 : SVF L 52 51 s_29 := SVF51_fr q2 hf_31 rfl rfl rfl
      have pd_37 : SVA L 51 A s_29 := SVA51_fr q3 hf_31 rfl rfl
      have z_38 : gp_sz s_29 = gp_sz s ∧ gp_us s_29 = gp_us s := hf_31.2.1 rfl
      exact k _ s_29 hs_30 hf_33 (pd_35) (pd_36) (SVA_keep pd_37 (by omega))
  · refine s_2832_14 _ _ ?_
    refine xp_refused _ hs (by omega) (fun x_39 s_40 hs_41 hf_42 p_43 => ⟨_, rfl, ?_⟩)
    have hf_44 : gX L true [2, 52, 53, 54, 55, 56, 64, 65, 2634, 2636, 2638, 2639, 2640] s s_40 := gX.sub hf_42 rfl rfl
    have pd_45 : XS L s_40 := XS_fr q0 hf_42 rfl
    have pd_46 : SVP L 52 s_40 := SVP52_fr q1 hf_42 rfl rfl
    have pd_47 : SVF L 52 51 s_40 := SVF51_fr q2 hf_42 rfl rfl rfl
    have pd_48 : SVA L 51 A s_40 := SVA51_fr q3 hf_42 rfl rfl
    have z_49 : gp_sz s_40 = gp_sz s ∧ gp_us s_40 = gp_us s := hf_42.2.1 rfl
    exact k _ s_40 hs_41 hf_44 (pd_46) (pd_47) (SVA_keep pd_48 (by omega))
set_option maxRecDepth 100000 in
/-- GatheredPoints.best -/
theorem xp_best  {L d : Nat} {K : Option gV → gH → Prop} {s : gH} (A : Nat) (p0 : Int) (p1 : Int) (hs : XI L 0 s) (h_p0 : (-2147483648) ≤ p0 ∧ p0 ≤ 2147483647) (h_p1 : (-2147483648) ≤ p1 ∧ p1 ≤ 2147483647) (q0 : XS L s) (q1 : SVP L 52 s) (q2 : SVF L 52 51 s) (q3 : SVA L 51 A s) (k : ∀ (r : Int), ∀ (t : gH), XI L 0 t → gX L true [2, 52, 53, 54, 55, 56, 64, 65, 2634, 2636, 2638, 2639, 2640] s t → (SVP L 52 t) → (SVF L 52 51 t) → (∃ B, SVA L 51 B t ∧ gp_sz t ≤ gp_sz s + 2 ∧ gp_us t + 2 * pot B ≤ gp_us s + 2 * pot A) → K (some (gp_i r)) t) : gs_C L (d + 6) 2833 4 [gp_r (some 1), gp_i p0, gp_i p1] s K := by
  refine s_2833_e _ _ ?_
  refine xm_noSet _ (by omega) (fun x_1 p_2 p_3 => ⟨_, rfl, ?_⟩)
  refine ⟨fun h_4 => ?_, fun h_4 => ?_⟩
  · refine xm_noSide _ (by omega) (fun x_5 p_6 p_7 p_8 => ⟨_, rfl, ?_⟩)
    refine ⟨fun h_9 => ?_, fun h_9 => ?_⟩
    · refine xm_slay51 _ hs (by omega) (q0) (q1) (q2) (fun s_10 hs_11 hf_12 p_13 p_14 => ⟨rfl, ?_⟩)
      have hf_15 : gX L true [2, 52, 53, 54, 55, 56, 64, 65, 2634, 2636, 2638, 2639, 2640] s s_10 := gX.sub hf_12 rfl rfl
      have pd_16 : XS L s_10 := XS_fr q0 hf_12 rfl
      have pd_17 : SVA L 51 A s_10 := SVA51_fr q3 hf_12 rfl rfl
      have z_18 : gp_sz s_10 = gp_sz s ∧ gp_us s_10 = gp_us s := hf_12.2.1 rfl
      have hNN := SVN_of p_13
      obtain ⟨N0, N1, N2, hN9⟩ : ∃ a b c, SVN L 52 a b c s_10 := ⟨_, _, _, hNN⟩
      have hfl := SVF_fl p_14 hN9 pd_17
      refine xm_sbestMove51 A N0 N1 N2 _ hs_11 (p_13) (hN9) (pd_17) (by first | omega | assumption) (fun x_19 s_20 hs_21 hf_22 p_23 p_24 p_25 p_26 p_27 => ⟨_, rfl, ?_⟩)
      have hf_28 : gX L true [2, 52, 53, 54, 55, 56, 64, 65, 2634, 2636, 2638, 2639, 2640] s s_20 := gX.trans hf_15 hf_22 rfl rfl
      have pd_29 : XS L s_20 := XS_fr pd_16 hf_22 rfl
      obtain ⟨B, hB1, hB2⟩ := p_26
      have hB9 := SVF_of p_25 hB1 hB2.1
      refine ⟨fun h_30 => ?_, fun h_30 => ?_⟩
      · refine xp_refused _ hs_21 (by omega) (fun x_31 s_32 hs_33 hf_34 p_35 => ⟨_, rfl, ?_⟩)
        have hf_36 : gX L true [2, 52, 53, 54, 55, 56, 64, 65, 2634, 2636, 2638, 2639, 2640] s s_32 := gX.trans hf_28 hf_34 rfl rfl
        have pd_37 : XS L s_32 := XS_fr pd_29 hf_34 rfl
        have pd_38 : SVP L 52 s_32 := SVP52_fr p_24 hf_34 rfl rfl
        have pd_39 : SVF L 52 51 s_32 := SVF51_fr hB9 hf_34 rfl rfl rfl
        have pd_40 : SVN L 52 N0 N1 N2 s_32 := SVN52_fr p_25 hf_34 rfl
        have pd_41 : SVA L 51 B s_32 := SVA51_fr hB1 hf_34 rfl rfl
        have z_42 : gp_sz s_32 = gp_sz s_20 ∧ gp_us s_32 = gp_us s_20 := hf_34.2.1 rfl
        refine s_2833_61 _ _ _ _ ?_
        exact k _ s_32 hs_33 hf_36 (pd_38) (pd_39) (⟨B, pd_41, by omega, by omega⟩)
      · refine xm_snamed51 _ hs_21 (by omega) (fun x_43 p_44 => ⟨_, rfl, ?_⟩)
        refine s_2833_61 _ _ _ _ ?_
        exact k _ s_20 hs_21 hf_28 (p_24) (hB9) (⟨B, hB1, by omega, by omega⟩)
    · refine s_2833_14 _ _ _ ?_
      refine xp_refused _ hs (by omega) (fun x_45 s_46 hs_47 hf_48 p_49 => ⟨_, rfl, ?_⟩)
      have hf_50 : gX L true [2, 52, 53, 54, 55, 56, 64, 65, 2634, 2636, 2638, 2639, 2640] s s_46 := gX.sub hf_48 rfl rfl
      have pd_51 : XS L s_46 := XS_fr q0 hf_48 rfl
      have pd_52 : SVP L 52 s_46 := SVP52_fr q1 hf_48 rfl rfl
      have pd_53 : SVF L 52 51 s_46 := SVF51_fr q2 hf_48 rfl rfl rfl
      have pd_54 : SVA L 51 A s_46 := SVA51_fr q3 hf_48 rfl rfl
      have z_55 : gp_sz s_46 = gp_sz s ∧ gp_us s_46 = gp_us s := hf_48.2.1 rfl
      exact k _ s_46 hs_47 hf_50 (pd_52) (pd_53) (SVA_keep pd_54 (by omega))
  · refine s_2833_14 _ _ _ ?_
    refine xp_refused _ hs (by omega) (fun x_56 s_57 hs_58 hf_59 p_60 => ⟨_, rfl, ?_⟩)
    have hf_61 : gX L true [2, 52, 53, 54, 55, 56, 64, 65, 2634, 2636, 2638, 2639, 2640] s s_57 := gX.sub hf_59 rfl rfl
    have pd_62 : XS L s_57 := XS_fr q0 hf_59 rfl
    have pd_63 : SVP L 52 s_57 := SVP52_fr q1 hf_59 rfl rfl
    have pd_64 : SVF L 52 51 s_57 := SVF51_fr q2 hf_59 rfl rfl rfl
    have pd_65 : SVA L 51 A s_57 := SVA51_fr q3 hf_59 rfl rfl
    have z_66 : gp_sz s_57 = gp_sz s ∧ gp_us s_57 = gp_us s := hf_59.2.1 rfl
    exact k _ s_57 hs_58 hf_61 (pd_63) (pd_64) (SVA_keep pd_65 (by omega))
set_option maxRecDepth 100000 in
/-- GatheredPoints.begin -/
theorem xp_begin  {L d : Nat} {K : Option gV → gH → Prop} {s : gH}  (p0 : Int) (p1 : Int) (hs : XI L 0 s) (h_p0 : (-2147483648) ≤ p0 ∧ p0 ≤ 2147483647) (h_p1 : (-2147483648) ≤ p1 ∧ p1 ≤ 2147483647) (q0 : XS L s) (q1 : SVP L 61 s) (q2 : SVF L 61 60 s) (q3 : MFV L s) (k : ∀ (r : Int), ∀ (t : gH), XI L 0 t → gX L false [2, 61, 62, 63, 2825, 2826, 2827, 2922, 2924, 2928] s t → (SVP L 61 t) → (SVF L 61 60 t) → (MFV L t) → K (some (gp_i r)) t) : gs_C L (d + 4) 2834 3 [gp_r (some 1), gp_i p0, gp_i p1] s K := by
  refine s_2834_e _ _ ?_
  refine xm_noSet _ (by omega) (fun x_1 p_2 p_3 => ⟨_, rfl, ?_⟩)
  refine ⟨fun h_4 => ?_, fun h_4 => ?_⟩
  · refine xm_noSide _ (by omega) (fun x_5 p_6 p_7 p_8 => ⟨_, rfl, ?_⟩)
    refine ⟨fun h_9 => ?_, fun h_9 => ?_⟩
    · refine xm_mstart _ _ hs (by omega) (by omega) (q0) (q1) (q2) (fun s_10 hs_11 hf_12 p_13 p_14 p_15 => ⟨rfl, ?_⟩)
      have hf_16 : gX L false [2, 61, 62, 63, 2825, 2826, 2827, 2922, 2924, 2928] s s_10 := gX.sub hf_12 rfl rfl
      have pd_17 : XS L s_10 := XS_fr q0 hf_12 rfl
      have hmf9 := MFV_0 p_13 p_15
      refine xm_mover hs_11 (p_13) (fun x_18 p_19 => ⟨_, rfl, ?_⟩)
      refine ⟨fun h_20 => ?_, fun h_20 => ?_⟩
      · refine s_2834_48 _ _ _ ?_
        exact k _ s_10 hs_11 hf_16 (p_13) (p_14) (by first | exact hmf9 | exact MFV_le q3 hf_12 rfl rfl rfl (fun k => xr58 hs k) (by have h9 := (hf_12.2.2.1 57 3 (by decide) (by decide) rfl).1; omega))
      · refine s_2834_48 _ _ _ ?_
        exact k _ s_10 hs_11 hf_16 (p_13) (p_14) (by first | exact hmf9 | exact MFV_le q3 hf_12 rfl rfl rfl (fun k => xr58 hs k) (by have h9 := (hf_12.2.2.1 57 3 (by decide) (by decide) rfl).1; omega))
    · refine s_2834_14 _ _ ?_
      refine xp_refused _ hs (by omega) (fun x_21 s_22 hs_23 hf_24 p_25 => ⟨_, rfl, ?_⟩)
      have hf_26 : gX L false [2, 61, 62, 63, 2825, 2826, 2827, 2922, 2924, 2928] s s_22 := gX.sub hf_24 rfl rfl
      have pd_27 : XS L s_22 := XS_fr q0 hf_24 rfl
      have pd_28 : SVP L 61 s_22 := SVP61_fr q1 hf_24 rfl rfl
      have pd_29 : SVF L 61 60 s_22 := SVF60_fr q2 hf_24 rfl rfl rfl
      exact k _ s_22 hs_23 hf_26 (pd_28) (pd_29) (by first | exact hmf9 | exact MFV_le q3 hf_24 rfl rfl rfl (fun k => xr58 hs k) (by have h9 := (hf_24.2.2.1 57 3 (by decide) (by decide) rfl).1; omega))
  · refine s_2834_14 _ _ ?_
    refine xp_refused _ hs (by omega) (fun x_30 s_31 hs_32 hf_33 p_34 => ⟨_, rfl, ?_⟩)
    have hf_35 : gX L false [2, 61, 62, 63, 2825, 2826, 2827, 2922, 2924, 2928] s s_31 := gX.sub hf_33 rfl rfl
    have pd_36 : XS L s_31 := XS_fr q0 hf_33 rfl
    have pd_37 : SVP L 61 s_31 := SVP61_fr q1 hf_33 rfl rfl
    have pd_38 : SVF L 61 60 s_31 := SVF60_fr q2 hf_33 rfl rfl rfl
    exact k _ s_31 hs_32 hf_35 (pd_37) (pd_38) (by first | exact hmf9 | exact MFV_le q3 hf_33 rfl rfl rfl (fun k => xr58 hs k) (by have h9 := (hf_33.2.2.1 57 3 (by decide) (by decide) rfl).1; omega))
set_option maxRecDepth 100000 in
/-- GatheredPoints.go -/
theorem xp_go  {L d : Nat} {K : Option gV → gH → Prop} {s : gH}  (p0 : Int) (p1 : Int) (hs : XI L 0 s) (h_p0 : (-2147483648) ≤ p0 ∧ p0 ≤ 2147483647) (h_p1 : (-2147483648) ≤ p1 ∧ p1 ≤ 2147483647) (q0 : SVP L 61 s) (q1 : MFV L s) (k : ∀ (r : Int), ∀ (t : gH), XI L 0 t → gX L false [2, 58, 59, 62, 2826, 2827] s t → (SVP L 61 t) → (MFV L t) → K (some (gp_i r)) t) : gs_C L (d + 4) 2835 4 [gp_r (some 1), gp_i p0, gp_i p1] s K := by
  refine s_2835_e _ _ ?_
  have f_1 := xr57_1 hs
  refine ⟨fun h_2 => ?_, fun h_2 => ?_⟩
  · refine xp_refused _ hs (by omega) (fun x_3 s_4 hs_5 hf_6 p_7 => ⟨_, rfl, ?_⟩)
    have hf_8 : gX L false [2, 58, 59, 62, 2826, 2827] s s_4 := gX.sub hf_6 rfl rfl
    have pd_9 : SVP L 61 s_4 := SVP61_fr q0 hf_6 rfl rfl
    exact k _ s_4 hs_5 hf_8 (pd_9) (by first | exact hmf9 | exact MFV_le q1 hf_6 rfl rfl rfl (fun k => xr58 hs k) (by have h9 := (hf_6.2.2.1 57 3 (by decide) (by decide) rfl).1; omega))
  · refine xm_mover hs (q0) (fun x_10 p_11 => ⟨_, rfl, ?_⟩)
    refine ⟨fun h_12 => ?_, fun h_12 => ?_⟩
    · refine xm_mmoveAt _ _ hs (q0) (fun x_13 p_14 p_15 => ⟨_, rfl, ?_⟩)
      refine ⟨fun h_16 => ?_, fun h_16 => ?_⟩
      · refine xp_refused _ hs (by omega) (fun x_17 s_18 hs_19 hf_20 p_21 => ⟨_, rfl, ?_⟩)
        have hf_22 : gX L false [2, 58, 59, 62, 2826, 2827] s s_18 := gX.sub hf_20 rfl rfl
        have pd_23 : SVP L 61 s_18 := SVP61_fr q0 hf_20 rfl rfl
        exact k _ s_18 hs_19 hf_22 (pd_23) (by first | exact hmf9 | exact MFV_le q1 hf_20 rfl rfl rfl (fun k => xr58 hs k) (by have h9 := (hf_20.2.2.1 57 3 (by decide) (by decide) rfl).1; omega))
      · refine xm_mmake _ hs (by omega) (q0) (by first | omega | assumption) (by first | omega | assumption) (fun s_24 hs_25 hf_26 p_27 p_28 => ⟨rfl, ?_⟩)
        have hf_29 : gX L false [2, 58, 59, 62, 2826, 2827] s s_24 := gX.sub hf_26 rfl rfl
        have hmf9 := p_28
        refine xm_mover hs_25 (p_27) (fun x_30 p_31 => ⟨_, rfl, ?_⟩)
        refine ⟨fun h_32 => ?_, fun h_32 => ?_⟩
        · refine s_2835_75 _ _ _ _ ?_
          exact k _ s_24 hs_25 hf_29 (p_27) (by first | exact hmf9 | exact MFV_le q1 hf_26 rfl rfl rfl (fun k => xr58 hs k) (by have h9 := (hf_26.2.2.1 57 3 (by decide) (by decide) rfl).1; omega))
        · refine s_2835_75 _ _ _ _ ?_
          exact k _ s_24 hs_25 hf_29 (p_27) (by first | exact hmf9 | exact MFV_le q1 hf_26 rfl rfl rfl (fun k => xr58 hs k) (by have h9 := (hf_26.2.2.1 57 3 (by decide) (by decide) rfl).1; omega))
    · refine xp_refused _ hs (by omega) (fun x_33 s_34 hs_35 hf_36 p_37 => ⟨_, rfl, ?_⟩)
      have hf_38 : gX L false [2, 58, 59, 62, 2826, 2827] s s_34 := gX.sub hf_36 rfl rfl
      have pd_39 : SVP L 61 s_34 := SVP61_fr q0 hf_36 rfl rfl
      exact k _ s_34 hs_35 hf_38 (pd_39) (by first | exact hmf9 | exact MFV_le q1 hf_36 rfl rfl rfl (fun k => xr58 hs k) (by have h9 := (hf_36.2.2.1 57 3 (by decide) (by decide) rfl).1; omega))
set_option maxRecDepth 100000 in
/-- GatheredPoints.back -/
theorem xp_back  {L d : Nat} {K : Option gV → gH → Prop} {s : gH}   (hs : XI L 0 s)  (q0 : SVP L 61 s) (q1 : MFV L s) (k : ∀ (r : Int), ∀ (t : gH), XI L 0 t → gX L false [2, 62, 2826, 2827] s t → (SVP L 61 t) → (MFV L t) → K (some (gp_i r)) t) : gs_C L (d + 1) 2838 1 [gp_r (some 1)] s K := by
  refine s_2838_e ?_
  have f_1 := xr57_1 hs
  refine ⟨fun h_2 => ?_, fun h_2 => ?_⟩
  · refine s_2838_20 ?_
    refine xp_refused _ hs (by omega) (fun x_3 s_4 hs_5 hf_6 p_7 => ⟨_, rfl, ?_⟩)
    have hf_8 : gX L false [2, 62, 2826, 2827] s s_4 := gX.sub hf_6 rfl rfl
    have pd_9 : SVP L 61 s_4 := SVP61_fr q0 hf_6 rfl rfl
    exact k _ s_4 hs_5 hf_8 (pd_9) (by first | exact hmf9 | exact MFV_le q1 hf_6 rfl rfl rfl (fun k => xr58 hs k) (by have h9 := (hf_6.2.2.1 57 3 (by decide) (by decide) rfl).1; omega))
  · have f_10 := xr57_3 hs
    refine ⟨fun h_11 => ?_, fun h_11 => ?_⟩
    · refine s_2838_20 ?_
      refine xp_refused _ hs (by omega) (fun x_12 s_13 hs_14 hf_15 p_16 => ⟨_, rfl, ?_⟩)
      have hf_17 : gX L false [2, 62, 2826, 2827] s s_13 := gX.sub hf_15 rfl rfl
      have pd_18 : SVP L 61 s_13 := SVP61_fr q0 hf_15 rfl rfl
      exact k _ s_13 hs_14 hf_17 (pd_18) (by first | exact hmf9 | exact MFV_le q1 hf_15 rfl rfl rfl (fun k => xr58 hs k) (by have h9 := (hf_15.2.2.1 57 3 (by decide) (by decide) rfl).1; omega))
    · refine xm_munmake hs (q0) (by first | omega | assumption) (fun s_19 hs_20 hf_21 p_22 p_23 p_24 => ⟨rfl, ?_⟩)
      have hf_25 : gX L false [2, 62, 2826, 2827] s s_19 := gX.sub hf_21 rfl rfl
      have hmf9 := p_23
      have f_26 := xr57_3 hs_20
      exact k _ s_19 hs_20 hf_25 (p_22) (by first | exact hmf9 | exact MFV_le q1 hf_21 rfl rfl rfl (fun k => xr58 hs k) (by have h9 := (hf_21.2.2.1 57 3 (by decide) (by decide) rfl).1; omega))
set_option maxRecDepth 100000 in
/-- GatheredPoints.moved -/
theorem xp_moved  {L d : Nat} {K : Option gV → gH → Prop} {s : gH}  (p0 : Int) (hs : XI L 0 s) (h_p0 : (-2147483648) ≤ p0 ∧ p0 ≤ 2147483647)  (k : ∀ (r : Int), ∀ (t : gH), XI L 0 t → gX L false [2] s t → K (some (gp_i r)) t) : gs_C L (d + 1) 2840 2 [gp_r (some 1), gp_i p0] s K := by
  refine s_2840_e _ ?_
  have f_1 := xr57_1 hs
  refine ⟨fun h_2 => ?_, fun h_2 => ?_⟩
  · refine s_2840_25 _ ?_
    refine xp_refused _ hs (by omega) (fun x_3 s_4 hs_5 hf_6 p_7 => ⟨_, rfl, ?_⟩)
    have hf_8 : gX L false [2] s s_4 := gX.sub hf_6 rfl rfl
    exact k _ s_4 hs_5 hf_8
  · refine ⟨fun h_9 => ?_, fun h_9 => ?_⟩
    · refine s_2840_25 _ ?_
      refine xp_refused _ hs (by omega) (fun x_10 s_11 hs_12 hf_13 p_14 => ⟨_, rfl, ?_⟩)
      have hf_15 : gX L false [2] s s_11 := gX.sub hf_13 rfl rfl
      exact k _ s_11 hs_12 hf_15
    · have f_16 := xr57_3 hs
      refine ⟨fun h_17 => ?_, fun h_17 => ?_⟩
      · refine ⟨by omega, ?_⟩
        have f_18 := xr58 hs (Int.toNat p0)
        refine xm_snamed60 _ hs (by omega) (fun x_19 p_20 => ⟨_, rfl, ?_⟩)
        exact k _ s hs (gX.refl _ _ _ _)
      · refine s_2840_25 _ ?_
        refine xp_refused _ hs (by omega) (fun x_21 s_22 hs_23 hf_24 p_25 => ⟨_, rfl, ?_⟩)
        have hf_26 : gX L false [2] s s_22 := gX.sub hf_24 rfl rfl
        exact k _ s_22 hs_23 hf_26
set_option maxRecDepth 100000 in
/-- GatheredPoints.loose -/
theorem xp_loose  {L d : Nat} {K : Option gV → gH → Prop} {s : gH}  (p0 : Int) (hs : XI L 0 s) (h_p0 : (-2147483648) ≤ p0 ∧ p0 ≤ 2147483647) (q0 : SVP L 61 s) (q1 : MFV L s) (k : ∀ (r : Int), ∀ (t : gH), XI L 0 t → gX L false [2, 58, 59, 62, 1039, 2826, 2827] s t → (SVP L 61 t) → (MFV L t) → K (some (gp_i r)) t) : gs_C L (d + 4) 2837 3 [gp_r (some 1), gp_i p0] s K := by
  refine s_2837_e _ ?_
  refine ⟨fun h_1 => ?_, fun h_1 => ?_⟩
  · refine s_2837_11 _ _ ?_
    refine xp_refused _ hs (by omega) (fun x_2 s_3 hs_4 hf_5 p_6 => ⟨_, rfl, ?_⟩)
    have hf_7 : gX L false [2, 58, 59, 62, 1039, 2826, 2827] s s_3 := gX.sub hf_5 rfl rfl
    have pd_8 : SVP L 61 s_3 := SVP61_fr q0 hf_5 rfl rfl
    exact k _ s_3 hs_4 hf_7 (pd_8) (by exact MFV_le q1 hf_5 rfl rfl rfl (fun k => xr58 hs k) (by have h9 := (hf_5.2.2.1 57 3 (by decide) (by decide) rfl).1; omega))
  · refine ⟨fun h_9 => ?_, fun h_9 => ?_⟩
    · refine s_2837_11 _ _ ?_
      refine xp_refused _ hs (by omega) (fun x_10 s_11 hs_12 hf_13 p_14 => ⟨_, rfl, ?_⟩)
      have hf_15 : gX L false [2, 58, 59, 62, 1039, 2826, 2827] s s_11 := gX.sub hf_13 rfl rfl
      have pd_16 : SVP L 61 s_11 := SVP61_fr q0 hf_13 rfl rfl
      exact k _ s_11 hs_12 hf_15 (pd_16) (by exact MFV_le q1 hf_13 rfl rfl rfl (fun k => xr58 hs k) (by have h9 := (hf_13.2.2.1 57 3 (by decide) (by decide) rfl).1; omega))
    · have f_17 := xr57_1 hs
      refine ⟨fun h_18 => ?_, fun h_18 => ?_⟩
      · refine xp_refused _ hs (by omega) (fun x_19 s_20 hs_21 hf_22 p_23 => ⟨_, rfl, ?_⟩)
        have hf_24 : gX L false [2, 58, 59, 62, 1039, 2826, 2827] s s_20 := gX.sub hf_22 rfl rfl
        have pd_25 : SVP L 61 s_20 := SVP61_fr q0 hf_22 rfl rfl
        exact k _ s_20 hs_21 hf_24 (pd_25) (by exact MFV_le q1 hf_22 rfl rfl rfl (fun k => xr58 hs k) (by have h9 := (hf_22.2.2.1 57 3 (by decide) (by decide) rfl).1; omega))
      · have lp_26 : ∀ (n_26 : Nat) (v2_26 : Int) (s_26 : gH), (XI L 0 s_26) → (gX L false [2, 58, 59, 62, 1039, 2826, 2827] s s_26) → (SVP L 61 s_26) → (0 ≤ v2_26 ∧ v2_26 ≤ 20) → (MFV L s_26) → (21 - v2_26).toNat < n_26 → gs_E L (d + 4) 2837 35 [gp_r (some 1), gp_i p0, gp_i v2_26] [] s_26 K := by
          intro n_26
          induction n_26 with
          | zero => intro v2_26 s_26 hs_s_26 hf_s_26 SVP_L_61_s_26 hv2_26 iv0_26 hm_26; exact absurd hm_26 (Nat.not_lt_zero _)
          | succ n_26 ih_26 =>
            intro v2_26 s_26 hs_s_26 hf_s_26 SVP_L_61_s_26 hv2_26 iv0_26 hm_26
            refine s_2837_35 _ _ ?_
            refine ⟨fun h_27 => ?_, fun h_27 => ?_⟩
            · refine xm_mover hs_s_26 (SVP_L_61_s_26) (fun x_28 p_29 => ⟨_, rfl, ?_⟩)
              refine ⟨fun h_30 => ?_, fun h_30 => ?_⟩
              · have w_31 := wr_rng ((gp_I s_26 1 7) * 1103515245)
                have w_32 := wr_rng ((gp_wr ((gp_I s_26 1 7) * 1103515245)) + 12345)
                intro s_33 e_34
                have hs_35 : XI L 0 s_33 := by rw [e_34]; exact xw1_7 hs_s_26 _
                have hf_36 : gX L false [2, 58, 59, 62, 1039, 2826, 2827] s s_33 := by rw [e_34]; exact gX.wI hf_s_26 (Or.inl rfl)
                have pd_37 : SVP L 61 s_33 := by rw [e_34]; exact SVP61_fr SVP_L_61_s_26 (gX.wI (gX.refl L true [1039] _) (Or.inl rfl)) rfl rfl
                have hmf7 : MFV L s_33 := by rw [‹s_33 = gp_wI _ 1 7 _›]; exact MFV_le iv0_26 (gX.wI (gX.refl L true [1039] s_26) (Or.inl rfl)) rfl rfl rfl (fun k => xr58 hs_s_26 k) (Int.le_of_eq (I_ne (by decide)))
                have f_38 := xr57_2 hs_35
                have w_39 : 0 ≤ gp_ushr (gp_I s_33 1 7) 8 ∧ gp_ushr (gp_I s_33 1 7) 8 < 16777216 := gz_ushn (gp_I s_33 1 7) 8 16777216 (by decide) (by decide)
                refine xm_sdrawn60 _ _ hs_35 (by omega) (pd_37) (fun x_40 p_41 p_42 => ⟨_, rfl, ?_⟩)
                refine xm_mmake _ hs_35 (by omega) (pd_37) (hmf7) (by first | omega | assumption) (fun s_43 hs_44 hf_45 p_46 p_47 => ⟨rfl, ?_⟩)
                have hf_48 : gX L false [2, 58, 59, 62, 1039, 2826, 2827] s s_43 := gX.trans hf_36 hf_45 rfl rfl
                have hmf9 := p_47
                try rw [show gp_wr (v2_26 + 1) = v2_26 + 1 from gp_wr_id (by omega) (by omega)]
                exact ih_26 _ _ hs_44 hf_48 p_46 (by omega) (hmf9) (by omega)
              · refine s_2837_103 _ _ ?_
                exact k _ s_26 hs_s_26 hf_s_26 (SVP_L_61_s_26) (iv0_26)
            · refine s_2837_103 _ _ ?_
              exact k _ s_26 hs_s_26 hf_s_26 (SVP_L_61_s_26) (iv0_26)
        exact lp_26 _ _ _ hs (gX.refl _ _ _ _) q0 (by omega) (q1) (Nat.lt_succ_self _)
set_option maxRecDepth 100000 in
/-- GatheredPoints.play -/
theorem xp_play  {L d : Nat} {K : Option gV → gH → Prop} {s : gH} (A : Nat) (p0 : Int) (hs : XI L 0 s) (h_p0 : (-2147483648) ≤ p0 ∧ p0 ≤ 2147483647) (q0 : SVP L 61 s) (q1 : SVF L 61 60 s) (q2 : SVA L 60 A s) (q3 : MFV L s) (k : ∀ (r : Int), ∀ (t : gH), XI L 0 t → gX L true [2, 55, 56, 58, 59, 62, 64, 65, 2826, 2827, 2926, 2927, 2928] s t → (SVP L 61 t) → (SVF L 61 60 t) → (∃ B, SVA L 60 B t ∧ gp_sz t ≤ gp_sz s + 40 ∧ gp_us t + 2 * pot B ≤ gp_us s + 2 * pot A) → (MFV L t) → K (some (gp_i r)) t) : gs_C L (d + 6) 2836 3 [gp_r (some 1), gp_i p0] s K := by
  have f_1 := xr57_2 hs
  have f_2 := xr57_3 hs
  refine s_2836_e _ ?_
  refine ⟨fun h_3 => ?_, fun h_3 => ?_⟩
  · refine s_2836_11 _ _ ?_
    refine xp_refused _ hs (by omega) (fun x_4 s_5 hs_6 hf_7 p_8 => ⟨_, rfl, ?_⟩)
    have hf_9 : gX L true [2, 55, 56, 58, 59, 62, 64, 65, 2826, 2827, 2926, 2927, 2928] s s_5 := gX.sub hf_7 rfl rfl
    have pd_10 : SVP L 61 s_5 := SVP61_fr q0 hf_7 rfl rfl
    have pd_11 : SVF L 61 60 s_5 := SVF60_fr q1 hf_7 rfl rfl rfl
    have q_12 : gp_I s_5 57 2 = gp_I s 57 2 := (hf_7.2.2.1 57 2 (by decide) (by decide) rfl).1
    have q_13 : gp_I s_5 57 3 = gp_I s 57 3 := (hf_7.2.2.1 57 3 (by decide) (by decide) rfl).1
    have z_14 : gp_sz s_5 = gp_sz s ∧ gp_us s_5 = gp_us s := hf_7.2.1 rfl
    exact k _ s_5 hs_6 hf_9 (pd_10) (pd_11) (SVA_keepp (SVA60_fr q2 hf_7 rfl rfl) (by omega)) (by exact MFV_le q3 hf_7 rfl rfl rfl (fun k => xr58 hs k) (by have h9 := (hf_7.2.2.1 57 3 (by decide) (by decide) rfl).1; omega))
  · refine ⟨fun h_15 => ?_, fun h_15 => ?_⟩
    · refine s_2836_11 _ _ ?_
      refine xp_refused _ hs (by omega) (fun x_16 s_17 hs_18 hf_19 p_20 => ⟨_, rfl, ?_⟩)
      have hf_21 : gX L true [2, 55, 56, 58, 59, 62, 64, 65, 2826, 2827, 2926, 2927, 2928] s s_17 := gX.sub hf_19 rfl rfl
      have pd_22 : SVP L 61 s_17 := SVP61_fr q0 hf_19 rfl rfl
      have pd_23 : SVF L 61 60 s_17 := SVF60_fr q1 hf_19 rfl rfl rfl
      have q_24 : gp_I s_17 57 2 = gp_I s 57 2 := (hf_19.2.2.1 57 2 (by decide) (by decide) rfl).1
      have q_25 : gp_I s_17 57 3 = gp_I s 57 3 := (hf_19.2.2.1 57 3 (by decide) (by decide) rfl).1
      have z_26 : gp_sz s_17 = gp_sz s ∧ gp_us s_17 = gp_us s := hf_19.2.1 rfl
      exact k _ s_17 hs_18 hf_21 (pd_22) (pd_23) (SVA_keepp (SVA60_fr q2 hf_19 rfl rfl) (by omega)) (by exact MFV_le q3 hf_19 rfl rfl rfl (fun k => xr58 hs k) (by have h9 := (hf_19.2.2.1 57 3 (by decide) (by decide) rfl).1; omega))
    · have f_27 := xr57_1 hs
      refine ⟨fun h_28 => ?_, fun h_28 => ?_⟩
      · refine xp_refused _ hs (by omega) (fun x_29 s_30 hs_31 hf_32 p_33 => ⟨_, rfl, ?_⟩)
        have hf_34 : gX L true [2, 55, 56, 58, 59, 62, 64, 65, 2826, 2827, 2926, 2927, 2928] s s_30 := gX.sub hf_32 rfl rfl
        have pd_35 : SVP L 61 s_30 := SVP61_fr q0 hf_32 rfl rfl
        have pd_36 : SVF L 61 60 s_30 := SVF60_fr q1 hf_32 rfl rfl rfl
        have q_37 : gp_I s_30 57 2 = gp_I s 57 2 := (hf_32.2.2.1 57 2 (by decide) (by decide) rfl).1
        have q_38 : gp_I s_30 57 3 = gp_I s 57 3 := (hf_32.2.2.1 57 3 (by decide) (by decide) rfl).1
        have z_39 : gp_sz s_30 = gp_sz s ∧ gp_us s_30 = gp_us s := hf_32.2.1 rfl
        exact k _ s_30 hs_31 hf_34 (pd_35) (pd_36) (SVA_keepp (SVA60_fr q2 hf_32 rfl rfl) (by omega)) (by exact MFV_le q3 hf_32 rfl rfl rfl (fun k => xr58 hs k) (by have h9 := (hf_32.2.2.1 57 3 (by decide) (by decide) rfl).1; omega))
      · have hNN := SVN_of q0
        obtain ⟨N0, N1, N2, hN9⟩ : ∃ a b c, SVN L 61 a b c s := ⟨_, _, _, hNN⟩
        have hfl := SVF_fl q1 hN9 q2
        have lp_40 : ∀ (n_40 : Nat) (v2_40 : Int) (s_40 : gH), (XI L 0 s_40) → (gX L true [2, 55, 56, 58, 59, 62, 64, 65, 2826, 2827, 2926, 2927, 2928] s s_40) → (SVP L 61 s_40) → (SVF L 61 60 s_40) → (SVN L 61 N0 N1 N2 s_40) → (0 ≤ v2_40 ∧ v2_40 ≤ 20) → (MFV L s_40) → (∃ B, SVA L 60 B s_40 ∧ (gp_I s_40 60 8 = 0 ∨ p3m N0 N1 N2 ≤ B) ∧ (gp_sz s_40 : Int) ≤ gp_sz s + 2 * v2_40 ∧ gp_us s_40 + 2 * pot B ≤ gp_us s + 2 * pot A) → (21 - v2_40).toNat < n_40 → gs_E L (d + 6) 2836 35 [gp_r (some 1), gp_i p0, gp_i v2_40] [] s_40 K := by
          intro n_40
          induction n_40 with
          | zero => intro v2_40 s_40 hs_s_40 hf_s_40 SVP_L_61_s_40 SVF_L_61_60_s_40 SVN_L_61_N0_N1_N2_s_40 hv2_40 iv0_40 iv1_40 hm_40; exact absurd hm_40 (Nat.not_lt_zero _)
          | succ n_40 ih_40 =>
            intro v2_40 s_40 hs_s_40 hf_s_40 SVP_L_61_s_40 SVF_L_61_60_s_40 SVN_L_61_N0_N1_N2_s_40 hv2_40 iv0_40 iv1_40 hm_40
            refine s_2836_35 _ _ ?_
            obtain ⟨B0, hA1, hA2, hA3, hA4⟩ := iv1_40
            refine ⟨fun h_41 => ?_, fun h_41 => ?_⟩
            · refine xm_mover hs_s_40 (SVP_L_61_s_40) (fun x_42 p_43 => ⟨_, rfl, ?_⟩)
              refine ⟨fun h_44 => ?_, fun h_44 => ?_⟩
              · have f_45 := xr57_2 hs_s_40
                refine xm_sbestMove60 B0 N0 N1 N2 _ hs_s_40 (SVP_L_61_s_40) (SVN_L_61_N0_N1_N2_s_40) (by assumption) (hA2) (fun x_46 s_47 hs_48 hf_49 p_50 p_51 p_52 p_53 p_54 => ⟨_, rfl, ?_⟩)
                have hf_55 : gX L true [2, 55, 56, 58, 59, 62, 64, 65, 2826, 2827, 2926, 2927, 2928] s s_47 := gX.trans hf_s_40 hf_49 rfl rfl
                have q_56 : gp_I s_47 57 2 = gp_I s_40 57 2 := (hf_49.2.2.1 57 2 (by decide) (by decide) rfl).1
                have q_57 : gp_I s_47 57 3 = gp_I s_40 57 3 := (hf_49.2.2.1 57 3 (by decide) (by decide) rfl).1
                obtain ⟨B, hB1, hB2, hB3, hB4, hB5⟩ := p_53
                have hB9 := SVF_of p_52 hB1 hB2
                have hmf8 := MFV_le iv0_40 hf_49 rfl rfl rfl (fun k => xr58 hs_s_40 k) (by omega)
                have hmv8 := p_54
                rw [show gp_I s_40 57 2 = gp_I s_47 57 2 by omega] at hmv8
                refine xm_mmake _ hs_48 (by omega) (p_51) (hmf8) (hmv8) (fun s_58 hs_59 hf_60 p_61 p_62 => ⟨rfl, ?_⟩)
                have hf_63 : gX L true [2, 55, 56, 58, 59, 62, 64, 65, 2826, 2827, 2926, 2927, 2928] s s_58 := gX.trans hf_55 hf_60 rfl rfl
                have pd_64 : SVF L 61 60 s_58 := SVF60_fr hB9 hf_60 rfl rfl rfl
                have pd_65 : SVN L 61 N0 N1 N2 s_58 := SVN61_fr p_52 hf_60 rfl
                have pd_66 : SVA L 60 B s_58 := SVA60_fr hB1 hf_60 rfl rfl
                have z_67 : gp_sz s_58 = gp_sz s_47 ∧ gp_us s_58 = gp_us s_47 := hf_60.2.1 rfl
                have hmf9 := p_62
                have hfl9 := SVF_fl pd_64 pd_65 pd_66
                try rw [show gp_wr (v2_40 + 1) = v2_40 + 1 from gp_wr_id (by omega) (by omega)]
                exact ih_40 _ _ hs_59 hf_63 p_61 pd_64 pd_65 (by omega) (hmf9) (⟨B, pd_66, hfl9, by omega, by omega⟩) (by omega)
              · refine s_2836_80 _ _ ?_
                exact k _ s_40 hs_s_40 hf_s_40 (SVP_L_61_s_40) (SVF_L_61_60_s_40) (⟨B0, hA1, by omega, by omega⟩) (iv0_40)
            · refine s_2836_80 _ _ ?_
              exact k _ s_40 hs_s_40 hf_s_40 (SVP_L_61_s_40) (SVF_L_61_60_s_40) (⟨B0, hA1, by omega, by omega⟩) (iv0_40)
        exact lp_40 _ _ _ hs (gX.refl _ _ _ _) q0 q1 hN9 (by omega) (q3) (⟨A, q2, hfl, by omega, Nat.le_refl _⟩) (Nat.lt_succ_self _)
set_option maxRecDepth 100000 in
/-- GatheredPoints.matchOf -/
theorem xp_matchOf  {L d : Nat} {K : Option gV → gH → Prop} {s : gH} (A : Nat) (p0 : Int) (hs : XI L 0 s) (h_p0 : (-2147483648) ≤ p0 ∧ p0 ≤ 2147483647) (q0 : SVP L 61 s) (q1 : SVF L 61 60 s) (q2 : SVA L 60 A s) (k : ∀ (r : Int), ∀ (t : gH), XI L 0 t → gX L true [2, 55, 56, 64, 65, 2926, 2927, 2928] s t → (SVP L 61 t) → (SVF L 61 60 t) → (∃ B, SVA L 60 B t ∧ gp_sz t ≤ gp_sz s + 2 ∧ gp_us t + 2 * pot B ≤ gp_us s + 2 * pot A) → K (some (gp_i r)) t) : gs_C L (d + 6) 2839 2 [gp_r (some 1), gp_i p0] s K := by
  refine s_2839_e _ ?_
  refine ⟨fun h_1 => ?_, fun h_1 => ?_⟩
  · refine s_2839_9 _ ?_
    refine xp_refused _ hs (by omega) (fun x_2 s_3 hs_4 hf_5 p_6 => ⟨_, rfl, ?_⟩)
    have hf_7 : gX L true [2, 55, 56, 64, 65, 2926, 2927, 2928] s s_3 := gX.sub hf_5 rfl rfl
    have pd_8 : SVP L 61 s_3 := SVP61_fr q0 hf_5 rfl rfl
    have pd_9 : SVF L 61 60 s_3 := SVF60_fr q1 hf_5 rfl rfl rfl
    have pd_10 : SVA L 60 A s_3 := SVA60_fr q2 hf_5 rfl rfl
    have z_11 : gp_sz s_3 = gp_sz s ∧ gp_us s_3 = gp_us s := hf_5.2.1 rfl
    exact k _ s_3 hs_4 hf_7 (pd_8) (pd_9) (SVA_keep pd_10 (by omega))
  · refine ⟨fun h_12 => ?_, fun h_12 => ?_⟩
    · refine s_2839_9 _ ?_
      refine xp_refused _ hs (by omega) (fun x_13 s_14 hs_15 hf_16 p_17 => ⟨_, rfl, ?_⟩)
      have hf_18 : gX L true [2, 55, 56, 64, 65, 2926, 2927, 2928] s s_14 := gX.sub hf_16 rfl rfl
      have pd_19 : SVP L 61 s_14 := SVP61_fr q0 hf_16 rfl rfl
      have pd_20 : SVF L 61 60 s_14 := SVF60_fr q1 hf_16 rfl rfl rfl
      have pd_21 : SVA L 60 A s_14 := SVA60_fr q2 hf_16 rfl rfl
      have z_22 : gp_sz s_14 = gp_sz s ∧ gp_us s_14 = gp_us s := hf_16.2.1 rfl
      exact k _ s_14 hs_15 hf_18 (pd_19) (pd_20) (SVA_keep pd_21 (by omega))
    · have f_23 := xr57_1 hs
      refine ⟨fun h_24 => ?_, fun h_24 => ?_⟩
      · refine xp_refused _ hs (by omega) (fun x_25 s_26 hs_27 hf_28 p_29 => ⟨_, rfl, ?_⟩)
        have hf_30 : gX L true [2, 55, 56, 64, 65, 2926, 2927, 2928] s s_26 := gX.sub hf_28 rfl rfl
        have pd_31 : SVP L 61 s_26 := SVP61_fr q0 hf_28 rfl rfl
        have pd_32 : SVF L 61 60 s_26 := SVF60_fr q1 hf_28 rfl rfl rfl
        have pd_33 : SVA L 60 A s_26 := SVA60_fr q2 hf_28 rfl rfl
        have z_34 : gp_sz s_26 = gp_sz s ∧ gp_us s_26 = gp_us s := hf_28.2.1 rfl
        exact k _ s_26 hs_27 hf_30 (pd_31) (pd_32) (SVA_keep pd_33 (by omega))
      · refine ⟨fun h_35 => ?_, fun h_35 => ?_, fun h_35 => ?_, fun h_35 => ?_, fun h_35 => ?_, fun h_35 => ?_⟩
        · have f_36 := xr57_2 hs
          exact k _ s hs (gX.refl _ _ _ _) (q0) (q1) (SVA_keep q2 (by omega))
        · have f_37 := xr57_3 hs
          exact k _ s hs (gX.refl _ _ _ _) (q0) (q1) (SVA_keep q2 (by omega))
        · refine xm_mover hs (q0) (fun x_38 p_39 => ⟨_, rfl, ?_⟩)
          refine ⟨fun h_40 => ?_, fun h_40 => ?_⟩
          · refine s_2839_99 _ _ ?_
            exact k _ s hs (gX.refl _ _ _ _) (q0) (q1) (SVA_keep q2 (by omega))
          · refine s_2839_99 _ _ ?_
            exact k _ s hs (gX.refl _ _ _ _) (q0) (q1) (SVA_keep q2 (by omega))
        · refine xm_mover hs (q0) (fun x_41 p_42 => ⟨_, rfl, ?_⟩)
          refine ⟨fun h_43 => ?_, fun h_43 => ?_⟩
          · refine xp_refused _ hs (by omega) (fun x_44 s_45 hs_46 hf_47 p_48 => ⟨_, rfl, ?_⟩)
            have hf_49 : gX L true [2, 55, 56, 64, 65, 2926, 2927, 2928] s s_45 := gX.sub hf_47 rfl rfl
            have pd_50 : SVP L 61 s_45 := SVP61_fr q0 hf_47 rfl rfl
            have pd_51 : SVF L 61 60 s_45 := SVF60_fr q1 hf_47 rfl rfl rfl
            have pd_52 : SVA L 60 A s_45 := SVA60_fr q2 hf_47 rfl rfl
            have z_53 : gp_sz s_45 = gp_sz s ∧ gp_us s_45 = gp_us s := hf_47.2.1 rfl
            refine s_2839_135 _ _ ?_
            exact k _ s_45 hs_46 hf_49 (pd_50) (pd_51) (SVA_keep pd_52 (by omega))
          · have f_54 := xr57_2 hs
            refine xm_spoints60 _ hs (q0) (fun x_55 => ⟨_, rfl, ?_⟩)
            refine s_2839_135 _ _ ?_
            exact k _ s hs (gX.refl _ _ _ _) (q0) (q1) (SVA_keep q2 (by omega))
        · have hNN := SVN_of q0
          obtain ⟨N0, N1, N2, hN9⟩ : ∃ a b c, SVN L 61 a b c s := ⟨_, _, _, hNN⟩
          have hfl := SVF_fl q1 hN9 q2
          have f_56 := xr57_2 hs
          refine xm_sworth60 A N0 N1 N2 _ hs (q0) (hN9) (q2) (by first | omega | assumption) (fun x_57 s_58 hs_59 hf_60 p_61 p_62 p_63 => ⟨_, rfl, ?_⟩)
          have hf_64 : gX L true [2, 55, 56, 64, 65, 2926, 2927, 2928] s s_58 := gX.sub hf_60 rfl rfl
          obtain ⟨B, hB1, hB2⟩ := p_63
          have hB9 := SVF_of p_62 hB1 hB2.1
          exact k _ s_58 hs_59 hf_64 (p_61) (hB9) (⟨B, hB1, by omega, by omega⟩)
        · exact k _ s hs (gX.refl _ _ _ _) (q0) (q1) (SVA_keep q2 (by omega))
set_option maxRecDepth 100000 in
/-- GatheredPoints.board -/
theorem xp_board  {L d : Nat} {K : Option gV → gH → Prop} {s : gH}  (p0 : Int) (p1 : Int) (hs : XI L 0 s) (h_p0 : (-2147483648) ≤ p0 ∧ p0 ≤ 2147483647) (h_p1 : (-2147483648) ≤ p1 ∧ p1 ≤ 2147483647) (q0 : XS L s) (q1 : SVP L 61 s) (k : ∀ (r : Int), ∀ (t : gH), XI L 0 t → gX L true [2, 4, 8, 9, 10, 11, 12, 13, 14, 15, 1196] s t → (XS L t) → (gp_sz t ≤ gp_sz s + 6) → (gp_us t ≤ gp_us s + 310) → K (some (gp_i r)) t) : gs_C L (d + 6) 2841 4 [gp_r (some 1), gp_i p0, gp_i p1] s K := by
  refine s_2841_e _ _ ?_
  refine xm_noSlot _ (by omega) (fun x_1 p_2 p_3 p_4 => ⟨_, rfl, ?_⟩)
  refine ⟨fun h_5 => ?_, fun h_5 => ?_⟩
  · refine xm_noSlot _ (by omega) (fun x_6 p_7 p_8 p_9 => ⟨_, rfl, ?_⟩)
    refine ⟨fun h_10 => ?_, fun h_10 => ?_⟩
    · have f_11 := xr57_1 hs
      refine ⟨fun h_12 => ?_, fun h_12 => ?_⟩
      · refine s_2841_45 _ _ _ _ ?_
        refine ⟨fun h_13 => ?_, fun h_13 => ?_⟩
        · refine xp_refused _ hs (by omega) (fun x_14 s_15 hs_16 hf_17 p_18 => ⟨_, rfl, ?_⟩)
          have hf_19 : gX L true [2, 4, 8, 9, 10, 11, 12, 13, 14, 15, 1196] s s_15 := gX.sub hf_17 rfl rfl
          have pd_20 : XS L s_15 := XS_fr q0 hf_17 rfl
          have pd_21 : SVP L 61 s_15 := SVP61_fr q1 hf_17 rfl rfl
          have z_22 : gp_sz s_15 = gp_sz s ∧ gp_us s_15 = gp_us s := hf_17.2.1 rfl
          exact k _ s_15 hs_16 hf_19 (pd_20) (by first | omega | assumption) (by first | omega | assumption)
        · exfalso; omega
      · refine xm_splaceOf60 _ hs (fun x_23 p_24 => ⟨_, rfl, ?_⟩)
        refine s_2841_45 _ _ _ _ ?_
        refine ⟨fun h_25 => ?_, fun h_25 => ?_⟩
        · refine xp_refused _ hs (by omega) (fun x_26 s_27 hs_28 hf_29 p_30 => ⟨_, rfl, ?_⟩)
          have hf_31 : gX L true [2, 4, 8, 9, 10, 11, 12, 13, 14, 15, 1196] s s_27 := gX.sub hf_29 rfl rfl
          have pd_32 : XS L s_27 := XS_fr q0 hf_29 rfl
          have pd_33 : SVP L 61 s_27 := SVP61_fr q1 hf_29 rfl rfl
          have z_34 : gp_sz s_27 = gp_sz s ∧ gp_us s_27 = gp_us s := hf_29.2.1 rfl
          exact k _ s_27 hs_28 hf_31 (pd_32) (by first | omega | assumption) (by first | omega | assumption)
        · refine ⟨by omega, ?_⟩
          refine ⟨by omega, ?_⟩
          have f_35 := xr62 hs (Int.toNat x_23)
          obtain ⟨a_36, n_37, e_38, kt_39, hn_40⟩ := SVP.p61 (by assumption : SVP L 61 s) (Int.toNat x_23) (by omega)
          have hn_a_36 := kt_39.n hs
          rw [show gp_r (gp_R (gp_mk L s) 61 (Int.toNat x_23)) = gp_r (some a_36) from congrArg gp_r e_38]
          refine xm_part n_37 _ _ hs (by omega) (by first | assumption | exact kT7 hs.1.1 | exact kT25 hs.1.1) (by first | omega | assumption) (by first | omega | assumption) (fun o_41 s_42 hs_43 hf_44 p_45 p_46 p_47 => ⟨_, rfl, ?_⟩)
          have hf_48 : gX L true [2, 4, 8, 9, 10, 11, 12, 13, 14, 15, 1196] s s_42 := gX.sub hf_44 rfl rfl
          have kt_49 : kT L s_42 a_36 n_37 := kt_39.fr hf_44.1
          have pd_50 : XS L s_42 := XS_fr q0 hf_44 rfl
          have pd_51 : SVP L 61 s_42 := SVP61_fr q1 hf_44 rfl rfl
          obtain ⟨a_52, n_53, rfl, kt_54, hn_55⟩ := p_45
          have hn_a_52 := kt_54.n hs_43
          refine xp_hold n_53 _ _ hs_43 (by omega) (by first | assumption | exact kT7 hs_43.1.1 | exact kT25 hs_43.1.1) (by first | omega | assumption) (pd_50) (fun x_56 s_57 hs_58 hf_59 p_60 p_61 => ⟨_, rfl, ?_⟩)
          have hf_62 : gX L true [2, 4, 8, 9, 10, 11, 12, 13, 14, 15, 1196] s s_57 := gX.trans hf_48 hf_59 rfl rfl
          have kt_63 : kT L s_57 a_36 n_37 := kt_49.fr hf_59.1
          have kt_64 : kT L s_57 a_52 n_53 := kt_54.fr hf_59.1
          have pd_65 : SVP L 61 s_57 := SVP61_fr pd_51 hf_59 rfl rfl
          have z_66 : gp_sz s_57 = gp_sz s_42 ∧ gp_us s_57 = gp_us s_42 := hf_59.2.1 rfl
          exact k _ s_57 hs_58 hf_62 (p_61) (by first | omega | assumption) (by first | omega | assumption)
    · refine s_2841_14 _ _ _ ?_
      refine xp_refused _ hs (by omega) (fun x_67 s_68 hs_69 hf_70 p_71 => ⟨_, rfl, ?_⟩)
      have hf_72 : gX L true [2, 4, 8, 9, 10, 11, 12, 13, 14, 15, 1196] s s_68 := gX.sub hf_70 rfl rfl
      have pd_73 : XS L s_68 := XS_fr q0 hf_70 rfl
      have pd_74 : SVP L 61 s_68 := SVP61_fr q1 hf_70 rfl rfl
      have z_75 : gp_sz s_68 = gp_sz s ∧ gp_us s_68 = gp_us s := hf_70.2.1 rfl
      exact k _ s_68 hs_69 hf_72 (pd_73) (by first | omega | assumption) (by first | omega | assumption)
  · refine s_2841_14 _ _ _ ?_
    refine xp_refused _ hs (by omega) (fun x_76 s_77 hs_78 hf_79 p_80 => ⟨_, rfl, ?_⟩)
    have hf_81 : gX L true [2, 4, 8, 9, 10, 11, 12, 13, 14, 15, 1196] s s_77 := gX.sub hf_79 rfl rfl
    have pd_82 : XS L s_77 := XS_fr q0 hf_79 rfl
    have pd_83 : SVP L 61 s_77 := SVP61_fr q1 hf_79 rfl rfl
    have z_84 : gp_sz s_77 = gp_sz s ∧ gp_us s_77 = gp_us s := hf_79.2.1 rfl
    exact k _ s_77 hs_78 hf_81 (pd_82) (by first | omega | assumption) (by first | omega | assumption)
