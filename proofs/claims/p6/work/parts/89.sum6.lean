theorem SVP_at {L P i : Nat} {s t : gH} {v : Int} (h : SVP L P s) (et : t = gp_wI s (P + 1) i v) (hv : i < 3 → v < pn L P s i) : SVP L P t := by
  intro b hb
  obtain ⟨a, n, q1, q2, q3, q4⟩ := h b hb
  refine ⟨a, n, by rw [et]; exact q1, by rw [et]; exact q2, q3, ?_⟩
  rw [et, gz_rwi]
  by_cases c : b = i
  · rw [if_pos c]
    subst c
    have := hv hb
    rw [pn_of q1 q2] at this
    exact this
  · rw [if_neg c]; exact q4
def nsel (n0 n1 n2 : Nat) : Nat → Nat
  | 0 => n0
  | 1 => n1
  | _ => n2
theorem pn_N {L P n0 n1 n2 : Nat} {s : gH} (h : SVN L P n0 n1 n2 s) (b : Nat) (hb : b < 3) : pn L P s b = nsel n0 n1 n2 b := by
  obtain ⟨⟨a, q1, q2⟩, ⟨a', q3, q4⟩, ⟨c, q5, q6⟩, h3⟩ := h
  rcases (by omega : b = 0 ∨ b = 1 ∨ b = 2) with q | q | q <;> subst q
  · exact pn_of q1 q2
  · exact pn_of q3 q4
  · exact pn_of q5 q6
theorem chc_eq {L P A b : Nat} {al : Bool} {m : List Nat} {s t : gH} (h : SVP L P s) (hs : XI L 0 s) (g : gX L al m s t) (h1 : 1 ≤ P) (h2 : P < 117) (hb : b < 3) (m1 : m.contains 26 = false) (m2 : m.contains 27 = false) (e : m.contains (gcd P b) = false) (hat : gp_I t A b = gp_I s A b) (side : Int) : chc L P A t b side = chc L P A s b side := by
  obtain ⟨a, n, q1, q2, q3, q4⟩ := h b hb
  unfold chc
  rw [pt_of q1, pt_of ((R_fr g h1 h2 e).trans q1), hat]
  unfold tO
  have hl := tab_L q2 hs q3 g m1 m2 (gp_I s A b).toNat
  rw [hl.1, hl.2]
theorem MV_fr {L P A : Nat} {al : Bool} {m : List Nat} {s t : gH} {r side : Int} (v : MVok L P A s r side) (h : SVP L P s) (hs : XI L 0 s) (g : gX L al m s t) (h1 : 1 ≤ P) (h2 : P < 117) (m1 : m.contains 26 = false) (m2 : m.contains 27 = false) (e : ∀ b, b < 3 → m.contains (gcd P b) = false) (hat : ∀ b, b < 3 → gp_I t A b = gp_I s A b) : MVok L P A t r side := by
  rcases v with q | ⟨q1, q2, q3⟩
  · exact Or.inl q
  · refine Or.inr ⟨q1, q2, ?_⟩
    rw [chc_eq h hs g h1 h2 (by omega) m1 m2 (e _ (by omega)) (hat _ (by omega)) side]
    exact q3
theorem at_o {s u t : gH} {A : Nat} {i v : Int} (iv : ∀ k : Nat, k < 3 → ¬ k = Int.toNat i → gp_I u A k = gp_I s A k) (et : t = gp_wI u A (Int.toNat i) v) : ∀ k : Nat, k < 3 → ¬ k = Int.toNat i → gp_I t A k = gp_I s A k := fun k hk hn => by
  rw [et, gz_rwi, if_neg hn]; exact iv k hk hn
theorem at_back {s u t : gH} {A : Nat} {i v : Int} (iv : ∀ k : Nat, k < 3 → ¬ k = Int.toNat i → gp_I u A k = gp_I s A k) (et : t = gp_wI u A (Int.toNat i) v) (hv : v = gp_I s A (Int.toNat i)) : ∀ k : Nat, k < 3 → gp_I t A k = gp_I s A k := fun k hk => by
  rw [et, gz_rwi]
  by_cases c : k = Int.toNat i
  · rw [if_pos c, c]; exact hv
  · rw [if_neg c]; exact iv k hk c
theorem cnt64 (x : BitVec 64) : gm_cnt x 64 ≤ 64 := gm_cnt_le x 64
set_option maxRecDepth 100000 in
/-- Sum.bestMove -/
theorem xm_sbestMove51  {L d : Nat} {K : Option gV → gH → Prop} {s : gH} (A N0 N1 N2 : Nat) (p0 : Int) (hs : XI L 0 s)  (q0 : SVP L 52 s) (q1 : SVN L 52 N0 N1 N2 s) (q2 : SVA L 51 A s) (q3 : gp_I s 51 8 = 0 ∨ p3m N0 N1 N2 ≤ A) (k : ∀ (r : Int), ∀ (t : gH), XI L 0 t → gX L true [53, 55, 56, 64, 65, 2638, 2639, 2640] s t → ((-1) ≤ r ∧ r ≤ 299) → (SVP L 52 t) → (SVN L 52 N0 N1 N2 t) → (∃ B, SVA L 51 B t ∧ p3m N0 N1 N2 ≤ B ∧ gp_sz t ≤ gp_sz s + 2 ∧ gp_us t + 2 * pot B ≤ gp_us s + 2 * pot A ∧ pot B ≤ pot A) → (MVok L 52 53 t r p0) → K (some (gp_i r)) t) : gs_C L (d + 5) 2057 10 [gp_r (some 51), gp_i p0] s K := by
  refine s_2057_e _ _ ?_
  refine ⟨51, rfl, ?_⟩
  refine ⟨rfl, ?_⟩
  refine xm_sfill51 A N0 N1 N2 hs (q1) (q2) (by first | omega | assumption) (fun s_1 hs_2 hf_3 p_4 p_5 => ⟨rfl, ?_⟩)
  have hf_6 : gX L true [53, 55, 56, 64, 65, 2638, 2639, 2640] s s_1 := gX.sub hf_3 rfl rfl
  have pd_7 : SVP L 52 s_1 := SVP52_fr q0 hf_3 rfl rfl
  have hat0 : ∀ k : Nat, k < 3 → gp_I s_1 53 k = gp_I s 53 k := fun k hk => (hf_3.2.2.1 53 k (by decide) (by decide) rfl).1
  obtain ⟨B, hB1, hB2⟩ := p_5
  have hpr := pr3_N p_4
  have lp_9 : ∀ (n_9 : Nat) (v2_9 : Int) (v3_9 : Int) (v4_9 : Int) (v5_9 : gV) (v6_9 : gV) (v7_9 : gV) (v8_9 : gV) (v9_9 : gV) (s_9 : gH), (XI L 0 s_9) → (gX L true [53, 55, 56, 64, 65, 2638, 2639, 2640] s s_9) → (SVP L 52 s_9) → (SVN L 52 N0 N1 N2 s_9) → (SVA L 51 B s_9) → (gp_sz s_9 ≤ gp_sz s + 2 ∧ gp_us s_9 ≤ gp_us s + (2 * pot A - 2 * pot B)) → ((-1) ≤ v2_9 ∧ v2_9 ≤ 299) → (0 ≤ v4_9 ∧ v4_9 ≤ 3) → (MVok L 52 53 s v2_9 p0) → (∀ k : Nat, k < 3 → gp_I s_9 53 k = gp_I s 53 k) → (4 - v4_9).toNat < n_9 → gs_E L (d + 5) 2057 11 [gp_r (some 51), gp_i p0, gp_i v2_9, gp_i v3_9, gp_i v4_9, v5_9, v6_9, v7_9, v8_9, v9_9] [] s_9 K := by
    intro n_9
    induction n_9 with
    | zero => intro v2_9 v3_9 v4_9 v5_9 v6_9 v7_9 v8_9 v9_9 s_9 hs_s_9 hf_s_9 SVP_L_52_s_9 SVN_L_52_N0_N1_N2_s_9 SVA_L_51_B_s_9 rm_s_9 hv2_9 hv4_9 iv0_9 iv1_9 hm_9; exact absurd hm_9 (Nat.not_lt_zero _)
    | succ n_9 ih_9 =>
      intro v2_9 v3_9 v4_9 v5_9 v6_9 v7_9 v8_9 v9_9 s_9 hs_s_9 hf_s_9 SVP_L_52_s_9 SVN_L_52_N0_N1_N2_s_9 SVA_L_51_B_s_9 rm_s_9 hv2_9 hv4_9 iv0_9 iv1_9 hm_9
      refine s_2057_11 _ _ _ _ _ _ _ _ _ _ ?_
      refine ⟨51, rfl, ?_⟩
      refine ⟨rfl, ?_⟩
      have f_10 := xr51_4 hs_s_9
      refine ⟨fun h_11 => ?_, fun h_11 => ?_⟩
      · refine ⟨rfl, ?_⟩
        refine ⟨53, rfl, ?_⟩
        refine ⟨⟨rfl, by show 0 ≤ v4_9 ∧ v4_9 < 3; omega⟩, ?_⟩
        have f_12 := xr53 hs_s_9 (Int.toNat v4_9)
        refine ⟨rfl, ?_⟩
        refine ⟨52, rfl, ?_⟩
        refine ⟨⟨rfl, by show 0 ≤ v4_9 ∧ v4_9 < 3; omega⟩, ?_⟩
        obtain ⟨a_13, n_14, e_15, kt_16, hn_17⟩ := SVP.p52 (by assumption : SVP L 52 s_9) (Int.toNat v4_9) (by omega)
        have hn_a_13 := kt_16.n hs_s_9
        refine ⟨a_13, e_15, ?_⟩
        refine ⟨kt_16.2.1, ?_⟩
        refine xm_options n_14 _ _ _ hs_s_9 (by omega) (by first | assumption | exact kT7 hs_s_9.1.1 | exact kT25 hs_s_9.1.1) (by first | omega | assumption) (fun m_18 p_19 p_20 => ⟨_, rfl, ?_⟩)
        have hpv := pn_N SVN_L_52_N0_N1_N2_s_9 (Int.toNat v4_9) (by omega)
        have hc0 := chc_of (L := L) (P := 52) (A := 53) (s := s_9) (b := Int.toNat v4_9) (x := ((gm_cnt m_18 64 : Nat) : Int)) rfl (by assumption) (by omega)
        have hc1 := chc_eq (A := 53) q0 hs hf_s_9 (by decide) (by decide) (show Int.toNat v4_9 < 3 by omega) rfl rfl rfl (iv1_9 _ (by omega)) p0
        have hc2 := cnt64 m_18
        have hv5 := iv1_9 (Int.toNat v4_9) (by omega)
        have lp_22 : ∀ (n_22 : Nat) (v2_22 : Int) (v3_22 : Int) (v6_22 : Int) (v7_22 : BitVec 64) (v9_22 : gV) (s_22 : gH), (XI L 0 s_22) → (gX L true [53, 55, 56, 64, 65, 2638, 2639, 2640] s s_22) → (SVP L 52 s_22) → (SVN L 52 N0 N1 N2 s_22) → (SVA L 51 B s_22) → (kT L s_22 a_13 n_14) → (gp_sz s_22 ≤ gp_sz s + 2 ∧ gp_us s_22 ≤ gp_us s + (2 * pot A - 2 * pot B)) → ((-1) ≤ v2_22 ∧ v2_22 ≤ 299) → (0 ≤ v6_22 ∧ v6_22 ≤ 64) → (MVok L 52 53 s v2_22 p0) → (bd v7_22 (gp_I s_9 53 (Int.toNat v4_9))) → (v6_22 + (gm_cnt v7_22 64 : Nat) = (chc L 52 53 s (Int.toNat v4_9) p0 : Nat)) → (∀ k : Nat, k < 3 → ¬ k = Int.toNat v4_9 → gp_I s_22 53 k = gp_I s 53 k) → ((v7_22).toNat) < n_22 → gs_E L (d + 5) 2057 47 [gp_r (some 51), gp_i p0, gp_i v2_22, gp_i v3_22, gp_i v4_9, gp_i (gp_I s_9 53 (Int.toNat v4_9)), gp_i v6_22, gp_l v7_22, gp_n, v9_22] [] s_22 K := by
          intro n_22
          induction n_22 with
          | zero => intro v2_22 v3_22 v6_22 v7_22 v9_22 s_22 hs_s_22 hf_s_22 SVP_L_52_s_22 SVN_L_52_N0_N1_N2_s_22 SVA_L_51_B_s_22 kt_a_13_s_22 rm_s_22 hv2_22 hv6_22 iv0_22 iv1_22 iv2_22 iv3_22 hm_22; exact absurd hm_22 (Nat.not_lt_zero _)
          | succ n_22 ih_22 =>
            intro v2_22 v3_22 v6_22 v7_22 v9_22 s_22 hs_s_22 hf_s_22 SVP_L_52_s_22 SVN_L_52_N0_N1_N2_s_22 SVA_L_51_B_s_22 kt_a_13_s_22 rm_s_22 hv2_22 hv6_22 iv0_22 iv1_22 iv2_22 iv3_22 hm_22
            refine s_2057_47 _ _ _ _ _ _ _ _ _ ?_
            refine ⟨fun h_23 => ?_, fun h_23 => ?_⟩
            · have hz_24 : v7_22 = 0#64 := (gm_cmp0 _ _).mp h_23
              have hp3 := pn_N SVN_L_52_N0_N1_N2_s_22 (Int.toNat v4_9) (by omega)
              have hsp9 := SVP_L_52_s_22
              have hmv := iv0_22
              have hiv3 := iv3_22
              refine ⟨51, rfl, ?_⟩
              refine ⟨rfl, ?_⟩
              refine ⟨53, rfl, ?_⟩
              refine ⟨⟨rfl, by show 0 ≤ v4_9 ∧ v4_9 < 3; omega⟩, ?_⟩
              intro s_25 e_26
              have hs_27 : XI L 0 s_25 := by rw [e_26]; exact xw53 hs_s_22 _ _ (by omega)
              have hf_28 : gX L true [53, 55, 56, 64, 65, 2638, 2639, 2640] s s_25 := by rw [e_26]; exact gX.wI hf_s_22 (Or.inl rfl)
              have kt_29 : kT L s_25 a_13 n_14 := by rw [e_26]; exact kt_a_13_s_22
              have z_30 : gp_sz s_25 = gp_sz s_22 ∧ gp_us s_25 = gp_us s_22 := by rw [e_26]; exact ⟨rfl, rfl⟩
              have pd_31 : SVN L 52 N0 N1 N2 s_25 := by rw [e_26]; exact SVN52_fr SVN_L_52_N0_N1_N2_s_22 (gX.wI (gX.refl L true [53] _) (Or.inl rfl)) rfl
              have pd_32 : SVA L 51 B s_25 := by rw [e_26]; exact SVA51_fr SVA_L_51_B_s_22 (gX.wI (gX.refl L true [53] _) (Or.inl rfl)) rfl rfl
              have hSP : SVP L 52 s_25 := SVP_at hsp9 (by assumption) (fun _ => by omega)
              have hbk := at_back hiv3 (by assumption : s_25 = _) (by omega)
              try rw [show gp_wr (v4_9 + 1) = v4_9 + 1 from gp_wr_id (by omega) (by omega)]
              exact ih_9 _ _ _ _ _ _ _ _ _ hs_27 hf_28 hSP pd_31 pd_32 (by omega) (by omega) (by omega) (by assumption) (hbk) (by omega)
            · have hz_34 : ¬ v7_22 = 0#64 := fun q => h_23 ((gm_cmp0 _ _).mpr q)
              have hl5 := (lob_s (x := v7_22) (by assumption)).2.2.2.2
              refine ⟨51, rfl, ?_⟩
              refine ⟨rfl, ?_⟩
              refine xm_lowest _ (fun x_35 p_36 p_37 => ⟨_, rfl, ?_⟩)
              have hlw := (sub.refl v7_22).low (by assumption) p_37
              have hl0 := iv1_22 _ hlw.2.2
              have hp2 := pn_N SVN_L_52_N0_N1_N2_s_22 (Int.toNat v4_9) (by omega)
              have hsp9 := SVP_L_52_s_22
              refine ⟨53, rfl, ?_⟩
              refine ⟨⟨rfl, by show 0 ≤ v4_9 ∧ v4_9 < 3; omega⟩, ?_⟩
              intro s_38 e_39
              have hs_40 : XI L 0 s_38 := by rw [e_39]; exact xw53 hs_s_22 _ _ (by omega)
              have hf_41 : gX L true [53, 55, 56, 64, 65, 2638, 2639, 2640] s s_38 := by rw [e_39]; exact gX.wI hf_s_22 (Or.inl rfl)
              have kt_42 : kT L s_38 a_13 n_14 := by rw [e_39]; exact kt_a_13_s_22
              have z_43 : gp_sz s_38 = gp_sz s_22 ∧ gp_us s_38 = gp_us s_22 := by rw [e_39]; exact ⟨rfl, rfl⟩
              have pd_44 : SVN L 52 N0 N1 N2 s_38 := by rw [e_39]; exact SVN52_fr SVN_L_52_N0_N1_N2_s_22 (gX.wI (gX.refl L true [53] _) (Or.inl rfl)) rfl
              have pd_45 : SVA L 51 B s_38 := by rw [e_39]; exact SVA51_fr SVA_L_51_B_s_22 (gX.wI (gX.refl L true [53] _) (Or.inl rfl)) rfl rfl
              have hSP : SVP L 52 s_38 := SVP_at hsp9 (by assumption) (fun _ => by omega)
              have hpr6 := pr3_N pd_44
              refine ⟨fun h_46 => ?_, fun h_46 => ?_⟩
              · refine ⟨rfl, ?_⟩
                refine ⟨rfl, ?_⟩
                refine xm_splace51 hs_40 (hSP) (fun x_47 p_48 p_49 => ⟨_, rfl, ?_⟩)
                obtain ⟨b_50, rb_50, lb_50, hb_50, tb_50, cb_50⟩ := SVA.arr7 pd_45
                refine ⟨b_50, rb_50, ?_⟩
                refine ⟨gin hb_50 (by omega), ?_⟩
                refine s_2057_91 _ _ _ _ _ _ _ _ _ _ ?_
                refine ⟨fun h_52 => ?_, fun h_52 => ?_⟩
                · refine s_2057_116 _ _ _ _ _ _ _ _ _ ?_
                  try rw [show gp_wr (v4_9 * 100) = v4_9 * 100 from gp_wr_id (by omega) (by omega)]
                  try rw [show gp_wr ((v4_9 * 100) + v6_22) = (v4_9 * 100) + v6_22 from gp_wr_id (by omega) (by omega)]
                  refine s_2057_128 _ _ _ _ _ _ _ _ _ ?_
                  try rw [show gp_wr (v6_22 + 1) = v6_22 + 1 from gp_wr_id (by omega) (by omega)]
                  exact ih_22 _ _ _ _ _ _ hs_40 hf_41 hSP pd_44 pd_45 kt_42 (by omega) (by omega) (by omega) (by first | exact iv0_22 | exact mv_of (by omega) (by omega) (by omega) (by omega) (by omega)) (bd_rest iv1_22) (by omega) (at_o iv3_22 (by assumption)) (by have := rest_lt (by assumption : ¬ v7_22 = 0#64); omega)
                · refine ⟨fun h_56 => ?_, fun h_56 => ?_⟩
                  · refine ⟨fun h_57 => ?_, fun h_57 => ?_⟩
                    · refine s_2057_116 _ _ _ _ _ _ _ _ _ ?_
                      try rw [show gp_wr (v4_9 * 100) = v4_9 * 100 from gp_wr_id (by omega) (by omega)]
                      try rw [show gp_wr ((v4_9 * 100) + v6_22) = (v4_9 * 100) + v6_22 from gp_wr_id (by omega) (by omega)]
                      refine s_2057_128 _ _ _ _ _ _ _ _ _ ?_
                      try rw [show gp_wr (v6_22 + 1) = v6_22 + 1 from gp_wr_id (by omega) (by omega)]
                      exact ih_22 _ _ _ _ _ _ hs_40 hf_41 hSP pd_44 pd_45 kt_42 (by omega) (by omega) (by omega) (by first | exact iv0_22 | exact mv_of (by omega) (by omega) (by omega) (by omega) (by omega)) (bd_rest iv1_22) (by omega) (at_o iv3_22 (by assumption)) (by have := rest_lt (by assumption : ¬ v7_22 = 0#64); omega)
                    · refine s_2057_128 _ _ _ _ _ _ _ _ _ ?_
                      try rw [show gp_wr (v6_22 + 1) = v6_22 + 1 from gp_wr_id (by omega) (by omega)]
                      exact ih_22 _ _ _ _ _ _ hs_40 hf_41 hSP pd_44 pd_45 kt_42 (by omega) (by omega) (by omega) (by first | exact iv0_22 | exact mv_of (by omega) (by omega) (by omega) (by omega) (by omega)) (bd_rest iv1_22) (by omega) (at_o iv3_22 (by assumption)) (by have := rest_lt (by assumption : ¬ v7_22 = 0#64); omega)
                  · exfalso; omega
              · refine ⟨rfl, ?_⟩
                refine ⟨rfl, ?_⟩
                refine xm_splace51 hs_40 (hSP) (fun x_63 p_64 p_65 => ⟨_, rfl, ?_⟩)
                obtain ⟨b_66, rb_66, lb_66, hb_66, tb_66, cb_66⟩ := SVA.arr6 pd_45
                refine ⟨b_66, rb_66, ?_⟩
                refine ⟨gin hb_66 (by omega), ?_⟩
                refine s_2057_91 _ _ _ _ _ _ _ _ _ _ ?_
                refine ⟨fun h_68 => ?_, fun h_68 => ?_⟩
                · refine s_2057_116 _ _ _ _ _ _ _ _ _ ?_
                  try rw [show gp_wr (v4_9 * 100) = v4_9 * 100 from gp_wr_id (by omega) (by omega)]
                  try rw [show gp_wr ((v4_9 * 100) + v6_22) = (v4_9 * 100) + v6_22 from gp_wr_id (by omega) (by omega)]
                  refine s_2057_128 _ _ _ _ _ _ _ _ _ ?_
                  try rw [show gp_wr (v6_22 + 1) = v6_22 + 1 from gp_wr_id (by omega) (by omega)]
                  exact ih_22 _ _ _ _ _ _ hs_40 hf_41 hSP pd_44 pd_45 kt_42 (by omega) (by omega) (by omega) (by first | exact iv0_22 | exact mv_of (by omega) (by omega) (by omega) (by omega) (by omega)) (bd_rest iv1_22) (by omega) (at_o iv3_22 (by assumption)) (by have := rest_lt (by assumption : ¬ v7_22 = 0#64); omega)
                · refine ⟨fun h_72 => ?_, fun h_72 => ?_⟩
                  · refine ⟨fun h_73 => ?_, fun h_73 => ?_⟩
                    · refine s_2057_116 _ _ _ _ _ _ _ _ _ ?_
                      try rw [show gp_wr (v4_9 * 100) = v4_9 * 100 from gp_wr_id (by omega) (by omega)]
                      try rw [show gp_wr ((v4_9 * 100) + v6_22) = (v4_9 * 100) + v6_22 from gp_wr_id (by omega) (by omega)]
                      refine s_2057_128 _ _ _ _ _ _ _ _ _ ?_
                      try rw [show gp_wr (v6_22 + 1) = v6_22 + 1 from gp_wr_id (by omega) (by omega)]
                      exact ih_22 _ _ _ _ _ _ hs_40 hf_41 hSP pd_44 pd_45 kt_42 (by omega) (by omega) (by omega) (by first | exact iv0_22 | exact mv_of (by omega) (by omega) (by omega) (by omega) (by omega)) (bd_rest iv1_22) (by omega) (at_o iv3_22 (by assumption)) (by have := rest_lt (by assumption : ¬ v7_22 = 0#64); omega)
                    · refine s_2057_128 _ _ _ _ _ _ _ _ _ ?_
                      try rw [show gp_wr (v6_22 + 1) = v6_22 + 1 from gp_wr_id (by omega) (by omega)]
                      exact ih_22 _ _ _ _ _ _ hs_40 hf_41 hSP pd_44 pd_45 kt_42 (by omega) (by omega) (by omega) (by first | exact iv0_22 | exact mv_of (by omega) (by omega) (by omega) (by omega) (by omega)) (bd_rest iv1_22) (by omega) (at_o iv3_22 (by assumption)) (by have := rest_lt (by assumption : ¬ v7_22 = 0#64); omega)
                  · refine ⟨fun h_79 => ?_, fun h_79 => ?_⟩
                    · refine s_2057_116 _ _ _ _ _ _ _ _ _ ?_
                      try rw [show gp_wr (v4_9 * 100) = v4_9 * 100 from gp_wr_id (by omega) (by omega)]
                      try rw [show gp_wr ((v4_9 * 100) + v6_22) = (v4_9 * 100) + v6_22 from gp_wr_id (by omega) (by omega)]
                      refine s_2057_128 _ _ _ _ _ _ _ _ _ ?_
                      try rw [show gp_wr (v6_22 + 1) = v6_22 + 1 from gp_wr_id (by omega) (by omega)]
                      exact ih_22 _ _ _ _ _ _ hs_40 hf_41 hSP pd_44 pd_45 kt_42 (by omega) (by omega) (by omega) (by first | exact iv0_22 | exact mv_of (by omega) (by omega) (by omega) (by omega) (by omega)) (bd_rest iv1_22) (by omega) (at_o iv3_22 (by assumption)) (by have := rest_lt (by assumption : ¬ v7_22 = 0#64); omega)
                    · refine s_2057_128 _ _ _ _ _ _ _ _ _ ?_
                      try rw [show gp_wr (v6_22 + 1) = v6_22 + 1 from gp_wr_id (by omega) (by omega)]
                      exact ih_22 _ _ _ _ _ _ hs_40 hf_41 hSP pd_44 pd_45 kt_42 (by omega) (by omega) (by omega) (by first | exact iv0_22 | exact mv_of (by omega) (by omega) (by omega) (by omega) (by omega)) (bd_rest iv1_22) (by omega) (at_o iv3_22 (by assumption)) (by have := rest_lt (by assumption : ¬ v7_22 = 0#64); omega)
        exact lp_22 _ _ _ _ _ _ _ hs_s_9 hf_s_9 SVP_L_52_s_9 SVN_L_52_N0_N1_N2_s_9 SVA_L_51_B_s_9 kt_16 (by omega) (by omega) (by omega) (iv0_9) (by assumption) (by omega) (fun k hk _ => iv1_9 k hk) (Nat.lt_succ_self _)
      · exact k _ s_9 hs_s_9 hf_s_9 (by omega) (SVP_L_52_s_9) (SVN_L_52_N0_N1_N2_s_9) (⟨B, by assumption, by omega, by omega, by omega, by omega⟩) (MV_fr iv0_9 q0 hs hf_s_9 (by decide) (by decide) rfl rfl (fun _ _ => rfl) iv1_9)
  exact lp_9 _ _ _ _ _ _ _ _ _ _ hs_2 hf_6 pd_7 p_4 hB1 (by omega) (by omega) (by omega) (Or.inl rfl) (hat0) (Nat.lt_succ_self _)
set_option maxRecDepth 100000 in
/-- Sum.bestMove -/
theorem xm_sbestMove60  {L d : Nat} {K : Option gV → gH → Prop} {s : gH} (A N0 N1 N2 : Nat) (p0 : Int) (hs : XI L 0 s)  (q0 : SVP L 61 s) (q1 : SVN L 61 N0 N1 N2 s) (q2 : SVA L 60 A s) (q3 : gp_I s 60 8 = 0 ∨ p3m N0 N1 N2 ≤ A) (k : ∀ (r : Int), ∀ (t : gH), XI L 0 t → gX L true [55, 56, 62, 64, 65, 2926, 2927, 2928] s t → ((-1) ≤ r ∧ r ≤ 299) → (SVP L 61 t) → (SVN L 61 N0 N1 N2 t) → (∃ B, SVA L 60 B t ∧ p3m N0 N1 N2 ≤ B ∧ gp_sz t ≤ gp_sz s + 2 ∧ gp_us t + 2 * pot B ≤ gp_us s + 2 * pot A ∧ pot B ≤ pot A) → (MVok L 61 62 t r p0) → K (some (gp_i r)) t) : gs_C L (d + 5) 2057 10 [gp_r (some 60), gp_i p0] s K := by
  refine s_2057_e _ _ ?_
  refine ⟨60, rfl, ?_⟩
  refine ⟨rfl, ?_⟩
  refine xm_sfill60 A N0 N1 N2 hs (q1) (q2) (by first | omega | assumption) (fun s_1 hs_2 hf_3 p_4 p_5 => ⟨rfl, ?_⟩)
  have hf_6 : gX L true [55, 56, 62, 64, 65, 2926, 2927, 2928] s s_1 := gX.sub hf_3 rfl rfl
  have pd_7 : SVP L 61 s_1 := SVP61_fr q0 hf_3 rfl rfl
  have hat0 : ∀ k : Nat, k < 3 → gp_I s_1 62 k = gp_I s 62 k := fun k hk => (hf_3.2.2.1 62 k (by decide) (by decide) rfl).1
  obtain ⟨B, hB1, hB2⟩ := p_5
  have hpr := pr3_N p_4
  have lp_9 : ∀ (n_9 : Nat) (v2_9 : Int) (v3_9 : Int) (v4_9 : Int) (v5_9 : gV) (v6_9 : gV) (v7_9 : gV) (v8_9 : gV) (v9_9 : gV) (s_9 : gH), (XI L 0 s_9) → (gX L true [55, 56, 62, 64, 65, 2926, 2927, 2928] s s_9) → (SVP L 61 s_9) → (SVN L 61 N0 N1 N2 s_9) → (SVA L 60 B s_9) → (gp_sz s_9 ≤ gp_sz s + 2 ∧ gp_us s_9 ≤ gp_us s + (2 * pot A - 2 * pot B)) → ((-1) ≤ v2_9 ∧ v2_9 ≤ 299) → (0 ≤ v4_9 ∧ v4_9 ≤ 3) → (MVok L 61 62 s v2_9 p0) → (∀ k : Nat, k < 3 → gp_I s_9 62 k = gp_I s 62 k) → (4 - v4_9).toNat < n_9 → gs_E L (d + 5) 2057 11 [gp_r (some 60), gp_i p0, gp_i v2_9, gp_i v3_9, gp_i v4_9, v5_9, v6_9, v7_9, v8_9, v9_9] [] s_9 K := by
    intro n_9
    induction n_9 with
    | zero => intro v2_9 v3_9 v4_9 v5_9 v6_9 v7_9 v8_9 v9_9 s_9 hs_s_9 hf_s_9 SVP_L_61_s_9 SVN_L_61_N0_N1_N2_s_9 SVA_L_60_B_s_9 rm_s_9 hv2_9 hv4_9 iv0_9 iv1_9 hm_9; exact absurd hm_9 (Nat.not_lt_zero _)
    | succ n_9 ih_9 =>
      intro v2_9 v3_9 v4_9 v5_9 v6_9 v7_9 v8_9 v9_9 s_9 hs_s_9 hf_s_9 SVP_L_61_s_9 SVN_L_61_N0_N1_N2_s_9 SVA_L_60_B_s_9 rm_s_9 hv2_9 hv4_9 iv0_9 iv1_9 hm_9
      refine s_2057_11 _ _ _ _ _ _ _ _ _ _ ?_
      refine ⟨60, rfl, ?_⟩
      refine ⟨rfl, ?_⟩
      have f_10 := xr60_4 hs_s_9
      refine ⟨fun h_11 => ?_, fun h_11 => ?_⟩
      · refine ⟨rfl, ?_⟩
        refine ⟨62, rfl, ?_⟩
        refine ⟨⟨rfl, by show 0 ≤ v4_9 ∧ v4_9 < 3; omega⟩, ?_⟩
        have f_12 := xr62 hs_s_9 (Int.toNat v4_9)
        refine ⟨rfl, ?_⟩
        refine ⟨61, rfl, ?_⟩
        refine ⟨⟨rfl, by show 0 ≤ v4_9 ∧ v4_9 < 3; omega⟩, ?_⟩
        obtain ⟨a_13, n_14, e_15, kt_16, hn_17⟩ := SVP.p61 (by assumption : SVP L 61 s_9) (Int.toNat v4_9) (by omega)
        have hn_a_13 := kt_16.n hs_s_9
        refine ⟨a_13, e_15, ?_⟩
        refine ⟨kt_16.2.1, ?_⟩
        refine xm_options n_14 _ _ _ hs_s_9 (by omega) (by first | assumption | exact kT7 hs_s_9.1.1 | exact kT25 hs_s_9.1.1) (by first | omega | assumption) (fun m_18 p_19 p_20 => ⟨_, rfl, ?_⟩)
        have hpv := pn_N SVN_L_61_N0_N1_N2_s_9 (Int.toNat v4_9) (by omega)
        have hc0 := chc_of (L := L) (P := 61) (A := 62) (s := s_9) (b := Int.toNat v4_9) (x := ((gm_cnt m_18 64 : Nat) : Int)) rfl (by assumption) (by omega)
        have hc1 := chc_eq (A := 62) q0 hs hf_s_9 (by decide) (by decide) (show Int.toNat v4_9 < 3 by omega) rfl rfl rfl (iv1_9 _ (by omega)) p0
        have hc2 := cnt64 m_18
        have hv5 := iv1_9 (Int.toNat v4_9) (by omega)
        have lp_22 : ∀ (n_22 : Nat) (v2_22 : Int) (v3_22 : Int) (v6_22 : Int) (v7_22 : BitVec 64) (v9_22 : gV) (s_22 : gH), (XI L 0 s_22) → (gX L true [55, 56, 62, 64, 65, 2926, 2927, 2928] s s_22) → (SVP L 61 s_22) → (SVN L 61 N0 N1 N2 s_22) → (SVA L 60 B s_22) → (kT L s_22 a_13 n_14) → (gp_sz s_22 ≤ gp_sz s + 2 ∧ gp_us s_22 ≤ gp_us s + (2 * pot A - 2 * pot B)) → ((-1) ≤ v2_22 ∧ v2_22 ≤ 299) → (0 ≤ v6_22 ∧ v6_22 ≤ 64) → (MVok L 61 62 s v2_22 p0) → (bd v7_22 (gp_I s_9 62 (Int.toNat v4_9))) → (v6_22 + (gm_cnt v7_22 64 : Nat) = (chc L 61 62 s (Int.toNat v4_9) p0 : Nat)) → (∀ k : Nat, k < 3 → ¬ k = Int.toNat v4_9 → gp_I s_22 62 k = gp_I s 62 k) → ((v7_22).toNat) < n_22 → gs_E L (d + 5) 2057 47 [gp_r (some 60), gp_i p0, gp_i v2_22, gp_i v3_22, gp_i v4_9, gp_i (gp_I s_9 62 (Int.toNat v4_9)), gp_i v6_22, gp_l v7_22, gp_n, v9_22] [] s_22 K := by
          intro n_22
          induction n_22 with
          | zero => intro v2_22 v3_22 v6_22 v7_22 v9_22 s_22 hs_s_22 hf_s_22 SVP_L_61_s_22 SVN_L_61_N0_N1_N2_s_22 SVA_L_60_B_s_22 kt_a_13_s_22 rm_s_22 hv2_22 hv6_22 iv0_22 iv1_22 iv2_22 iv3_22 hm_22; exact absurd hm_22 (Nat.not_lt_zero _)
          | succ n_22 ih_22 =>
            intro v2_22 v3_22 v6_22 v7_22 v9_22 s_22 hs_s_22 hf_s_22 SVP_L_61_s_22 SVN_L_61_N0_N1_N2_s_22 SVA_L_60_B_s_22 kt_a_13_s_22 rm_s_22 hv2_22 hv6_22 iv0_22 iv1_22 iv2_22 iv3_22 hm_22
            refine s_2057_47 _ _ _ _ _ _ _ _ _ ?_
            refine ⟨fun h_23 => ?_, fun h_23 => ?_⟩
            · have hz_24 : v7_22 = 0#64 := (gm_cmp0 _ _).mp h_23
              have hp3 := pn_N SVN_L_61_N0_N1_N2_s_22 (Int.toNat v4_9) (by omega)
              have hsp9 := SVP_L_61_s_22
              have hmv := iv0_22
              have hiv3 := iv3_22
              refine ⟨60, rfl, ?_⟩
              refine ⟨rfl, ?_⟩
              refine ⟨62, rfl, ?_⟩
              refine ⟨⟨rfl, by show 0 ≤ v4_9 ∧ v4_9 < 3; omega⟩, ?_⟩
              intro s_25 e_26
              have hs_27 : XI L 0 s_25 := by rw [e_26]; exact xw62 hs_s_22 _ _ (by omega)
              have hf_28 : gX L true [55, 56, 62, 64, 65, 2926, 2927, 2928] s s_25 := by rw [e_26]; exact gX.wI hf_s_22 (Or.inl rfl)
              have kt_29 : kT L s_25 a_13 n_14 := by rw [e_26]; exact kt_a_13_s_22
              have z_30 : gp_sz s_25 = gp_sz s_22 ∧ gp_us s_25 = gp_us s_22 := by rw [e_26]; exact ⟨rfl, rfl⟩
              have pd_31 : SVN L 61 N0 N1 N2 s_25 := by rw [e_26]; exact SVN61_fr SVN_L_61_N0_N1_N2_s_22 (gX.wI (gX.refl L true [62] _) (Or.inl rfl)) rfl
              have pd_32 : SVA L 60 B s_25 := by rw [e_26]; exact SVA60_fr SVA_L_60_B_s_22 (gX.wI (gX.refl L true [62] _) (Or.inl rfl)) rfl rfl
              have hSP : SVP L 61 s_25 := SVP_at hsp9 (by assumption) (fun _ => by omega)
              have hbk := at_back hiv3 (by assumption : s_25 = _) (by omega)
              try rw [show gp_wr (v4_9 + 1) = v4_9 + 1 from gp_wr_id (by omega) (by omega)]
              exact ih_9 _ _ _ _ _ _ _ _ _ hs_27 hf_28 hSP pd_31 pd_32 (by omega) (by omega) (by omega) (by assumption) (hbk) (by omega)
            · have hz_34 : ¬ v7_22 = 0#64 := fun q => h_23 ((gm_cmp0 _ _).mpr q)
              have hl5 := (lob_s (x := v7_22) (by assumption)).2.2.2.2
              refine ⟨60, rfl, ?_⟩
              refine ⟨rfl, ?_⟩
              refine xm_lowest _ (fun x_35 p_36 p_37 => ⟨_, rfl, ?_⟩)
              have hlw := (sub.refl v7_22).low (by assumption) p_37
              have hl0 := iv1_22 _ hlw.2.2
              have hp2 := pn_N SVN_L_61_N0_N1_N2_s_22 (Int.toNat v4_9) (by omega)
              have hsp9 := SVP_L_61_s_22
              refine ⟨62, rfl, ?_⟩
              refine ⟨⟨rfl, by show 0 ≤ v4_9 ∧ v4_9 < 3; omega⟩, ?_⟩
              intro s_38 e_39
              have hs_40 : XI L 0 s_38 := by rw [e_39]; exact xw62 hs_s_22 _ _ (by omega)
              have hf_41 : gX L true [55, 56, 62, 64, 65, 2926, 2927, 2928] s s_38 := by rw [e_39]; exact gX.wI hf_s_22 (Or.inl rfl)
              have kt_42 : kT L s_38 a_13 n_14 := by rw [e_39]; exact kt_a_13_s_22
              have z_43 : gp_sz s_38 = gp_sz s_22 ∧ gp_us s_38 = gp_us s_22 := by rw [e_39]; exact ⟨rfl, rfl⟩
              have pd_44 : SVN L 61 N0 N1 N2 s_38 := by rw [e_39]; exact SVN61_fr SVN_L_61_N0_N1_N2_s_22 (gX.wI (gX.refl L true [62] _) (Or.inl rfl)) rfl
              have pd_45 : SVA L 60 B s_38 := by rw [e_39]; exact SVA60_fr SVA_L_60_B_s_22 (gX.wI (gX.refl L true [62] _) (Or.inl rfl)) rfl rfl
              have hSP : SVP L 61 s_38 := SVP_at hsp9 (by assumption) (fun _ => by omega)
              have hpr6 := pr3_N pd_44
              refine ⟨fun h_46 => ?_, fun h_46 => ?_⟩
              · refine ⟨rfl, ?_⟩
                refine ⟨rfl, ?_⟩
                refine xm_splace60 hs_40 (hSP) (fun x_47 p_48 p_49 => ⟨_, rfl, ?_⟩)
                obtain ⟨b_50, rb_50, lb_50, hb_50, tb_50, cb_50⟩ := SVA.arr7 pd_45
                refine ⟨b_50, rb_50, ?_⟩
                refine ⟨gin hb_50 (by omega), ?_⟩
                refine s_2057_91 _ _ _ _ _ _ _ _ _ _ ?_
                refine ⟨fun h_52 => ?_, fun h_52 => ?_⟩
                · refine s_2057_116 _ _ _ _ _ _ _ _ _ ?_
                  try rw [show gp_wr (v4_9 * 100) = v4_9 * 100 from gp_wr_id (by omega) (by omega)]
                  try rw [show gp_wr ((v4_9 * 100) + v6_22) = (v4_9 * 100) + v6_22 from gp_wr_id (by omega) (by omega)]
                  refine s_2057_128 _ _ _ _ _ _ _ _ _ ?_
                  try rw [show gp_wr (v6_22 + 1) = v6_22 + 1 from gp_wr_id (by omega) (by omega)]
                  exact ih_22 _ _ _ _ _ _ hs_40 hf_41 hSP pd_44 pd_45 kt_42 (by omega) (by omega) (by omega) (by first | exact iv0_22 | exact mv_of (by omega) (by omega) (by omega) (by omega) (by omega)) (bd_rest iv1_22) (by omega) (at_o iv3_22 (by assumption)) (by have := rest_lt (by assumption : ¬ v7_22 = 0#64); omega)
                · refine ⟨fun h_56 => ?_, fun h_56 => ?_⟩
                  · refine ⟨fun h_57 => ?_, fun h_57 => ?_⟩
                    · refine s_2057_116 _ _ _ _ _ _ _ _ _ ?_
                      try rw [show gp_wr (v4_9 * 100) = v4_9 * 100 from gp_wr_id (by omega) (by omega)]
                      try rw [show gp_wr ((v4_9 * 100) + v6_22) = (v4_9 * 100) + v6_22 from gp_wr_id (by omega) (by omega)]
                      refine s_2057_128 _ _ _ _ _ _ _ _ _ ?_
                      try rw [show gp_wr (v6_22 + 1) = v6_22 + 1 from gp_wr_id (by omega) (by omega)]
                      exact ih_22 _ _ _ _ _ _ hs_40 hf_41 hSP pd_44 pd_45 kt_42 (by omega) (by omega) (by omega) (by first | exact iv0_22 | exact mv_of (by omega) (by omega) (by omega) (by omega) (by omega)) (bd_rest iv1_22) (by omega) (at_o iv3_22 (by assumption)) (by have := rest_lt (by assumption : ¬ v7_22 = 0#64); omega)
                    · refine s_2057_128 _ _ _ _ _ _ _ _ _ ?_
                      try rw [show gp_wr (v6_22 + 1) = v6_22 + 1 from gp_wr_id (by omega) (by omega)]
                      exact ih_22 _ _ _ _ _ _ hs_40 hf_41 hSP pd_44 pd_45 kt_42 (by omega) (by omega) (by omega) (by first | exact iv0_22 | exact mv_of (by omega) (by omega) (by omega) (by omega) (by omega)) (bd_rest iv1_22) (by omega) (at_o iv3_22 (by assumption)) (by have := rest_lt (by assumption : ¬ v7_22 = 0#64); omega)
                  · exfalso; omega
              · refine ⟨rfl, ?_⟩
                refine ⟨rfl, ?_⟩
                refine xm_splace60 hs_40 (hSP) (fun x_63 p_64 p_65 => ⟨_, rfl, ?_⟩)
                obtain ⟨b_66, rb_66, lb_66, hb_66, tb_66, cb_66⟩ := SVA.arr6 pd_45
                refine ⟨b_66, rb_66, ?_⟩
                refine ⟨gin hb_66 (by omega), ?_⟩
                refine s_2057_91 _ _ _ _ _ _ _ _ _ _ ?_
                refine ⟨fun h_68 => ?_, fun h_68 => ?_⟩
                · refine s_2057_116 _ _ _ _ _ _ _ _ _ ?_
                  try rw [show gp_wr (v4_9 * 100) = v4_9 * 100 from gp_wr_id (by omega) (by omega)]
                  try rw [show gp_wr ((v4_9 * 100) + v6_22) = (v4_9 * 100) + v6_22 from gp_wr_id (by omega) (by omega)]
                  refine s_2057_128 _ _ _ _ _ _ _ _ _ ?_
                  try rw [show gp_wr (v6_22 + 1) = v6_22 + 1 from gp_wr_id (by omega) (by omega)]
                  exact ih_22 _ _ _ _ _ _ hs_40 hf_41 hSP pd_44 pd_45 kt_42 (by omega) (by omega) (by omega) (by first | exact iv0_22 | exact mv_of (by omega) (by omega) (by omega) (by omega) (by omega)) (bd_rest iv1_22) (by omega) (at_o iv3_22 (by assumption)) (by have := rest_lt (by assumption : ¬ v7_22 = 0#64); omega)
                · refine ⟨fun h_72 => ?_, fun h_72 => ?_⟩
                  · refine ⟨fun h_73 => ?_, fun h_73 => ?_⟩
                    · refine s_2057_116 _ _ _ _ _ _ _ _ _ ?_
                      try rw [show gp_wr (v4_9 * 100) = v4_9 * 100 from gp_wr_id (by omega) (by omega)]
                      try rw [show gp_wr ((v4_9 * 100) + v6_22) = (v4_9 * 100) + v6_22 from gp_wr_id (by omega) (by omega)]
                      refine s_2057_128 _ _ _ _ _ _ _ _ _ ?_
                      try rw [show gp_wr (v6_22 + 1) = v6_22 + 1 from gp_wr_id (by omega) (by omega)]
                      exact ih_22 _ _ _ _ _ _ hs_40 hf_41 hSP pd_44 pd_45 kt_42 (by omega) (by omega) (by omega) (by first | exact iv0_22 | exact mv_of (by omega) (by omega) (by omega) (by omega) (by omega)) (bd_rest iv1_22) (by omega) (at_o iv3_22 (by assumption)) (by have := rest_lt (by assumption : ¬ v7_22 = 0#64); omega)
                    · refine s_2057_128 _ _ _ _ _ _ _ _ _ ?_
                      try rw [show gp_wr (v6_22 + 1) = v6_22 + 1 from gp_wr_id (by omega) (by omega)]
                      exact ih_22 _ _ _ _ _ _ hs_40 hf_41 hSP pd_44 pd_45 kt_42 (by omega) (by omega) (by omega) (by first | exact iv0_22 | exact mv_of (by omega) (by omega) (by omega) (by omega) (by omega)) (bd_rest iv1_22) (by omega) (at_o iv3_22 (by assumption)) (by have := rest_lt (by assumption : ¬ v7_22 = 0#64); omega)
                  · refine ⟨fun h_79 => ?_, fun h_79 => ?_⟩
                    · refine s_2057_116 _ _ _ _ _ _ _ _ _ ?_
                      try rw [show gp_wr (v4_9 * 100) = v4_9 * 100 from gp_wr_id (by omega) (by omega)]
                      try rw [show gp_wr ((v4_9 * 100) + v6_22) = (v4_9 * 100) + v6_22 from gp_wr_id (by omega) (by omega)]
                      refine s_2057_128 _ _ _ _ _ _ _ _ _ ?_
                      try rw [show gp_wr (v6_22 + 1) = v6_22 + 1 from gp_wr_id (by omega) (by omega)]
                      exact ih_22 _ _ _ _ _ _ hs_40 hf_41 hSP pd_44 pd_45 kt_42 (by omega) (by omega) (by omega) (by first | exact iv0_22 | exact mv_of (by omega) (by omega) (by omega) (by omega) (by omega)) (bd_rest iv1_22) (by omega) (at_o iv3_22 (by assumption)) (by have := rest_lt (by assumption : ¬ v7_22 = 0#64); omega)
                    · refine s_2057_128 _ _ _ _ _ _ _ _ _ ?_
                      try rw [show gp_wr (v6_22 + 1) = v6_22 + 1 from gp_wr_id (by omega) (by omega)]
                      exact ih_22 _ _ _ _ _ _ hs_40 hf_41 hSP pd_44 pd_45 kt_42 (by omega) (by omega) (by omega) (by first | exact iv0_22 | exact mv_of (by omega) (by omega) (by omega) (by omega) (by omega)) (bd_rest iv1_22) (by omega) (at_o iv3_22 (by assumption)) (by have := rest_lt (by assumption : ¬ v7_22 = 0#64); omega)
        exact lp_22 _ _ _ _ _ _ _ hs_s_9 hf_s_9 SVP_L_61_s_9 SVN_L_61_N0_N1_N2_s_9 SVA_L_60_B_s_9 kt_16 (by omega) (by omega) (by omega) (iv0_9) (by assumption) (by omega) (fun k hk _ => iv1_9 k hk) (Nat.lt_succ_self _)
      · exact k _ s_9 hs_s_9 hf_s_9 (by omega) (SVP_L_61_s_9) (SVN_L_61_N0_N1_N2_s_9) (⟨B, by assumption, by omega, by omega, by omega, by omega⟩) (MV_fr iv0_9 q0 hs hf_s_9 (by decide) (by decide) rfl rfl (fun _ _ => rfl) iv1_9)
  exact lp_9 _ _ _ _ _ _ _ _ _ _ hs_2 hf_6 pd_7 p_4 hB1 (by omega) (by omega) (by omega) (Or.inl rfl) (hat0) (Nat.lt_succ_self _)
