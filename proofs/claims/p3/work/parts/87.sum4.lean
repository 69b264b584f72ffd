def pot (n : Nat) : Nat := if 216000 ≤ n then 0 else 648000 - 2 * n
theorem pot_le {A B : Nat} (hA : 1 ≤ A) (hB : B ≤ 216000) (h : 216000 ≤ B ∨ 2 * A ≤ B) (hAB : A < B) : B + pot B ≤ pot A := by
  unfold pot
  rw [if_neg (show ¬ 216000 ≤ A by omega)]
  by_cases c : 216000 ≤ B
  · rw [if_pos c]; omega
  · rw [if_neg c]; omega
theorem lenok {L : Nat} {s : gH} {b A : Nat} (h : gp_sh (gp_mk L s) b = (100, A)) (hA : A ≤ 216000) : (100 ≤ (gp_sh (gp_mk L s) b).1 ∧ (gp_sh (gp_mk L s) b).1 ≤ 105) ∧ ((gp_sh (gp_mk L s) b).2 : Int) < 2147483648 := by
  rw [h]
  exact ⟨⟨Nat.le_refl 100, by show 100 ≤ 105; decide⟩, by show (A : Int) < 2147483648; omega⟩
theorem lenA {L : Nat} {s : gH} {b A : Nat} (h : gp_sh (gp_mk L s) b = (100, A)) : (gp_sh (gp_mk L s) b).2 = A := by rw [h]
theorem SVA_new {L S : Nat} {s a b c t : gH} {v : Int} (hS : S = 51 ∨ S = 60) (h : XI L 0 s) (h1 : 1 ≤ v) (h2 : v ≤ 216000) (e1 : a = gp_new s 100 v.toNat) (e2 : b = gp_wR a S 6 (some (gp_sz s))) (e3 : c = gp_new b 100 v.toNat) (e4 : t = gp_wR c S 7 (some (gp_sz b))) : SVA L S v.toNat t := by
  have z0 : 117 ≤ s.1 := h.1.1
  have z1 : b.1 = s.1 + 1 := by rw [e2, e1]
  have z2 : t.1 = s.1 + 2 := by rw [e4, e3]; show b.1 + 1 = _; omega
  have sb : ∀ x, gp_sh (gp_mk L b) x = if x = s.1 then (100, v.toNat) else gp_sh (gp_mk L s) x := fun x => by
    have q : gp_sh (gp_mk L b) x = gp_sh (gp_mk L a) x := by rw [e2]; rfl
    rw [q, e1]; exact sh_new z0 x
  have st : ∀ x, gp_sh (gp_mk L t) x = if x = b.1 then (100, v.toNat) else gp_sh (gp_mk L b) x := fun x => by
    have q : gp_sh (gp_mk L t) x = gp_sh (gp_mk L c) x := by rw [e4]; rfl
    rw [q, e3]; exact sh_new (by omega) x
  have hsl : S < 117 := by omega
  have r6 : gp_R (gp_mk L t) S 6 = some s.1 := by
    rw [e4, R_wR 6 (Or.inr (by decide)), e3, R_new (by omega), if_neg (by omega), e2]
    refine R_wRs ?_
    rcases hS with q | q <;> rw [q] <;> rfl
  have r7 : gp_R (gp_mk L t) S 7 = some b.1 := by
    rw [e4]
    refine R_wRs ?_
    rcases hS with q | q <;> rw [q] <;> rfl
  have tab : ∀ x, (gp_sh (gp_mk L t) x).1 = 9 → x + 5 < s.1 := fun x hx => by
    rw [st] at hx
    by_cases c1 : x = b.1
    · rw [if_pos c1] at hx; exact absurd hx (by show ¬ 100 = 9; decide)
    · rw [if_neg c1, sb] at hx
      by_cases c2 : x = s.1
      · rw [if_pos c2] at hx; exact absurd hx (by show ¬ 100 = 9; decide)
      · rw [if_neg c2] at hx
        obtain ⟨n, hn⟩ := h.1.2 x hx (by
          intro q; subst q
          exact absurd (show (105 : Nat) = 9 from hx) (by decide))
        exact hn.1.1.2.1
  refine ⟨s.1, b.1, r6, r7, by omega, by omega, ?_, ?_, fun x hx => ?_, fun x hx => ?_, fun q => by omega, fun q => by omega, by omega, by omega⟩
  · rw [st, if_neg (by omega), sb, if_pos rfl]
  · rw [st, if_pos rfl]
  · have := tab x hx; omega
  · have := tab x hx; omega
theorem fill_new {L S A : Nat} {M : Nat} {s a b c t : gH} {v all : Int} (hS : S = 51 ∨ S = 60) (h : XI L 0 s) (e1 : a = gp_new s 100 v.toNat) (e2 : b = gp_wR a S 6 (some (gp_sz s))) (e3 : c = gp_new b 100 v.toNat) (e4 : t = gp_wR c S 7 (some (gp_sz b))) (hA : 1 ≤ A) (h1 : (A : Int) < all) (h2 : all ≤ 216000) (h3 : v = 216000 ∨ (all ≤ v ∧ 2 * (A : Int) ≤ v ∧ v ≤ 216000)) (hM : (M : Int) ≤ all) : ∃ B, SVA L S B t ∧ M ≤ B ∧ gp_sz t ≤ gp_sz s + 2 ∧ gp_us t + 2 * pot B ≤ gp_us s + 2 * pot A ∧ pot B ≤ pot A := by
  have p9 := pot_le (A := A) (B := v.toNat) hA (by omega) (by omega) (by omega)
  refine ⟨v.toNat, SVA_new hS h (by omega) (by omega) e1 e2 e3 e4, by omega, ?_, ?_, by omega⟩
  · rw [e4, e3, e2, e1]; exact Nat.le_refl _
  · have u1 : gp_us t = gp_us s + v.toNat + v.toNat := by rw [e4, e3, e2, e1]
    have p := pot_le (A := A) (B := v.toNat) hA (by omega) (by omega) (by omega)
    omega
theorem fill_old {L S A : Nat} {M : Nat} {s t : gH} (h : SVA L S A t) (hM : M ≤ A) (h1 : gp_sz t = gp_sz s) (h2 : gp_us t = gp_us s) : ∃ B, SVA L S B t ∧ M ≤ B ∧ gp_sz t ≤ gp_sz s + 2 ∧ gp_us t + 2 * pot B ≤ gp_us s + 2 * pot A ∧ pot B ≤ pot A := ⟨A, h, hM, by omega, by omega, Nat.le_refl _⟩
theorem p3I {x0 x1 x2 : Int} {n0 n1 n2 : Nat} (e0 : x0 = n0) (e1 : x1 = n1) (e2 : x2 = n2) : x0 * x1 * x2 = (p3m n0 n1 n2 : Nat) := by
  subst e0; subst e1; subst e2
  unfold p3m
  push_cast
  rfl
set_option maxRecDepth 100000 in
/-- Sum.fill -/
theorem xm_sfill51  {L d : Nat} {K : Option gV → gH → Prop} {s : gH} (A N0 N1 N2 : Nat)  (hs : XI L 0 s)  (q0 : SVN L 52 N0 N1 N2 s) (q1 : SVA L 51 A s) (q2 : gp_I s 51 8 = 0 ∨ p3m N0 N1 N2 ≤ A) (k : ∀ (t : gH), XI L 0 t → gX L true [55, 56, 64, 65, 2638, 2639, 2640] s t → (SVN L 52 N0 N1 N2 t) → (∃ B, SVA L 51 B t ∧ p3m N0 N1 N2 ≤ B ∧ gp_sz t ≤ gp_sz s + 2 ∧ gp_us t + 2 * pot B ≤ gp_us s + 2 * pot A ∧ pot B ≤ pot A) → K none t) : gs_C L (d + 4) 2060 4 [gp_r (some 51)] s K := by
  refine s_2060_e _ ?_
  have hA9 := SVA.le q1
  refine ⟨51, rfl, ?_⟩
  refine ⟨rfl, ?_⟩
  have f_1 := xr51_8 hs
  refine ⟨fun h_2 => ?_, fun h_2 => ?_⟩
  · refine ⟨rfl, ?_⟩
    refine ⟨52, rfl, ?_⟩
    refine ⟨⟨rfl, by show 0 ≤ 0 ∧ 0 < 3; omega⟩, ?_⟩
    obtain ⟨a_3, n_4, e_5, kt_6, hn_7⟩ := SVN.g0 q0
    have hn_a_3 := kt_6.n hs
    refine ⟨a_3, e_5, ?_⟩
    refine ⟨kt_6.2.1, ?_⟩
    have f_8 := (kt_6.tt hs).1.2.2.1
    have f_9 := kt_6.n hs
    refine ⟨rfl, ?_⟩
    refine ⟨52, rfl, ?_⟩
    refine ⟨⟨rfl, by show 0 ≤ 1 ∧ 1 < 3; omega⟩, ?_⟩
    obtain ⟨a_10, n_11, e_12, kt_13, hn_14⟩ := SVN.g1 q0
    have hn_a_10 := kt_13.n hs
    refine ⟨a_10, e_12, ?_⟩
    refine ⟨kt_13.2.1, ?_⟩
    have f_15 := (kt_13.tt hs).1.2.2.1
    have f_16 := kt_13.n hs
    have mr_17 := mul_rng (a := gp_I s a_3 0) (b := gp_I s a_10 0) (A := 60) (B := 60) (by omega) (by omega) (by omega) (by omega)
    try rw [show gp_wr ((gp_I s a_3 0) * (gp_I s a_10 0)) = (gp_I s a_3 0) * (gp_I s a_10 0) from gp_wr_id (by omega) (by omega)]
    refine ⟨rfl, ?_⟩
    refine ⟨52, rfl, ?_⟩
    refine ⟨⟨rfl, by show 0 ≤ 2 ∧ 2 < 3; omega⟩, ?_⟩
    obtain ⟨a_18, n_19, e_20, kt_21, hn_22⟩ := SVN.g2 q0
    have hn_a_18 := kt_21.n hs
    refine ⟨a_18, e_20, ?_⟩
    refine ⟨kt_21.2.1, ?_⟩
    have f_23 := (kt_21.tt hs).1.2.2.1
    have f_24 := kt_21.n hs
    have mr_25 := mul_rng (a := (gp_I s a_3 0) * (gp_I s a_10 0)) (b := gp_I s a_18 0) (A := 3600) (B := 60) (by omega) (by omega) (by omega) (by omega)
    try rw [show gp_wr (((gp_I s a_3 0) * (gp_I s a_10 0)) * (gp_I s a_18 0)) = ((gp_I s a_3 0) * (gp_I s a_10 0)) * (gp_I s a_18 0) from gp_wr_id (by omega) (by omega)]
    have hp3 : (((gp_I s a_3 0) * (gp_I s a_10 0)) * (gp_I s a_18 0)) = (p3m N0 N1 N2 : Nat) := p3I (by omega) (by omega) (by omega)
    refine ⟨rfl, ?_⟩
    obtain ⟨b_26, rb_26, lb_26, hb_26, tb_26, cb_26⟩ := SVA.arr6 q1
    refine ⟨b_26, rb_26, ?_⟩
    refine ⟨lenok hb_26 (by omega), ?_⟩
    have ln_27 := lenA hb_26
    refine ⟨fun h_28 => ?_, fun h_28 => ?_⟩
    · refine ⟨rfl, ?_⟩
      obtain ⟨b_29, rb_29, lb_29, hb_29, tb_29, cb_29⟩ := SVA.arr6 q1
      refine ⟨b_29, rb_29, ?_⟩
      refine ⟨lenok hb_29 (by omega), ?_⟩
      have ln_30 := lenA hb_29
      try rw [show gp_wr (2 * ((gp_sh (gp_mk L s) b_29).2 : Int)) = 2 * ((gp_sh (gp_mk L s) b_29).2 : Int) from gp_wr_id (by omega) (by omega)]
      have w_31 := gz_mx (((gp_I s a_3 0) * (gp_I s a_10 0)) * (gp_I s a_18 0)) (2 * ((gp_sh (gp_mk L s) b_29).2 : Int))
      have w_32 := gz_mi (216000) (gp_mx (((gp_I s a_3 0) * (gp_I s a_10 0)) * (gp_I s a_18 0)) (2 * ((gp_sh (gp_mk L s) b_29).2 : Int)))
      refine ⟨by omega, ?_⟩
      refine ⟨hs.1.1, ?_⟩
      intro s_33 e_34
      have hz_s_33 : gp_sz s_33 = gp_sz s + 1 ∧ gp_us s_33 = gp_us s + Int.toNat (gp_mi 216000 (gp_mx (((gp_I s a_3 0) * (gp_I s a_10 0)) * (gp_I s a_18 0)) (2 * ((gp_sh (gp_mk L s) b_29).2 : Int)))) := by rw [e_34]; exact ⟨rfl, rfl⟩
      have hs_35 : XI L 0 s_33 := by rw [e_34]; exact XI.new hs _ _ (Or.inl (by decide))
      have hf_36 : gX L true [55, 56, 64, 65, 2638, 2639, 2640] s s_33 := by rw [e_34]; exact gX.new (gX.refl _ _ _ _) _ _ hs.1.1
      have hg_s_33 : gX L true [] s s_33 := by rw [e_34]; exact gX.new (gX.refl L true [] _) _ _ hs.1.1
      have kt_37 : kT L s_33 a_3 n_4 := kt_6.fr hg_s_33.1
      have kt_38 : kT L s_33 a_10 n_11 := kt_13.fr hg_s_33.1
      have kt_39 : kT L s_33 a_18 n_19 := kt_21.fr hg_s_33.1
      have pd_40 : SVN L 52 N0 N1 N2 s_33 := SVN52_fr q0 hg_s_33 rfl
      have pd_41 : SVA L 51 A s_33 := SVA51_fr q1 hg_s_33 rfl rfl
      refine ⟨rfl, ?_⟩
      refine ⟨rfl, ?_⟩
      intro s_42 e_43
      have hs_44 : XI L 0 s_42 := by rw [e_43]; exact XI.wR hs_35 51 6 _ (Or.inl (show ¬ (gp_ss 51).1 = 9 by decide))
      have hf_45 : gX L true [55, 56, 64, 65, 2638, 2639, 2640] s s_42 := by rw [e_43]; exact gX.wR hf_36 (Or.inl rfl) (Or.inl (show ¬ (gp_ss 51).1 = 9 by decide))
      have kt_46 : kT L s_42 a_3 n_4 := by rw [e_43]; exact kt_37
      have kt_47 : kT L s_42 a_10 n_11 := by rw [e_43]; exact kt_38
      have kt_48 : kT L s_42 a_18 n_19 := by rw [e_43]; exact kt_39
      have z_49 : gp_sz s_42 = gp_sz s_33 ∧ gp_us s_42 = gp_us s_33 := by rw [e_43]; exact ⟨rfl, rfl⟩
      have pd_50 : SVN L 52 N0 N1 N2 s_42 := by rw [e_43]; exact SVN52_fr pd_40 (gX.wR (gX.refl L true [2638] _) (Or.inl rfl) (Or.inl (show ¬ (gp_ss 51).1 = 9 by decide))) rfl
      refine ⟨by omega, ?_⟩
      refine ⟨hs_44.1.1, ?_⟩
      intro s_51 e_52
      have hz_s_51 : gp_sz s_51 = gp_sz s_42 + 1 ∧ gp_us s_51 = gp_us s_42 + Int.toNat (gp_mi 216000 (gp_mx (((gp_I s a_3 0) * (gp_I s a_10 0)) * (gp_I s a_18 0)) (2 * ((gp_sh (gp_mk L s) b_29).2 : Int)))) := by rw [e_52]; exact ⟨rfl, rfl⟩
      have hs_53 : XI L 0 s_51 := by rw [e_52]; exact XI.new hs_44 _ _ (Or.inl (by decide))
      have hf_54 : gX L true [55, 56, 64, 65, 2638, 2639, 2640] s s_51 := by rw [e_52]; exact gX.new hf_45 _ _ hs_44.1.1
      have hg_s_51 : gX L true [] s_42 s_51 := by rw [e_52]; exact gX.new (gX.refl L true [] _) _ _ hs_44.1.1
      have kt_55 : kT L s_51 a_3 n_4 := kt_46.fr hg_s_51.1
      have kt_56 : kT L s_51 a_10 n_11 := kt_47.fr hg_s_51.1
      have kt_57 : kT L s_51 a_18 n_19 := kt_48.fr hg_s_51.1
      have pd_58 : SVN L 52 N0 N1 N2 s_51 := SVN52_fr pd_50 hg_s_51 rfl
      refine ⟨rfl, ?_⟩
      refine ⟨rfl, ?_⟩
      intro s_59 e_60
      have hs_61 : XI L 0 s_59 := by rw [e_60]; exact XI.wR hs_53 51 7 _ (Or.inl (show ¬ (gp_ss 51).1 = 9 by decide))
      have hf_62 : gX L true [55, 56, 64, 65, 2638, 2639, 2640] s s_59 := by rw [e_60]; exact gX.wR hf_54 (Or.inl rfl) (Or.inl (show ¬ (gp_ss 51).1 = 9 by decide))
      have kt_63 : kT L s_59 a_3 n_4 := by rw [e_60]; exact kt_55
      have kt_64 : kT L s_59 a_10 n_11 := by rw [e_60]; exact kt_56
      have kt_65 : kT L s_59 a_18 n_19 := by rw [e_60]; exact kt_57
      have z_66 : gp_sz s_59 = gp_sz s_51 ∧ gp_us s_59 = gp_us s_51 := by rw [e_60]; exact ⟨rfl, rfl⟩
      have pd_67 : SVN L 52 N0 N1 N2 s_59 := by rw [e_60]; exact SVN52_fr pd_58 (gX.wR (gX.refl L true [2639] _) (Or.inl rfl) (Or.inl (show ¬ (gp_ss 51).1 = 9 by decide))) rfl
      refine s_2060_78 _ _ _ _ ?_
      obtain ⟨B, hB1, hB2⟩ : ∃ B, SVA L 51 B s_59 ∧ p3m N0 N1 N2 ≤ B ∧ gp_sz s_59 ≤ gp_sz s + 2 ∧ gp_us s_59 + 2 * pot B ≤ gp_us s + 2 * pot A ∧ pot B ≤ pot A := by first | exact fill_old q1 (by omega) rfl rfl | exact fill_new (all := (((gp_I s a_3 0) * (gp_I s a_10 0)) * (gp_I s a_18 0))) (by decide) hs (by assumption) (by assumption) (by assumption) (by assumption) (by omega) (by omega) (by omega) (by omega) (by omega)
      have lp_70 : ∀ (n_70 : Nat) (v2_70 : Int) (v3_70 : gV) (s_70 : gH), (XI L 0 s_70) → (gX L true [55, 56, 64, 65, 2638, 2639, 2640] s s_70) → (SVN L 52 N0 N1 N2 s_70) → (SVA L 51 B s_70) → (kT L s_70 a_10 n_11) → (kT L s_70 a_18 n_19) → (kT L s_70 a_3 n_4) → (gp_sz s_70 ≤ gp_sz s + 2 ∧ gp_us s_70 ≤ gp_us s + (2 * pot A - 2 * pot B)) → (0 ≤ v2_70 ∧ v2_70 ≤ 60) → (61 - v2_70).toNat < n_70 → gs_E L (d + 4) 2060 80 [gp_r (some 51), gp_i (((gp_I s a_3 0) * (gp_I s a_10 0)) * (gp_I s a_18 0)), gp_i v2_70, v3_70] [] s_70 K := by
        intro n_70
        induction n_70 with
        | zero => intro v2_70 v3_70 s_70 hs_s_70 hf_s_70 SVN_L_52_N0_N1_N2_s_70 SVA_L_51_B_s_70 kt_a_10_s_70 kt_a_18_s_70 kt_a_3_s_70 rm_s_70 hv2_70 hm_70; exact absurd hm_70 (Nat.not_lt_zero _)
        | succ n_70 ih_70 =>
          intro v2_70 v3_70 s_70 hs_s_70 hf_s_70 SVN_L_52_N0_N1_N2_s_70 SVA_L_51_B_s_70 kt_a_10_s_70 kt_a_18_s_70 kt_a_3_s_70 rm_s_70 hv2_70 hm_70
          refine s_2060_80 _ _ _ _ ?_
          refine ⟨51, rfl, ?_⟩
          refine ⟨rfl, ?_⟩
          refine ⟨52, rfl, ?_⟩
          refine ⟨⟨rfl, by show 0 ≤ 0 ∧ 0 < 3; omega⟩, ?_⟩
          obtain ⟨a_71, n_72, e_73, kt_74, hn_75⟩ := SVN.g0 SVN_L_52_N0_N1_N2_s_70
          have hn_a_71 := kt_74.n hs_s_70
          refine ⟨a_71, e_73, ?_⟩
          refine ⟨kt_74.2.1, ?_⟩
          have f_76 := (kt_74.tt hs_s_70).1.2.2.1
          have f_77 := kt_74.n hs_s_70
          refine ⟨fun h_78 => ?_, fun h_78 => ?_⟩
          · have lp_80 : ∀ (n_80 : Nat) (v3_80 : Int) (s_80 : gH), (XI L 0 s_80) → (gX L true [55, 56, 64, 65, 2638, 2639, 2640] s s_80) → (SVN L 52 N0 N1 N2 s_80) → (SVA L 51 B s_80) → (kT L s_80 a_10 n_11) → (kT L s_80 a_18 n_19) → (kT L s_80 a_3 n_4) → (kT L s_80 a_71 n_72) → (gp_sz s_80 ≤ gp_sz s + 2 ∧ gp_us s_80 ≤ gp_us s + (2 * pot A - 2 * pot B)) → (0 ≤ v3_80 ∧ v3_80 ≤ 60) → (61 - v3_80).toNat < n_80 → gs_E L (d + 4) 2060 95 [gp_r (some 51), gp_i (((gp_I s a_3 0) * (gp_I s a_10 0)) * (gp_I s a_18 0)), gp_i v2_70, gp_i v3_80] [] s_80 K := by
              intro n_80
              induction n_80 with
              | zero => intro v3_80 s_80 hs_s_80 hf_s_80 SVN_L_52_N0_N1_N2_s_80 SVA_L_51_B_s_80 kt_a_10_s_80 kt_a_18_s_80 kt_a_3_s_80 kt_a_71_s_80 rm_s_80 hv3_80 hm_80; exact absurd hm_80 (Nat.not_lt_zero _)
              | succ n_80 ih_80 =>
                intro v3_80 s_80 hs_s_80 hf_s_80 SVN_L_52_N0_N1_N2_s_80 SVA_L_51_B_s_80 kt_a_10_s_80 kt_a_18_s_80 kt_a_3_s_80 kt_a_71_s_80 rm_s_80 hv3_80 hm_80
                refine s_2060_95 _ _ _ _ ?_
                refine ⟨51, rfl, ?_⟩
                refine ⟨rfl, ?_⟩
                refine ⟨52, rfl, ?_⟩
                refine ⟨⟨rfl, by show 0 ≤ 1 ∧ 1 < 3; omega⟩, ?_⟩
                obtain ⟨a_81, n_82, e_83, kt_84, hn_85⟩ := SVN.g1 SVN_L_52_N0_N1_N2_s_80
                have hn_a_81 := kt_84.n hs_s_80
                refine ⟨a_81, e_83, ?_⟩
                refine ⟨kt_84.2.1, ?_⟩
                have f_86 := (kt_84.tt hs_s_80).1.2.2.1
                have f_87 := kt_84.n hs_s_80
                refine ⟨fun h_88 => ?_, fun h_88 => ?_⟩
                · refine ⟨rfl, ?_⟩
                  refine xm_sfillRow51 B N0 N1 N2 _ _ hs_s_80 (by omega) (by omega) (SVN_L_52_N0_N1_N2_s_80) (by assumption) (by first | omega | assumption) (by first | omega | assumption) (by first | omega | assumption) (fun s_89 hs_90 hf_91 => ⟨rfl, ?_⟩)
                  have hf_92 : gX L true [55, 56, 64, 65, 2638, 2639, 2640] s s_89 := gX.trans hf_s_80 hf_91 rfl rfl
                  have kt_93 : kT L s_89 a_3 n_4 := kt_a_3_s_80.fr hf_91.1
                  have kt_94 : kT L s_89 a_10 n_11 := kt_a_10_s_80.fr hf_91.1
                  have kt_95 : kT L s_89 a_18 n_19 := kt_a_18_s_80.fr hf_91.1
                  have kt_96 : kT L s_89 a_71 n_72 := kt_a_71_s_80.fr hf_91.1
                  have kt_97 : kT L s_89 a_81 n_82 := kt_84.fr hf_91.1
                  have pd_98 : SVN L 52 N0 N1 N2 s_89 := SVN52_fr SVN_L_52_N0_N1_N2_s_80 hf_91 rfl
                  have pd_99 : SVA L 51 B s_89 := SVA51_fr SVA_L_51_B_s_80 hf_91 rfl rfl
                  have z_100 : gp_sz s_89 = gp_sz s_80 ∧ gp_us s_89 = gp_us s_80 := hf_91.2.1 rfl
                  try rw [show gp_wr (v3_80 + 1) = v3_80 + 1 from gp_wr_id (by omega) (by omega)]
                  exact ih_80 _ _ hs_90 hf_92 pd_98 pd_99 kt_94 kt_95 kt_93 kt_96 (by omega) (by omega) (by omega)
                · try rw [show gp_wr (v2_70 + 1) = v2_70 + 1 from gp_wr_id (by omega) (by omega)]
                  exact ih_70 _ _ _ hs_s_80 hf_s_80 SVN_L_52_N0_N1_N2_s_80 SVA_L_51_B_s_80 kt_a_10_s_80 kt_a_18_s_80 kt_a_3_s_80 (by omega) (by omega) (by omega)
            exact lp_80 _ _ _ hs_s_70 hf_s_70 SVN_L_52_N0_N1_N2_s_70 SVA_L_51_B_s_70 kt_a_10_s_70 kt_a_18_s_70 kt_a_3_s_70 kt_74 (by omega) (by omega) (Nat.lt_succ_self _)
          · refine ⟨rfl, ?_⟩
            intro s_103 e_104
            have hs_105 : XI L 0 s_103 := by rw [e_104]; exact xw51_8 hs_s_70 _ (by omega)
            have hf_106 : gX L true [55, 56, 64, 65, 2638, 2639, 2640] s s_103 := by rw [e_104]; exact gX.wI hf_s_70 (Or.inl rfl)
            have kt_107 : kT L s_103 a_3 n_4 := by rw [e_104]; exact kt_a_3_s_70
            have kt_108 : kT L s_103 a_10 n_11 := by rw [e_104]; exact kt_a_10_s_70
            have kt_109 : kT L s_103 a_18 n_19 := by rw [e_104]; exact kt_a_18_s_70
            have kt_110 : kT L s_103 a_71 n_72 := by rw [e_104]; exact kt_74
            have z_111 : gp_sz s_103 = gp_sz s_70 ∧ gp_us s_103 = gp_us s_70 := by rw [e_104]; exact ⟨rfl, rfl⟩
            have pd_112 : SVN L 52 N0 N1 N2 s_103 := by rw [e_104]; exact SVN52_fr SVN_L_52_N0_N1_N2_s_70 (gX.wI (gX.refl L true [2640] _) (Or.inl rfl)) rfl
            have pd_113 : SVA L 51 B s_103 := by rw [e_104]; exact SVA51_fr SVA_L_51_B_s_70 (gX.wI (gX.refl L true [2640] _) (Or.inl rfl)) rfl rfl
            exact k s_103 hs_105 hf_106 (pd_112) (by first | exact ⟨A, by assumption, by omega, by omega, by omega, by omega⟩ | exact ⟨B, by assumption, by omega, by omega, by omega, by omega⟩)
      exact lp_70 _ _ _ _ hs_61 hf_62 pd_67 hB1 kt_64 kt_65 kt_63 (by omega) (by omega) (Nat.lt_succ_self _)
    · refine s_2060_78 _ _ _ _ ?_
      obtain ⟨B, hB1, hB2⟩ : ∃ B, SVA L 51 B s ∧ p3m N0 N1 N2 ≤ B ∧ gp_sz s ≤ gp_sz s + 2 ∧ gp_us s + 2 * pot B ≤ gp_us s + 2 * pot A ∧ pot B ≤ pot A := by first | exact fill_old q1 (by omega) rfl rfl | exact fill_new (all := (((gp_I s a_3 0) * (gp_I s a_10 0)) * (gp_I s a_18 0))) (by decide) hs (by assumption) (by assumption) (by assumption) (by assumption) (by omega) (by omega) (by omega) (by omega) (by omega)
      have lp_116 : ∀ (n_116 : Nat) (v2_116 : Int) (v3_116 : gV) (s_116 : gH), (XI L 0 s_116) → (gX L true [55, 56, 64, 65, 2638, 2639, 2640] s s_116) → (SVN L 52 N0 N1 N2 s_116) → (SVA L 51 B s_116) → (kT L s_116 a_10 n_11) → (kT L s_116 a_18 n_19) → (kT L s_116 a_3 n_4) → (gp_sz s_116 ≤ gp_sz s + 2 ∧ gp_us s_116 ≤ gp_us s + (2 * pot A - 2 * pot B)) → (0 ≤ v2_116 ∧ v2_116 ≤ 60) → (61 - v2_116).toNat < n_116 → gs_E L (d + 4) 2060 80 [gp_r (some 51), gp_i (((gp_I s a_3 0) * (gp_I s a_10 0)) * (gp_I s a_18 0)), gp_i v2_116, v3_116] [] s_116 K := by
        intro n_116
        induction n_116 with
        | zero => intro v2_116 v3_116 s_116 hs_s_116 hf_s_116 SVN_L_52_N0_N1_N2_s_116 SVA_L_51_B_s_116 kt_a_10_s_116 kt_a_18_s_116 kt_a_3_s_116 rm_s_116 hv2_116 hm_116; exact absurd hm_116 (Nat.not_lt_zero _)
        | succ n_116 ih_116 =>
          intro v2_116 v3_116 s_116 hs_s_116 hf_s_116 SVN_L_52_N0_N1_N2_s_116 SVA_L_51_B_s_116 kt_a_10_s_116 kt_a_18_s_116 kt_a_3_s_116 rm_s_116 hv2_116 hm_116
          refine s_2060_80 _ _ _ _ ?_
          refine ⟨51, rfl, ?_⟩
          refine ⟨rfl, ?_⟩
          refine ⟨52, rfl, ?_⟩
          refine ⟨⟨rfl, by show 0 ≤ 0 ∧ 0 < 3; omega⟩, ?_⟩
          obtain ⟨a_117, n_118, e_119, kt_120, hn_121⟩ := SVN.g0 SVN_L_52_N0_N1_N2_s_116
          have hn_a_117 := kt_120.n hs_s_116
          refine ⟨a_117, e_119, ?_⟩
          refine ⟨kt_120.2.1, ?_⟩
          have f_122 := (kt_120.tt hs_s_116).1.2.2.1
          have f_123 := kt_120.n hs_s_116
          refine ⟨fun h_124 => ?_, fun h_124 => ?_⟩
          · have lp_126 : ∀ (n_126 : Nat) (v3_126 : Int) (s_126 : gH), (XI L 0 s_126) → (gX L true [55, 56, 64, 65, 2638, 2639, 2640] s s_126) → (SVN L 52 N0 N1 N2 s_126) → (SVA L 51 B s_126) → (kT L s_126 a_10 n_11) → (kT L s_126 a_117 n_118) → (kT L s_126 a_18 n_19) → (kT L s_126 a_3 n_4) → (gp_sz s_126 ≤ gp_sz s + 2 ∧ gp_us s_126 ≤ gp_us s + (2 * pot A - 2 * pot B)) → (0 ≤ v3_126 ∧ v3_126 ≤ 60) → (61 - v3_126).toNat < n_126 → gs_E L (d + 4) 2060 95 [gp_r (some 51), gp_i (((gp_I s a_3 0) * (gp_I s a_10 0)) * (gp_I s a_18 0)), gp_i v2_116, gp_i v3_126] [] s_126 K := by
              intro n_126
              induction n_126 with
              | zero => intro v3_126 s_126 hs_s_126 hf_s_126 SVN_L_52_N0_N1_N2_s_126 SVA_L_51_B_s_126 kt_a_10_s_126 kt_a_117_s_126 kt_a_18_s_126 kt_a_3_s_126 rm_s_126 hv3_126 hm_126; exact absurd hm_126 (Nat.not_lt_zero _)
              | succ n_126 ih_126 =>
                intro v3_126 s_126 hs_s_126 hf_s_126 SVN_L_52_N0_N1_N2_s_126 SVA_L_51_B_s_126 kt_a_10_s_126 kt_a_117_s_126 kt_a_18_s_126 kt_a_3_s_126 rm_s_126 hv3_126 hm_126
                refine s_2060_95 _ _ _ _ ?_
                refine ⟨51, rfl, ?_⟩
                refine ⟨rfl, ?_⟩
                refine ⟨52, rfl, ?_⟩
                refine ⟨⟨rfl, by show 0 ≤ 1 ∧ 1 < 3; omega⟩, ?_⟩
                obtain ⟨a_127, n_128, e_129, kt_130, hn_131⟩ := SVN.g1 SVN_L_52_N0_N1_N2_s_126
                have hn_a_127 := kt_130.n hs_s_126
                refine ⟨a_127, e_129, ?_⟩
                refine ⟨kt_130.2.1, ?_⟩
                have f_132 := (kt_130.tt hs_s_126).1.2.2.1
                have f_133 := kt_130.n hs_s_126
                refine ⟨fun h_134 => ?_, fun h_134 => ?_⟩
                · refine ⟨rfl, ?_⟩
                  refine xm_sfillRow51 B N0 N1 N2 _ _ hs_s_126 (by omega) (by omega) (SVN_L_52_N0_N1_N2_s_126) (by assumption) (by first | omega | assumption) (by first | omega | assumption) (by first | omega | assumption) (fun s_135 hs_136 hf_137 => ⟨rfl, ?_⟩)
                  have hf_138 : gX L true [55, 56, 64, 65, 2638, 2639, 2640] s s_135 := gX.trans hf_s_126 hf_137 rfl rfl
                  have kt_139 : kT L s_135 a_3 n_4 := kt_a_3_s_126.fr hf_137.1
                  have kt_140 : kT L s_135 a_10 n_11 := kt_a_10_s_126.fr hf_137.1
                  have kt_141 : kT L s_135 a_18 n_19 := kt_a_18_s_126.fr hf_137.1
                  have kt_142 : kT L s_135 a_117 n_118 := kt_a_117_s_126.fr hf_137.1
                  have kt_143 : kT L s_135 a_127 n_128 := kt_130.fr hf_137.1
                  have pd_144 : SVN L 52 N0 N1 N2 s_135 := SVN52_fr SVN_L_52_N0_N1_N2_s_126 hf_137 rfl
                  have pd_145 : SVA L 51 B s_135 := SVA51_fr SVA_L_51_B_s_126 hf_137 rfl rfl
                  have z_146 : gp_sz s_135 = gp_sz s_126 ∧ gp_us s_135 = gp_us s_126 := hf_137.2.1 rfl
                  try rw [show gp_wr (v3_126 + 1) = v3_126 + 1 from gp_wr_id (by omega) (by omega)]
                  exact ih_126 _ _ hs_136 hf_138 pd_144 pd_145 kt_140 kt_142 kt_141 kt_139 (by omega) (by omega) (by omega)
                · try rw [show gp_wr (v2_116 + 1) = v2_116 + 1 from gp_wr_id (by omega) (by omega)]
                  exact ih_116 _ _ _ hs_s_126 hf_s_126 SVN_L_52_N0_N1_N2_s_126 SVA_L_51_B_s_126 kt_a_10_s_126 kt_a_18_s_126 kt_a_3_s_126 (by omega) (by omega) (by omega)
            exact lp_126 _ _ _ hs_s_116 hf_s_116 SVN_L_52_N0_N1_N2_s_116 SVA_L_51_B_s_116 kt_a_10_s_116 kt_120 kt_a_18_s_116 kt_a_3_s_116 (by omega) (by omega) (Nat.lt_succ_self _)
          · refine ⟨rfl, ?_⟩
            intro s_149 e_150
            have hs_151 : XI L 0 s_149 := by rw [e_150]; exact xw51_8 hs_s_116 _ (by omega)
            have hf_152 : gX L true [55, 56, 64, 65, 2638, 2639, 2640] s s_149 := by rw [e_150]; exact gX.wI hf_s_116 (Or.inl rfl)
            have kt_153 : kT L s_149 a_3 n_4 := by rw [e_150]; exact kt_a_3_s_116
            have kt_154 : kT L s_149 a_10 n_11 := by rw [e_150]; exact kt_a_10_s_116
            have kt_155 : kT L s_149 a_18 n_19 := by rw [e_150]; exact kt_a_18_s_116
            have kt_156 : kT L s_149 a_117 n_118 := by rw [e_150]; exact kt_120
            have z_157 : gp_sz s_149 = gp_sz s_116 ∧ gp_us s_149 = gp_us s_116 := by rw [e_150]; exact ⟨rfl, rfl⟩
            have pd_158 : SVN L 52 N0 N1 N2 s_149 := by rw [e_150]; exact SVN52_fr SVN_L_52_N0_N1_N2_s_116 (gX.wI (gX.refl L true [2640] _) (Or.inl rfl)) rfl
            have pd_159 : SVA L 51 B s_149 := by rw [e_150]; exact SVA51_fr SVA_L_51_B_s_116 (gX.wI (gX.refl L true [2640] _) (Or.inl rfl)) rfl rfl
            exact k s_149 hs_151 hf_152 (pd_158) (by first | exact ⟨A, by assumption, by omega, by omega, by omega, by omega⟩ | exact ⟨B, by assumption, by omega, by omega, by omega, by omega⟩)
      exact lp_116 _ _ _ _ hs (gX.refl _ _ _ _) q0 hB1 kt_13 kt_21 kt_6 (by omega) (by omega) (Nat.lt_succ_self _)
  · exact k s hs (gX.refl _ _ _ _) (q0) (by first | exact ⟨A, by assumption, by omega, by omega, by omega, by omega⟩ | exact ⟨B, by assumption, by omega, by omega, by omega, by omega⟩)
set_option maxRecDepth 100000 in
/-- Sum.fill -/
theorem xm_sfill60  {L d : Nat} {K : Option gV → gH → Prop} {s : gH} (A N0 N1 N2 : Nat)  (hs : XI L 0 s)  (q0 : SVN L 61 N0 N1 N2 s) (q1 : SVA L 60 A s) (q2 : gp_I s 60 8 = 0 ∨ p3m N0 N1 N2 ≤ A) (k : ∀ (t : gH), XI L 0 t → gX L true [55, 56, 64, 65, 2926, 2927, 2928] s t → (SVN L 61 N0 N1 N2 t) → (∃ B, SVA L 60 B t ∧ p3m N0 N1 N2 ≤ B ∧ gp_sz t ≤ gp_sz s + 2 ∧ gp_us t + 2 * pot B ≤ gp_us s + 2 * pot A ∧ pot B ≤ pot A) → K none t) : gs_C L (d + 4) 2060 4 [gp_r (some 60)] s K := by
  refine s_2060_e _ ?_
  have hA9 := SVA.le q1
  refine ⟨60, rfl, ?_⟩
  refine ⟨rfl, ?_⟩
  have f_1 := xr60_8 hs
  refine ⟨fun h_2 => ?_, fun h_2 => ?_⟩
  · refine ⟨rfl, ?_⟩
    refine ⟨61, rfl, ?_⟩
    refine ⟨⟨rfl, by show 0 ≤ 0 ∧ 0 < 3; omega⟩, ?_⟩
    obtain ⟨a_3, n_4, e_5, kt_6, hn_7⟩ := SVN.g0 q0
    have hn_a_3 := kt_6.n hs
    refine ⟨a_3, e_5, ?_⟩
    refine ⟨kt_6.2.1, ?_⟩
    have f_8 := (kt_6.tt hs).1.2.2.1
    have f_9 := kt_6.n hs
    refine ⟨rfl, ?_⟩
    refine ⟨61, rfl, ?_⟩
    refine ⟨⟨rfl, by show 0 ≤ 1 ∧ 1 < 3; omega⟩, ?_⟩
    obtain ⟨a_10, n_11, e_12, kt_13, hn_14⟩ := SVN.g1 q0
    have hn_a_10 := kt_13.n hs
    refine ⟨a_10, e_12, ?_⟩
    refine ⟨kt_13.2.1, ?_⟩
    have f_15 := (kt_13.tt hs).1.2.2.1
    have f_16 := kt_13.n hs
    have mr_17 := mul_rng (a := gp_I s a_3 0) (b := gp_I s a_10 0) (A := 60) (B := 60) (by omega) (by omega) (by omega) (by omega)
    try rw [show gp_wr ((gp_I s a_3 0) * (gp_I s a_10 0)) = (gp_I s a_3 0) * (gp_I s a_10 0) from gp_wr_id (by omega) (by omega)]
    refine ⟨rfl, ?_⟩
    refine ⟨61, rfl, ?_⟩
    refine ⟨⟨rfl, by show 0 ≤ 2 ∧ 2 < 3; omega⟩, ?_⟩
    obtain ⟨a_18, n_19, e_20, kt_21, hn_22⟩ := SVN.g2 q0
    have hn_a_18 := kt_21.n hs
    refine ⟨a_18, e_20, ?_⟩
    refine ⟨kt_21.2.1, ?_⟩
    have f_23 := (kt_21.tt hs).1.2.2.1
    have f_24 := kt_21.n hs
    have mr_25 := mul_rng (a := (gp_I s a_3 0) * (gp_I s a_10 0)) (b := gp_I s a_18 0) (A := 3600) (B := 60) (by omega) (by omega) (by omega) (by omega)
    try rw [show gp_wr (((gp_I s a_3 0) * (gp_I s a_10 0)) * (gp_I s a_18 0)) = ((gp_I s a_3 0) * (gp_I s a_10 0)) * (gp_I s a_18 0) from gp_wr_id (by omega) (by omega)]
    have hp3 : (((gp_I s a_3 0) * (gp_I s a_10 0)) * (gp_I s a_18 0)) = (p3m N0 N1 N2 : Nat) := p3I (by omega) (by omega) (by omega)
    refine ⟨rfl, ?_⟩
    obtain ⟨b_26, rb_26, lb_26, hb_26, tb_26, cb_26⟩ := SVA.arr6 q1
    refine ⟨b_26, rb_26, ?_⟩
    refine ⟨lenok hb_26 (by omega), ?_⟩
    have ln_27 := lenA hb_26
    refine ⟨fun h_28 => ?_, fun h_28 => ?_⟩
    · refine ⟨rfl, ?_⟩
      obtain ⟨b_29, rb_29, lb_29, hb_29, tb_29, cb_29⟩ := SVA.arr6 q1
      refine ⟨b_29, rb_29, ?_⟩
      refine ⟨lenok hb_29 (by omega), ?_⟩
      have ln_30 := lenA hb_29
      try rw [show gp_wr (2 * ((gp_sh (gp_mk L s) b_29).2 : Int)) = 2 * ((gp_sh (gp_mk L s) b_29).2 : Int) from gp_wr_id (by omega) (by omega)]
      have w_31 := gz_mx (((gp_I s a_3 0) * (gp_I s a_10 0)) * (gp_I s a_18 0)) (2 * ((gp_sh (gp_mk L s) b_29).2 : Int))
      have w_32 := gz_mi (216000) (gp_mx (((gp_I s a_3 0) * (gp_I s a_10 0)) * (gp_I s a_18 0)) (2 * ((gp_sh (gp_mk L s) b_29).2 : Int)))
      refine ⟨by omega, ?_⟩
      refine ⟨hs.1.1, ?_⟩
      intro s_33 e_34
      have hz_s_33 : gp_sz s_33 = gp_sz s + 1 ∧ gp_us s_33 = gp_us s + Int.toNat (gp_mi 216000 (gp_mx (((gp_I s a_3 0) * (gp_I s a_10 0)) * (gp_I s a_18 0)) (2 * ((gp_sh (gp_mk L s) b_29).2 : Int)))) := by rw [e_34]; exact ⟨rfl, rfl⟩
      have hs_35 : XI L 0 s_33 := by rw [e_34]; exact XI.new hs _ _ (Or.inl (by decide))
      have hf_36 : gX L true [55, 56, 64, 65, 2926, 2927, 2928] s s_33 := by rw [e_34]; exact gX.new (gX.refl _ _ _ _) _ _ hs.1.1
      have hg_s_33 : gX L true [] s s_33 := by rw [e_34]; exact gX.new (gX.refl L true [] _) _ _ hs.1.1
      have kt_37 : kT L s_33 a_3 n_4 := kt_6.fr hg_s_33.1
      have kt_38 : kT L s_33 a_10 n_11 := kt_13.fr hg_s_33.1
      have kt_39 : kT L s_33 a_18 n_19 := kt_21.fr hg_s_33.1
      have pd_40 : SVN L 61 N0 N1 N2 s_33 := SVN61_fr q0 hg_s_33 rfl
      have pd_41 : SVA L 60 A s_33 := SVA60_fr q1 hg_s_33 rfl rfl
      refine ⟨rfl, ?_⟩
      refine ⟨rfl, ?_⟩
      intro s_42 e_43
      have hs_44 : XI L 0 s_42 := by rw [e_43]; exact XI.wR hs_35 60 6 _ (Or.inl (show ¬ (gp_ss 60).1 = 9 by decide))
      have hf_45 : gX L true [55, 56, 64, 65, 2926, 2927, 2928] s s_42 := by rw [e_43]; exact gX.wR hf_36 (Or.inl rfl) (Or.inl (show ¬ (gp_ss 60).1 = 9 by decide))
      have kt_46 : kT L s_42 a_3 n_4 := by rw [e_43]; exact kt_37
      have kt_47 : kT L s_42 a_10 n_11 := by rw [e_43]; exact kt_38
      have kt_48 : kT L s_42 a_18 n_19 := by rw [e_43]; exact kt_39
      have z_49 : gp_sz s_42 = gp_sz s_33 ∧ gp_us s_42 = gp_us s_33 := by rw [e_43]; exact ⟨rfl, rfl⟩
      have pd_50 : SVN L 61 N0 N1 N2 s_42 := by rw [e_43]; exact SVN61_fr pd_40 (gX.wR (gX.refl L true [2926] _) (Or.inl rfl) (Or.inl (show ¬ (gp_ss 60).1 = 9 by decide))) rfl
      refine ⟨by omega, ?_⟩
      refine ⟨hs_44.1.1, ?_⟩
      intro s_51 e_52
      have hz_s_51 : gp_sz s_51 = gp_sz s_42 + 1 ∧ gp_us s_51 = gp_us s_42 + Int.toNat (gp_mi 216000 (gp_mx (((gp_I s a_3 0) * (gp_I s a_10 0)) * (gp_I s a_18 0)) (2 * ((gp_sh (gp_mk L s) b_29).2 : Int)))) := by rw [e_52]; exact ⟨rfl, rfl⟩
      have hs_53 : XI L 0 s_51 := by rw [e_52]; exact XI.new hs_44 _ _ (Or.inl (by decide))
      have hf_54 : gX L true [55, 56, 64, 65, 2926, 2927, 2928] s s_51 := by rw [e_52]; exact gX.new hf_45 _ _ hs_44.1.1
      have hg_s_51 : gX L true [] s_42 s_51 := by rw [e_52]; exact gX.new (gX.refl L true [] _) _ _ hs_44.1.1
      have kt_55 : kT L s_51 a_3 n_4 := kt_46.fr hg_s_51.1
      have kt_56 : kT L s_51 a_10 n_11 := kt_47.fr hg_s_51.1
      have kt_57 : kT L s_51 a_18 n_19 := kt_48.fr hg_s_51.1
      have pd_58 : SVN L 61 N0 N1 N2 s_51 := SVN61_fr pd_50 hg_s_51 rfl
      refine ⟨rfl, ?_⟩
      refine ⟨rfl, ?_⟩
      intro s_59 e_60
      have hs_61 : XI L 0 s_59 := by rw [e_60]; exact XI.wR hs_53 60 7 _ (Or.inl (show ¬ (gp_ss 60).1 = 9 by decide))
      have hf_62 : gX L true [55, 56, 64, 65, 2926, 2927, 2928] s s_59 := by rw [e_60]; exact gX.wR hf_54 (Or.inl rfl) (Or.inl (show ¬ (gp_ss 60).1 = 9 by decide))
      have kt_63 : kT L s_59 a_3 n_4 := by rw [e_60]; exact kt_55
      have kt_64 : kT L s_59 a_10 n_11 := by rw [e_60]; exact kt_56
      have kt_65 : kT L s_59 a_18 n_19 := by rw [e_60]; exact kt_57
      have z_66 : gp_sz s_59 = gp_sz s_51 ∧ gp_us s_59 = gp_us s_51 := by rw [e_60]; exact ⟨rfl, rfl⟩
      have pd_67 : SVN L 61 N0 N1 N2 s_59 := by rw [e_60]; exact SVN61_fr pd_58 (gX.wR (gX.refl L true [2927] _) (Or.inl rfl) (Or.inl (show ¬ (gp_ss 60).1 = 9 by decide))) rfl
      refine s_2060_78 _ _ _ _ ?_
      obtain ⟨B, hB1, hB2⟩ : ∃ B, SVA L 60 B s_59 ∧ p3m N0 N1 N2 ≤ B ∧ gp_sz s_59 ≤ gp_sz s + 2 ∧ gp_us s_59 + 2 * pot B ≤ gp_us s + 2 * pot A ∧ pot B ≤ pot A := by first | exact fill_old q1 (by omega) rfl rfl | exact fill_new (all := (((gp_I s a_3 0) * (gp_I s a_10 0)) * (gp_I s a_18 0))) (by decide) hs (by assumption) (by assumption) (by assumption) (by assumption) (by omega) (by omega) (by omega) (by omega) (by omega)
      have lp_70 : ∀ (n_70 : Nat) (v2_70 : Int) (v3_70 : gV) (s_70 : gH), (XI L 0 s_70) → (gX L true [55, 56, 64, 65, 2926, 2927, 2928] s s_70) → (SVN L 61 N0 N1 N2 s_70) → (SVA L 60 B s_70) → (kT L s_70 a_10 n_11) → (kT L s_70 a_18 n_19) → (kT L s_70 a_3 n_4) → (gp_sz s_70 ≤ gp_sz s + 2 ∧ gp_us s_70 ≤ gp_us s + (2 * pot A - 2 * pot B)) → (0 ≤ v2_70 ∧ v2_70 ≤ 60) → (61 - v2_70).toNat < n_70 → gs_E L (d + 4) 2060 80 [gp_r (some 60), gp_i (((gp_I s a_3 0) * (gp_I s a_10 0)) * (gp_I s a_18 0)), gp_i v2_70, v3_70] [] s_70 K := by
        intro n_70
        induction n_70 with
        | zero => intro v2_70 v3_70 s_70 hs_s_70 hf_s_70 SVN_L_61_N0_N1_N2_s_70 SVA_L_60_B_s_70 kt_a_10_s_70 kt_a_18_s_70 kt_a_3_s_70 rm_s_70 hv2_70 hm_70; exact absurd hm_70 (Nat.not_lt_zero _)
        | succ n_70 ih_70 =>
          intro v2_70 v3_70 s_70 hs_s_70 hf_s_70 SVN_L_61_N0_N1_N2_s_70 SVA_L_60_B_s_70 kt_a_10_s_70 kt_a_18_s_70 kt_a_3_s_70 rm_s_70 hv2_70 hm_70
          refine s_2060_80 _ _ _ _ ?_
          refine ⟨60, rfl, ?_⟩
          refine ⟨rfl, ?_⟩
          refine ⟨61, rfl, ?_⟩
          refine ⟨⟨rfl, by show 0 ≤ 0 ∧ 0 < 3; omega⟩, ?_⟩
          obtain ⟨a_71, n_72, e_73, kt_74, hn_75⟩ := SVN.g0 SVN_L_61_N0_N1_N2_s_70
          have hn_a_71 := kt_74.n hs_s_70
          refine ⟨a_71, e_73, ?_⟩
          refine ⟨kt_74.2.1, ?_⟩
          have f_76 := (kt_74.tt hs_s_70).1.2.2.1
          have f_77 := kt_74.n hs_s_70
          refine ⟨fun h_78 => ?_, fun h_78 => ?_⟩
          · have lp_80 : ∀ (n_80 : Nat) (v3_80 : Int) (s_80 : gH), (XI L 0 s_80) → (gX L true [55, 56, 64, 65, 2926, 2927, 2928] s s_80) → (SVN L 61 N0 N1 N2 s_80) → (SVA L 60 B s_80) → (kT L s_80 a_10 n_11) → (kT L s_80 a_18 n_19) → (kT L s_80 a_3 n_4) → (kT L s_80 a_71 n_72) → (gp_sz s_80 ≤ gp_sz s + 2 ∧ gp_us s_80 ≤ gp_us s + (2 * pot A - 2 * pot B)) → (0 ≤ v3_80 ∧ v3_80 ≤ 60) → (61 - v3_80).toNat < n_80 → gs_E L (d + 4) 2060 95 [gp_r (some 60), gp_i (((gp_I s a_3 0) * (gp_I s a_10 0)) * (gp_I s a_18 0)), gp_i v2_70, gp_i v3_80] [] s_80 K := by
              intro n_80
              induction n_80 with
              | zero => intro v3_80 s_80 hs_s_80 hf_s_80 SVN_L_61_N0_N1_N2_s_80 SVA_L_60_B_s_80 kt_a_10_s_80 kt_a_18_s_80 kt_a_3_s_80 kt_a_71_s_80 rm_s_80 hv3_80 hm_80; exact absurd hm_80 (Nat.not_lt_zero _)
              | succ n_80 ih_80 =>
                intro v3_80 s_80 hs_s_80 hf_s_80 SVN_L_61_N0_N1_N2_s_80 SVA_L_60_B_s_80 kt_a_10_s_80 kt_a_18_s_80 kt_a_3_s_80 kt_a_71_s_80 rm_s_80 hv3_80 hm_80
                refine s_2060_95 _ _ _ _ ?_
                refine ⟨60, rfl, ?_⟩
                refine ⟨rfl, ?_⟩
                refine ⟨61, rfl, ?_⟩
                refine ⟨⟨rfl, by show 0 ≤ 1 ∧ 1 < 3; omega⟩, ?_⟩
                obtain ⟨a_81, n_82, e_83, kt_84, hn_85⟩ := SVN.g1 SVN_L_61_N0_N1_N2_s_80
                have hn_a_81 := kt_84.n hs_s_80
                refine ⟨a_81, e_83, ?_⟩
                refine ⟨kt_84.2.1, ?_⟩
                have f_86 := (kt_84.tt hs_s_80).1.2.2.1
                have f_87 := kt_84.n hs_s_80
                refine ⟨fun h_88 => ?_, fun h_88 => ?_⟩
                · refine ⟨rfl, ?_⟩
                  refine xm_sfillRow60 B N0 N1 N2 _ _ hs_s_80 (by omega) (by omega) (SVN_L_61_N0_N1_N2_s_80) (by assumption) (by first | omega | assumption) (by first | omega | assumption) (by first | omega | assumption) (fun s_89 hs_90 hf_91 => ⟨rfl, ?_⟩)
                  have hf_92 : gX L true [55, 56, 64, 65, 2926, 2927, 2928] s s_89 := gX.trans hf_s_80 hf_91 rfl rfl
                  have kt_93 : kT L s_89 a_3 n_4 := kt_a_3_s_80.fr hf_91.1
                  have kt_94 : kT L s_89 a_10 n_11 := kt_a_10_s_80.fr hf_91.1
                  have kt_95 : kT L s_89 a_18 n_19 := kt_a_18_s_80.fr hf_91.1
                  have kt_96 : kT L s_89 a_71 n_72 := kt_a_71_s_80.fr hf_91.1
                  have kt_97 : kT L s_89 a_81 n_82 := kt_84.fr hf_91.1
                  have pd_98 : SVN L 61 N0 N1 N2 s_89 := SVN61_fr SVN_L_61_N0_N1_N2_s_80 hf_91 rfl
                  have pd_99 : SVA L 60 B s_89 := SVA60_fr SVA_L_60_B_s_80 hf_91 rfl rfl
                  have z_100 : gp_sz s_89 = gp_sz s_80 ∧ gp_us s_89 = gp_us s_80 := hf_91.2.1 rfl
                  try rw [show gp_wr (v3_80 + 1) = v3_80 + 1 from gp_wr_id (by omega) (by omega)]
                  exact ih_80 _ _ hs_90 hf_92 pd_98 pd_99 kt_94 kt_95 kt_93 kt_96 (by omega) (by omega) (by omega)
                · try rw [show gp_wr (v2_70 + 1) = v2_70 + 1 from gp_wr_id (by omega) (by omega)]
                  exact ih_70 _ _ _ hs_s_80 hf_s_80 SVN_L_61_N0_N1_N2_s_80 SVA_L_60_B_s_80 kt_a_10_s_80 kt_a_18_s_80 kt_a_3_s_80 (by omega) (by omega) (by omega)
            exact lp_80 _ _ _ hs_s_70 hf_s_70 SVN_L_61_N0_N1_N2_s_70 SVA_L_60_B_s_70 kt_a_10_s_70 kt_a_18_s_70 kt_a_3_s_70 kt_74 (by omega) (by omega) (Nat.lt_succ_self _)
          · refine ⟨rfl, ?_⟩
            intro s_103 e_104
            have hs_105 : XI L 0 s_103 := by rw [e_104]; exact xw60_8 hs_s_70 _ (by omega)
            have hf_106 : gX L true [55, 56, 64, 65, 2926, 2927, 2928] s s_103 := by rw [e_104]; exact gX.wI hf_s_70 (Or.inl rfl)
            have kt_107 : kT L s_103 a_3 n_4 := by rw [e_104]; exact kt_a_3_s_70
            have kt_108 : kT L s_103 a_10 n_11 := by rw [e_104]; exact kt_a_10_s_70
            have kt_109 : kT L s_103 a_18 n_19 := by rw [e_104]; exact kt_a_18_s_70
            have kt_110 : kT L s_103 a_71 n_72 := by rw [e_104]; exact kt_74
            have z_111 : gp_sz s_103 = gp_sz s_70 ∧ gp_us s_103 = gp_us s_70 := by rw [e_104]; exact ⟨rfl, rfl⟩
            have pd_112 : SVN L 61 N0 N1 N2 s_103 := by rw [e_104]; exact SVN61_fr SVN_L_61_N0_N1_N2_s_70 (gX.wI (gX.refl L true [2928] _) (Or.inl rfl)) rfl
            have pd_113 : SVA L 60 B s_103 := by rw [e_104]; exact SVA60_fr SVA_L_60_B_s_70 (gX.wI (gX.refl L true [2928] _) (Or.inl rfl)) rfl rfl
            exact k s_103 hs_105 hf_106 (pd_112) (by first | exact ⟨A, by assumption, by omega, by omega, by omega, by omega⟩ | exact ⟨B, by assumption, by omega, by omega, by omega, by omega⟩)
      exact lp_70 _ _ _ _ hs_61 hf_62 pd_67 hB1 kt_64 kt_65 kt_63 (by omega) (by omega) (Nat.lt_succ_self _)
    · refine s_2060_78 _ _ _ _ ?_
      obtain ⟨B, hB1, hB2⟩ : ∃ B, SVA L 60 B s ∧ p3m N0 N1 N2 ≤ B ∧ gp_sz s ≤ gp_sz s + 2 ∧ gp_us s + 2 * pot B ≤ gp_us s + 2 * pot A ∧ pot B ≤ pot A := by first | exact fill_old q1 (by omega) rfl rfl | exact fill_new (all := (((gp_I s a_3 0) * (gp_I s a_10 0)) * (gp_I s a_18 0))) (by decide) hs (by assumption) (by assumption) (by assumption) (by assumption) (by omega) (by omega) (by omega) (by omega) (by omega)
      have lp_116 : ∀ (n_116 : Nat) (v2_116 : Int) (v3_116 : gV) (s_116 : gH), (XI L 0 s_116) → (gX L true [55, 56, 64, 65, 2926, 2927, 2928] s s_116) → (SVN L 61 N0 N1 N2 s_116) → (SVA L 60 B s_116) → (kT L s_116 a_10 n_11) → (kT L s_116 a_18 n_19) → (kT L s_116 a_3 n_4) → (gp_sz s_116 ≤ gp_sz s + 2 ∧ gp_us s_116 ≤ gp_us s + (2 * pot A - 2 * pot B)) → (0 ≤ v2_116 ∧ v2_116 ≤ 60) → (61 - v2_116).toNat < n_116 → gs_E L (d + 4) 2060 80 [gp_r (some 60), gp_i (((gp_I s a_3 0) * (gp_I s a_10 0)) * (gp_I s a_18 0)), gp_i v2_116, v3_116] [] s_116 K := by
        intro n_116
        induction n_116 with
        | zero => intro v2_116 v3_116 s_116 hs_s_116 hf_s_116 SVN_L_61_N0_N1_N2_s_116 SVA_L_60_B_s_116 kt_a_10_s_116 kt_a_18_s_116 kt_a_3_s_116 rm_s_116 hv2_116 hm_116; exact absurd hm_116 (Nat.not_lt_zero _)
        | succ n_116 ih_116 =>
          intro v2_116 v3_116 s_116 hs_s_116 hf_s_116 SVN_L_61_N0_N1_N2_s_116 SVA_L_60_B_s_116 kt_a_10_s_116 kt_a_18_s_116 kt_a_3_s_116 rm_s_116 hv2_116 hm_116
          refine s_2060_80 _ _ _ _ ?_
          refine ⟨60, rfl, ?_⟩
          refine ⟨rfl, ?_⟩
          refine ⟨61, rfl, ?_⟩
          refine ⟨⟨rfl, by show 0 ≤ 0 ∧ 0 < 3; omega⟩, ?_⟩
          obtain ⟨a_117, n_118, e_119, kt_120, hn_121⟩ := SVN.g0 SVN_L_61_N0_N1_N2_s_116
          have hn_a_117 := kt_120.n hs_s_116
          refine ⟨a_117, e_119, ?_⟩
          refine ⟨kt_120.2.1, ?_⟩
          have f_122 := (kt_120.tt hs_s_116).1.2.2.1
          have f_123 := kt_120.n hs_s_116
          refine ⟨fun h_124 => ?_, fun h_124 => ?_⟩
          · have lp_126 : ∀ (n_126 : Nat) (v3_126 : Int) (s_126 : gH), (XI L 0 s_126) → (gX L true [55, 56, 64, 65, 2926, 2927, 2928] s s_126) → (SVN L 61 N0 N1 N2 s_126) → (SVA L 60 B s_126) → (kT L s_126 a_10 n_11) → (kT L s_126 a_117 n_118) → (kT L s_126 a_18 n_19) → (kT L s_126 a_3 n_4) → (gp_sz s_126 ≤ gp_sz s + 2 ∧ gp_us s_126 ≤ gp_us s + (2 * pot A - 2 * pot B)) → (0 ≤ v3_126 ∧ v3_126 ≤ 60) → (61 - v3_126).toNat < n_126 → gs_E L (d + 4) 2060 95 [gp_r (some 60), gp_i (((gp_I s a_3 0) * (gp_I s a_10 0)) * (gp_I s a_18 0)), gp_i v2_116, gp_i v3_126] [] s_126 K := by
              intro n_126
              induction n_126 with
              | zero => intro v3_126 s_126 hs_s_126 hf_s_126 SVN_L_61_N0_N1_N2_s_126 SVA_L_60_B_s_126 kt_a_10_s_126 kt_a_117_s_126 kt_a_18_s_126 kt_a_3_s_126 rm_s_126 hv3_126 hm_126; exact absurd hm_126 (Nat.not_lt_zero _)
              | succ n_126 ih_126 =>
                intro v3_126 s_126 hs_s_126 hf_s_126 SVN_L_61_N0_N1_N2_s_126 SVA_L_60_B_s_126 kt_a_10_s_126 kt_a_117_s_126 kt_a_18_s_126 kt_a_3_s_126 rm_s_126 hv3_126 hm_126
                refine s_2060_95 _ _ _ _ ?_
                refine ⟨60, rfl, ?_⟩
                refine ⟨rfl, ?_⟩
                refine ⟨61, rfl, ?_⟩
                refine ⟨⟨rfl, by show 0 ≤ 1 ∧ 1 < 3; omega⟩, ?_⟩
                obtain ⟨a_127, n_128, e_129, kt_130, hn_131⟩ := SVN.g1 SVN_L_61_N0_N1_N2_s_126
                have hn_a_127 := kt_130.n hs_s_126
                refine ⟨a_127, e_129, ?_⟩
                refine ⟨kt_130.2.1, ?_⟩
                have f_132 := (kt_130.tt hs_s_126).1.2.2.1
                have f_133 := kt_130.n hs_s_126
                refine ⟨fun h_134 => ?_, fun h_134 => ?_⟩
                · refine ⟨rfl, ?_⟩
                  refine xm_sfillRow60 B N0 N1 N2 _ _ hs_s_126 (by omega) (by omega) (SVN_L_61_N0_N1_N2_s_126) (by assumption) (by first | omega | assumption) (by first | omega | assumption) (by first | omega | assumption) (fun s_135 hs_136 hf_137 => ⟨rfl, ?_⟩)
                  have hf_138 : gX L true [55, 56, 64, 65, 2926, 2927, 2928] s s_135 := gX.trans hf_s_126 hf_137 rfl rfl
                  have kt_139 : kT L s_135 a_3 n_4 := kt_a_3_s_126.fr hf_137.1
                  have kt_140 : kT L s_135 a_10 n_11 := kt_a_10_s_126.fr hf_137.1
                  have kt_141 : kT L s_135 a_18 n_19 := kt_a_18_s_126.fr hf_137.1
                  have kt_142 : kT L s_135 a_117 n_118 := kt_a_117_s_126.fr hf_137.1
                  have kt_143 : kT L s_135 a_127 n_128 := kt_130.fr hf_137.1
                  have pd_144 : SVN L 61 N0 N1 N2 s_135 := SVN61_fr SVN_L_61_N0_N1_N2_s_126 hf_137 rfl
                  have pd_145 : SVA L 60 B s_135 := SVA60_fr SVA_L_60_B_s_126 hf_137 rfl rfl
                  have z_146 : gp_sz s_135 = gp_sz s_126 ∧ gp_us s_135 = gp_us s_126 := hf_137.2.1 rfl
                  try rw [show gp_wr (v3_126 + 1) = v3_126 + 1 from gp_wr_id (by omega) (by omega)]
                  exact ih_126 _ _ hs_136 hf_138 pd_144 pd_145 kt_140 kt_142 kt_141 kt_139 (by omega) (by omega) (by omega)
                · try rw [show gp_wr (v2_116 + 1) = v2_116 + 1 from gp_wr_id (by omega) (by omega)]
                  exact ih_116 _ _ _ hs_s_126 hf_s_126 SVN_L_61_N0_N1_N2_s_126 SVA_L_60_B_s_126 kt_a_10_s_126 kt_a_18_s_126 kt_a_3_s_126 (by omega) (by omega) (by omega)
            exact lp_126 _ _ _ hs_s_116 hf_s_116 SVN_L_61_N0_N1_N2_s_116 SVA_L_60_B_s_116 kt_a_10_s_116 kt_120 kt_a_18_s_116 kt_a_3_s_116 (by omega) (by omega) (Nat.lt_succ_self _)
          · refine ⟨rfl, ?_⟩
            intro s_149 e_150
            have hs_151 : XI L 0 s_149 := by rw [e_150]; exact xw60_8 hs_s_116 _ (by omega)
            have hf_152 : gX L true [55, 56, 64, 65, 2926, 2927, 2928] s s_149 := by rw [e_150]; exact gX.wI hf_s_116 (Or.inl rfl)
            have kt_153 : kT L s_149 a_3 n_4 := by rw [e_150]; exact kt_a_3_s_116
            have kt_154 : kT L s_149 a_10 n_11 := by rw [e_150]; exact kt_a_10_s_116
            have kt_155 : kT L s_149 a_18 n_19 := by rw [e_150]; exact kt_a_18_s_116
            have kt_156 : kT L s_149 a_117 n_118 := by rw [e_150]; exact kt_120
            have z_157 : gp_sz s_149 = gp_sz s_116 ∧ gp_us s_149 = gp_us s_116 := by rw [e_150]; exact ⟨rfl, rfl⟩
            have pd_158 : SVN L 61 N0 N1 N2 s_149 := by rw [e_150]; exact SVN61_fr SVN_L_61_N0_N1_N2_s_116 (gX.wI (gX.refl L true [2928] _) (Or.inl rfl)) rfl
            have pd_159 : SVA L 60 B s_149 := by rw [e_150]; exact SVA60_fr SVA_L_60_B_s_116 (gX.wI (gX.refl L true [2928] _) (Or.inl rfl)) rfl rfl
            exact k s_149 hs_151 hf_152 (pd_158) (by first | exact ⟨A, by assumption, by omega, by omega, by omega, by omega⟩ | exact ⟨B, by assumption, by omega, by omega, by omega, by omega⟩)
      exact lp_116 _ _ _ _ hs (gX.refl _ _ _ _) q0 hB1 kt_13 kt_21 kt_6 (by omega) (by omega) (Nat.lt_succ_self _)
  · exact k s hs (gX.refl _ _ _ _) (q0) (by first | exact ⟨A, by assumption, by omega, by omega, by omega, by omega⟩ | exact ⟨B, by assumption, by omega, by omega, by omega, by omega⟩)
