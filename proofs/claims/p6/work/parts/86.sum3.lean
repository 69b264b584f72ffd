theorem bd_rest {x : BitVec 64} {n : Int} (h : bd x n) : bd (x &&& (x - 1#64)) n := fun i hi => h i ((sub.refl x).rest i hi)
def p3m (a b c : Nat) : Nat := a * b * c
theorem plcM {a0 a1 x1 x2 : Int} {n0 n1 n2 : Nat} (h0 : 0 ≤ a0) (k0 : a0 < n0) (h1 : 0 ≤ a1) (k1 : a1 < n1) (e1 : x1 = n1) (e2 : x2 = n2) (hn : 1 ≤ n2) : (a0 * x1 + a1) * x2 + x2 ≤ (p3m n0 n1 n2 : Nat) := plcW h0 k0 h1 k1 e1 e2 hn
/-- how many places the parts have -/
def SVN (L P n0 n1 n2 : Nat) (s : gH) : Prop := (∃ a, gp_R (gp_mk L s) P 0 = some a ∧ kT L s a n0) ∧ (∃ a, gp_R (gp_mk L s) P 1 = some a ∧ kT L s a n1) ∧ (∃ a, gp_R (gp_mk L s) P 2 = some a ∧ kT L s a n2) ∧ n0 ≤ 60 ∧ n1 ≤ 60 ∧ n2 ≤ 60
theorem SVN.g0 {L P n0 n1 n2 : Nat} {s : gH} (h : SVN L P n0 n1 n2 s) : ∃ a n, gp_R (gp_mk L s) P 0 = some a ∧ kT L s a n ∧ (n ≤ 60 ∧ n = n0) := by
  obtain ⟨⟨a, q1, q2⟩, _, _, h0, _, _⟩ := h
  exact ⟨a, n0, q1, q2, h0, rfl⟩
theorem SVN.g1 {L P n0 n1 n2 : Nat} {s : gH} (h : SVN L P n0 n1 n2 s) : ∃ a n, gp_R (gp_mk L s) P 1 = some a ∧ kT L s a n ∧ (n ≤ 60 ∧ n = n1) := by
  obtain ⟨_, ⟨a, q1, q2⟩, _, _, h0, _⟩ := h
  exact ⟨a, n1, q1, q2, h0, rfl⟩
theorem SVN.g2 {L P n0 n1 n2 : Nat} {s : gH} (h : SVN L P n0 n1 n2 s) : ∃ a n, gp_R (gp_mk L s) P 2 = some a ∧ kT L s a n ∧ (n ≤ 60 ∧ n = n2) := by
  obtain ⟨_, _, ⟨a, q1, q2⟩, _, _, h0⟩ := h
  exact ⟨a, n2, q1, q2, h0, rfl⟩
theorem SVN_fr' {L P n0 n1 n2 : Nat} {al : Bool} {m : List Nat} {s t : gH} (h : SVN L P n0 n1 n2 s) (g : gX L al m s t) (h1 : 1 ≤ P) (h2 : P < 117) (e : ∀ b, b < 3 → m.contains (gcd P b) = false) : SVN L P n0 n1 n2 t := by
  obtain ⟨⟨a, q1, q2⟩, ⟨b, q3, q4⟩, ⟨c, q5, q6⟩, h3⟩ := h
  exact ⟨⟨a, (R_fr g h1 h2 (e 0 (by decide))).trans q1, q2.fr g.1⟩, ⟨b, (R_fr g h1 h2 (e 1 (by decide))).trans q3, q4.fr g.1⟩, ⟨c, (R_fr g h1 h2 (e 2 (by decide))).trans q5, q6.fr g.1⟩, h3⟩
theorem SVN52_fr {L n0 n1 n2 : Nat} {al : Bool} {m : List Nat} {s t : gH} (h : SVN L 52 n0 n1 n2 s) (g : gX L al m s t) (e : m.contains 52 = false) : SVN L 52 n0 n1 n2 t := SVN_fr' h g (by decide) (by decide) (fun _ _ => e)
theorem SVN61_fr {L n0 n1 n2 : Nat} {al : Bool} {m : List Nat} {s t : gH} (h : SVN L 61 n0 n1 n2 s) (g : gX L al m s t) (e : m.contains 61 = false) : SVN L 61 n0 n1 n2 t := SVN_fr' h g (by decide) (by decide) (fun _ _ => e)
theorem SVN_of {L P : Nat} {s : gH} (h : SVP L P s) : SVN L P (pn L P s 0) (pn L P s 1) (pn L P s 2) s := by
  obtain ⟨a, n, q1, q2, q3⟩ := h.part 0 (by decide)
  obtain ⟨b, n', r1, r2, r3⟩ := h.part 1 (by decide)
  obtain ⟨c, n'', t1, t2, t3⟩ := h.part 2 (by decide)
  rw [← q3.2.2.1, ← r3.2.2.1, ← t3.2.2.1]
  exact ⟨⟨a, q1, q2⟩, ⟨b, r1, r2⟩, ⟨c, t1, t2⟩, q3.1, r3.1, t3.1⟩
theorem SVA.le {L S A : Nat} {s : gH} (h : SVA L S A s) : 1 ≤ A ∧ A ≤ 216000 := by
  obtain ⟨l, r, a1, a2, a3, a4, a5, a6, a7, a8, a9, b1, b2, b3⟩ := h
  exact ⟨b2, b3⟩
set_option maxRecDepth 100000 in
/-- Sum.fillPlace -/
theorem xm_sfillPlace51  {L d : Nat} {K : Option gV → gH → Prop} {s : gH} (A N0 N1 N2 : Nat) (p0 : Int) (p1 : Int) (p2 : Int) (p3 : Int) (hs : XI L 0 s) (h_p0 : 0 ≤ p0 ∧ p0 ≤ 216000) (h_p1 : 0 ≤ p1 ∧ p1 ≤ 59) (q0 : SVN L 52 N0 N1 N2 s) (q1 : SVA L 51 A s) (q2 : p1 < N2) (q3 : p0 + N2 ≤ A) (k : ∀ (t : gH), XI L 0 t → gX L false [55, 56, 64, 65] s t → K none t) : gs_C L (d + 2) 2063 10 [gp_r (some 51), gp_i p0, gp_i p1, gp_i p2, gp_i p3] s K := by
  refine s_2063_e _ _ _ _ _ ?_
  refine ⟨51, rfl, ?_⟩
  refine ⟨rfl, ?_⟩
  refine ⟨52, rfl, ?_⟩
  refine ⟨⟨rfl, by show 0 ≤ 2 ∧ 2 < 3; omega⟩, ?_⟩
  refine ⟨rfl, ?_⟩
  try rw [show gp_wr (p0 + p1) = p0 + p1 from gp_wr_id (by omega) (by omega)]
  obtain ⟨b_1, rb_1, lb_1, hb_1, tb_1, cb_1⟩ := SVA.arr6 q1
  refine ⟨b_1, rb_1, ?_⟩
  refine ⟨gin hb_1 (by omega), ?_⟩
  obtain ⟨a_2, n_3, e_4, kt_5, hn_6⟩ := SVN.g2 q0
  have hn_a_2 := kt_5.n hs
  refine ⟨a_2, e_4, ?_⟩
  refine ⟨kt_5.2.1, ?_⟩
  refine ⟨(a_2 + 1), (kt_5.tt hs).1.2.2.2.1.1, ?_⟩
  refine ⟨gin ((kt_5.tt hs).1.2.2.2.2.1.1) (by omega), ?_⟩
  have b_7 : bd (gp_L s (a_2 + 1) (Int.toNat p1)) p1 := bd_le ((kt_5.tt hs).1.2.2.2.2.2 (Int.toNat p1)).1.1 (by omega)
  have lp_10 : ∀ (n_10 : Nat) (v6_10 : Int) (v7_10 : BitVec 64) (v9_10 : gV), (bd v7_10 p1) → ((v7_10).toNat) < n_10 → gs_E L (d + 2) 2063 27 [gp_r (some 51), gp_i p0, gp_i p1, gp_i p2, gp_i p3, gp_r (some a_2), gp_i v6_10, gp_l v7_10, gp_n, v9_10] [] s K := by
    intro n_10
    induction n_10 with
    | zero => intro v6_10 v7_10 v9_10 iv0_10 hm_10; exact absurd hm_10 (Nat.not_lt_zero _)
    | succ n_10 ih_10 =>
      intro v6_10 v7_10 v9_10 iv0_10 hm_10
      refine s_2063_27 _ _ _ _ _ _ _ _ _ ?_
      refine ⟨fun h_11 => ?_, fun h_11 => ?_⟩
      · have hz_12 : v7_10 = 0#64 := (gm_cmp0 _ _).mp h_11
        refine ⟨51, rfl, ?_⟩
        refine ⟨rfl, ?_⟩
        try rw [show gp_wr (p0 + p1) = p0 + p1 from gp_wr_id (by omega) (by omega)]
        obtain ⟨b_13, rb_13, lb_13, hb_13, tb_13, cb_13⟩ := SVA.arr7 q1
        refine ⟨b_13, rb_13, ?_⟩
        refine ⟨gin hb_13 (by omega), ?_⟩
        refine ⟨a_2, rfl, ?_⟩
        refine ⟨kt_5.2.1, ?_⟩
        refine ⟨(a_2 + 2), (kt_5.tt hs).1.2.2.2.1.2.1, ?_⟩
        refine ⟨gin ((kt_5.tt hs).1.2.2.2.2.1.2.1) (by omega), ?_⟩
        have b_14 : bd (gp_L s (a_2 + 2) (Int.toNat p1)) p1 := bd_le ((kt_5.tt hs).1.2.2.2.2.2 (Int.toNat p1)).1.2 (by omega)
        have lp_17 : ∀ (n_17 : Nat) (v7_17 : Int) (v8_17 : BitVec 64), (bd v8_17 p1) → ((v8_17).toNat) < n_17 → gs_E L (d + 2) 2063 84 [gp_r (some 51), gp_i p0, gp_i p1, gp_i p2, gp_i p3, gp_r (some a_2), gp_i v6_10, gp_i v7_17, gp_l v8_17, gp_n] [] s K := by
          intro n_17
          induction n_17 with
          | zero => intro v7_17 v8_17 iv0_17 hm_17; exact absurd hm_17 (Nat.not_lt_zero _)
          | succ n_17 ih_17 =>
            intro v7_17 v8_17 iv0_17 hm_17
            refine s_2063_84 _ _ _ _ _ _ _ _ _ ?_
            refine ⟨fun h_18 => ?_, fun h_18 => ?_⟩
            · have hz_19 : v8_17 = 0#64 := (gm_cmp0 _ _).mp h_18
              refine ⟨51, rfl, ?_⟩
              refine ⟨rfl, ?_⟩
              try rw [show gp_wr (p0 + p1) = p0 + p1 from gp_wr_id (by omega) (by omega)]
              refine ⟨fun h_20 => ?_, fun h_20 => ?_⟩
              · refine ⟨a_2, rfl, ?_⟩
                refine ⟨kt_5.2.1, ?_⟩
                refine ⟨(a_2 + 3), (kt_5.tt hs).1.2.2.2.1.2.2.1, ?_⟩
                refine ⟨gin ((kt_5.tt hs).1.2.2.2.2.1.2.2.1) (by omega), ?_⟩
                have w_21 := wr_rng (p2 + (gp_I s (a_2 + 3) (Int.toNat p1)))
                refine s_2063_150 _ _ _ _ _ _ _ _ _ _ _ _ ?_
                obtain ⟨b_25, rb_25, lb_25, hb_25, tb_25, cb_25⟩ := SVA.arr6 q1
                refine ⟨b_25, rb_25, ?_⟩
                refine ⟨gin hb_25 (by omega), ?_⟩
                intro s_26 e_27
                have hs_28 : XI L 0 s_26 := by rw [e_27]; exact XI.nt hs _ _ _ (by rw [hb_25]) tb_25 (xPs cb_25)
                have hf_29 : gX L false [55, 56, 64, 65] s s_26 := by rw [e_27]; exact gX.wI (gX.refl _ _ _ _) (gXs cb_25 rfl)
                have kt_30 : kT L s_26 a_2 n_3 := by rw [e_27]; exact kt_5
                have pd_31 : SVN L 52 N0 N1 N2 s_26 := by rw [e_27]; exact SVN52_fr q0 (gX.wI (gX.refl L true [55, 56, 64, 65] _) (gXs cb_25 rfl)) rfl
                have pd_32 : SVA L 51 A s_26 := by rw [e_27]; exact SVA51_fr q1 (gX.wI (gX.refl L true [55, 56, 64, 65] _) (gXs cb_25 rfl)) rfl rfl
                refine ⟨51, rfl, ?_⟩
                refine ⟨rfl, ?_⟩
                try rw [show gp_wr (p0 + p1) = p0 + p1 from gp_wr_id (by omega) (by omega)]
                refine ⟨fun h_33 => ?_, fun h_33 => ?_⟩
                · refine ⟨a_2, rfl, ?_⟩
                  refine ⟨kt_30.2.1, ?_⟩
                  refine ⟨(a_2 + 4), (kt_30.tt hs_28).1.2.2.2.1.2.2.2.1, ?_⟩
                  refine ⟨gin ((kt_30.tt hs_28).1.2.2.2.2.1.2.2.2.1) (by omega), ?_⟩
                  have w_34 := wr_rng (p3 + (gp_I s_26 (a_2 + 4) (Int.toNat p1)))
                  refine s_2063_180 _ _ _ _ _ _ _ _ _ _ _ _ ?_
                  obtain ⟨b_38, rb_38, lb_38, hb_38, tb_38, cb_38⟩ := SVA.arr7 pd_32
                  refine ⟨b_38, rb_38, ?_⟩
                  refine ⟨gin hb_38 (by omega), ?_⟩
                  intro s_39 e_40
                  have hs_41 : XI L 0 s_39 := by rw [e_40]; exact XI.nt hs_28 _ _ _ (by rw [hb_38]) tb_38 (xPs cb_38)
                  have hf_42 : gX L false [55, 56, 64, 65] s s_39 := by rw [e_40]; exact gX.wI hf_29 (gXs cb_38 rfl)
                  have kt_43 : kT L s_39 a_2 n_3 := by rw [e_40]; exact kt_30
                  have pd_44 : SVN L 52 N0 N1 N2 s_39 := by rw [e_40]; exact SVN52_fr pd_31 (gX.wI (gX.refl L true [55, 56, 64, 65] _) (gXs cb_38 rfl)) rfl
                  have pd_45 : SVA L 51 A s_39 := by rw [e_40]; exact SVA51_fr pd_32 (gX.wI (gX.refl L true [55, 56, 64, 65] _) (gXs cb_38 rfl)) rfl rfl
                  exact k s_39 hs_41 hf_42
                · refine s_2063_180 _ _ _ _ _ _ _ _ _ _ _ _ ?_
                  obtain ⟨b_49, rb_49, lb_49, hb_49, tb_49, cb_49⟩ := SVA.arr7 pd_32
                  refine ⟨b_49, rb_49, ?_⟩
                  refine ⟨gin hb_49 (by omega), ?_⟩
                  intro s_50 e_51
                  have hs_52 : XI L 0 s_50 := by rw [e_51]; exact XI.nt hs_28 _ _ _ (by rw [hb_49]) tb_49 (xPs cb_49)
                  have hf_53 : gX L false [55, 56, 64, 65] s s_50 := by rw [e_51]; exact gX.wI hf_29 (gXs cb_49 rfl)
                  have kt_54 : kT L s_50 a_2 n_3 := by rw [e_51]; exact kt_30
                  have pd_55 : SVN L 52 N0 N1 N2 s_50 := by rw [e_51]; exact SVN52_fr pd_31 (gX.wI (gX.refl L true [55, 56, 64, 65] _) (gXs cb_49 rfl)) rfl
                  have pd_56 : SVA L 51 A s_50 := by rw [e_51]; exact SVA51_fr pd_32 (gX.wI (gX.refl L true [55, 56, 64, 65] _) (gXs cb_49 rfl)) rfl rfl
                  exact k s_50 hs_52 hf_53
              · refine s_2063_150 _ _ _ _ _ _ _ _ _ _ _ _ ?_
                obtain ⟨b_60, rb_60, lb_60, hb_60, tb_60, cb_60⟩ := SVA.arr6 q1
                refine ⟨b_60, rb_60, ?_⟩
                refine ⟨gin hb_60 (by omega), ?_⟩
                intro s_61 e_62
                have hs_63 : XI L 0 s_61 := by rw [e_62]; exact XI.nt hs _ _ _ (by rw [hb_60]) tb_60 (xPs cb_60)
                have hf_64 : gX L false [55, 56, 64, 65] s s_61 := by rw [e_62]; exact gX.wI (gX.refl _ _ _ _) (gXs cb_60 rfl)
                have kt_65 : kT L s_61 a_2 n_3 := by rw [e_62]; exact kt_5
                have pd_66 : SVN L 52 N0 N1 N2 s_61 := by rw [e_62]; exact SVN52_fr q0 (gX.wI (gX.refl L true [55, 56, 64, 65] _) (gXs cb_60 rfl)) rfl
                have pd_67 : SVA L 51 A s_61 := by rw [e_62]; exact SVA51_fr q1 (gX.wI (gX.refl L true [55, 56, 64, 65] _) (gXs cb_60 rfl)) rfl rfl
                refine ⟨51, rfl, ?_⟩
                refine ⟨rfl, ?_⟩
                try rw [show gp_wr (p0 + p1) = p0 + p1 from gp_wr_id (by omega) (by omega)]
                refine ⟨fun h_68 => ?_, fun h_68 => ?_⟩
                · refine ⟨a_2, rfl, ?_⟩
                  refine ⟨kt_65.2.1, ?_⟩
                  refine ⟨(a_2 + 4), (kt_65.tt hs_63).1.2.2.2.1.2.2.2.1, ?_⟩
                  refine ⟨gin ((kt_65.tt hs_63).1.2.2.2.2.1.2.2.2.1) (by omega), ?_⟩
                  have w_69 := wr_rng (p3 + (gp_I s_61 (a_2 + 4) (Int.toNat p1)))
                  refine s_2063_180 _ _ _ _ _ _ _ _ _ _ _ _ ?_
                  obtain ⟨b_73, rb_73, lb_73, hb_73, tb_73, cb_73⟩ := SVA.arr7 pd_67
                  refine ⟨b_73, rb_73, ?_⟩
                  refine ⟨gin hb_73 (by omega), ?_⟩
                  intro s_74 e_75
                  have hs_76 : XI L 0 s_74 := by rw [e_75]; exact XI.nt hs_63 _ _ _ (by rw [hb_73]) tb_73 (xPs cb_73)
                  have hf_77 : gX L false [55, 56, 64, 65] s s_74 := by rw [e_75]; exact gX.wI hf_64 (gXs cb_73 rfl)
                  have kt_78 : kT L s_74 a_2 n_3 := by rw [e_75]; exact kt_65
                  have pd_79 : SVN L 52 N0 N1 N2 s_74 := by rw [e_75]; exact SVN52_fr pd_66 (gX.wI (gX.refl L true [55, 56, 64, 65] _) (gXs cb_73 rfl)) rfl
                  have pd_80 : SVA L 51 A s_74 := by rw [e_75]; exact SVA51_fr pd_67 (gX.wI (gX.refl L true [55, 56, 64, 65] _) (gXs cb_73 rfl)) rfl rfl
                  exact k s_74 hs_76 hf_77
                · refine s_2063_180 _ _ _ _ _ _ _ _ _ _ _ _ ?_
                  obtain ⟨b_84, rb_84, lb_84, hb_84, tb_84, cb_84⟩ := SVA.arr7 pd_67
                  refine ⟨b_84, rb_84, ?_⟩
                  refine ⟨gin hb_84 (by omega), ?_⟩
                  intro s_85 e_86
                  have hs_87 : XI L 0 s_85 := by rw [e_86]; exact XI.nt hs_63 _ _ _ (by rw [hb_84]) tb_84 (xPs cb_84)
                  have hf_88 : gX L false [55, 56, 64, 65] s s_85 := by rw [e_86]; exact gX.wI hf_64 (gXs cb_84 rfl)
                  have kt_89 : kT L s_85 a_2 n_3 := by rw [e_86]; exact kt_65
                  have pd_90 : SVN L 52 N0 N1 N2 s_85 := by rw [e_86]; exact SVN52_fr pd_66 (gX.wI (gX.refl L true [55, 56, 64, 65] _) (gXs cb_84 rfl)) rfl
                  have pd_91 : SVA L 51 A s_85 := by rw [e_86]; exact SVA51_fr pd_67 (gX.wI (gX.refl L true [55, 56, 64, 65] _) (gXs cb_84 rfl)) rfl rfl
                  exact k s_85 hs_87 hf_88
            · have hz_92 : ¬ v8_17 = 0#64 := fun q => h_18 ((gm_cmp0 _ _).mpr q)
              refine ⟨51, rfl, ?_⟩
              refine ⟨rfl, ?_⟩
              refine xm_lowest _ (fun x_93 p_94 p_95 => ⟨_, rfl, ?_⟩)
              have hlw := (sub.refl v8_17).low (by assumption) p_95
              have hl0 := iv0_17 _ hlw.2.2
              try rw [show gp_wr (p0 + x_93) = p0 + x_93 from gp_wr_id (by omega) (by omega)]
              obtain ⟨b_96, rb_96, lb_96, hb_96, tb_96, cb_96⟩ := SVA.arr6 q1
              refine ⟨b_96, rb_96, ?_⟩
              refine ⟨gin hb_96 (by omega), ?_⟩
              have w_97 := gz_mi (v7_17) (gp_I s b_96 (Int.toNat (p0 + x_93)))
              exact ih_17 _ _ (bd_rest iv0_17) (by have := rest_lt (by assumption : ¬ v8_17 = 0#64); omega)
        exact lp_17 _ _ _ (by assumption) (Nat.lt_succ_self _)
      · have hz_100 : ¬ v7_10 = 0#64 := fun q => h_11 ((gm_cmp0 _ _).mpr q)
        refine ⟨51, rfl, ?_⟩
        refine ⟨rfl, ?_⟩
        refine xm_lowest _ (fun x_101 p_102 p_103 => ⟨_, rfl, ?_⟩)
        have hlw := (sub.refl v7_10).low (by assumption) p_103
        have hl0 := iv0_10 _ hlw.2.2
        try rw [show gp_wr (p0 + x_101) = p0 + x_101 from gp_wr_id (by omega) (by omega)]
        obtain ⟨b_104, rb_104, lb_104, hb_104, tb_104, cb_104⟩ := SVA.arr7 q1
        refine ⟨b_104, rb_104, ?_⟩
        refine ⟨gin hb_104 (by omega), ?_⟩
        have w_105 := gz_mx (v6_10) (gp_I s b_104 (Int.toNat (p0 + x_101)))
        exact ih_10 _ _ _ (bd_rest iv0_10) (by have := rest_lt (by assumption : ¬ v7_10 = 0#64); omega)
  exact lp_10 _ _ _ _ (by assumption) (Nat.lt_succ_self _)
set_option maxRecDepth 100000 in
/-- Sum.fillPlace -/
theorem xm_sfillPlace60  {L d : Nat} {K : Option gV → gH → Prop} {s : gH} (A N0 N1 N2 : Nat) (p0 : Int) (p1 : Int) (p2 : Int) (p3 : Int) (hs : XI L 0 s) (h_p0 : 0 ≤ p0 ∧ p0 ≤ 216000) (h_p1 : 0 ≤ p1 ∧ p1 ≤ 59) (q0 : SVN L 61 N0 N1 N2 s) (q1 : SVA L 60 A s) (q2 : p1 < N2) (q3 : p0 + N2 ≤ A) (k : ∀ (t : gH), XI L 0 t → gX L false [55, 56, 64, 65] s t → K none t) : gs_C L (d + 2) 2063 10 [gp_r (some 60), gp_i p0, gp_i p1, gp_i p2, gp_i p3] s K := by
  refine s_2063_e _ _ _ _ _ ?_
  refine ⟨60, rfl, ?_⟩
  refine ⟨rfl, ?_⟩
  refine ⟨61, rfl, ?_⟩
  refine ⟨⟨rfl, by show 0 ≤ 2 ∧ 2 < 3; omega⟩, ?_⟩
  refine ⟨rfl, ?_⟩
  try rw [show gp_wr (p0 + p1) = p0 + p1 from gp_wr_id (by omega) (by omega)]
  obtain ⟨b_1, rb_1, lb_1, hb_1, tb_1, cb_1⟩ := SVA.arr6 q1
  refine ⟨b_1, rb_1, ?_⟩
  refine ⟨gin hb_1 (by omega), ?_⟩
  obtain ⟨a_2, n_3, e_4, kt_5, hn_6⟩ := SVN.g2 q0
  have hn_a_2 := kt_5.n hs
  refine ⟨a_2, e_4, ?_⟩
  refine ⟨kt_5.2.1, ?_⟩
  refine ⟨(a_2 + 1), (kt_5.tt hs).1.2.2.2.1.1, ?_⟩
  refine ⟨gin ((kt_5.tt hs).1.2.2.2.2.1.1) (by omega), ?_⟩
  have b_7 : bd (gp_L s (a_2 + 1) (Int.toNat p1)) p1 := bd_le ((kt_5.tt hs).1.2.2.2.2.2 (Int.toNat p1)).1.1 (by omega)
  have lp_10 : ∀ (n_10 : Nat) (v6_10 : Int) (v7_10 : BitVec 64) (v9_10 : gV), (bd v7_10 p1) → ((v7_10).toNat) < n_10 → gs_E L (d + 2) 2063 27 [gp_r (some 60), gp_i p0, gp_i p1, gp_i p2, gp_i p3, gp_r (some a_2), gp_i v6_10, gp_l v7_10, gp_n, v9_10] [] s K := by
    intro n_10
    induction n_10 with
    | zero => intro v6_10 v7_10 v9_10 iv0_10 hm_10; exact absurd hm_10 (Nat.not_lt_zero _)
    | succ n_10 ih_10 =>
      intro v6_10 v7_10 v9_10 iv0_10 hm_10
      refine s_2063_27 _ _ _ _ _ _ _ _ _ ?_
      refine ⟨fun h_11 => ?_, fun h_11 => ?_⟩
      · have hz_12 : v7_10 = 0#64 := (gm_cmp0 _ _).mp h_11
        refine ⟨60, rfl, ?_⟩
        refine ⟨rfl, ?_⟩
        try rw [show gp_wr (p0 + p1) = p0 + p1 from gp_wr_id (by omega) (by omega)]
        obtain ⟨b_13, rb_13, lb_13, hb_13, tb_13, cb_13⟩ := SVA.arr7 q1
        refine ⟨b_13, rb_13, ?_⟩
        refine ⟨gin hb_13 (by omega), ?_⟩
        refine ⟨a_2, rfl, ?_⟩
        refine ⟨kt_5.2.1, ?_⟩
        refine ⟨(a_2 + 2), (kt_5.tt hs).1.2.2.2.1.2.1, ?_⟩
        refine ⟨gin ((kt_5.tt hs).1.2.2.2.2.1.2.1) (by omega), ?_⟩
        have b_14 : bd (gp_L s (a_2 + 2) (Int.toNat p1)) p1 := bd_le ((kt_5.tt hs).1.2.2.2.2.2 (Int.toNat p1)).1.2 (by omega)
        have lp_17 : ∀ (n_17 : Nat) (v7_17 : Int) (v8_17 : BitVec 64), (bd v8_17 p1) → ((v8_17).toNat) < n_17 → gs_E L (d + 2) 2063 84 [gp_r (some 60), gp_i p0, gp_i p1, gp_i p2, gp_i p3, gp_r (some a_2), gp_i v6_10, gp_i v7_17, gp_l v8_17, gp_n] [] s K := by
          intro n_17
          induction n_17 with
          | zero => intro v7_17 v8_17 iv0_17 hm_17; exact absurd hm_17 (Nat.not_lt_zero _)
          | succ n_17 ih_17 =>
            intro v7_17 v8_17 iv0_17 hm_17
            refine s_2063_84 _ _ _ _ _ _ _ _ _ ?_
            refine ⟨fun h_18 => ?_, fun h_18 => ?_⟩
            · have hz_19 : v8_17 = 0#64 := (gm_cmp0 _ _).mp h_18
              refine ⟨60, rfl, ?_⟩
              refine ⟨rfl, ?_⟩
              try rw [show gp_wr (p0 + p1) = p0 + p1 from gp_wr_id (by omega) (by omega)]
              refine ⟨fun h_20 => ?_, fun h_20 => ?_⟩
              · refine ⟨a_2, rfl, ?_⟩
                refine ⟨kt_5.2.1, ?_⟩
                refine ⟨(a_2 + 3), (kt_5.tt hs).1.2.2.2.1.2.2.1, ?_⟩
                refine ⟨gin ((kt_5.tt hs).1.2.2.2.2.1.2.2.1) (by omega), ?_⟩
                have w_21 := wr_rng (p2 + (gp_I s (a_2 + 3) (Int.toNat p1)))
                refine s_2063_150 _ _ _ _ _ _ _ _ _ _ _ _ ?_
                obtain ⟨b_25, rb_25, lb_25, hb_25, tb_25, cb_25⟩ := SVA.arr6 q1
                refine ⟨b_25, rb_25, ?_⟩
                refine ⟨gin hb_25 (by omega), ?_⟩
                intro s_26 e_27
                have hs_28 : XI L 0 s_26 := by rw [e_27]; exact XI.nt hs _ _ _ (by rw [hb_25]) tb_25 (xPs cb_25)
                have hf_29 : gX L false [55, 56, 64, 65] s s_26 := by rw [e_27]; exact gX.wI (gX.refl _ _ _ _) (gXs cb_25 rfl)
                have kt_30 : kT L s_26 a_2 n_3 := by rw [e_27]; exact kt_5
                have pd_31 : SVN L 61 N0 N1 N2 s_26 := by rw [e_27]; exact SVN61_fr q0 (gX.wI (gX.refl L true [55, 56, 64, 65] _) (gXs cb_25 rfl)) rfl
                have pd_32 : SVA L 60 A s_26 := by rw [e_27]; exact SVA60_fr q1 (gX.wI (gX.refl L true [55, 56, 64, 65] _) (gXs cb_25 rfl)) rfl rfl
                refine ⟨60, rfl, ?_⟩
                refine ⟨rfl, ?_⟩
                try rw [show gp_wr (p0 + p1) = p0 + p1 from gp_wr_id (by omega) (by omega)]
                refine ⟨fun h_33 => ?_, fun h_33 => ?_⟩
                · refine ⟨a_2, rfl, ?_⟩
                  refine ⟨kt_30.2.1, ?_⟩
                  refine ⟨(a_2 + 4), (kt_30.tt hs_28).1.2.2.2.1.2.2.2.1, ?_⟩
                  refine ⟨gin ((kt_30.tt hs_28).1.2.2.2.2.1.2.2.2.1) (by omega), ?_⟩
                  have w_34 := wr_rng (p3 + (gp_I s_26 (a_2 + 4) (Int.toNat p1)))
                  refine s_2063_180 _ _ _ _ _ _ _ _ _ _ _ _ ?_
                  obtain ⟨b_38, rb_38, lb_38, hb_38, tb_38, cb_38⟩ := SVA.arr7 pd_32
                  refine ⟨b_38, rb_38, ?_⟩
                  refine ⟨gin hb_38 (by omega), ?_⟩
                  intro s_39 e_40
                  have hs_41 : XI L 0 s_39 := by rw [e_40]; exact XI.nt hs_28 _ _ _ (by rw [hb_38]) tb_38 (xPs cb_38)
                  have hf_42 : gX L false [55, 56, 64, 65] s s_39 := by rw [e_40]; exact gX.wI hf_29 (gXs cb_38 rfl)
                  have kt_43 : kT L s_39 a_2 n_3 := by rw [e_40]; exact kt_30
                  have pd_44 : SVN L 61 N0 N1 N2 s_39 := by rw [e_40]; exact SVN61_fr pd_31 (gX.wI (gX.refl L true [55, 56, 64, 65] _) (gXs cb_38 rfl)) rfl
                  have pd_45 : SVA L 60 A s_39 := by rw [e_40]; exact SVA60_fr pd_32 (gX.wI (gX.refl L true [55, 56, 64, 65] _) (gXs cb_38 rfl)) rfl rfl
                  exact k s_39 hs_41 hf_42
                · refine s_2063_180 _ _ _ _ _ _ _ _ _ _ _ _ ?_
                  obtain ⟨b_49, rb_49, lb_49, hb_49, tb_49, cb_49⟩ := SVA.arr7 pd_32
                  refine ⟨b_49, rb_49, ?_⟩
                  refine ⟨gin hb_49 (by omega), ?_⟩
                  intro s_50 e_51
                  have hs_52 : XI L 0 s_50 := by rw [e_51]; exact XI.nt hs_28 _ _ _ (by rw [hb_49]) tb_49 (xPs cb_49)
                  have hf_53 : gX L false [55, 56, 64, 65] s s_50 := by rw [e_51]; exact gX.wI hf_29 (gXs cb_49 rfl)
                  have kt_54 : kT L s_50 a_2 n_3 := by rw [e_51]; exact kt_30
                  have pd_55 : SVN L 61 N0 N1 N2 s_50 := by rw [e_51]; exact SVN61_fr pd_31 (gX.wI (gX.refl L true [55, 56, 64, 65] _) (gXs cb_49 rfl)) rfl
                  have pd_56 : SVA L 60 A s_50 := by rw [e_51]; exact SVA60_fr pd_32 (gX.wI (gX.refl L true [55, 56, 64, 65] _) (gXs cb_49 rfl)) rfl rfl
                  exact k s_50 hs_52 hf_53
              · refine s_2063_150 _ _ _ _ _ _ _ _ _ _ _ _ ?_
                obtain ⟨b_60, rb_60, lb_60, hb_60, tb_60, cb_60⟩ := SVA.arr6 q1
                refine ⟨b_60, rb_60, ?_⟩
                refine ⟨gin hb_60 (by omega), ?_⟩
                intro s_61 e_62
                have hs_63 : XI L 0 s_61 := by rw [e_62]; exact XI.nt hs _ _ _ (by rw [hb_60]) tb_60 (xPs cb_60)
                have hf_64 : gX L false [55, 56, 64, 65] s s_61 := by rw [e_62]; exact gX.wI (gX.refl _ _ _ _) (gXs cb_60 rfl)
                have kt_65 : kT L s_61 a_2 n_3 := by rw [e_62]; exact kt_5
                have pd_66 : SVN L 61 N0 N1 N2 s_61 := by rw [e_62]; exact SVN61_fr q0 (gX.wI (gX.refl L true [55, 56, 64, 65] _) (gXs cb_60 rfl)) rfl
                have pd_67 : SVA L 60 A s_61 := by rw [e_62]; exact SVA60_fr q1 (gX.wI (gX.refl L true [55, 56, 64, 65] _) (gXs cb_60 rfl)) rfl rfl
                refine ⟨60, rfl, ?_⟩
                refine ⟨rfl, ?_⟩
                try rw [show gp_wr (p0 + p1) = p0 + p1 from gp_wr_id (by omega) (by omega)]
                refine ⟨fun h_68 => ?_, fun h_68 => ?_⟩
                · refine ⟨a_2, rfl, ?_⟩
                  refine ⟨kt_65.2.1, ?_⟩
                  refine ⟨(a_2 + 4), (kt_65.tt hs_63).1.2.2.2.1.2.2.2.1, ?_⟩
                  refine ⟨gin ((kt_65.tt hs_63).1.2.2.2.2.1.2.2.2.1) (by omega), ?_⟩
                  have w_69 := wr_rng (p3 + (gp_I s_61 (a_2 + 4) (Int.toNat p1)))
                  refine s_2063_180 _ _ _ _ _ _ _ _ _ _ _ _ ?_
                  obtain ⟨b_73, rb_73, lb_73, hb_73, tb_73, cb_73⟩ := SVA.arr7 pd_67
                  refine ⟨b_73, rb_73, ?_⟩
                  refine ⟨gin hb_73 (by omega), ?_⟩
                  intro s_74 e_75
                  have hs_76 : XI L 0 s_74 := by rw [e_75]; exact XI.nt hs_63 _ _ _ (by rw [hb_73]) tb_73 (xPs cb_73)
                  have hf_77 : gX L false [55, 56, 64, 65] s s_74 := by rw [e_75]; exact gX.wI hf_64 (gXs cb_73 rfl)
                  have kt_78 : kT L s_74 a_2 n_3 := by rw [e_75]; exact kt_65
                  have pd_79 : SVN L 61 N0 N1 N2 s_74 := by rw [e_75]; exact SVN61_fr pd_66 (gX.wI (gX.refl L true [55, 56, 64, 65] _) (gXs cb_73 rfl)) rfl
                  have pd_80 : SVA L 60 A s_74 := by rw [e_75]; exact SVA60_fr pd_67 (gX.wI (gX.refl L true [55, 56, 64, 65] _) (gXs cb_73 rfl)) rfl rfl
                  exact k s_74 hs_76 hf_77
                · refine s_2063_180 _ _ _ _ _ _ _ _ _ _ _ _ ?_
                  obtain ⟨b_84, rb_84, lb_84, hb_84, tb_84, cb_84⟩ := SVA.arr7 pd_67
                  refine ⟨b_84, rb_84, ?_⟩
                  refine ⟨gin hb_84 (by omega), ?_⟩
                  intro s_85 e_86
                  have hs_87 : XI L 0 s_85 := by rw [e_86]; exact XI.nt hs_63 _ _ _ (by rw [hb_84]) tb_84 (xPs cb_84)
                  have hf_88 : gX L false [55, 56, 64, 65] s s_85 := by rw [e_86]; exact gX.wI hf_64 (gXs cb_84 rfl)
                  have kt_89 : kT L s_85 a_2 n_3 := by rw [e_86]; exact kt_65
                  have pd_90 : SVN L 61 N0 N1 N2 s_85 := by rw [e_86]; exact SVN61_fr pd_66 (gX.wI (gX.refl L true [55, 56, 64, 65] _) (gXs cb_84 rfl)) rfl
                  have pd_91 : SVA L 60 A s_85 := by rw [e_86]; exact SVA60_fr pd_67 (gX.wI (gX.refl L true [55, 56, 64, 65] _) (gXs cb_84 rfl)) rfl rfl
                  exact k s_85 hs_87 hf_88
            · have hz_92 : ¬ v8_17 = 0#64 := fun q => h_18 ((gm_cmp0 _ _).mpr q)
              refine ⟨60, rfl, ?_⟩
              refine ⟨rfl, ?_⟩
              refine xm_lowest _ (fun x_93 p_94 p_95 => ⟨_, rfl, ?_⟩)
              have hlw := (sub.refl v8_17).low (by assumption) p_95
              have hl0 := iv0_17 _ hlw.2.2
              try rw [show gp_wr (p0 + x_93) = p0 + x_93 from gp_wr_id (by omega) (by omega)]
              obtain ⟨b_96, rb_96, lb_96, hb_96, tb_96, cb_96⟩ := SVA.arr6 q1
              refine ⟨b_96, rb_96, ?_⟩
              refine ⟨gin hb_96 (by omega), ?_⟩
              have w_97 := gz_mi (v7_17) (gp_I s b_96 (Int.toNat (p0 + x_93)))
              exact ih_17 _ _ (bd_rest iv0_17) (by have := rest_lt (by assumption : ¬ v8_17 = 0#64); omega)
        exact lp_17 _ _ _ (by assumption) (Nat.lt_succ_self _)
      · have hz_100 : ¬ v7_10 = 0#64 := fun q => h_11 ((gm_cmp0 _ _).mpr q)
        refine ⟨60, rfl, ?_⟩
        refine ⟨rfl, ?_⟩
        refine xm_lowest _ (fun x_101 p_102 p_103 => ⟨_, rfl, ?_⟩)
        have hlw := (sub.refl v7_10).low (by assumption) p_103
        have hl0 := iv0_10 _ hlw.2.2
        try rw [show gp_wr (p0 + x_101) = p0 + x_101 from gp_wr_id (by omega) (by omega)]
        obtain ⟨b_104, rb_104, lb_104, hb_104, tb_104, cb_104⟩ := SVA.arr7 q1
        refine ⟨b_104, rb_104, ?_⟩
        refine ⟨gin hb_104 (by omega), ?_⟩
        have w_105 := gz_mx (v6_10) (gp_I s b_104 (Int.toNat (p0 + x_101)))
        exact ih_10 _ _ _ (bd_rest iv0_10) (by have := rest_lt (by assumption : ¬ v7_10 = 0#64); omega)
  exact lp_10 _ _ _ _ (by assumption) (Nat.lt_succ_self _)
set_option maxRecDepth 100000 in
/-- Sum.fillRow -/
theorem xm_sfillRow51  {L d : Nat} {K : Option gV → gH → Prop} {s : gH} (A N0 N1 N2 : Nat) (p0 : Int) (p1 : Int) (hs : XI L 0 s) (h_p0 : 0 ≤ p0 ∧ p0 ≤ 59) (h_p1 : 0 ≤ p1 ∧ p1 ≤ 59) (q0 : SVN L 52 N0 N1 N2 s) (q1 : SVA L 51 A s) (q2 : p0 < N0) (q3 : p1 < N1) (q4 : p3m N0 N1 N2 ≤ A) (k : ∀ (t : gH), XI L 0 t → gX L false [55, 56, 64, 65] s t → K none t) : gs_C L (d + 3) 2061 9 [gp_r (some 51), gp_i p0, gp_i p1] s K := by
  refine s_2061_e _ _ _ ?_
  have hA9 := SVA.le q1
  refine ⟨51, rfl, ?_⟩
  refine ⟨rfl, ?_⟩
  refine ⟨52, rfl, ?_⟩
  refine ⟨⟨rfl, by show 0 ≤ 2 ∧ 2 < 3; omega⟩, ?_⟩
  obtain ⟨a_1, n_2, e_3, kt_4, hn_5⟩ := SVN.g2 q0
  have hn_a_1 := kt_4.n hs
  refine ⟨a_1, e_3, ?_⟩
  refine ⟨kt_4.2.1, ?_⟩
  have f_6 := (kt_4.tt hs).1.2.2.1
  have f_7 := kt_4.n hs
  refine ⟨rfl, ?_⟩
  refine ⟨52, rfl, ?_⟩
  refine ⟨⟨rfl, by show 0 ≤ 1 ∧ 1 < 3; omega⟩, ?_⟩
  obtain ⟨a_8, n_9, e_10, kt_11, hn_12⟩ := SVN.g1 q0
  have hn_a_8 := kt_11.n hs
  refine ⟨a_8, e_10, ?_⟩
  refine ⟨kt_11.2.1, ?_⟩
  have f_13 := (kt_11.tt hs).1.2.2.1
  have f_14 := kt_11.n hs
  have mr_15 := mul_rng (a := p0) (b := gp_I s a_8 0) (A := 59) (B := 60) (by omega) (by omega) (by omega) (by omega)
  try rw [show gp_wr (p0 * (gp_I s a_8 0)) = p0 * (gp_I s a_8 0) from gp_wr_id (by omega) (by omega)]
  try rw [show gp_wr ((p0 * (gp_I s a_8 0)) + p1) = (p0 * (gp_I s a_8 0)) + p1 from gp_wr_id (by omega) (by omega)]
  have mr_16 := mul_rng (a := (p0 * (gp_I s a_8 0)) + p1) (b := gp_I s a_1 0) (A := 3599) (B := 60) (by omega) (by omega) (by omega) (by omega)
  try rw [show gp_wr (((p0 * (gp_I s a_8 0)) + p1) * (gp_I s a_1 0)) = ((p0 * (gp_I s a_8 0)) + p1) * (gp_I s a_1 0) from gp_wr_id (by omega) (by omega)]
  have hb9 : (((p0 * (gp_I s a_8 0)) + p1) * (gp_I s a_1 0)) + (gp_I s a_1 0) ≤ (p3m N0 N1 N2 : Nat) := plcM (by omega) (by omega) (by omega) (by omega) (by omega) (by omega) (by omega)
  have lp_18 : ∀ (n_18 : Nat) (v6_18 : Int) (v7_18 : gV) (v8_18 : gV) (s_18 : gH), (XI L 0 s_18) → (gX L false [55, 56, 64, 65] s s_18) → (SVN L 52 N0 N1 N2 s_18) → (SVA L 51 A s_18) → (kT L s_18 a_1 n_2) → (kT L s_18 a_8 n_9) → (0 ≤ v6_18 ∧ v6_18 ≤ 60) → (61 - v6_18).toNat < n_18 → gs_E L (d + 3) 2061 34 [gp_r (some 51), gp_i p0, gp_i p1, gp_i (gp_I s a_1 0), gp_i (gp_I s a_8 0), gp_i (((p0 * (gp_I s a_8 0)) + p1) * (gp_I s a_1 0)), gp_i v6_18, v7_18, v8_18] [] s_18 K := by
    intro n_18
    induction n_18 with
    | zero => intro v6_18 v7_18 v8_18 s_18 hs_s_18 hf_s_18 SVN_L_52_N0_N1_N2_s_18 SVA_L_51_A_s_18 kt_a_1_s_18 kt_a_8_s_18 hv6_18 hm_18; exact absurd hm_18 (Nat.not_lt_zero _)
    | succ n_18 ih_18 =>
      intro v6_18 v7_18 v8_18 s_18 hs_s_18 hf_s_18 SVN_L_52_N0_N1_N2_s_18 SVA_L_51_A_s_18 kt_a_1_s_18 kt_a_8_s_18 hv6_18 hm_18
      refine s_2061_34 _ _ _ _ _ _ _ _ _ ?_
      refine ⟨fun h_19 => ?_, fun h_19 => ?_⟩
      · refine ⟨51, rfl, ?_⟩
        refine ⟨rfl, ?_⟩
        try rw [show gp_wr ((((p0 * (gp_I s a_8 0)) + p1) * (gp_I s a_1 0)) + v6_18) = (((p0 * (gp_I s a_8 0)) + p1) * (gp_I s a_1 0)) + v6_18 from gp_wr_id (by omega) (by omega)]
        obtain ⟨b_20, rb_20, lb_20, hb_20, tb_20, cb_20⟩ := SVA.arr6 SVA_L_51_A_s_18
        refine ⟨b_20, rb_20, ?_⟩
        refine ⟨gin hb_20 (by omega), ?_⟩
        intro s_21 e_22
        have hs_23 : XI L 0 s_21 := by rw [e_22]; exact XI.nt hs_s_18 _ _ _ (by rw [hb_20]) tb_20 (xPs cb_20)
        have hf_24 : gX L false [55, 56, 64, 65] s s_21 := by rw [e_22]; exact gX.wI hf_s_18 (gXs cb_20 rfl)
        have kt_25 : kT L s_21 a_1 n_2 := by rw [e_22]; exact kt_a_1_s_18
        have kt_26 : kT L s_21 a_8 n_9 := by rw [e_22]; exact kt_a_8_s_18
        have pd_27 : SVN L 52 N0 N1 N2 s_21 := by rw [e_22]; exact SVN52_fr SVN_L_52_N0_N1_N2_s_18 (gX.wI (gX.refl L true [55, 56, 64, 65] _) (gXs cb_20 rfl)) rfl
        have pd_28 : SVA L 51 A s_21 := by rw [e_22]; exact SVA51_fr SVA_L_51_A_s_18 (gX.wI (gX.refl L true [55, 56, 64, 65] _) (gXs cb_20 rfl)) rfl rfl
        refine ⟨rfl, ?_⟩
        try rw [show gp_wr ((((p0 * (gp_I s a_8 0)) + p1) * (gp_I s a_1 0)) + v6_18) = (((p0 * (gp_I s a_8 0)) + p1) * (gp_I s a_1 0)) + v6_18 from gp_wr_id (by omega) (by omega)]
        obtain ⟨b_29, rb_29, lb_29, hb_29, tb_29, cb_29⟩ := SVA.arr7 pd_28
        refine ⟨b_29, rb_29, ?_⟩
        refine ⟨gin hb_29 (by omega), ?_⟩
        intro s_30 e_31
        have hs_32 : XI L 0 s_30 := by rw [e_31]; exact XI.nt hs_23 _ _ _ (by rw [hb_29]) tb_29 (xPs cb_29)
        have hf_33 : gX L false [55, 56, 64, 65] s s_30 := by rw [e_31]; exact gX.wI hf_24 (gXs cb_29 rfl)
        have kt_34 : kT L s_30 a_1 n_2 := by rw [e_31]; exact kt_25
        have kt_35 : kT L s_30 a_8 n_9 := by rw [e_31]; exact kt_26
        have pd_36 : SVN L 52 N0 N1 N2 s_30 := by rw [e_31]; exact SVN52_fr pd_27 (gX.wI (gX.refl L true [55, 56, 64, 65] _) (gXs cb_29 rfl)) rfl
        have pd_37 : SVA L 51 A s_30 := by rw [e_31]; exact SVA51_fr pd_28 (gX.wI (gX.refl L true [55, 56, 64, 65] _) (gXs cb_29 rfl)) rfl rfl
        try rw [show gp_wr (v6_18 + 1) = v6_18 + 1 from gp_wr_id (by omega) (by omega)]
        exact ih_18 _ _ _ _ hs_32 hf_33 pd_36 pd_37 kt_34 kt_35 (by omega) (by omega)
      · have lp_40 : ∀ (n_40 : Nat) (v6_40 : Int) (v7_40 : gV) (v8_40 : gV) (s_40 : gH), (XI L 0 s_40) → (gX L false [55, 56, 64, 65] s s_40) → (SVN L 52 N0 N1 N2 s_40) → (SVA L 51 A s_40) → (kT L s_40 a_1 n_2) → (kT L s_40 a_8 n_9) → (0 ≤ v6_40 ∧ v6_40 ≤ 2) → (3 - v6_40).toNat < n_40 → gs_E L (d + 3) 2061 73 [gp_r (some 51), gp_i p0, gp_i p1, gp_i (gp_I s a_1 0), gp_i (gp_I s a_8 0), gp_i (((p0 * (gp_I s a_8 0)) + p1) * (gp_I s a_1 0)), gp_i v6_40, v7_40, v8_40] [] s_40 K := by
          intro n_40
          induction n_40 with
          | zero => intro v6_40 v7_40 v8_40 s_40 hs_s_40 hf_s_40 SVN_L_52_N0_N1_N2_s_40 SVA_L_51_A_s_40 kt_a_1_s_40 kt_a_8_s_40 hv6_40 hm_40; exact absurd hm_40 (Nat.not_lt_zero _)
          | succ n_40 ih_40 =>
            intro v6_40 v7_40 v8_40 s_40 hs_s_40 hf_s_40 SVN_L_52_N0_N1_N2_s_40 SVA_L_51_A_s_40 kt_a_1_s_40 kt_a_8_s_40 hv6_40 hm_40
            refine s_2061_73 _ _ _ _ _ _ _ _ _ ?_
            refine ⟨fun h_41 => ?_, fun h_41 => ?_⟩
            · refine ⟨51, rfl, ?_⟩
              refine ⟨rfl, ?_⟩
              refine ⟨52, rfl, ?_⟩
              refine ⟨⟨rfl, by show 0 ≤ 0 ∧ 0 < 3; omega⟩, ?_⟩
              obtain ⟨a_42, n_43, e_44, kt_45, hn_46⟩ := SVN.g0 SVN_L_52_N0_N1_N2_s_40
              have hn_a_42 := kt_45.n hs_s_40
              refine ⟨a_42, e_44, ?_⟩
              refine ⟨kt_45.2.1, ?_⟩
              refine xm_options n_43 _ _ _ hs_s_40 (by omega) (by first | assumption | exact kT7 hs_s_40.1.1 | exact kT25 hs_s_40.1.1) (by first | omega | assumption) (fun m_47 p_48 p_49 => ⟨_, rfl, ?_⟩)
              have lp_51 : ∀ (n_51 : Nat) (v7_51 : BitVec 64) (s_51 : gH), (XI L 0 s_51) → (gX L false [55, 56, 64, 65] s s_51) → (SVN L 52 N0 N1 N2 s_51) → (SVA L 51 A s_51) → (kT L s_51 a_1 n_2) → (kT L s_51 a_42 n_43) → (kT L s_51 a_8 n_9) → (bd v7_51 p0) → ((v7_51).toNat) < n_51 → gs_E L (d + 3) 2061 93 [gp_r (some 51), gp_i p0, gp_i p1, gp_i (gp_I s a_1 0), gp_i (gp_I s a_8 0), gp_i (((p0 * (gp_I s a_8 0)) + p1) * (gp_I s a_1 0)), gp_i v6_40, gp_l v7_51, gp_n] [] s_51 K := by
                intro n_51
                induction n_51 with
                | zero => intro v7_51 s_51 hs_s_51 hf_s_51 SVN_L_52_N0_N1_N2_s_51 SVA_L_51_A_s_51 kt_a_1_s_51 kt_a_42_s_51 kt_a_8_s_51 iv0_51 hm_51; exact absurd hm_51 (Nat.not_lt_zero _)
                | succ n_51 ih_51 =>
                  intro v7_51 s_51 hs_s_51 hf_s_51 SVN_L_52_N0_N1_N2_s_51 SVA_L_51_A_s_51 kt_a_1_s_51 kt_a_42_s_51 kt_a_8_s_51 iv0_51 hm_51
                  refine s_2061_93 _ _ _ _ _ _ _ _ ?_
                  refine ⟨fun h_52 => ?_, fun h_52 => ?_⟩
                  · have hz_53 : v7_51 = 0#64 := (gm_cmp0 _ _).mp h_52
                    refine ⟨51, rfl, ?_⟩
                    refine ⟨rfl, ?_⟩
                    refine ⟨52, rfl, ?_⟩
                    refine ⟨⟨rfl, by show 0 ≤ 1 ∧ 1 < 3; omega⟩, ?_⟩
                    obtain ⟨a_54, n_55, e_56, kt_57, hn_58⟩ := SVN.g1 SVN_L_52_N0_N1_N2_s_51
                    have hn_a_54 := kt_57.n hs_s_51
                    refine ⟨a_54, e_56, ?_⟩
                    refine ⟨kt_57.2.1, ?_⟩
                    refine xm_options n_55 _ _ _ hs_s_51 (by omega) (by first | assumption | exact kT7 hs_s_51.1.1 | exact kT25 hs_s_51.1.1) (by first | omega | assumption) (fun m_59 p_60 p_61 => ⟨_, rfl, ?_⟩)
                    have lp_63 : ∀ (n_63 : Nat) (v7_63 : BitVec 64) (s_63 : gH), (XI L 0 s_63) → (gX L false [55, 56, 64, 65] s s_63) → (SVN L 52 N0 N1 N2 s_63) → (SVA L 51 A s_63) → (kT L s_63 a_1 n_2) → (kT L s_63 a_42 n_43) → (kT L s_63 a_54 n_55) → (kT L s_63 a_8 n_9) → (bd v7_63 p1) → ((v7_63).toNat) < n_63 → gs_E L (d + 3) 2061 147 [gp_r (some 51), gp_i p0, gp_i p1, gp_i (gp_I s a_1 0), gp_i (gp_I s a_8 0), gp_i (((p0 * (gp_I s a_8 0)) + p1) * (gp_I s a_1 0)), gp_i v6_40, gp_l v7_63, gp_n] [] s_63 K := by
                      intro n_63
                      induction n_63 with
                      | zero => intro v7_63 s_63 hs_s_63 hf_s_63 SVN_L_52_N0_N1_N2_s_63 SVA_L_51_A_s_63 kt_a_1_s_63 kt_a_42_s_63 kt_a_54_s_63 kt_a_8_s_63 iv0_63 hm_63; exact absurd hm_63 (Nat.not_lt_zero _)
                      | succ n_63 ih_63 =>
                        intro v7_63 s_63 hs_s_63 hf_s_63 SVN_L_52_N0_N1_N2_s_63 SVA_L_51_A_s_63 kt_a_1_s_63 kt_a_42_s_63 kt_a_54_s_63 kt_a_8_s_63 iv0_63 hm_63
                        refine s_2061_147 _ _ _ _ _ _ _ _ ?_
                        refine ⟨fun h_64 => ?_, fun h_64 => ?_⟩
                        · have hz_65 : v7_63 = 0#64 := (gm_cmp0 _ _).mp h_64
                          try rw [show gp_wr (v6_40 + 1) = v6_40 + 1 from gp_wr_id (by omega) (by omega)]
                          exact ih_40 _ _ _ _ hs_s_63 hf_s_63 SVN_L_52_N0_N1_N2_s_63 SVA_L_51_A_s_63 kt_a_1_s_63 kt_a_8_s_63 (by omega) (by omega)
                        · have hz_67 : ¬ v7_63 = 0#64 := fun q => h_64 ((gm_cmp0 _ _).mpr q)
                          have mr_68 := mul_rng (a := p0) (b := gp_I s a_8 0) (A := 59) (B := 60) (by omega) (by omega) (by omega) (by omega)
                          try rw [show gp_wr (p0 * (gp_I s a_8 0)) = p0 * (gp_I s a_8 0) from gp_wr_id (by omega) (by omega)]
                          refine xm_lowest _ (fun x_69 p_70 p_71 => ⟨_, rfl, ?_⟩)
                          have hlw := (sub.refl v7_63).low (by assumption) p_71
                          have hl0 := iv0_63 _ hlw.2.2
                          try rw [show gp_wr ((p0 * (gp_I s a_8 0)) + x_69) = (p0 * (gp_I s a_8 0)) + x_69 from gp_wr_id (by omega) (by omega)]
                          have mr_72 := mul_rng (a := (p0 * (gp_I s a_8 0)) + x_69) (b := gp_I s a_1 0) (A := 3604) (B := 60) (by omega) (by omega) (by omega) (by omega)
                          try rw [show gp_wr (((p0 * (gp_I s a_8 0)) + x_69) * (gp_I s a_1 0)) = ((p0 * (gp_I s a_8 0)) + x_69) * (gp_I s a_1 0) from gp_wr_id (by omega) (by omega)]
                          have hb8 : (((p0 * (gp_I s a_8 0)) + x_69) * (gp_I s a_1 0)) + (gp_I s a_1 0) ≤ (p3m N0 N1 N2 : Nat) := plcM (by omega) (by omega) (by omega) (by omega) (by omega) (by omega) (by omega)
                          refine ⟨51, rfl, ?_⟩
                          refine ⟨rfl, ?_⟩
                          refine xm_sweigh51 A _ _ _ _ hs_s_63 (by omega) (by omega) (by omega) (SVA_L_51_A_s_63) (by first | omega | assumption) (by first | omega | assumption) (fun s_73 hs_74 hf_75 => ⟨rfl, ?_⟩)
                          have hf_76 : gX L false [55, 56, 64, 65] s s_73 := gX.trans hf_s_63 hf_75 rfl rfl
                          have kt_77 : kT L s_73 a_1 n_2 := kt_a_1_s_63.fr hf_75.1
                          have kt_78 : kT L s_73 a_8 n_9 := kt_a_8_s_63.fr hf_75.1
                          have kt_79 : kT L s_73 a_42 n_43 := kt_a_42_s_63.fr hf_75.1
                          have kt_80 : kT L s_73 a_54 n_55 := kt_a_54_s_63.fr hf_75.1
                          have pd_81 : SVN L 52 N0 N1 N2 s_73 := SVN52_fr SVN_L_52_N0_N1_N2_s_63 hf_75 rfl
                          have pd_82 : SVA L 51 A s_73 := SVA51_fr SVA_L_51_A_s_63 hf_75 rfl rfl
                          exact ih_63 _ _ hs_74 hf_76 pd_81 pd_82 kt_77 kt_79 kt_80 kt_78 (bd_rest iv0_63) (by have := rest_lt (by assumption : ¬ v7_63 = 0#64); omega)
                    exact lp_63 _ _ _ hs_s_51 hf_s_51 SVN_L_52_N0_N1_N2_s_51 SVA_L_51_A_s_51 kt_a_1_s_51 kt_a_42_s_51 kt_57 kt_a_8_s_51 (by assumption) (Nat.lt_succ_self _)
                  · have hz_84 : ¬ v7_51 = 0#64 := fun q => h_52 ((gm_cmp0 _ _).mpr q)
                    refine xm_lowest _ (fun x_85 p_86 p_87 => ⟨_, rfl, ?_⟩)
                    have hlw := (sub.refl v7_51).low (by assumption) p_87
                    have hl0 := iv0_51 _ hlw.2.2
                    have mr_88 := mul_rng (a := x_85) (b := gp_I s a_8 0) (A := 64) (B := 60) (by omega) (by omega) (by omega) (by omega)
                    try rw [show gp_wr (x_85 * (gp_I s a_8 0)) = x_85 * (gp_I s a_8 0) from gp_wr_id (by omega) (by omega)]
                    try rw [show gp_wr ((x_85 * (gp_I s a_8 0)) + p1) = (x_85 * (gp_I s a_8 0)) + p1 from gp_wr_id (by omega) (by omega)]
                    have mr_89 := mul_rng (a := (x_85 * (gp_I s a_8 0)) + p1) (b := gp_I s a_1 0) (A := 3899) (B := 60) (by omega) (by omega) (by omega) (by omega)
                    try rw [show gp_wr (((x_85 * (gp_I s a_8 0)) + p1) * (gp_I s a_1 0)) = ((x_85 * (gp_I s a_8 0)) + p1) * (gp_I s a_1 0) from gp_wr_id (by omega) (by omega)]
                    have hb8 : (((x_85 * (gp_I s a_8 0)) + p1) * (gp_I s a_1 0)) + (gp_I s a_1 0) ≤ (p3m N0 N1 N2 : Nat) := plcM (by omega) (by omega) (by omega) (by omega) (by omega) (by omega) (by omega)
                    refine ⟨51, rfl, ?_⟩
                    refine ⟨rfl, ?_⟩
                    refine xm_sweigh51 A _ _ _ _ hs_s_51 (by omega) (by omega) (by omega) (SVA_L_51_A_s_51) (by first | omega | assumption) (by first | omega | assumption) (fun s_90 hs_91 hf_92 => ⟨rfl, ?_⟩)
                    have hf_93 : gX L false [55, 56, 64, 65] s s_90 := gX.trans hf_s_51 hf_92 rfl rfl
                    have kt_94 : kT L s_90 a_1 n_2 := kt_a_1_s_51.fr hf_92.1
                    have kt_95 : kT L s_90 a_8 n_9 := kt_a_8_s_51.fr hf_92.1
                    have kt_96 : kT L s_90 a_42 n_43 := kt_a_42_s_51.fr hf_92.1
                    have pd_97 : SVN L 52 N0 N1 N2 s_90 := SVN52_fr SVN_L_52_N0_N1_N2_s_51 hf_92 rfl
                    have pd_98 : SVA L 51 A s_90 := SVA51_fr SVA_L_51_A_s_51 hf_92 rfl rfl
                    exact ih_51 _ _ hs_91 hf_93 pd_97 pd_98 kt_94 kt_96 kt_95 (bd_rest iv0_51) (by have := rest_lt (by assumption : ¬ v7_51 = 0#64); omega)
              exact lp_51 _ _ _ hs_s_40 hf_s_40 SVN_L_52_N0_N1_N2_s_40 SVA_L_51_A_s_40 kt_a_1_s_40 kt_45 kt_a_8_s_40 (by assumption) (Nat.lt_succ_self _)
            · refine ⟨51, rfl, ?_⟩
              refine ⟨rfl, ?_⟩
              refine ⟨52, rfl, ?_⟩
              refine ⟨⟨rfl, by show 0 ≤ 0 ∧ 0 < 3; omega⟩, ?_⟩
              obtain ⟨a_100, n_101, e_102, kt_103, hn_104⟩ := SVN.g0 SVN_L_52_N0_N1_N2_s_40
              have hn_a_100 := kt_103.n hs_s_40
              refine ⟨a_100, e_102, ?_⟩
              refine ⟨kt_103.2.1, ?_⟩
              refine ⟨(a_100 + 3), (kt_103.tt hs_s_40).1.2.2.2.1.2.2.1, ?_⟩
              refine ⟨gin ((kt_103.tt hs_s_40).1.2.2.2.2.1.2.2.1) (by omega), ?_⟩
              refine ⟨rfl, ?_⟩
              refine ⟨52, rfl, ?_⟩
              refine ⟨⟨rfl, by show 0 ≤ 1 ∧ 1 < 3; omega⟩, ?_⟩
              obtain ⟨a_105, n_106, e_107, kt_108, hn_109⟩ := SVN.g1 SVN_L_52_N0_N1_N2_s_40
              have hn_a_105 := kt_108.n hs_s_40
              refine ⟨a_105, e_107, ?_⟩
              refine ⟨kt_108.2.1, ?_⟩
              refine ⟨(a_105 + 3), (kt_108.tt hs_s_40).1.2.2.2.1.2.2.1, ?_⟩
              refine ⟨gin ((kt_108.tt hs_s_40).1.2.2.2.2.1.2.2.1) (by omega), ?_⟩
              have w_110 := wr_rng ((gp_I s_40 (a_100 + 3) (Int.toNat p0)) + (gp_I s_40 (a_105 + 3) (Int.toNat p1)))
              refine ⟨rfl, ?_⟩
              refine ⟨52, rfl, ?_⟩
              refine ⟨⟨rfl, by show 0 ≤ 0 ∧ 0 < 3; omega⟩, ?_⟩
              refine ⟨a_100, e_102, ?_⟩
              refine ⟨kt_103.2.1, ?_⟩
              refine ⟨(a_100 + 4), (kt_103.tt hs_s_40).1.2.2.2.1.2.2.2.1, ?_⟩
              refine ⟨gin ((kt_103.tt hs_s_40).1.2.2.2.2.1.2.2.2.1) (by omega), ?_⟩
              refine ⟨rfl, ?_⟩
              refine ⟨52, rfl, ?_⟩
              refine ⟨⟨rfl, by show 0 ≤ 1 ∧ 1 < 3; omega⟩, ?_⟩
              refine ⟨a_105, e_107, ?_⟩
              refine ⟨kt_108.2.1, ?_⟩
              refine ⟨(a_105 + 4), (kt_108.tt hs_s_40).1.2.2.2.1.2.2.2.1, ?_⟩
              refine ⟨gin ((kt_108.tt hs_s_40).1.2.2.2.2.1.2.2.2.1) (by omega), ?_⟩
              have w_111 := wr_rng ((gp_I s_40 (a_100 + 4) (Int.toNat p0)) + (gp_I s_40 (a_105 + 4) (Int.toNat p1)))
              have lp_113 : ∀ (n_113 : Nat) (v8_113 : Int) (s_113 : gH), (XI L 0 s_113) → (gX L false [55, 56, 64, 65] s s_113) → (SVN L 52 N0 N1 N2 s_113) → (SVA L 51 A s_113) → (kT L s_113 a_1 n_2) → (kT L s_113 a_100 n_101) → (kT L s_113 a_105 n_106) → (kT L s_113 a_8 n_9) → (0 ≤ v8_113 ∧ v8_113 ≤ 60) → (61 - v8_113).toNat < n_113 → gs_E L (d + 3) 2061 246 [gp_r (some 51), gp_i p0, gp_i p1, gp_i (gp_I s a_1 0), gp_i (gp_I s a_8 0), gp_i (((p0 * (gp_I s a_8 0)) + p1) * (gp_I s a_1 0)), gp_i (gp_wr ((gp_I s_40 (a_100 + 3) (Int.toNat p0)) + (gp_I s_40 (a_105 + 3) (Int.toNat p1)))), gp_i (gp_wr ((gp_I s_40 (a_100 + 4) (Int.toNat p0)) + (gp_I s_40 (a_105 + 4) (Int.toNat p1)))), gp_i v8_113] [] s_113 K := by
                intro n_113
                induction n_113 with
                | zero => intro v8_113 s_113 hs_s_113 hf_s_113 SVN_L_52_N0_N1_N2_s_113 SVA_L_51_A_s_113 kt_a_1_s_113 kt_a_100_s_113 kt_a_105_s_113 kt_a_8_s_113 hv8_113 hm_113; exact absurd hm_113 (Nat.not_lt_zero _)
                | succ n_113 ih_113 =>
                  intro v8_113 s_113 hs_s_113 hf_s_113 SVN_L_52_N0_N1_N2_s_113 SVA_L_51_A_s_113 kt_a_1_s_113 kt_a_100_s_113 kt_a_105_s_113 kt_a_8_s_113 hv8_113 hm_113
                  refine s_2061_246 _ _ _ _ _ _ _ _ _ ?_
                  refine ⟨fun h_114 => ?_, fun h_114 => ?_⟩
                  · refine ⟨51, rfl, ?_⟩
                    refine ⟨rfl, ?_⟩
                    refine xm_sfillPlace51 A N0 N1 N2 _ _ _ _ hs_s_113 (by omega) (by omega) (SVN_L_52_N0_N1_N2_s_113) (SVA_L_51_A_s_113) (by first | omega | assumption) (by first | omega | assumption) (fun s_115 hs_116 hf_117 => ⟨rfl, ?_⟩)
                    have hf_118 : gX L false [55, 56, 64, 65] s s_115 := gX.trans hf_s_113 hf_117 rfl rfl
                    have kt_119 : kT L s_115 a_1 n_2 := kt_a_1_s_113.fr hf_117.1
                    have kt_120 : kT L s_115 a_8 n_9 := kt_a_8_s_113.fr hf_117.1
                    have kt_121 : kT L s_115 a_100 n_101 := kt_a_100_s_113.fr hf_117.1
                    have kt_122 : kT L s_115 a_105 n_106 := kt_a_105_s_113.fr hf_117.1
                    have pd_123 : SVN L 52 N0 N1 N2 s_115 := SVN52_fr SVN_L_52_N0_N1_N2_s_113 hf_117 rfl
                    have pd_124 : SVA L 51 A s_115 := SVA51_fr SVA_L_51_A_s_113 hf_117 rfl rfl
                    try rw [show gp_wr (v8_113 + 1) = v8_113 + 1 from gp_wr_id (by omega) (by omega)]
                    exact ih_113 _ _ hs_116 hf_118 pd_123 pd_124 kt_119 kt_121 kt_122 kt_120 (by omega) (by omega)
                  · exact k s_113 hs_s_113 hf_s_113
              exact lp_113 _ _ _ hs_s_40 hf_s_40 SVN_L_52_N0_N1_N2_s_40 SVA_L_51_A_s_40 kt_a_1_s_40 kt_103 kt_108 kt_a_8_s_40 (by omega) (Nat.lt_succ_self _)
        exact lp_40 _ _ _ _ _ hs_s_18 hf_s_18 SVN_L_52_N0_N1_N2_s_18 SVA_L_51_A_s_18 kt_a_1_s_18 kt_a_8_s_18 (by omega) (Nat.lt_succ_self _)
  exact lp_18 _ _ _ _ _ hs (gX.refl _ _ _ _) q0 q1 kt_4 kt_11 (by omega) (Nat.lt_succ_self _)
set_option maxRecDepth 100000 in
/-- Sum.fillRow -/
theorem xm_sfillRow60  {L d : Nat} {K : Option gV → gH → Prop} {s : gH} (A N0 N1 N2 : Nat) (p0 : Int) (p1 : Int) (hs : XI L 0 s) (h_p0 : 0 ≤ p0 ∧ p0 ≤ 59) (h_p1 : 0 ≤ p1 ∧ p1 ≤ 59) (q0 : SVN L 61 N0 N1 N2 s) (q1 : SVA L 60 A s) (q2 : p0 < N0) (q3 : p1 < N1) (q4 : p3m N0 N1 N2 ≤ A) (k : ∀ (t : gH), XI L 0 t → gX L false [55, 56, 64, 65] s t → K none t) : gs_C L (d + 3) 2061 9 [gp_r (some 60), gp_i p0, gp_i p1] s K := by
  refine s_2061_e _ _ _ ?_
  have hA9 := SVA.le q1
  refine ⟨60, rfl, ?_⟩
  refine ⟨rfl, ?_⟩
  refine ⟨61, rfl, ?_⟩
  refine ⟨⟨rfl, by show 0 ≤ 2 ∧ 2 < 3; omega⟩, ?_⟩
  obtain ⟨a_1, n_2, e_3, kt_4, hn_5⟩ := SVN.g2 q0
  have hn_a_1 := kt_4.n hs
  refine ⟨a_1, e_3, ?_⟩
  refine ⟨kt_4.2.1, ?_⟩
  have f_6 := (kt_4.tt hs).1.2.2.1
  have f_7 := kt_4.n hs
  refine ⟨rfl, ?_⟩
  refine ⟨61, rfl, ?_⟩
  refine ⟨⟨rfl, by show 0 ≤ 1 ∧ 1 < 3; omega⟩, ?_⟩
  obtain ⟨a_8, n_9, e_10, kt_11, hn_12⟩ := SVN.g1 q0
  have hn_a_8 := kt_11.n hs
  refine ⟨a_8, e_10, ?_⟩
  refine ⟨kt_11.2.1, ?_⟩
  have f_13 := (kt_11.tt hs).1.2.2.1
  have f_14 := kt_11.n hs
  have mr_15 := mul_rng (a := p0) (b := gp_I s a_8 0) (A := 59) (B := 60) (by omega) (by omega) (by omega) (by omega)
  try rw [show gp_wr (p0 * (gp_I s a_8 0)) = p0 * (gp_I s a_8 0) from gp_wr_id (by omega) (by omega)]
  try rw [show gp_wr ((p0 * (gp_I s a_8 0)) + p1) = (p0 * (gp_I s a_8 0)) + p1 from gp_wr_id (by omega) (by omega)]
  have mr_16 := mul_rng (a := (p0 * (gp_I s a_8 0)) + p1) (b := gp_I s a_1 0) (A := 3599) (B := 60) (by omega) (by omega) (by omega) (by omega)
  try rw [show gp_wr (((p0 * (gp_I s a_8 0)) + p1) * (gp_I s a_1 0)) = ((p0 * (gp_I s a_8 0)) + p1) * (gp_I s a_1 0) from gp_wr_id (by omega) (by omega)]
  have hb9 : (((p0 * (gp_I s a_8 0)) + p1) * (gp_I s a_1 0)) + (gp_I s a_1 0) ≤ (p3m N0 N1 N2 : Nat) := plcM (by omega) (by omega) (by omega) (by omega) (by omega) (by omega) (by omega)
  have lp_18 : ∀ (n_18 : Nat) (v6_18 : Int) (v7_18 : gV) (v8_18 : gV) (s_18 : gH), (XI L 0 s_18) → (gX L false [55, 56, 64, 65] s s_18) → (SVN L 61 N0 N1 N2 s_18) → (SVA L 60 A s_18) → (kT L s_18 a_1 n_2) → (kT L s_18 a_8 n_9) → (0 ≤ v6_18 ∧ v6_18 ≤ 60) → (61 - v6_18).toNat < n_18 → gs_E L (d + 3) 2061 34 [gp_r (some 60), gp_i p0, gp_i p1, gp_i (gp_I s a_1 0), gp_i (gp_I s a_8 0), gp_i (((p0 * (gp_I s a_8 0)) + p1) * (gp_I s a_1 0)), gp_i v6_18, v7_18, v8_18] [] s_18 K := by
    intro n_18
    induction n_18 with
    | zero => intro v6_18 v7_18 v8_18 s_18 hs_s_18 hf_s_18 SVN_L_61_N0_N1_N2_s_18 SVA_L_60_A_s_18 kt_a_1_s_18 kt_a_8_s_18 hv6_18 hm_18; exact absurd hm_18 (Nat.not_lt_zero _)
    | succ n_18 ih_18 =>
      intro v6_18 v7_18 v8_18 s_18 hs_s_18 hf_s_18 SVN_L_61_N0_N1_N2_s_18 SVA_L_60_A_s_18 kt_a_1_s_18 kt_a_8_s_18 hv6_18 hm_18
      refine s_2061_34 _ _ _ _ _ _ _ _ _ ?_
      refine ⟨fun h_19 => ?_, fun h_19 => ?_⟩
      · refine ⟨60, rfl, ?_⟩
        refine ⟨rfl, ?_⟩
        try rw [show gp_wr ((((p0 * (gp_I s a_8 0)) + p1) * (gp_I s a_1 0)) + v6_18) = (((p0 * (gp_I s a_8 0)) + p1) * (gp_I s a_1 0)) + v6_18 from gp_wr_id (by omega) (by omega)]
        obtain ⟨b_20, rb_20, lb_20, hb_20, tb_20, cb_20⟩ := SVA.arr6 SVA_L_60_A_s_18
        refine ⟨b_20, rb_20, ?_⟩
        refine ⟨gin hb_20 (by omega), ?_⟩
        intro s_21 e_22
        have hs_23 : XI L 0 s_21 := by rw [e_22]; exact XI.nt hs_s_18 _ _ _ (by rw [hb_20]) tb_20 (xPs cb_20)
        have hf_24 : gX L false [55, 56, 64, 65] s s_21 := by rw [e_22]; exact gX.wI hf_s_18 (gXs cb_20 rfl)
        have kt_25 : kT L s_21 a_1 n_2 := by rw [e_22]; exact kt_a_1_s_18
        have kt_26 : kT L s_21 a_8 n_9 := by rw [e_22]; exact kt_a_8_s_18
        have pd_27 : SVN L 61 N0 N1 N2 s_21 := by rw [e_22]; exact SVN61_fr SVN_L_61_N0_N1_N2_s_18 (gX.wI (gX.refl L true [55, 56, 64, 65] _) (gXs cb_20 rfl)) rfl
        have pd_28 : SVA L 60 A s_21 := by rw [e_22]; exact SVA60_fr SVA_L_60_A_s_18 (gX.wI (gX.refl L true [55, 56, 64, 65] _) (gXs cb_20 rfl)) rfl rfl
        refine ⟨rfl, ?_⟩
        try rw [show gp_wr ((((p0 * (gp_I s a_8 0)) + p1) * (gp_I s a_1 0)) + v6_18) = (((p0 * (gp_I s a_8 0)) + p1) * (gp_I s a_1 0)) + v6_18 from gp_wr_id (by omega) (by omega)]
        obtain ⟨b_29, rb_29, lb_29, hb_29, tb_29, cb_29⟩ := SVA.arr7 pd_28
        refine ⟨b_29, rb_29, ?_⟩
        refine ⟨gin hb_29 (by omega), ?_⟩
        intro s_30 e_31
        have hs_32 : XI L 0 s_30 := by rw [e_31]; exact XI.nt hs_23 _ _ _ (by rw [hb_29]) tb_29 (xPs cb_29)
        have hf_33 : gX L false [55, 56, 64, 65] s s_30 := by rw [e_31]; exact gX.wI hf_24 (gXs cb_29 rfl)
        have kt_34 : kT L s_30 a_1 n_2 := by rw [e_31]; exact kt_25
        have kt_35 : kT L s_30 a_8 n_9 := by rw [e_31]; exact kt_26
        have pd_36 : SVN L 61 N0 N1 N2 s_30 := by rw [e_31]; exact SVN61_fr pd_27 (gX.wI (gX.refl L true [55, 56, 64, 65] _) (gXs cb_29 rfl)) rfl
        have pd_37 : SVA L 60 A s_30 := by rw [e_31]; exact SVA60_fr pd_28 (gX.wI (gX.refl L true [55, 56, 64, 65] _) (gXs cb_29 rfl)) rfl rfl
        try rw [show gp_wr (v6_18 + 1) = v6_18 + 1 from gp_wr_id (by omega) (by omega)]
        exact ih_18 _ _ _ _ hs_32 hf_33 pd_36 pd_37 kt_34 kt_35 (by omega) (by omega)
      · have lp_40 : ∀ (n_40 : Nat) (v6_40 : Int) (v7_40 : gV) (v8_40 : gV) (s_40 : gH), (XI L 0 s_40) → (gX L false [55, 56, 64, 65] s s_40) → (SVN L 61 N0 N1 N2 s_40) → (SVA L 60 A s_40) → (kT L s_40 a_1 n_2) → (kT L s_40 a_8 n_9) → (0 ≤ v6_40 ∧ v6_40 ≤ 2) → (3 - v6_40).toNat < n_40 → gs_E L (d + 3) 2061 73 [gp_r (some 60), gp_i p0, gp_i p1, gp_i (gp_I s a_1 0), gp_i (gp_I s a_8 0), gp_i (((p0 * (gp_I s a_8 0)) + p1) * (gp_I s a_1 0)), gp_i v6_40, v7_40, v8_40] [] s_40 K := by
          intro n_40
          induction n_40 with
          | zero => intro v6_40 v7_40 v8_40 s_40 hs_s_40 hf_s_40 SVN_L_61_N0_N1_N2_s_40 SVA_L_60_A_s_40 kt_a_1_s_40 kt_a_8_s_40 hv6_40 hm_40; exact absurd hm_40 (Nat.not_lt_zero _)
          | succ n_40 ih_40 =>
            intro v6_40 v7_40 v8_40 s_40 hs_s_40 hf_s_40 SVN_L_61_N0_N1_N2_s_40 SVA_L_60_A_s_40 kt_a_1_s_40 kt_a_8_s_40 hv6_40 hm_40
            refine s_2061_73 _ _ _ _ _ _ _ _ _ ?_
            refine ⟨fun h_41 => ?_, fun h_41 => ?_⟩
            · refine ⟨60, rfl, ?_⟩
              refine ⟨rfl, ?_⟩
              refine ⟨61, rfl, ?_⟩
              refine ⟨⟨rfl, by show 0 ≤ 0 ∧ 0 < 3; omega⟩, ?_⟩
              obtain ⟨a_42, n_43, e_44, kt_45, hn_46⟩ := SVN.g0 SVN_L_61_N0_N1_N2_s_40
              have hn_a_42 := kt_45.n hs_s_40
              refine ⟨a_42, e_44, ?_⟩
              refine ⟨kt_45.2.1, ?_⟩
              refine xm_options n_43 _ _ _ hs_s_40 (by omega) (by first | assumption | exact kT7 hs_s_40.1.1 | exact kT25 hs_s_40.1.1) (by first | omega | assumption) (fun m_47 p_48 p_49 => ⟨_, rfl, ?_⟩)
              have lp_51 : ∀ (n_51 : Nat) (v7_51 : BitVec 64) (s_51 : gH), (XI L 0 s_51) → (gX L false [55, 56, 64, 65] s s_51) → (SVN L 61 N0 N1 N2 s_51) → (SVA L 60 A s_51) → (kT L s_51 a_1 n_2) → (kT L s_51 a_42 n_43) → (kT L s_51 a_8 n_9) → (bd v7_51 p0) → ((v7_51).toNat) < n_51 → gs_E L (d + 3) 2061 93 [gp_r (some 60), gp_i p0, gp_i p1, gp_i (gp_I s a_1 0), gp_i (gp_I s a_8 0), gp_i (((p0 * (gp_I s a_8 0)) + p1) * (gp_I s a_1 0)), gp_i v6_40, gp_l v7_51, gp_n] [] s_51 K := by
                intro n_51
                induction n_51 with
                | zero => intro v7_51 s_51 hs_s_51 hf_s_51 SVN_L_61_N0_N1_N2_s_51 SVA_L_60_A_s_51 kt_a_1_s_51 kt_a_42_s_51 kt_a_8_s_51 iv0_51 hm_51; exact absurd hm_51 (Nat.not_lt_zero _)
                | succ n_51 ih_51 =>
                  intro v7_51 s_51 hs_s_51 hf_s_51 SVN_L_61_N0_N1_N2_s_51 SVA_L_60_A_s_51 kt_a_1_s_51 kt_a_42_s_51 kt_a_8_s_51 iv0_51 hm_51
                  refine s_2061_93 _ _ _ _ _ _ _ _ ?_
                  refine ⟨fun h_52 => ?_, fun h_52 => ?_⟩
                  · have hz_53 : v7_51 = 0#64 := (gm_cmp0 _ _).mp h_52
                    refine ⟨60, rfl, ?_⟩
                    refine ⟨rfl, ?_⟩
                    refine ⟨61, rfl, ?_⟩
                    refine ⟨⟨rfl, by show 0 ≤ 1 ∧ 1 < 3; omega⟩, ?_⟩
                    obtain ⟨a_54, n_55, e_56, kt_57, hn_58⟩ := SVN.g1 SVN_L_61_N0_N1_N2_s_51
                    have hn_a_54 := kt_57.n hs_s_51
                    refine ⟨a_54, e_56, ?_⟩
                    refine ⟨kt_57.2.1, ?_⟩
                    refine xm_options n_55 _ _ _ hs_s_51 (by omega) (by first | assumption | exact kT7 hs_s_51.1.1 | exact kT25 hs_s_51.1.1) (by first | omega | assumption) (fun m_59 p_60 p_61 => ⟨_, rfl, ?_⟩)
                    have lp_63 : ∀ (n_63 : Nat) (v7_63 : BitVec 64) (s_63 : gH), (XI L 0 s_63) → (gX L false [55, 56, 64, 65] s s_63) → (SVN L 61 N0 N1 N2 s_63) → (SVA L 60 A s_63) → (kT L s_63 a_1 n_2) → (kT L s_63 a_42 n_43) → (kT L s_63 a_54 n_55) → (kT L s_63 a_8 n_9) → (bd v7_63 p1) → ((v7_63).toNat) < n_63 → gs_E L (d + 3) 2061 147 [gp_r (some 60), gp_i p0, gp_i p1, gp_i (gp_I s a_1 0), gp_i (gp_I s a_8 0), gp_i (((p0 * (gp_I s a_8 0)) + p1) * (gp_I s a_1 0)), gp_i v6_40, gp_l v7_63, gp_n] [] s_63 K := by
                      intro n_63
                      induction n_63 with
                      | zero => intro v7_63 s_63 hs_s_63 hf_s_63 SVN_L_61_N0_N1_N2_s_63 SVA_L_60_A_s_63 kt_a_1_s_63 kt_a_42_s_63 kt_a_54_s_63 kt_a_8_s_63 iv0_63 hm_63; exact absurd hm_63 (Nat.not_lt_zero _)
                      | succ n_63 ih_63 =>
                        intro v7_63 s_63 hs_s_63 hf_s_63 SVN_L_61_N0_N1_N2_s_63 SVA_L_60_A_s_63 kt_a_1_s_63 kt_a_42_s_63 kt_a_54_s_63 kt_a_8_s_63 iv0_63 hm_63
                        refine s_2061_147 _ _ _ _ _ _ _ _ ?_
                        refine ⟨fun h_64 => ?_, fun h_64 => ?_⟩
                        · have hz_65 : v7_63 = 0#64 := (gm_cmp0 _ _).mp h_64
                          try rw [show gp_wr (v6_40 + 1) = v6_40 + 1 from gp_wr_id (by omega) (by omega)]
                          exact ih_40 _ _ _ _ hs_s_63 hf_s_63 SVN_L_61_N0_N1_N2_s_63 SVA_L_60_A_s_63 kt_a_1_s_63 kt_a_8_s_63 (by omega) (by omega)
                        · have hz_67 : ¬ v7_63 = 0#64 := fun q => h_64 ((gm_cmp0 _ _).mpr q)
                          have mr_68 := mul_rng (a := p0) (b := gp_I s a_8 0) (A := 59) (B := 60) (by omega) (by omega) (by omega) (by omega)
                          try rw [show gp_wr (p0 * (gp_I s a_8 0)) = p0 * (gp_I s a_8 0) from gp_wr_id (by omega) (by omega)]
                          refine xm_lowest _ (fun x_69 p_70 p_71 => ⟨_, rfl, ?_⟩)
                          have hlw := (sub.refl v7_63).low (by assumption) p_71
                          have hl0 := iv0_63 _ hlw.2.2
                          try rw [show gp_wr ((p0 * (gp_I s a_8 0)) + x_69) = (p0 * (gp_I s a_8 0)) + x_69 from gp_wr_id (by omega) (by omega)]
                          have mr_72 := mul_rng (a := (p0 * (gp_I s a_8 0)) + x_69) (b := gp_I s a_1 0) (A := 3604) (B := 60) (by omega) (by omega) (by omega) (by omega)
                          try rw [show gp_wr (((p0 * (gp_I s a_8 0)) + x_69) * (gp_I s a_1 0)) = ((p0 * (gp_I s a_8 0)) + x_69) * (gp_I s a_1 0) from gp_wr_id (by omega) (by omega)]
                          have hb8 : (((p0 * (gp_I s a_8 0)) + x_69) * (gp_I s a_1 0)) + (gp_I s a_1 0) ≤ (p3m N0 N1 N2 : Nat) := plcM (by omega) (by omega) (by omega) (by omega) (by omega) (by omega) (by omega)
                          refine ⟨60, rfl, ?_⟩
                          refine ⟨rfl, ?_⟩
                          refine xm_sweigh60 A _ _ _ _ hs_s_63 (by omega) (by omega) (by omega) (SVA_L_60_A_s_63) (by first | omega | assumption) (by first | omega | assumption) (fun s_73 hs_74 hf_75 => ⟨rfl, ?_⟩)
                          have hf_76 : gX L false [55, 56, 64, 65] s s_73 := gX.trans hf_s_63 hf_75 rfl rfl
                          have kt_77 : kT L s_73 a_1 n_2 := kt_a_1_s_63.fr hf_75.1
                          have kt_78 : kT L s_73 a_8 n_9 := kt_a_8_s_63.fr hf_75.1
                          have kt_79 : kT L s_73 a_42 n_43 := kt_a_42_s_63.fr hf_75.1
                          have kt_80 : kT L s_73 a_54 n_55 := kt_a_54_s_63.fr hf_75.1
                          have pd_81 : SVN L 61 N0 N1 N2 s_73 := SVN61_fr SVN_L_61_N0_N1_N2_s_63 hf_75 rfl
                          have pd_82 : SVA L 60 A s_73 := SVA60_fr SVA_L_60_A_s_63 hf_75 rfl rfl
                          exact ih_63 _ _ hs_74 hf_76 pd_81 pd_82 kt_77 kt_79 kt_80 kt_78 (bd_rest iv0_63) (by have := rest_lt (by assumption : ¬ v7_63 = 0#64); omega)
                    exact lp_63 _ _ _ hs_s_51 hf_s_51 SVN_L_61_N0_N1_N2_s_51 SVA_L_60_A_s_51 kt_a_1_s_51 kt_a_42_s_51 kt_57 kt_a_8_s_51 (by assumption) (Nat.lt_succ_self _)
                  · have hz_84 : ¬ v7_51 = 0#64 := fun q => h_52 ((gm_cmp0 _ _).mpr q)
                    refine xm_lowest _ (fun x_85 p_86 p_87 => ⟨_, rfl, ?_⟩)
                    have hlw := (sub.refl v7_51).low (by assumption) p_87
                    have hl0 := iv0_51 _ hlw.2.2
                    have mr_88 := mul_rng (a := x_85) (b := gp_I s a_8 0) (A := 64) (B := 60) (by omega) (by omega) (by omega) (by omega)
                    try rw [show gp_wr (x_85 * (gp_I s a_8 0)) = x_85 * (gp_I s a_8 0) from gp_wr_id (by omega) (by omega)]
                    try rw [show gp_wr ((x_85 * (gp_I s a_8 0)) + p1) = (x_85 * (gp_I s a_8 0)) + p1 from gp_wr_id (by omega) (by omega)]
                    have mr_89 := mul_rng (a := (x_85 * (gp_I s a_8 0)) + p1) (b := gp_I s a_1 0) (A := 3899) (B := 60) (by omega) (by omega) (by omega) (by omega)
                    try rw [show gp_wr (((x_85 * (gp_I s a_8 0)) + p1) * (gp_I s a_1 0)) = ((x_85 * (gp_I s a_8 0)) + p1) * (gp_I s a_1 0) from gp_wr_id (by omega) (by omega)]
                    have hb8 : (((x_85 * (gp_I s a_8 0)) + p1) * (gp_I s a_1 0)) + (gp_I s a_1 0) ≤ (p3m N0 N1 N2 : Nat) := plcM (by omega) (by omega) (by omega) (by omega) (by omega) (by omega) (by omega)
                    refine ⟨60, rfl, ?_⟩
                    refine ⟨rfl, ?_⟩
                    refine xm_sweigh60 A _ _ _ _ hs_s_51 (by omega) (by omega) (by omega) (SVA_L_60_A_s_51) (by first | omega | assumption) (by first | omega | assumption) (fun s_90 hs_91 hf_92 => ⟨rfl, ?_⟩)
                    have hf_93 : gX L false [55, 56, 64, 65] s s_90 := gX.trans hf_s_51 hf_92 rfl rfl
                    have kt_94 : kT L s_90 a_1 n_2 := kt_a_1_s_51.fr hf_92.1
                    have kt_95 : kT L s_90 a_8 n_9 := kt_a_8_s_51.fr hf_92.1
                    have kt_96 : kT L s_90 a_42 n_43 := kt_a_42_s_51.fr hf_92.1
                    have pd_97 : SVN L 61 N0 N1 N2 s_90 := SVN61_fr SVN_L_61_N0_N1_N2_s_51 hf_92 rfl
                    have pd_98 : SVA L 60 A s_90 := SVA60_fr SVA_L_60_A_s_51 hf_92 rfl rfl
                    exact ih_51 _ _ hs_91 hf_93 pd_97 pd_98 kt_94 kt_96 kt_95 (bd_rest iv0_51) (by have := rest_lt (by assumption : ¬ v7_51 = 0#64); omega)
              exact lp_51 _ _ _ hs_s_40 hf_s_40 SVN_L_61_N0_N1_N2_s_40 SVA_L_60_A_s_40 kt_a_1_s_40 kt_45 kt_a_8_s_40 (by assumption) (Nat.lt_succ_self _)
            · refine ⟨60, rfl, ?_⟩
              refine ⟨rfl, ?_⟩
              refine ⟨61, rfl, ?_⟩
              refine ⟨⟨rfl, by show 0 ≤ 0 ∧ 0 < 3; omega⟩, ?_⟩
              obtain ⟨a_100, n_101, e_102, kt_103, hn_104⟩ := SVN.g0 SVN_L_61_N0_N1_N2_s_40
              have hn_a_100 := kt_103.n hs_s_40
              refine ⟨a_100, e_102, ?_⟩
              refine ⟨kt_103.2.1, ?_⟩
              refine ⟨(a_100 + 3), (kt_103.tt hs_s_40).1.2.2.2.1.2.2.1, ?_⟩
              refine ⟨gin ((kt_103.tt hs_s_40).1.2.2.2.2.1.2.2.1) (by omega), ?_⟩
              refine ⟨rfl, ?_⟩
              refine ⟨61, rfl, ?_⟩
              refine ⟨⟨rfl, by show 0 ≤ 1 ∧ 1 < 3; omega⟩, ?_⟩
              obtain ⟨a_105, n_106, e_107, kt_108, hn_109⟩ := SVN.g1 SVN_L_61_N0_N1_N2_s_40
              have hn_a_105 := kt_108.n hs_s_40
              refine ⟨a_105, e_107, ?_⟩
              refine ⟨kt_108.2.1, ?_⟩
              refine ⟨(a_105 + 3), (kt_108.tt hs_s_40).1.2.2.2.1.2.2.1, ?_⟩
              refine ⟨gin ((kt_108.tt hs_s_40).1.2.2.2.2.1.2.2.1) (by omega), ?_⟩
              have w_110 := wr_rng ((gp_I s_40 (a_100 + 3) (Int.toNat p0)) + (gp_I s_40 (a_105 + 3) (Int.toNat p1)))
              refine ⟨rfl, ?_⟩
              refine ⟨61, rfl, ?_⟩
              refine ⟨⟨rfl, by show 0 ≤ 0 ∧ 0 < 3; omega⟩, ?_⟩
              refine ⟨a_100, e_102, ?_⟩
              refine ⟨kt_103.2.1, ?_⟩
              refine ⟨(a_100 + 4), (kt_103.tt hs_s_40).1.2.2.2.1.2.2.2.1, ?_⟩
              refine ⟨gin ((kt_103.tt hs_s_40).1.2.2.2.2.1.2.2.2.1) (by omega), ?_⟩
              refine ⟨rfl, ?_⟩
              refine ⟨61, rfl, ?_⟩
              refine ⟨⟨rfl, by show 0 ≤ 1 ∧ 1 < 3; omega⟩, ?_⟩
              refine ⟨a_105, e_107, ?_⟩
              refine ⟨kt_108.2.1, ?_⟩
              refine ⟨(a_105 + 4), (kt_108.tt hs_s_40).1.2.2.2.1.2.2.2.1, ?_⟩
              refine ⟨gin ((kt_108.tt hs_s_40).1.2.2.2.2.1.2.2.2.1) (by omega), ?_⟩
              have w_111 := wr_rng ((gp_I s_40 (a_100 + 4) (Int.toNat p0)) + (gp_I s_40 (a_105 + 4) (Int.toNat p1)))
              have lp_113 : ∀ (n_113 : Nat) (v8_113 : Int) (s_113 : gH), (XI L 0 s_113) → (gX L false [55, 56, 64, 65] s s_113) → (SVN L 61 N0 N1 N2 s_113) → (SVA L 60 A s_113) → (kT L s_113 a_1 n_2) → (kT L s_113 a_100 n_101) → (kT L s_113 a_105 n_106) → (kT L s_113 a_8 n_9) → (0 ≤ v8_113 ∧ v8_113 ≤ 60) → (61 - v8_113).toNat < n_113 → gs_E L (d + 3) 2061 246 [gp_r (some 60), gp_i p0, gp_i p1, gp_i (gp_I s a_1 0), gp_i (gp_I s a_8 0), gp_i (((p0 * (gp_I s a_8 0)) + p1) * (gp_I s a_1 0)), gp_i (gp_wr ((gp_I s_40 (a_100 + 3) (Int.toNat p0)) + (gp_I s_40 (a_105 + 3) (Int.toNat p1)))), gp_i (gp_wr ((gp_I s_40 (a_100 + 4) (Int.toNat p0)) + (gp_I s_40 (a_105 + 4) (Int.toNat p1)))), gp_i v8_113] [] s_113 K := by
                intro n_113
                induction n_113 with
                | zero => intro v8_113 s_113 hs_s_113 hf_s_113 SVN_L_61_N0_N1_N2_s_113 SVA_L_60_A_s_113 kt_a_1_s_113 kt_a_100_s_113 kt_a_105_s_113 kt_a_8_s_113 hv8_113 hm_113; exact absurd hm_113 (Nat.not_lt_zero _)
                | succ n_113 ih_113 =>
                  intro v8_113 s_113 hs_s_113 hf_s_113 SVN_L_61_N0_N1_N2_s_113 SVA_L_60_A_s_113 kt_a_1_s_113 kt_a_100_s_113 kt_a_105_s_113 kt_a_8_s_113 hv8_113 hm_113
                  refine s_2061_246 _ _ _ _ _ _ _ _ _ ?_
                  refine ⟨fun h_114 => ?_, fun h_114 => ?_⟩
                  · refine ⟨60, rfl, ?_⟩
                    refine ⟨rfl, ?_⟩
                    refine xm_sfillPlace60 A N0 N1 N2 _ _ _ _ hs_s_113 (by omega) (by omega) (SVN_L_61_N0_N1_N2_s_113) (SVA_L_60_A_s_113) (by first | omega | assumption) (by first | omega | assumption) (fun s_115 hs_116 hf_117 => ⟨rfl, ?_⟩)
                    have hf_118 : gX L false [55, 56, 64, 65] s s_115 := gX.trans hf_s_113 hf_117 rfl rfl
                    have kt_119 : kT L s_115 a_1 n_2 := kt_a_1_s_113.fr hf_117.1
                    have kt_120 : kT L s_115 a_8 n_9 := kt_a_8_s_113.fr hf_117.1
                    have kt_121 : kT L s_115 a_100 n_101 := kt_a_100_s_113.fr hf_117.1
                    have kt_122 : kT L s_115 a_105 n_106 := kt_a_105_s_113.fr hf_117.1
                    have pd_123 : SVN L 61 N0 N1 N2 s_115 := SVN61_fr SVN_L_61_N0_N1_N2_s_113 hf_117 rfl
                    have pd_124 : SVA L 60 A s_115 := SVA60_fr SVA_L_60_A_s_113 hf_117 rfl rfl
                    try rw [show gp_wr (v8_113 + 1) = v8_113 + 1 from gp_wr_id (by omega) (by omega)]
                    exact ih_113 _ _ hs_116 hf_118 pd_123 pd_124 kt_119 kt_121 kt_122 kt_120 (by omega) (by omega)
                  · exact k s_113 hs_s_113 hf_s_113
              exact lp_113 _ _ _ hs_s_40 hf_s_40 SVN_L_61_N0_N1_N2_s_40 SVA_L_60_A_s_40 kt_a_1_s_40 kt_103 kt_108 kt_a_8_s_40 (by omega) (Nat.lt_succ_self _)
        exact lp_40 _ _ _ _ _ hs_s_18 hf_s_18 SVN_L_61_N0_N1_N2_s_18 SVA_L_60_A_s_18 kt_a_1_s_18 kt_a_8_s_18 (by omega) (Nat.lt_succ_self _)
  exact lp_18 _ _ _ _ _ hs (gX.refl _ _ _ _) q0 q1 kt_4 kt_11 (by omega) (Nat.lt_succ_self _)
