/-! negatives at the reference -/
def NGM (s u : gH) (g i : Int) : Prop := gp_I u 74 15 = 0 ∧ NGI (TM s g.toNat) (MP u) (fun j => (gp_I u 89 j).toNat) i.toNat
theorem NGM_0 {s u : gH} {g : Int} (h : gp_I u 81 20 = 0) (h15 : gp_I u 74 15 = 0) : NGM s u g 0 := ⟨h15, fun k hk => absurd hk (Nat.not_lt_zero _), fun y hy => absurd hy (PS_m0 h y)⟩
theorem NGM_s {s u t t2 : gH} {x3 x5 : BitVec 64} {g i a b res : Int} {ix x : Nat} (h : NGM s u g i) (gt : GTM s g.toNat x) (mo : mOut s u) (hg : 0 ≤ g ∧ g ≠ 20) (h0 : 0 ≤ i ∧ i < gp_I s 81 g.toNat) (hi : ix = Int.toNat (64 * g + i)) (c3 : PCI (fun j => (gp_I u 89 j).toNat) (gp_L u 77 ix) i x3) (c5 : PCI (fun j => (gp_I u 89 j).toNat) (gp_L u 76 ix) i x5) (av : AVM u t x3 x5 a b res) (ha : a = gp_wr (-(gp_I u 79 ix))) (hb : b = gp_wr (-(gp_I u 78 ix))) (r89 : ∀ k, gp_I t 89 k = gp_I u 89 k) (e : t2 = gp_wI t 89 i.toNat res) : NGM s t2 g (i + 1) := by
  obtain ⟨h1, h⟩ := h
  have n60 := gt.2.1
  have fi : TM s g.toNat i.toNat = (gp_L u 76 ix, gp_L u 77 ix, gp_I u 78 ix, gp_I u 79 ix) := by
    rw [← mOut_TM mo (g := g.toNat) (k := i.toNat) (by omega) (by omega)]
    unfold TM
    rw [show 64 * g.toNat + i.toNat = ix by omega]
  have bd := gt.1.1.2.1 i.toNat (by omega)
  rw [fi] at bd
  have k3 := PCI_b c3 (fun j hj => by have := bd j (Or.inr hj); omega)
  have k5 := PCI_b c5 (fun j hj => by have := bd j (Or.inl hj); omega)
  have nr := gt.1.2.1 i.toNat (by omega)
  have b9 := gt.1.2.2 i.toNat (by omega)
  rw [fi] at b9
  have b9' : -99999 ≤ gp_I u 78 ix ∧ gp_I u 78 ix ≤ 99999 ∧ -99999 ≤ gp_I u 79 ix ∧ gp_I u 79 ix ≤ 99999 := b9
  have d1 : a = -(TM s g.toNat i.toNat).2.2.2 := by rw [ha, fi]; exact gp_wr_id (by omega) (by omega)
  have d2 : b = -(TM s g.toNat i.toNat).2.2.1 := by rw [hb, fi]; exact gp_wr_id (by omega) (by omega)
  have z := NGI_v (l := x3) (r := x5) (a := a) (b := b) h (fun k hk => by
    rw [fi] at hk
    exact bd k hk) nr (by rw [fi]; exact k3) (by rw [fi]; exact k5) d1 d2
  obtain ⟨gv, av⟩ := av
  rw [z.2.2] at av
  have e15 : gp_I t2 74 15 = gp_I t 74 15 := by rw [e]; rfl
  rcases av with ⟨k, k1, k2, k3', k4, k5', k6⟩ | ⟨k1, k2⟩
  · refine ⟨by omega, ?_⟩
    rw [show (i + 1).toNat = i.toNat + 1 by omega]
    have ec : MP t2 = MP t := by rw [e]; rfl
    rw [ec]
    refine NGI_s h k2 k3' k4 k5' (fun j => ?_)
    show (gp_I t2 89 j).toNat = if j = i.toNat then k else (gp_I u 89 j).toNat
    rw [e, gz_rwi]
    by_cases c : j = i.toNat
    · rw [if_pos c, if_pos c]; omega
    · rw [if_neg c, if_neg c, r89]
  · exact absurd (NGI_60 h (show i.toNat < (gp_I s 81 g.toNat).toNat by omega) n60) k2
theorem NGM_e {s u t : gH} {g i p : Int} {x : Nat} (h : NGM s u g i) (gt : GTM s g.toNat x) (hi : i = gp_I s 81 g.toNat) (hp : p = gp_I u 89 (Int.toNat (i - 1))) (en : ENV u t p) (n60 : gp_I t 81 19 ≤ 60) : ∃ z, NGV x z ∧ GTM t 19 z := by
  have n0 := gt.1.1.1
  have v := (h.2.1 ((gp_I s 81 g.toNat).toNat - 1) (by omega)).2
  obtain ⟨e1, e2, e3, e4⟩ := en
  refine ⟨negv (TM s g.toNat) ((gp_I s 81 g.toNat).toNat - 1), ⟨_, _, gt.1.1, gt.2.2, rfl⟩, ⟨e1, e2, fun j hj => ?_⟩, by omega, ?_⟩
  · obtain ⟨k, k1, k2⟩ := h.2.2 _ (e4 j hj)
    rw [val_e, negv_e] at k2
    obtain ⟨_, _, c, d⟩ := cod4_inj k2
    have b := gt.1.2.2 k (by omega)
    rw [c, d]
    omega
  · show val (TM t 19) ((gp_I t 81 19).toNat - 1) = _
    rw [e3, ← v, hp, show Int.toNat (i - 1) = (gp_I s 81 g.toNat).toNat - 1 by omega]
set_option maxRecDepth 100000 in
/-- GatheredPointsModel.negates -/
theorem vm_negatesV  {L d : Nat} {K : Option gV → gH → Prop} {s : gH}  (p0 : Int) (hs : MI s) (h_p0 : 0 ≤ p0 ∧ p0 ≤ 84) (q0 : p0 ≠ 20) (q1 : 1 ≤ gp_I s 81 p0.toNat) (q2 : ∃ x, GTM s p0.toNat x) (k : ∀ (t : gH), MI t → gF [76, 77, 78, 79, 80, 81, 86, 87, 88, 89] [15] s t → (1 ≤ gp_I t 81 19 ∧ gp_I t 81 19 ≤ 60) → (mK s t) → (gp_I t 74 15 = 0) → (∀ x, GTM s p0.toNat x → ∃ z, NGV x z ∧ GTM t 19 z) → (CK s t) → K none t) : gs_C L (d + 185) 3121 8 [gp_r (some 74), gp_i p0] s K := by
  have f_1 := mr81 hs 20
  have f_2 := mr81 hs p0.toNat
  have f_3 := mr74_15 hs
  refine s_3121_e _ ?_
  obtain ⟨x9, hx9⟩ := q2
  refine vm_begins2 hs (fun s_4 hs_5 hf_6 p_7 p_8 p_9 p_10 => ⟨rfl, ?_⟩)
  have hf_11 : gF [76, 77, 78, 79, 80, 81, 86, 87, 88, 89] [15] s s_4 := gF.sub hf_6 rfl rfl
  have mo_12 : mOut s s_4 := mOut.trans (mOut.refl _) p_10
  have mb_13 : mK s s_4 := mK.trans (mK.refl _) (mK_o p_10)
  have q_14 := p_10.1 p0.toNat (by omega)
  have lp_15 : ∀ (n_15 : Nat) (v2_15 : Int) (v3_15 : gV) (v4_15 : gV) (v5_15 : gV) (v6_15 : gV) (v7_15 : gV) (s_15 : gH), (MI s_15) → (gF [76, 77, 78, 79, 80, 81, 86, 87, 88, 89] [15] s s_15) → (MDi s_15) → (mOut s s_15) → (mK s s_15) → (0 ≤ v2_15 ∧ v2_15 ≤ 60) → (∀ k : Nat, (k : Int) < v2_15 → gp_I s_15 89 k < gp_I s_15 81 20) → (v2_15 ≤ gp_I s_15 81 p0.toNat) → (gp_I s_15 81 p0.toNat = gp_I s 81 p0.toNat) → (GVM s_15) → (NGM s s_15 p0 v2_15) → (61 - v2_15).toNat < n_15 → gs_E L (d + 185) 3121 6 [gp_r (some 74), gp_i p0, gp_i v2_15, v3_15, v4_15, v5_15, v6_15, v7_15] [] s_15 K := by
    intro n_15
    induction n_15 with
    | zero => intro v2_15 v3_15 v4_15 v5_15 v6_15 v7_15 s_15 hs_s_15 hf_s_15 MDi_s_15 mOut_s_15 mK_s_15 hv2_15 iv0_15 iv1_15 iv2_15 iv3_15 iv4_15 hm_15; exact absurd hm_15 (Nat.not_lt_zero _)
    | succ n_15 ih_15 =>
      intro v2_15 v3_15 v4_15 v5_15 v6_15 v7_15 s_15 hs_s_15 hf_s_15 MDi_s_15 mOut_s_15 mK_s_15 hv2_15 iv0_15 iv1_15 iv2_15 iv3_15 iv4_15 hm_15
      refine s_3121_6 _ _ _ _ _ _ _ ?_
      refine ⟨by omega, ?_⟩
      have f_16 := mr81 hs_s_15 (Int.toNat p0)
      refine ⟨fun h_17 => ?_, fun h_17 => ?_⟩
      · have lp_18 : ∀ (n_18 : Nat) (v3_18 : BitVec 64) (v5_18 : BitVec 64) (v7_18 : Int), (0 ≤ v7_18 ∧ v7_18 ≤ 59) → (bd v3_18 (gp_I s_15 81 20)) → (bd v5_18 (gp_I s_15 81 20)) → (PCI (fun j => (gp_I s_15 89 j).toNat) (gp_L s_15 77 (Int.toNat (64 * p0 + v2_15))) v7_18 v3_18) → (PCI (fun j => (gp_I s_15 89 j).toNat) (gp_L s_15 76 (Int.toNat (64 * p0 + v2_15))) v7_18 v5_18) → (v7_18 ≤ v2_15) → (60 - v7_18).toNat < n_18 → gs_E L (d + 185) 3121 24 [gp_r (some 74), gp_i p0, gp_i v2_15, gp_l v3_18, gp_n, gp_l v5_18, gp_n, gp_i v7_18] [] s_15 K := by
          intro n_18
          induction n_18 with
          | zero => intro v3_18 v5_18 v7_18 hv7_18 iv0_18 iv1_18 iv2_18 iv3_18 iv4_18 hm_18; exact absurd hm_18 (Nat.not_lt_zero _)
          | succ n_18 ih_18 =>
            intro v3_18 v5_18 v7_18 hv7_18 iv0_18 iv1_18 iv2_18 iv3_18 iv4_18 hm_18
            refine s_3121_24 _ _ _ _ _ ?_
            refine ⟨fun h_19 => ?_, fun h_19 => ?_⟩
            · try rw [show gp_wr (64 * p0) = 64 * p0 from gp_wr_id (by omega) (by omega)]
              try rw [show gp_wr ((64 * p0) + v2_15) = (64 * p0) + v2_15 from gp_wr_id (by omega) (by omega)]
              refine ⟨by omega, ?_⟩
              have b_20 := mr77 hs_s_15 p0 v2_15 (by omega) (by omega)
              refine vm_has _ _ (by omega) (fun x_21 p_22 p_23 => ⟨_, rfl, ?_⟩)
              refine ⟨fun h_24 => ?_, fun h_24 => ?_⟩
              · have hb_25 := hasF p_23 h_24
                refine s_3121_63 _ _ _ _ _ _ _ ?_
                try rw [show gp_wr (64 * p0) = 64 * p0 from gp_wr_id (by omega) (by omega)]
                try rw [show gp_wr ((64 * p0) + v2_15) = (64 * p0) + v2_15 from gp_wr_id (by omega) (by omega)]
                refine ⟨by omega, ?_⟩
                have b_26 := mr76 hs_s_15 p0 v2_15 (by omega) (by omega)
                refine vm_has _ _ (by omega) (fun x_27 p_28 p_29 => ⟨_, rfl, ?_⟩)
                refine ⟨fun h_30 => ?_, fun h_30 => ?_⟩
                · have hb_31 := hasF p_29 h_30
                  refine s_3121_99 _ _ _ _ _ _ _ ?_
                  try rw [show gp_wr (v7_18 + 1) = v7_18 + 1 from gp_wr_id (by omega) (by omega)]
                  exact ih_18 _ _ _ (by omega) (by first | (refine bd_or (bd_le iv0_18 ?_) (bd_0 _); omega) | (refine bd_or (bd_le iv0_18 ?_) (bd_sh ?_ ?_ ?_) <;> omega)) (by first | (refine bd_or (bd_le iv1_18 ?_) (bd_0 _); omega) | (refine bd_or (bd_le iv1_18 ?_) (bd_sh ?_ ?_ ?_) <;> omega)) (by first | exact PCI_n2 iv2_18 (by omega) (by assumption) rfl | exact PCI_y2 (z := gp_I s_15 89 (Int.toNat v7_18)) iv2_18 (by omega) (by assumption) rfl (by omega) (by omega)) (by first | exact PCI_n2 iv3_18 (by omega) (by assumption) rfl | exact PCI_y2 (z := gp_I s_15 89 (Int.toNat v7_18)) iv3_18 (by omega) (by assumption) rfl (by omega) (by omega)) (by first | omega | assumption) (by omega)
                · have hb_32 := hasT p_29 h_30
                  refine ⟨by omega, ?_⟩
                  have f_33 := mr89 hs_s_15 (Int.toNat v7_18)
                  have hnd94 := iv0_15 (Int.toNat v7_18) (by omega)
                  refine s_3121_99 _ _ _ _ _ _ _ ?_
                  try rw [show gp_wr (v7_18 + 1) = v7_18 + 1 from gp_wr_id (by omega) (by omega)]
                  exact ih_18 _ _ _ (by omega) (by first | (refine bd_or (bd_le iv0_18 ?_) (bd_0 _); omega) | (refine bd_or (bd_le iv0_18 ?_) (bd_sh ?_ ?_ ?_) <;> omega)) (by first | (refine bd_or (bd_le iv1_18 ?_) (bd_0 _); omega) | (refine bd_or (bd_le iv1_18 ?_) (bd_sh ?_ ?_ ?_) <;> omega)) (by first | exact PCI_n2 iv2_18 (by omega) (by assumption) rfl | exact PCI_y2 (z := gp_I s_15 89 (Int.toNat v7_18)) iv2_18 (by omega) (by assumption) rfl (by omega) (by omega)) (by first | exact PCI_n2 iv3_18 (by omega) (by assumption) rfl | exact PCI_y2 (z := gp_I s_15 89 (Int.toNat v7_18)) iv3_18 (by omega) (by assumption) rfl (by omega) (by omega)) (by first | omega | assumption) (by omega)
              · have hb_34 := hasT p_23 h_24
                refine ⟨by omega, ?_⟩
                have f_35 := mr89 hs_s_15 (Int.toNat v7_18)
                have hnd58 := iv0_15 (Int.toNat v7_18) (by omega)
                refine s_3121_63 _ _ _ _ _ _ _ ?_
                try rw [show gp_wr (64 * p0) = 64 * p0 from gp_wr_id (by omega) (by omega)]
                try rw [show gp_wr ((64 * p0) + v2_15) = (64 * p0) + v2_15 from gp_wr_id (by omega) (by omega)]
                refine ⟨by omega, ?_⟩
                have b_36 := mr76 hs_s_15 p0 v2_15 (by omega) (by omega)
                refine vm_has _ _ (by omega) (fun x_37 p_38 p_39 => ⟨_, rfl, ?_⟩)
                refine ⟨fun h_40 => ?_, fun h_40 => ?_⟩
                · have hb_41 := hasF p_39 h_40
                  refine s_3121_99 _ _ _ _ _ _ _ ?_
                  try rw [show gp_wr (v7_18 + 1) = v7_18 + 1 from gp_wr_id (by omega) (by omega)]
                  exact ih_18 _ _ _ (by omega) (by first | (refine bd_or (bd_le iv0_18 ?_) (bd_0 _); omega) | (refine bd_or (bd_le iv0_18 ?_) (bd_sh ?_ ?_ ?_) <;> omega)) (by first | (refine bd_or (bd_le iv1_18 ?_) (bd_0 _); omega) | (refine bd_or (bd_le iv1_18 ?_) (bd_sh ?_ ?_ ?_) <;> omega)) (by first | exact PCI_n2 iv2_18 (by omega) (by assumption) rfl | exact PCI_y2 (z := gp_I s_15 89 (Int.toNat v7_18)) iv2_18 (by omega) (by assumption) rfl (by omega) (by omega)) (by first | exact PCI_n2 iv3_18 (by omega) (by assumption) rfl | exact PCI_y2 (z := gp_I s_15 89 (Int.toNat v7_18)) iv3_18 (by omega) (by assumption) rfl (by omega) (by omega)) (by first | omega | assumption) (by omega)
                · have hb_42 := hasT p_39 h_40
                  refine ⟨by omega, ?_⟩
                  have f_43 := mr89 hs_s_15 (Int.toNat v7_18)
                  have hnd94 := iv0_15 (Int.toNat v7_18) (by omega)
                  refine s_3121_99 _ _ _ _ _ _ _ ?_
                  try rw [show gp_wr (v7_18 + 1) = v7_18 + 1 from gp_wr_id (by omega) (by omega)]
                  exact ih_18 _ _ _ (by omega) (by first | (refine bd_or (bd_le iv0_18 ?_) (bd_0 _); omega) | (refine bd_or (bd_le iv0_18 ?_) (bd_sh ?_ ?_ ?_) <;> omega)) (by first | (refine bd_or (bd_le iv1_18 ?_) (bd_0 _); omega) | (refine bd_or (bd_le iv1_18 ?_) (bd_sh ?_ ?_ ?_) <;> omega)) (by first | exact PCI_n2 iv2_18 (by omega) (by assumption) rfl | exact PCI_y2 (z := gp_I s_15 89 (Int.toNat v7_18)) iv2_18 (by omega) (by assumption) rfl (by omega) (by omega)) (by first | exact PCI_n2 iv3_18 (by omega) (by assumption) rfl | exact PCI_y2 (z := gp_I s_15 89 (Int.toNat v7_18)) iv3_18 (by omega) (by assumption) rfl (by omega) (by omega)) (by first | omega | assumption) (by omega)
            · have hv7 : v7_18 = v2_15 := by omega
              have hc3 := iv2_18
              have hc5 := iv3_18
              rw [hv7] at hc3 hc5
              try rw [show gp_wr (64 * p0) = 64 * p0 from gp_wr_id (by omega) (by omega)]
              try rw [show gp_wr ((64 * p0) + v2_15) = (64 * p0) + v2_15 from gp_wr_id (by omega) (by omega)]
              refine ⟨by omega, ?_⟩
              have w_44 := wr_rng (-(gp_I s_15 79 (Int.toNat ((64 * p0) + v2_15))))
              try rw [show gp_wr (64 * p0) = 64 * p0 from gp_wr_id (by omega) (by omega)]
              try rw [show gp_wr ((64 * p0) + v2_15) = (64 * p0) + v2_15 from gp_wr_id (by omega) (by omega)]
              refine ⟨by omega, ?_⟩
              have w_45 := wr_rng (-(gp_I s_15 78 (Int.toNat ((64 * p0) + v2_15))))
              refine vm_madeV _ _ _ _ hs_s_15 (MDi_s_15) (by first | assumption | exact bd_le (by assumption) (by omega) | exact bd_0 _) (by first | assumption | exact bd_le (by assumption) (by omega) | exact bd_0 _) (by first | omega | assumption) (fun x_46 s_47 hs_48 hf_49 p_50 p_51 p_52 p_53 p_54 p_55 p_56 p_57 p_58 p_59 p_60 => ⟨_, rfl, ?_⟩)
              have hf_61 : gF [76, 77, 78, 79, 80, 81, 86, 87, 88, 89] [15] s s_47 := gF.trans hf_s_15 hf_49 rfl rfl
              have mo_62 : mOut s s_47 := mOut.trans mOut_s_15 p_55
              have mb_63 : mK s s_47 := mK.trans mK_s_15 (mK_o p_55)
              have q_64 := p_55.1 p0.toNat (by omega)
              have hAV := p_60
              have hr89 : ∀ k : Nat, gp_I s_47 89 k = gp_I s_15 89 k := fun k => (hf_49.2 89 k rfl (fun h => absurd h (by decide))).1
              refine ⟨by omega, ?_⟩
              intro s_65 e_66
              have hs_67 : MI s_65 := by rw [e_66]; exact mw89 hs_48 _ _ (by omega)
              have hf_68 : gF [76, 77, 78, 79, 80, 81, 86, 87, 88, 89] [15] s s_65 := by rw [e_66]; exact gF.wI hf_61 (Or.inl rfl)
              have q_69 : gp_I s_65 81 20 = gp_I s_47 81 20 := by rw [e_66] <;> rfl
              have q_70 : gp_I s_65 81 p0.toNat = gp_I s_47 81 p0.toNat := by rw [e_66] <;> rfl
              have q_71 : gp_I s_65 74 15 = gp_I s_47 74 15 := by rw [e_66] <;> rfl
              have pd_72 : MDi s_65 := by rw [e_66]; exact MDi_fr p_51 (gF.wI (gF.refl [89] [] _) (Or.inl rfl)) rfl rfl rfl rfl rfl rfl rfl
              have mo_73 : mOut s s_65 := by rw [e_66]; exact mOut_wI mo_62 (by decide)
              have mb_74 : mK s s_65 := by rw [e_66]; exact mK_wI mb_63 (by decide)
              try rw [show gp_wr (v2_15 + 1) = v2_15 + 1 from gp_wr_id (by omega) (by omega)]
              exact ih_15 _ _ _ _ _ _ _ hs_67 hf_68 pd_72 mo_73 mb_74 (by omega) (by subst_vars; exact nd_step (by omega) iv0_15 (by assumption) rfl (by omega) (by omega)) (by first | omega | assumption) (by first | omega | assumption) (by rw [‹s_65 = gp_wI _ 89 _ _›]; exact hAV.1) (NGM_s iv4_15 hx9 mOut_s_15 ⟨by omega, by omega⟩ ⟨by omega, by omega⟩ rfl hc3 hc5 hAV rfl rfl hr89 (by assumption)) (by omega)
        exact lp_18 _ _ _ _ (by omega) (bd_0 _) (bd_0 _) (PCI_0) (PCI_0) (by first | omega | assumption) (Nat.lt_succ_self _)
      · refine ⟨by omega, ?_⟩
        have f_75 := mr81 hs_s_15 (Int.toNat p0)
        try rw [show gp_wr ((gp_I s_15 81 (Int.toNat p0)) - 1) = (gp_I s_15 81 (Int.toNat p0)) - 1 from gp_wr_id (by omega) (by omega)]
        have hnr := iv0_15 (Int.toNat ((gp_I s_15 81 (Int.toNat p0)) - 1)) (by omega)
        refine ⟨by omega, ?_⟩
        have f_76 := mr89 hs_s_15 (Int.toNat ((gp_I s_15 81 (Int.toNat p0)) - 1))
        have hmo9 := mOut_s_15
        refine vm_endsV _ hs_s_15 (by omega) (MDi_s_15) (by first | omega | assumption) (by first | omega | assumption) (fun s_77 hs_78 hf_79 p_80 p_81 p_82 p_83 p_84 p_85 p_86 => ⟨rfl, ?_⟩)
        have hf_87 : gF [76, 77, 78, 79, 80, 81, 86, 87, 88, 89] [15] s s_77 := gF.trans hf_s_15 hf_79 rfl rfl
        have q_88 := (hf_79.2 74 15 rfl (fun _ => rfl)).1
        have mb_89 : mK s s_77 := mK.trans mK_s_15 p_81
        have hEN := p_85
        have hCK := p_86
        have h60 := p_80
        exact k s_77 hs_78 hf_87 (by first | omega | assumption) mb_89 (by have h9 := iv4_15.1; omega) (fun x h9 => NGM_e iv4_15 h9 (by omega) (by first | rfl | (rw [show v2_15 - 1 = gp_I s_15 81 (Int.toNat p0) - 1 by omega]) | (rw [show gp_I s_15 81 (Int.toNat p0) - 1 = v2_15 - 1 by omega])) hEN h60.2) (CK_t (CK_o hmo9) hCK)
  exact lp_15 _ _ _ _ _ _ _ _ hs_5 hf_11 p_9 mo_12 mb_13 (by omega) (fun k hk => absurd hk (by omega)) (by first | omega | assumption) (by first | omega | assumption) (GVM_0 (by omega)) (NGM_0 (by omega) (by omega)) (Nat.lt_succ_self _)
