/-! a set's nodes come to the reference's pool -/
theorem PCI_b {pl : Nat → Nat} {m x : BitVec 64} {v : Int} (h : PCI pl m v x) (hb : ∀ j : Nat, m.getLsbD j = true → (j : Int) < v) : CAR m x pl := fun b => by
  rw [h b]
  constructor
  · rintro ⟨j, _, j2, j3⟩; exact ⟨j, j2, j3⟩
  · rintro ⟨j, j2, j3⟩; exact ⟨j, hb j j2, j2, j3⟩
def CLF (s : gH) (g : Int) : BitVec 64 := clo (mskf (TM s g.toNat)) ((gp_I s 81 g.toNat).toNat - 1) (1#64 <<< ((gp_I s 81 g.toNat).toNat - 1))
def TKM (s u : gH) (g i : Int) : Prop := TKI (TM s g.toNat) (CLF s g) (MP s) (MP u) (fun j => (gp_I u 89 j).toNat) i.toNat
def CMF (s : gH) (g : Int) : Prop := ¬ C60 (fun y => PS (MP s) y ∨ FOL (TM s g.toNat) ((gp_I s 81 g.toNat).toNat - 1) y)
def CMW (s u : gH) (g i : Int) : Prop := (gp_I u 74 15 = gp_I s 74 15 ∧ TKM s u g i) ∨ (gp_I u 74 15 ≠ 0 ∧ (gp_I s 74 15 ≠ 0 ∨ CMF s g))
theorem CMW_0 {s : gH} {g : Int} : CMW s s g 0 := Or.inl ⟨rfl, TKI_0⟩
theorem mOut_TM {s u : gH} (h : mOut s u) {g k : Nat} (hg : g ≠ 20) (hk : k < 64) : TM u g k = TM s g k := by
  have hr : 64 * g + k < 1280 ∨ 1344 ≤ 64 * g + k := by omega
  unfold TM
  rw [h.2.2 76 _ (Or.inl rfl) hr, h.2.2 77 _ (Or.inr rfl) hr, h.2.1 78 _ (Or.inl rfl) hr, h.2.1 79 _ (Or.inr (Or.inl rfl)) hr]
theorem CLF_b {s : gH} {g : Int} {x : Nat} (gt : GTM s g.toNat x) (k : Nat) (hk : k < (gp_I s 81 g.toNat).toNat) : (CLF s g).getLsbD k = true := by
  obtain ⟨m, hm⟩ := gt.1.1.2.2.2 k hk
  have n0 := gt.1.1.1
  exact (clo_rch (fun i hi => gt.1.1.2.1 i (by omega)) (by have := gt.2.1; omega) k).mpr ⟨m, hm⟩
theorem CMW_s {s u t t2 : gH} {x3 x5 : BitVec 64} {g i a b res : Int} {ix x : Nat} (h : CMW s u g i) (gt : GTM s g.toNat x) (mo : mOut s u) (hg : 0 ≤ g ∧ g ≠ 20) (h0 : 0 ≤ i ∧ i < gp_I s 81 g.toNat) (hi : ix = Int.toNat (64 * g + i)) (c3 : PCI (fun j => (gp_I u 89 j).toNat) (gp_L u 76 ix) i x3) (c5 : PCI (fun j => (gp_I u 89 j).toNat) (gp_L u 77 ix) i x5) (av : AVM u t x3 x5 a b res) (ha : a = gp_I u 78 ix) (hb : b = gp_I u 79 ix) (m1 : gp_I t 74 15 = gp_I u 74 15 ∨ (gp_I t 74 15 = 1 ∧ gp_I u 81 20 = 60 ∧ NOS u x3 x5 a b)) (r89 : ∀ k, gp_I t 89 k = gp_I u 89 k) (e : t2 = gp_wI t 89 i.toNat res) : CMW s t2 g (i + 1) := by
  have e15 : gp_I t2 74 15 = gp_I t 74 15 := by rw [e]; rfl
  rcases h with ⟨h1, h⟩ | ⟨h1, h2⟩
  · have n60 := gt.2.1
    have fi : TM s g.toNat i.toNat = (gp_L u 76 ix, gp_L u 77 ix, gp_I u 78 ix, gp_I u 79 ix) := by
      rw [← mOut_TM mo (g := g.toNat) (k := i.toNat) (by omega) (by omega)]
      unfold TM
      rw [show 64 * g.toNat + i.toNat = ix by omega]
    have bd := gt.1.1.2.1 i.toNat (by omega)
    rw [fi] at bd
    have k3 := PCI_b c3 (fun j hj => by have := bd j (Or.inl hj); omega)
    have k5 := PCI_b c5 (fun j hj => by have := bd j (Or.inr hj); omega)
    have nr := gt.1.2.1 i.toNat (by omega)
    have z := TKI_v (l := x3) (r := x5) (a := a) (b := b) h (fun k hk => by
      rw [fi] at hk
      have := bd k hk
      exact ⟨this, CLF_b gt k (by omega)⟩) nr (by rw [fi]; exact k3) (by rw [fi]; exact k5) (by rw [fi, ha]) (by rw [fi, hb])
    obtain ⟨gv, av⟩ := av
    rw [z.2.2] at av
    rcases av with ⟨k, k1, k2, k3', k4, k5', k6⟩ | ⟨k1, k2⟩
    · refine Or.inl ⟨by omega, ?_⟩
      unfold TKM
      rw [show (i + 1).toNat = i.toNat + 1 by omega]
      have ec : MP t2 = MP t := by rw [e]; rfl
      rw [ec]
      refine TKI_s h (CLF_b gt i.toNat (by omega)) k2 k3' k4 k5' (fun j => ?_)
      show (gp_I t2 89 j).toNat = if j = i.toNat then k else (gp_I u 89 j).toNat
      rw [e, gz_rwi]
      by_cases c : j = i.toNat
      · rw [if_pos c, if_pos c]; omega
      · rw [if_neg c, if_neg c, r89]
    · exact Or.inr ⟨by omega, Or.inr (TKI_full h (node := (gp_I s 81 g.toNat).toNat - 1) (fun j hj => gt.1.1.2.1 j (by omega)) (by omega) rfl (by omega) (CLF_b gt i.toNat (by omega)) k2)⟩
  · exact Or.inr ⟨by omega, h2⟩
def CMR (s t : gH) (x : Nat) (r : Int) : Prop := (gp_I t 74 15 = gp_I s 74 15 ∧ ∃ k : Nat, r = k ∧ Ext (MP s) (MP t) ∧ k < (MP t).1 ∧ val (MP t).2 k = x ∧ ∀ y, PS (MP t) y ↔ PS (MP s) y ∨ FLV x y) ∨ (gp_I t 74 15 ≠ 0 ∧ (gp_I s 74 15 ≠ 0 ∨ ¬ C60 (fun y => PS (MP s) y ∨ FLV x y)))
theorem CMW_e {s u : gH} {g i r : Int} {x : Nat} (h : CMW s u g i) (gt : GTM s g.toNat x) (hi : i = gp_I s 81 g.toNat) (hr : r = gp_I u 89 (Int.toNat (i - 1))) (hr0 : 0 ≤ r) : CMR s u x r := by
  have n0 := gt.1.1.1
  have fl : ∀ y, FOL (TM s g.toNat) ((gp_I s 81 g.toNat).toNat - 1) y ↔ FLV x y := fun y => by rw [← FLV_of gt.1.1, gt.2.2]
  rcases h with ⟨h1, h⟩ | ⟨h1, h2⟩
  · unfold TKM at h
    rw [show i.toNat = (gp_I s 81 g.toNat).toNat - 1 + 1 by omega] at h
    have z := TKI_end h (fun j hj => gt.1.1.2.1 j (by omega)) (by have := gt.2.1; omega) rfl
    refine Or.inl ⟨h1, (gp_I u 89 ((gp_I s 81 g.toNat).toNat - 1)).toNat, ?_, z.1, z.2.1, z.2.2.1.trans gt.2.2, fun y => (z.2.2.2 y).trans (by rw [fl])⟩
    rw [show (gp_I s 81 g.toNat).toNat - 1 = Int.toNat (i - 1) by omega, ← hr]
    omega
  · refine Or.inr ⟨h1, ?_⟩
    rcases h2 with q | q
    · exact Or.inl q
    · exact Or.inr (fun c => q (C60_mono c (fun y hy => by rw [fl] at hy; exact hy)))
set_option maxRecDepth 100000 in
/-- GatheredPointsModel.comes -/
theorem vm_comesV  {L d : Nat} {K : Option gV → gH → Prop} {s : gH}  (p0 : Int) (hs : MI s) (h_p0 : 0 ≤ p0 ∧ p0 ≤ 84) (q0 : MDi s) (q1 : p0 ≠ 20) (q2 : 1 ≤ gp_I s 81 p0.toNat) (q3 : GVM s) (q4 : ∃ x, GTM s p0.toNat x) (k : ∀ (r : Int), ∀ (t : gH), MI t → gF [76, 77, 78, 79, 80, 81, 89] [15] s t → (0 ≤ r ∧ r ≤ 63) → (MDi t) → (mOut s t) → (r < gp_I t 81 20) → (gp_I s 81 20 ≤ gp_I t 81 20) → (∀ k : Nat, (k : Int) < gp_I s 81 p0.toNat → gp_I t 89 k < gp_I t 81 20) → (GVM t) → (∀ x, GTM s p0.toNat x → CMR s t x r) → K (some (gp_i r)) t) : gs_C L (d + 4) 3096 8 [gp_r (some 74), gp_i p0] s K := by
  have f_1 := mr81 hs 20
  have f_2 := mr81 hs p0.toNat
  refine s_3096_e _ ?_
  obtain ⟨x9, hx9⟩ := q4
  have lp_3 : ∀ (n_3 : Nat) (v2_3 : Int) (v3_3 : gV) (v4_3 : gV) (v5_3 : gV) (v6_3 : gV) (v7_3 : gV) (s_3 : gH), (MI s_3) → (gF [76, 77, 78, 79, 80, 81, 89] [15] s s_3) → (MDi s_3) → (mOut s s_3) → (0 ≤ v2_3 ∧ v2_3 ≤ 60) → (∀ k : Nat, (k : Int) < v2_3 → gp_I s_3 89 k < gp_I s_3 81 20) → (v2_3 ≤ gp_I s_3 81 p0.toNat) → (gp_I s 81 20 ≤ gp_I s_3 81 20) → (gp_I s_3 81 p0.toNat = gp_I s 81 p0.toNat) → (GVM s_3) → (CMW s s_3 p0 v2_3) → (61 - v2_3).toNat < n_3 → gs_E L (d + 4) 3096 2 [gp_r (some 74), gp_i p0, gp_i v2_3, v3_3, v4_3, v5_3, v6_3, v7_3] [] s_3 K := by
    intro n_3
    induction n_3 with
    | zero => intro v2_3 v3_3 v4_3 v5_3 v6_3 v7_3 s_3 hs_s_3 hf_s_3 MDi_s_3 mOut_s_3 hv2_3 iv0_3 iv1_3 iv2_3 iv3_3 iv4_3 iv5_3 hm_3; exact absurd hm_3 (Nat.not_lt_zero _)
    | succ n_3 ih_3 =>
      intro v2_3 v3_3 v4_3 v5_3 v6_3 v7_3 s_3 hs_s_3 hf_s_3 MDi_s_3 mOut_s_3 hv2_3 iv0_3 iv1_3 iv2_3 iv3_3 iv4_3 iv5_3 hm_3
      refine s_3096_2 _ _ _ _ _ _ _ ?_
      refine ⟨by omega, ?_⟩
      have f_4 := mr81 hs_s_3 (Int.toNat p0)
      refine ⟨fun h_5 => ?_, fun h_5 => ?_⟩
      · have lp_6 : ∀ (n_6 : Nat) (v3_6 : BitVec 64) (v5_6 : BitVec 64) (v7_6 : Int), (0 ≤ v7_6 ∧ v7_6 ≤ 59) → (bd v3_6 (gp_I s_3 81 20)) → (bd v5_6 (gp_I s_3 81 20)) → (PCI (fun j => (gp_I s_3 89 j).toNat) (gp_L s_3 76 (Int.toNat (64 * p0 + v2_3))) v7_6 v3_6) → (PCI (fun j => (gp_I s_3 89 j).toNat) (gp_L s_3 77 (Int.toNat (64 * p0 + v2_3))) v7_6 v5_6) → (v7_6 ≤ v2_3) → (60 - v7_6).toNat < n_6 → gs_E L (d + 4) 3096 20 [gp_r (some 74), gp_i p0, gp_i v2_3, gp_l v3_6, gp_n, gp_l v5_6, gp_n, gp_i v7_6] [] s_3 K := by
          intro n_6
          induction n_6 with
          | zero => intro v3_6 v5_6 v7_6 hv7_6 iv0_6 iv1_6 iv2_6 iv3_6 iv4_6 hm_6; exact absurd hm_6 (Nat.not_lt_zero _)
          | succ n_6 ih_6 =>
            intro v3_6 v5_6 v7_6 hv7_6 iv0_6 iv1_6 iv2_6 iv3_6 iv4_6 hm_6
            refine s_3096_20 _ _ _ _ _ ?_
            refine ⟨fun h_7 => ?_, fun h_7 => ?_⟩
            · try rw [show gp_wr (64 * p0) = 64 * p0 from gp_wr_id (by omega) (by omega)]
              try rw [show gp_wr ((64 * p0) + v2_3) = (64 * p0) + v2_3 from gp_wr_id (by omega) (by omega)]
              refine ⟨by omega, ?_⟩
              have b_8 := mr76 hs_s_3 p0 v2_3 (by omega) (by omega)
              refine vm_has _ _ (by omega) (fun x_9 p_10 p_11 => ⟨_, rfl, ?_⟩)
              refine ⟨fun h_12 => ?_, fun h_12 => ?_⟩
              · have hb_13 := hasF p_11 h_12
                refine s_3096_59 _ _ _ _ _ _ _ ?_
                try rw [show gp_wr (64 * p0) = 64 * p0 from gp_wr_id (by omega) (by omega)]
                try rw [show gp_wr ((64 * p0) + v2_3) = (64 * p0) + v2_3 from gp_wr_id (by omega) (by omega)]
                refine ⟨by omega, ?_⟩
                have b_14 := mr77 hs_s_3 p0 v2_3 (by omega) (by omega)
                refine vm_has _ _ (by omega) (fun x_15 p_16 p_17 => ⟨_, rfl, ?_⟩)
                refine ⟨fun h_18 => ?_, fun h_18 => ?_⟩
                · have hb_19 := hasF p_17 h_18
                  refine s_3096_95 _ _ _ _ _ _ _ ?_
                  try rw [show gp_wr (v7_6 + 1) = v7_6 + 1 from gp_wr_id (by omega) (by omega)]
                  exact ih_6 _ _ _ (by omega) (by first | (refine bd_or (bd_le iv0_6 ?_) (bd_0 _); omega) | (refine bd_or (bd_le iv0_6 ?_) (bd_sh ?_ ?_ ?_) <;> omega)) (by first | (refine bd_or (bd_le iv1_6 ?_) (bd_0 _); omega) | (refine bd_or (bd_le iv1_6 ?_) (bd_sh ?_ ?_ ?_) <;> omega)) (by first | exact PCI_n2 iv2_6 (by omega) (by assumption) rfl | exact PCI_y2 (z := gp_I s_3 89 (Int.toNat v7_6)) iv2_6 (by omega) (by assumption) rfl (by omega) (by omega)) (by first | exact PCI_n2 iv3_6 (by omega) (by assumption) rfl | exact PCI_y2 (z := gp_I s_3 89 (Int.toNat v7_6)) iv3_6 (by omega) (by assumption) rfl (by omega) (by omega)) (by first | omega | assumption) (by omega)
                · have hb_20 := hasT p_17 h_18
                  refine ⟨by omega, ?_⟩
                  have f_21 := mr89 hs_s_3 (Int.toNat v7_6)
                  have hnd90 := iv0_3 (Int.toNat v7_6) (by omega)
                  refine s_3096_95 _ _ _ _ _ _ _ ?_
                  try rw [show gp_wr (v7_6 + 1) = v7_6 + 1 from gp_wr_id (by omega) (by omega)]
                  exact ih_6 _ _ _ (by omega) (by first | (refine bd_or (bd_le iv0_6 ?_) (bd_0 _); omega) | (refine bd_or (bd_le iv0_6 ?_) (bd_sh ?_ ?_ ?_) <;> omega)) (by first | (refine bd_or (bd_le iv1_6 ?_) (bd_0 _); omega) | (refine bd_or (bd_le iv1_6 ?_) (bd_sh ?_ ?_ ?_) <;> omega)) (by first | exact PCI_n2 iv2_6 (by omega) (by assumption) rfl | exact PCI_y2 (z := gp_I s_3 89 (Int.toNat v7_6)) iv2_6 (by omega) (by assumption) rfl (by omega) (by omega)) (by first | exact PCI_n2 iv3_6 (by omega) (by assumption) rfl | exact PCI_y2 (z := gp_I s_3 89 (Int.toNat v7_6)) iv3_6 (by omega) (by assumption) rfl (by omega) (by omega)) (by first | omega | assumption) (by omega)
              · have hb_22 := hasT p_11 h_12
                refine ⟨by omega, ?_⟩
                have f_23 := mr89 hs_s_3 (Int.toNat v7_6)
                have hnd54 := iv0_3 (Int.toNat v7_6) (by omega)
                refine s_3096_59 _ _ _ _ _ _ _ ?_
                try rw [show gp_wr (64 * p0) = 64 * p0 from gp_wr_id (by omega) (by omega)]
                try rw [show gp_wr ((64 * p0) + v2_3) = (64 * p0) + v2_3 from gp_wr_id (by omega) (by omega)]
                refine ⟨by omega, ?_⟩
                have b_24 := mr77 hs_s_3 p0 v2_3 (by omega) (by omega)
                refine vm_has _ _ (by omega) (fun x_25 p_26 p_27 => ⟨_, rfl, ?_⟩)
                refine ⟨fun h_28 => ?_, fun h_28 => ?_⟩
                · have hb_29 := hasF p_27 h_28
                  refine s_3096_95 _ _ _ _ _ _ _ ?_
                  try rw [show gp_wr (v7_6 + 1) = v7_6 + 1 from gp_wr_id (by omega) (by omega)]
                  exact ih_6 _ _ _ (by omega) (by first | (refine bd_or (bd_le iv0_6 ?_) (bd_0 _); omega) | (refine bd_or (bd_le iv0_6 ?_) (bd_sh ?_ ?_ ?_) <;> omega)) (by first | (refine bd_or (bd_le iv1_6 ?_) (bd_0 _); omega) | (refine bd_or (bd_le iv1_6 ?_) (bd_sh ?_ ?_ ?_) <;> omega)) (by first | exact PCI_n2 iv2_6 (by omega) (by assumption) rfl | exact PCI_y2 (z := gp_I s_3 89 (Int.toNat v7_6)) iv2_6 (by omega) (by assumption) rfl (by omega) (by omega)) (by first | exact PCI_n2 iv3_6 (by omega) (by assumption) rfl | exact PCI_y2 (z := gp_I s_3 89 (Int.toNat v7_6)) iv3_6 (by omega) (by assumption) rfl (by omega) (by omega)) (by first | omega | assumption) (by omega)
                · have hb_30 := hasT p_27 h_28
                  refine ⟨by omega, ?_⟩
                  have f_31 := mr89 hs_s_3 (Int.toNat v7_6)
                  have hnd90 := iv0_3 (Int.toNat v7_6) (by omega)
                  refine s_3096_95 _ _ _ _ _ _ _ ?_
                  try rw [show gp_wr (v7_6 + 1) = v7_6 + 1 from gp_wr_id (by omega) (by omega)]
                  exact ih_6 _ _ _ (by omega) (by first | (refine bd_or (bd_le iv0_6 ?_) (bd_0 _); omega) | (refine bd_or (bd_le iv0_6 ?_) (bd_sh ?_ ?_ ?_) <;> omega)) (by first | (refine bd_or (bd_le iv1_6 ?_) (bd_0 _); omega) | (refine bd_or (bd_le iv1_6 ?_) (bd_sh ?_ ?_ ?_) <;> omega)) (by first | exact PCI_n2 iv2_6 (by omega) (by assumption) rfl | exact PCI_y2 (z := gp_I s_3 89 (Int.toNat v7_6)) iv2_6 (by omega) (by assumption) rfl (by omega) (by omega)) (by first | exact PCI_n2 iv3_6 (by omega) (by assumption) rfl | exact PCI_y2 (z := gp_I s_3 89 (Int.toNat v7_6)) iv3_6 (by omega) (by assumption) rfl (by omega) (by omega)) (by first | omega | assumption) (by omega)
            · have hv7 : v7_6 = v2_3 := by omega
              have hc3 := iv2_6
              have hc5 := iv3_6
              rw [hv7] at hc3 hc5
              try rw [show gp_wr (64 * p0) = 64 * p0 from gp_wr_id (by omega) (by omega)]
              try rw [show gp_wr ((64 * p0) + v2_3) = (64 * p0) + v2_3 from gp_wr_id (by omega) (by omega)]
              refine ⟨by omega, ?_⟩
              try rw [show gp_wr (64 * p0) = 64 * p0 from gp_wr_id (by omega) (by omega)]
              try rw [show gp_wr ((64 * p0) + v2_3) = (64 * p0) + v2_3 from gp_wr_id (by omega) (by omega)]
              refine ⟨by omega, ?_⟩
              refine vm_madeV _ _ _ _ hs_s_3 (MDi_s_3) (by first | assumption | exact bd_le (by assumption) (by omega) | exact bd_0 _) (by first | assumption | exact bd_le (by assumption) (by omega) | exact bd_0 _) (by first | omega | assumption) (fun x_32 s_33 hs_34 hf_35 p_36 p_37 p_38 p_39 p_40 p_41 p_42 p_43 p_44 p_45 p_46 => ⟨_, rfl, ?_⟩)
              have hf_47 : gF [76, 77, 78, 79, 80, 81, 89] [15] s s_33 := gF.trans hf_s_3 hf_35 rfl rfl
              have mo_48 : mOut s s_33 := mOut.trans mOut_s_3 p_41
              have q_49 := p_41.1 p0.toNat (by omega)
              have hAV := p_46
              have hm1 := p_44
              have hr89 : ∀ k : Nat, gp_I s_33 89 k = gp_I s_3 89 k := fun k => (hf_35.2 89 k rfl (fun h => absurd h (by decide))).1
              refine ⟨by omega, ?_⟩
              intro s_50 e_51
              have hs_52 : MI s_50 := by rw [e_51]; exact mw89 hs_34 _ _ (by omega)
              have hf_53 : gF [76, 77, 78, 79, 80, 81, 89] [15] s s_50 := by rw [e_51]; exact gF.wI hf_47 (Or.inl rfl)
              have q_54 : gp_I s_50 81 20 = gp_I s_33 81 20 := by rw [e_51] <;> rfl
              have q_55 : gp_I s_50 81 p0.toNat = gp_I s_33 81 p0.toNat := by rw [e_51] <;> rfl
              have pd_56 : MDi s_50 := by rw [e_51]; exact MDi_fr p_37 (gF.wI (gF.refl [89] [] _) (Or.inl rfl)) rfl rfl rfl rfl rfl rfl rfl
              have mo_57 : mOut s s_50 := by rw [e_51]; exact mOut_wI mo_48 (by decide)
              try rw [show gp_wr (v2_3 + 1) = v2_3 + 1 from gp_wr_id (by omega) (by omega)]
              exact ih_3 _ _ _ _ _ _ _ hs_52 hf_53 pd_56 mo_57 (by omega) (by subst_vars; exact nd_step (by omega) iv0_3 (by assumption) rfl (by omega) (by omega)) (by first | omega | assumption) (by first | omega | assumption) (by first | omega | assumption) (by rw [‹s_50 = gp_wI _ 89 _ _›]; exact hAV.1) (CMW_s iv5_3 hx9 mOut_s_3 ⟨by omega, by omega⟩ ⟨by omega, by omega⟩ rfl hc3 hc5 hAV rfl rfl hm1 hr89 (by assumption)) (by omega)
        exact lp_6 _ _ _ _ (by omega) (bd_0 _) (bd_0 _) (PCI_0) (PCI_0) (by first | omega | assumption) (Nat.lt_succ_self _)
      · refine ⟨by omega, ?_⟩
        have f_58 := mr81 hs_s_3 (Int.toNat p0)
        try rw [show gp_wr ((gp_I s_3 81 (Int.toNat p0)) - 1) = (gp_I s_3 81 (Int.toNat p0)) - 1 from gp_wr_id (by omega) (by omega)]
        have hnr := iv0_3 (Int.toNat ((gp_I s_3 81 (Int.toNat p0)) - 1)) (by omega)
        refine ⟨by omega, ?_⟩
        have f_59 := mr89 hs_s_3 (Int.toNat ((gp_I s_3 81 (Int.toNat p0)) - 1))
        exact k _ s_3 hs_s_3 hf_s_3 (by omega) (MDi_s_3) mOut_s_3 (by first | omega | assumption) (by first | omega | assumption) (fun k hk => iv0_3 k (by omega)) (iv4_3) (fun x h9 => CMW_e iv5_3 h9 (by omega) (by rw [show v2_3 - 1 = gp_I s_3 81 (Int.toNat p0) - 1 by omega]) (by omega))
  exact lp_3 _ _ _ _ _ _ _ _ hs (gF.refl _ _ _) q0 (mOut.refl _) (by omega) (fun k hk => absurd hk (by omega)) (by first | omega | assumption) (by first | omega | assumption) (by first | omega | assumption) (q3) (CMW_0) (Nat.lt_succ_self _)
