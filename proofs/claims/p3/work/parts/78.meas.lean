set_option maxRecDepth 100000 in
/-- Measures.highestOf -/
theorem xm_highestOf33  {L d : Nat} {K : Option gV → gH → Prop} {s : gH}  (p0 : BitVec 64) (p2 : Int) (hs : XI L 0 s) (h_p2 : 0 ≤ p2 ∧ p2 ≤ 60) (q0 : bd p0 61) (k : ∀ (r : Int), K (some (gp_i r)) s) : gs_C L (d + 2) 774 7 [gp_l p0, gp_r (some 33), gp_i p2] s K := by
  refine s_774_e _ _ _ ?_
  have lp_2 : ∀ (n_2 : Nat) (v4_2 : Int) (v5_2 : BitVec 64), (sub v5_2 p0) → ((v5_2).toNat) < n_2 → gs_E L (d + 2) 774 7 [gp_l p0, gp_n, gp_r (some 33), gp_i p2, gp_i v4_2, gp_l v5_2, gp_n] [] s K := by
    intro n_2
    induction n_2 with
    | zero => intro v4_2 v5_2 iv0_2 hm_2; exact absurd hm_2 (Nat.not_lt_zero _)
    | succ n_2 ih_2 =>
      intro v4_2 v5_2 iv0_2 hm_2
      refine s_774_7 _ _ _ _ _ ?_
      refine ⟨fun h_3 => ?_, fun h_3 => ?_⟩
      · have hz_4 : v5_2 = 0#64 := (gm_cmp0 _ _).mp h_3
        exact k _
      · have hz_5 : ¬ v5_2 = 0#64 := fun q => h_3 ((gm_cmp0 _ _).mpr q)
        refine xm_lowest _ (fun x_6 p_7 p_8 => ⟨_, rfl, ?_⟩)
        have hlw := iv0_2.low (by assumption) p_8
        have hl0 := q0 _ hlw.2.2
        try rw [show gp_wr (x_6 * 61) = x_6 * 61 from gp_wr_id (by omega) (by omega)]
        try rw [show gp_wr ((x_6 * 61) + p2) = (x_6 * 61) + p2 from gp_wr_id (by omega) (by omega)]
        refine ⟨33, rfl, ?_⟩
        refine ⟨⟨rfl, by show 0 ≤ (x_6 * 61) + p2 ∧ (x_6 * 61) + p2 < 3721; omega⟩, ?_⟩
        have w_9 := gz_mx (v4_2) (gp_I s 33 (Int.toNat ((x_6 * 61) + p2)))
        exact ih_2 _ _ (by first | assumption | exact sub.refl _ | exact sub.rest (by assumption)) (by have := rest_lt (by assumption : ¬ v5_2 = 0#64); omega)
  exact lp_2 _ _ _ (by first | assumption | exact sub.refl _ | exact sub.rest (by assumption)) (Nat.lt_succ_self _)
set_option maxRecDepth 100000 in
/-- Measures.highestOf -/
theorem xm_highestOf35  {L d : Nat} {K : Option gV → gH → Prop} {s : gH}  (p0 : BitVec 64) (p2 : Int) (hs : XI L 0 s) (h_p2 : 0 ≤ p2 ∧ p2 ≤ 60) (q0 : bd p0 61) (k : ∀ (r : Int), K (some (gp_i r)) s) : gs_C L (d + 2) 774 7 [gp_l p0, gp_r (some 35), gp_i p2] s K := by
  refine s_774_e _ _ _ ?_
  have lp_2 : ∀ (n_2 : Nat) (v4_2 : Int) (v5_2 : BitVec 64), (sub v5_2 p0) → ((v5_2).toNat) < n_2 → gs_E L (d + 2) 774 7 [gp_l p0, gp_n, gp_r (some 35), gp_i p2, gp_i v4_2, gp_l v5_2, gp_n] [] s K := by
    intro n_2
    induction n_2 with
    | zero => intro v4_2 v5_2 iv0_2 hm_2; exact absurd hm_2 (Nat.not_lt_zero _)
    | succ n_2 ih_2 =>
      intro v4_2 v5_2 iv0_2 hm_2
      refine s_774_7 _ _ _ _ _ ?_
      refine ⟨fun h_3 => ?_, fun h_3 => ?_⟩
      · have hz_4 : v5_2 = 0#64 := (gm_cmp0 _ _).mp h_3
        exact k _
      · have hz_5 : ¬ v5_2 = 0#64 := fun q => h_3 ((gm_cmp0 _ _).mpr q)
        refine xm_lowest _ (fun x_6 p_7 p_8 => ⟨_, rfl, ?_⟩)
        have hlw := iv0_2.low (by assumption) p_8
        have hl0 := q0 _ hlw.2.2
        try rw [show gp_wr (x_6 * 61) = x_6 * 61 from gp_wr_id (by omega) (by omega)]
        try rw [show gp_wr ((x_6 * 61) + p2) = (x_6 * 61) + p2 from gp_wr_id (by omega) (by omega)]
        refine ⟨35, rfl, ?_⟩
        refine ⟨⟨rfl, by show 0 ≤ (x_6 * 61) + p2 ∧ (x_6 * 61) + p2 < 3721; omega⟩, ?_⟩
        have w_9 := gz_mx (v4_2) (gp_I s 35 (Int.toNat ((x_6 * 61) + p2)))
        exact ih_2 _ _ (by first | assumption | exact sub.refl _ | exact sub.rest (by assumption)) (by have := rest_lt (by assumption : ¬ v5_2 = 0#64); omega)
  exact lp_2 _ _ _ (by first | assumption | exact sub.refl _ | exact sub.rest (by assumption)) (Nat.lt_succ_self _)
set_option maxRecDepth 100000 in
/-- Measures.lowestOf -/
theorem xm_lowestOf34  {L d : Nat} {K : Option gV → gH → Prop} {s : gH}  (p0 : BitVec 64) (p2 : Int) (hs : XI L 0 s) (h_p2 : 0 ≤ p2 ∧ p2 ≤ 60) (q0 : bd p0 61) (k : ∀ (r : Int), K (some (gp_i r)) s) : gs_C L (d + 2) 775 7 [gp_l p0, gp_r (some 34), gp_i p2] s K := by
  refine s_775_e _ _ _ ?_
  have lp_2 : ∀ (n_2 : Nat) (v4_2 : Int) (v5_2 : BitVec 64), (sub v5_2 p0) → ((v5_2).toNat) < n_2 → gs_E L (d + 2) 775 7 [gp_l p0, gp_n, gp_r (some 34), gp_i p2, gp_i v4_2, gp_l v5_2, gp_n] [] s K := by
    intro n_2
    induction n_2 with
    | zero => intro v4_2 v5_2 iv0_2 hm_2; exact absurd hm_2 (Nat.not_lt_zero _)
    | succ n_2 ih_2 =>
      intro v4_2 v5_2 iv0_2 hm_2
      refine s_775_7 _ _ _ _ _ ?_
      refine ⟨fun h_3 => ?_, fun h_3 => ?_⟩
      · have hz_4 : v5_2 = 0#64 := (gm_cmp0 _ _).mp h_3
        exact k _
      · have hz_5 : ¬ v5_2 = 0#64 := fun q => h_3 ((gm_cmp0 _ _).mpr q)
        refine xm_lowest _ (fun x_6 p_7 p_8 => ⟨_, rfl, ?_⟩)
        have hlw := iv0_2.low (by assumption) p_8
        have hl0 := q0 _ hlw.2.2
        try rw [show gp_wr (x_6 * 61) = x_6 * 61 from gp_wr_id (by omega) (by omega)]
        try rw [show gp_wr ((x_6 * 61) + p2) = (x_6 * 61) + p2 from gp_wr_id (by omega) (by omega)]
        refine ⟨34, rfl, ?_⟩
        refine ⟨⟨rfl, by show 0 ≤ (x_6 * 61) + p2 ∧ (x_6 * 61) + p2 < 3721; omega⟩, ?_⟩
        have w_9 := gz_mi (v4_2) (gp_I s 34 (Int.toNat ((x_6 * 61) + p2)))
        exact ih_2 _ _ (by first | assumption | exact sub.refl _ | exact sub.rest (by assumption)) (by have := rest_lt (by assumption : ¬ v5_2 = 0#64); omega)
  exact lp_2 _ _ _ (by first | assumption | exact sub.refl _ | exact sub.rest (by assumption)) (Nat.lt_succ_self _)
set_option maxRecDepth 100000 in
/-- Measures.lowestOf -/
theorem xm_lowestOf32  {L d : Nat} {K : Option gV → gH → Prop} {s : gH}  (p0 : BitVec 64) (p2 : Int) (hs : XI L 0 s) (h_p2 : 0 ≤ p2 ∧ p2 ≤ 60) (q0 : bd p0 61) (k : ∀ (r : Int), K (some (gp_i r)) s) : gs_C L (d + 2) 775 7 [gp_l p0, gp_r (some 32), gp_i p2] s K := by
  refine s_775_e _ _ _ ?_
  have lp_2 : ∀ (n_2 : Nat) (v4_2 : Int) (v5_2 : BitVec 64), (sub v5_2 p0) → ((v5_2).toNat) < n_2 → gs_E L (d + 2) 775 7 [gp_l p0, gp_n, gp_r (some 32), gp_i p2, gp_i v4_2, gp_l v5_2, gp_n] [] s K := by
    intro n_2
    induction n_2 with
    | zero => intro v4_2 v5_2 iv0_2 hm_2; exact absurd hm_2 (Nat.not_lt_zero _)
    | succ n_2 ih_2 =>
      intro v4_2 v5_2 iv0_2 hm_2
      refine s_775_7 _ _ _ _ _ ?_
      refine ⟨fun h_3 => ?_, fun h_3 => ?_⟩
      · have hz_4 : v5_2 = 0#64 := (gm_cmp0 _ _).mp h_3
        exact k _
      · have hz_5 : ¬ v5_2 = 0#64 := fun q => h_3 ((gm_cmp0 _ _).mpr q)
        refine xm_lowest _ (fun x_6 p_7 p_8 => ⟨_, rfl, ?_⟩)
        have hlw := iv0_2.low (by assumption) p_8
        have hl0 := q0 _ hlw.2.2
        try rw [show gp_wr (x_6 * 61) = x_6 * 61 from gp_wr_id (by omega) (by omega)]
        try rw [show gp_wr ((x_6 * 61) + p2) = (x_6 * 61) + p2 from gp_wr_id (by omega) (by omega)]
        refine ⟨32, rfl, ?_⟩
        refine ⟨⟨rfl, by show 0 ≤ (x_6 * 61) + p2 ∧ (x_6 * 61) + p2 < 3721; omega⟩, ?_⟩
        have w_9 := gz_mi (v4_2) (gp_I s 32 (Int.toNat ((x_6 * 61) + p2)))
        exact ih_2 _ _ (by first | assumption | exact sub.refl _ | exact sub.rest (by assumption)) (by have := rest_lt (by assumption : ¬ v5_2 = 0#64); omega)
  exact lp_2 _ _ _ (by first | assumption | exact sub.refl _ | exact sub.rest (by assumption)) (Nat.lt_succ_self _)
set_option maxRecDepth 100000 in
/-- Measures.addWaits -/
theorem xm_addWaits  {L d : Nat} {K : Option gV → gH → Prop} {s : gH} (n_p0 : Nat) (p0 : Nat) (p1 : Int) (p2 : Int) (hs : XI L 0 s) (h_p1 : 0 ≤ p1 ∧ p1 ≤ 60) (h_p2 : 0 ≤ p2 ∧ p2 ≤ 60) (q0 : kT L s p0 n_p0) (q1 : p1 < n_p0) (k : ∀ (t : gH), XI L 0 t → gX L false [32, 33] s t → K none t) : gs_C L (d + 3) 772 7 [gp_r (some 31), gp_r (some p0), gp_i p1, gp_i p2] s K := by
  have hn_p0 := q0.n hs
  refine s_772_e _ _ _ ?_
  try rw [show gp_wr (p1 * 61) = p1 * 61 from gp_wr_id (by omega) (by omega)]
  have lp_2 : ∀ (n_2 : Nat) (v5_2 : Int) (v6_2 : gV) (s_2 : gH), (XI L 0 s_2) → (gX L false [32, 33] s s_2) → (kT L s_2 p0 n_p0) → (0 ≤ v5_2 ∧ v5_2 ≤ 61) → (62 - v5_2).toNat < n_2 → gs_E L (d + 3) 772 9 [gp_r (some 31), gp_r (some p0), gp_i p1, gp_i p2, gp_i (p1 * 61), gp_i v5_2, v6_2] [] s_2 K := by
    intro n_2
    induction n_2 with
    | zero => intro v5_2 v6_2 s_2 hs_s_2 hf_s_2 kt_p0_s_2 hv5_2 hm_2; exact absurd hm_2 (Nat.not_lt_zero _)
    | succ n_2 ih_2 =>
      intro v5_2 v6_2 s_2 hs_s_2 hf_s_2 kt_p0_s_2 hv5_2 hm_2
      refine s_772_9 _ _ _ _ _ _ ?_
      refine ⟨fun h_3 => ?_, fun h_3 => ?_⟩
      · exact k s_2 hs_s_2 hf_s_2
      · refine ⟨p0, rfl, ?_⟩
        refine ⟨kt_p0_s_2.2.1, ?_⟩
        refine ⟨(p0 + 1), (kt_p0_s_2.tt hs_s_2).1.2.2.2.1.1, ?_⟩
        refine ⟨gin ((kt_p0_s_2.tt hs_s_2).1.2.2.2.2.1.1) (by omega), ?_⟩
        have b_4 : bd (gp_L s_2 (p0 + 1) (Int.toNat p1)) p1 := bd_le ((kt_p0_s_2.tt hs_s_2).1.2.2.2.2.2 (Int.toNat p1)).1.1 (by omega)
        refine xm_highestOf33 _ _ hs_s_2 (by omega) (by first | assumption | exact bd_le (by assumption) (by omega) | exact bd_0 _) (fun x_5 => ⟨_, rfl, ?_⟩)
        refine ⟨fun h_6 => ?_, fun h_6 => ?_⟩
        · try rw [show gp_wr ((p1 * 61) + v5_2) = (p1 * 61) + v5_2 from gp_wr_id (by omega) (by omega)]
          try rw [show gp_wr (((p1 * 61) + v5_2) - 1) = ((p1 * 61) + v5_2) - 1 from gp_wr_id (by omega) (by omega)]
          refine ⟨by omega, ?_⟩
          have w_7 := gz_mx (x_5) (gp_I s_2 33 (Int.toNat (((p1 * 61) + v5_2) - 1)))
          refine s_772_78 _ _ _ _ _ _ ?_
          try rw [show gp_wr ((p1 * 61) + v5_2) = (p1 * 61) + v5_2 from gp_wr_id (by omega) (by omega)]
          refine ⟨by omega, ?_⟩
          intro s_9 e_10
          have hs_11 : XI L 0 s_9 := by rw [e_10]; exact xw32 hs_s_2 _ _
          have hf_12 : gX L false [32, 33] s s_9 := by rw [e_10]; exact gX.wI hf_s_2 (Or.inl rfl)
          have kt_13 : kT L s_9 p0 n_p0 := by rw [e_10]; exact kt_p0_s_2
          try rw [show gp_wr ((p1 * 61) + v5_2) = (p1 * 61) + v5_2 from gp_wr_id (by omega) (by omega)]
          refine ⟨p0, rfl, ?_⟩
          refine ⟨kt_13.2.1, ?_⟩
          refine ⟨(p0 + 2), (kt_13.tt hs_11).1.2.2.2.1.2.1, ?_⟩
          refine ⟨gin ((kt_13.tt hs_11).1.2.2.2.2.1.2.1) (by omega), ?_⟩
          have b_14 : bd (gp_L s_9 (p0 + 2) (Int.toNat p1)) p1 := bd_le ((kt_13.tt hs_11).1.2.2.2.2.2 (Int.toNat p1)).1.2 (by omega)
          refine ⟨fun h_15 => ?_, fun h_15 => ?_⟩
          · have hz_16 : gp_L s_9 (p0 + 2) (Int.toNat p1) = 0#64 := (gm_cmp0 _ _).mp h_15
            refine ⟨kt_13.2.1, ?_⟩
            refine ⟨(p0 + 4), (kt_13.tt hs_11).1.2.2.2.1.2.2.2.1, ?_⟩
            refine ⟨gin ((kt_13.tt hs_11).1.2.2.2.2.1.2.2.2.1) (by omega), ?_⟩
            refine s_772_134 _ _ _ _ _ _ _ _ ?_
            refine ⟨by omega, ?_⟩
            intro s_18 e_19
            have hs_20 : XI L 0 s_18 := by rw [e_19]; exact xw33 hs_11 _ _
            have hf_21 : gX L false [32, 33] s s_18 := by rw [e_19]; exact gX.wI hf_12 (Or.inl rfl)
            have kt_22 : kT L s_18 p0 n_p0 := by rw [e_19]; exact kt_13
            try rw [show gp_wr (v5_2 + 1) = v5_2 + 1 from gp_wr_id (by omega) (by omega)]
            exact ih_2 _ _ _ hs_20 hf_21 kt_22 (by omega) (by omega)
          · have hz_24 : ¬ (gp_L s_9 (p0 + 2) (Int.toNat p1)) = 0#64 := fun q => h_15 ((gm_cmp0 _ _).mpr q)
            refine ⟨kt_13.2.1, ?_⟩
            refine ⟨(p0 + 2), (kt_13.tt hs_11).1.2.2.2.1.2.1, ?_⟩
            refine ⟨gin ((kt_13.tt hs_11).1.2.2.2.2.1.2.1) (by omega), ?_⟩
            have b_25 : bd (gp_L s_9 (p0 + 2) (Int.toNat p1)) p1 := bd_le ((kt_13.tt hs_11).1.2.2.2.2.2 (Int.toNat p1)).1.2 (by omega)
            refine xm_lowestOf32 _ _ hs_11 (by omega) (by first | assumption | exact bd_le (by assumption) (by omega) | exact bd_0 _) (fun x_26 => ⟨_, rfl, ?_⟩)
            refine s_772_134 _ _ _ _ _ _ _ _ ?_
            refine ⟨by omega, ?_⟩
            intro s_28 e_29
            have hs_30 : XI L 0 s_28 := by rw [e_29]; exact xw33 hs_11 _ _
            have hf_31 : gX L false [32, 33] s s_28 := by rw [e_29]; exact gX.wI hf_12 (Or.inl rfl)
            have kt_32 : kT L s_28 p0 n_p0 := by rw [e_29]; exact kt_13
            try rw [show gp_wr (v5_2 + 1) = v5_2 + 1 from gp_wr_id (by omega) (by omega)]
            exact ih_2 _ _ _ hs_30 hf_31 kt_32 (by omega) (by omega)
        · refine ⟨kt_p0_s_2.2.1, ?_⟩
          refine ⟨(p0 + 1), (kt_p0_s_2.tt hs_s_2).1.2.2.2.1.1, ?_⟩
          refine ⟨gin ((kt_p0_s_2.tt hs_s_2).1.2.2.2.2.1.1) (by omega), ?_⟩
          have b_34 : bd (gp_L s_2 (p0 + 1) (Int.toNat p1)) p1 := bd_le ((kt_p0_s_2.tt hs_s_2).1.2.2.2.2.2 (Int.toNat p1)).1.1 (by omega)
          refine ⟨fun h_35 => ?_, fun h_35 => ?_⟩
          · have hz_36 : gp_L s_2 (p0 + 1) (Int.toNat p1) = 0#64 := (gm_cmp0 _ _).mp h_35
            refine ⟨kt_p0_s_2.2.1, ?_⟩
            refine ⟨(p0 + 3), (kt_p0_s_2.tt hs_s_2).1.2.2.2.1.2.2.1, ?_⟩
            refine ⟨gin ((kt_p0_s_2.tt hs_s_2).1.2.2.2.2.1.2.2.1) (by omega), ?_⟩
            refine s_772_78 _ _ _ _ _ _ ?_
            try rw [show gp_wr ((p1 * 61) + v5_2) = (p1 * 61) + v5_2 from gp_wr_id (by omega) (by omega)]
            refine ⟨by omega, ?_⟩
            intro s_38 e_39
            have hs_40 : XI L 0 s_38 := by rw [e_39]; exact xw32 hs_s_2 _ _
            have hf_41 : gX L false [32, 33] s s_38 := by rw [e_39]; exact gX.wI hf_s_2 (Or.inl rfl)
            have kt_42 : kT L s_38 p0 n_p0 := by rw [e_39]; exact kt_p0_s_2
            try rw [show gp_wr ((p1 * 61) + v5_2) = (p1 * 61) + v5_2 from gp_wr_id (by omega) (by omega)]
            refine ⟨p0, rfl, ?_⟩
            refine ⟨kt_42.2.1, ?_⟩
            refine ⟨(p0 + 2), (kt_42.tt hs_40).1.2.2.2.1.2.1, ?_⟩
            refine ⟨gin ((kt_42.tt hs_40).1.2.2.2.2.1.2.1) (by omega), ?_⟩
            have b_43 : bd (gp_L s_38 (p0 + 2) (Int.toNat p1)) p1 := bd_le ((kt_42.tt hs_40).1.2.2.2.2.2 (Int.toNat p1)).1.2 (by omega)
            refine ⟨fun h_44 => ?_, fun h_44 => ?_⟩
            · have hz_45 : gp_L s_38 (p0 + 2) (Int.toNat p1) = 0#64 := (gm_cmp0 _ _).mp h_44
              refine ⟨kt_42.2.1, ?_⟩
              refine ⟨(p0 + 4), (kt_42.tt hs_40).1.2.2.2.1.2.2.2.1, ?_⟩
              refine ⟨gin ((kt_42.tt hs_40).1.2.2.2.2.1.2.2.2.1) (by omega), ?_⟩
              refine s_772_134 _ _ _ _ _ _ _ _ ?_
              refine ⟨by omega, ?_⟩
              intro s_47 e_48
              have hs_49 : XI L 0 s_47 := by rw [e_48]; exact xw33 hs_40 _ _
              have hf_50 : gX L false [32, 33] s s_47 := by rw [e_48]; exact gX.wI hf_41 (Or.inl rfl)
              have kt_51 : kT L s_47 p0 n_p0 := by rw [e_48]; exact kt_42
              try rw [show gp_wr (v5_2 + 1) = v5_2 + 1 from gp_wr_id (by omega) (by omega)]
              exact ih_2 _ _ _ hs_49 hf_50 kt_51 (by omega) (by omega)
            · have hz_53 : ¬ (gp_L s_38 (p0 + 2) (Int.toNat p1)) = 0#64 := fun q => h_44 ((gm_cmp0 _ _).mpr q)
              refine ⟨kt_42.2.1, ?_⟩
              refine ⟨(p0 + 2), (kt_42.tt hs_40).1.2.2.2.1.2.1, ?_⟩
              refine ⟨gin ((kt_42.tt hs_40).1.2.2.2.2.1.2.1) (by omega), ?_⟩
              have b_54 : bd (gp_L s_38 (p0 + 2) (Int.toNat p1)) p1 := bd_le ((kt_42.tt hs_40).1.2.2.2.2.2 (Int.toNat p1)).1.2 (by omega)
              refine xm_lowestOf32 _ _ hs_40 (by omega) (by first | assumption | exact bd_le (by assumption) (by omega) | exact bd_0 _) (fun x_55 => ⟨_, rfl, ?_⟩)
              refine s_772_134 _ _ _ _ _ _ _ _ ?_
              refine ⟨by omega, ?_⟩
              intro s_57 e_58
              have hs_59 : XI L 0 s_57 := by rw [e_58]; exact xw33 hs_40 _ _
              have hf_60 : gX L false [32, 33] s s_57 := by rw [e_58]; exact gX.wI hf_41 (Or.inl rfl)
              have kt_61 : kT L s_57 p0 n_p0 := by rw [e_58]; exact kt_42
              try rw [show gp_wr (v5_2 + 1) = v5_2 + 1 from gp_wr_id (by omega) (by omega)]
              exact ih_2 _ _ _ hs_59 hf_60 kt_61 (by omega) (by omega)
          · have hz_63 : ¬ (gp_L s_2 (p0 + 1) (Int.toNat p1)) = 0#64 := fun q => h_35 ((gm_cmp0 _ _).mpr q)
            refine s_772_78 _ _ _ _ _ _ ?_
            try rw [show gp_wr ((p1 * 61) + v5_2) = (p1 * 61) + v5_2 from gp_wr_id (by omega) (by omega)]
            refine ⟨by omega, ?_⟩
            intro s_65 e_66
            have hs_67 : XI L 0 s_65 := by rw [e_66]; exact xw32 hs_s_2 _ _
            have hf_68 : gX L false [32, 33] s s_65 := by rw [e_66]; exact gX.wI hf_s_2 (Or.inl rfl)
            have kt_69 : kT L s_65 p0 n_p0 := by rw [e_66]; exact kt_p0_s_2
            try rw [show gp_wr ((p1 * 61) + v5_2) = (p1 * 61) + v5_2 from gp_wr_id (by omega) (by omega)]
            refine ⟨p0, rfl, ?_⟩
            refine ⟨kt_69.2.1, ?_⟩
            refine ⟨(p0 + 2), (kt_69.tt hs_67).1.2.2.2.1.2.1, ?_⟩
            refine ⟨gin ((kt_69.tt hs_67).1.2.2.2.2.1.2.1) (by omega), ?_⟩
            have b_70 : bd (gp_L s_65 (p0 + 2) (Int.toNat p1)) p1 := bd_le ((kt_69.tt hs_67).1.2.2.2.2.2 (Int.toNat p1)).1.2 (by omega)
            refine ⟨fun h_71 => ?_, fun h_71 => ?_⟩
            · have hz_72 : gp_L s_65 (p0 + 2) (Int.toNat p1) = 0#64 := (gm_cmp0 _ _).mp h_71
              refine ⟨kt_69.2.1, ?_⟩
              refine ⟨(p0 + 4), (kt_69.tt hs_67).1.2.2.2.1.2.2.2.1, ?_⟩
              refine ⟨gin ((kt_69.tt hs_67).1.2.2.2.2.1.2.2.2.1) (by omega), ?_⟩
              refine s_772_134 _ _ _ _ _ _ _ _ ?_
              refine ⟨by omega, ?_⟩
              intro s_74 e_75
              have hs_76 : XI L 0 s_74 := by rw [e_75]; exact xw33 hs_67 _ _
              have hf_77 : gX L false [32, 33] s s_74 := by rw [e_75]; exact gX.wI hf_68 (Or.inl rfl)
              have kt_78 : kT L s_74 p0 n_p0 := by rw [e_75]; exact kt_69
              try rw [show gp_wr (v5_2 + 1) = v5_2 + 1 from gp_wr_id (by omega) (by omega)]
              exact ih_2 _ _ _ hs_76 hf_77 kt_78 (by omega) (by omega)
            · have hz_80 : ¬ (gp_L s_65 (p0 + 2) (Int.toNat p1)) = 0#64 := fun q => h_71 ((gm_cmp0 _ _).mpr q)
              refine ⟨kt_69.2.1, ?_⟩
              refine ⟨(p0 + 2), (kt_69.tt hs_67).1.2.2.2.1.2.1, ?_⟩
              refine ⟨gin ((kt_69.tt hs_67).1.2.2.2.2.1.2.1) (by omega), ?_⟩
              have b_81 : bd (gp_L s_65 (p0 + 2) (Int.toNat p1)) p1 := bd_le ((kt_69.tt hs_67).1.2.2.2.2.2 (Int.toNat p1)).1.2 (by omega)
              refine xm_lowestOf32 _ _ hs_67 (by omega) (by first | assumption | exact bd_le (by assumption) (by omega) | exact bd_0 _) (fun x_82 => ⟨_, rfl, ?_⟩)
              refine s_772_134 _ _ _ _ _ _ _ _ ?_
              refine ⟨by omega, ?_⟩
              intro s_84 e_85
              have hs_86 : XI L 0 s_84 := by rw [e_85]; exact xw33 hs_67 _ _
              have hf_87 : gX L false [32, 33] s s_84 := by rw [e_85]; exact gX.wI hf_68 (Or.inl rfl)
              have kt_88 : kT L s_84 p0 n_p0 := by rw [e_85]; exact kt_69
              try rw [show gp_wr (v5_2 + 1) = v5_2 + 1 from gp_wr_id (by omega) (by omega)]
              exact ih_2 _ _ _ hs_86 hf_87 kt_88 (by omega) (by omega)
  exact lp_2 _ _ _ _ hs (gX.refl _ _ _ _) q0 (by omega) (Nat.lt_succ_self _)
set_option maxRecDepth 100000 in
/-- Measures.addNegatives -/
theorem xm_addNegatives  {L d : Nat} {K : Option gV → gH → Prop} {s : gH} (n_p0 : Nat) (p0 : Nat) (p1 : Int) (p2 : Int) (hs : XI L 0 s) (h_p1 : 0 ≤ p1 ∧ p1 ≤ 60) (h_p2 : 0 ≤ p2 ∧ p2 ≤ 60) (q0 : kT L s p0 n_p0) (q1 : p1 < n_p0) (k : ∀ (t : gH), XI L 0 t → gX L false [34, 35] s t → K none t) : gs_C L (d + 3) 773 7 [gp_r (some 31), gp_r (some p0), gp_i p1, gp_i p2] s K := by
  have hn_p0 := q0.n hs
  refine s_773_e _ _ _ ?_
  try rw [show gp_wr (p1 * 61) = p1 * 61 from gp_wr_id (by omega) (by omega)]
  have lp_2 : ∀ (n_2 : Nat) (v5_2 : Int) (v6_2 : gV) (s_2 : gH), (XI L 0 s_2) → (gX L false [34, 35] s s_2) → (kT L s_2 p0 n_p0) → (0 ≤ v5_2 ∧ v5_2 ≤ 61) → (62 - v5_2).toNat < n_2 → gs_E L (d + 3) 773 9 [gp_r (some 31), gp_r (some p0), gp_i p1, gp_i p2, gp_i (p1 * 61), gp_i v5_2, v6_2] [] s_2 K := by
    intro n_2
    induction n_2 with
    | zero => intro v5_2 v6_2 s_2 hs_s_2 hf_s_2 kt_p0_s_2 hv5_2 hm_2; exact absurd hm_2 (Nat.not_lt_zero _)
    | succ n_2 ih_2 =>
      intro v5_2 v6_2 s_2 hs_s_2 hf_s_2 kt_p0_s_2 hv5_2 hm_2
      refine s_773_9 _ _ _ _ _ _ ?_
      refine ⟨fun h_3 => ?_, fun h_3 => ?_⟩
      · exact k s_2 hs_s_2 hf_s_2
      · refine ⟨p0, rfl, ?_⟩
        refine ⟨kt_p0_s_2.2.1, ?_⟩
        refine ⟨(p0 + 2), (kt_p0_s_2.tt hs_s_2).1.2.2.2.1.2.1, ?_⟩
        refine ⟨gin ((kt_p0_s_2.tt hs_s_2).1.2.2.2.2.1.2.1) (by omega), ?_⟩
        have b_4 : bd (gp_L s_2 (p0 + 2) (Int.toNat p1)) p1 := bd_le ((kt_p0_s_2.tt hs_s_2).1.2.2.2.2.2 (Int.toNat p1)).1.2 (by omega)
        refine xm_lowestOf34 _ _ hs_s_2 (by omega) (by first | assumption | exact bd_le (by assumption) (by omega) | exact bd_0 _) (fun x_5 => ⟨_, rfl, ?_⟩)
        refine ⟨fun h_6 => ?_, fun h_6 => ?_⟩
        · try rw [show gp_wr ((p1 * 61) + v5_2) = (p1 * 61) + v5_2 from gp_wr_id (by omega) (by omega)]
          try rw [show gp_wr (((p1 * 61) + v5_2) - 1) = ((p1 * 61) + v5_2) - 1 from gp_wr_id (by omega) (by omega)]
          refine ⟨by omega, ?_⟩
          have w_7 := gz_mi (x_5) (gp_I s_2 34 (Int.toNat (((p1 * 61) + v5_2) - 1)))
          refine s_773_78 _ _ _ _ _ _ ?_
          try rw [show gp_wr ((p1 * 61) + v5_2) = (p1 * 61) + v5_2 from gp_wr_id (by omega) (by omega)]
          refine ⟨by omega, ?_⟩
          intro s_9 e_10
          have hs_11 : XI L 0 s_9 := by rw [e_10]; exact xw35 hs_s_2 _ _
          have hf_12 : gX L false [34, 35] s s_9 := by rw [e_10]; exact gX.wI hf_s_2 (Or.inl rfl)
          have kt_13 : kT L s_9 p0 n_p0 := by rw [e_10]; exact kt_p0_s_2
          try rw [show gp_wr ((p1 * 61) + v5_2) = (p1 * 61) + v5_2 from gp_wr_id (by omega) (by omega)]
          refine ⟨p0, rfl, ?_⟩
          refine ⟨kt_13.2.1, ?_⟩
          refine ⟨(p0 + 1), (kt_13.tt hs_11).1.2.2.2.1.1, ?_⟩
          refine ⟨gin ((kt_13.tt hs_11).1.2.2.2.2.1.1) (by omega), ?_⟩
          have b_14 : bd (gp_L s_9 (p0 + 1) (Int.toNat p1)) p1 := bd_le ((kt_13.tt hs_11).1.2.2.2.2.2 (Int.toNat p1)).1.1 (by omega)
          refine ⟨fun h_15 => ?_, fun h_15 => ?_⟩
          · have hz_16 : gp_L s_9 (p0 + 1) (Int.toNat p1) = 0#64 := (gm_cmp0 _ _).mp h_15
            refine ⟨kt_13.2.1, ?_⟩
            refine ⟨(p0 + 3), (kt_13.tt hs_11).1.2.2.2.1.2.2.1, ?_⟩
            refine ⟨gin ((kt_13.tt hs_11).1.2.2.2.2.1.2.2.1) (by omega), ?_⟩
            refine s_773_134 _ _ _ _ _ _ _ _ ?_
            refine ⟨by omega, ?_⟩
            intro s_18 e_19
            have hs_20 : XI L 0 s_18 := by rw [e_19]; exact xw34 hs_11 _ _
            have hf_21 : gX L false [34, 35] s s_18 := by rw [e_19]; exact gX.wI hf_12 (Or.inl rfl)
            have kt_22 : kT L s_18 p0 n_p0 := by rw [e_19]; exact kt_13
            try rw [show gp_wr (v5_2 + 1) = v5_2 + 1 from gp_wr_id (by omega) (by omega)]
            exact ih_2 _ _ _ hs_20 hf_21 kt_22 (by omega) (by omega)
          · have hz_24 : ¬ (gp_L s_9 (p0 + 1) (Int.toNat p1)) = 0#64 := fun q => h_15 ((gm_cmp0 _ _).mpr q)
            refine ⟨kt_13.2.1, ?_⟩
            refine ⟨(p0 + 1), (kt_13.tt hs_11).1.2.2.2.1.1, ?_⟩
            refine ⟨gin ((kt_13.tt hs_11).1.2.2.2.2.1.1) (by omega), ?_⟩
            have b_25 : bd (gp_L s_9 (p0 + 1) (Int.toNat p1)) p1 := bd_le ((kt_13.tt hs_11).1.2.2.2.2.2 (Int.toNat p1)).1.1 (by omega)
            refine xm_highestOf35 _ _ hs_11 (by omega) (by first | assumption | exact bd_le (by assumption) (by omega) | exact bd_0 _) (fun x_26 => ⟨_, rfl, ?_⟩)
            refine s_773_134 _ _ _ _ _ _ _ _ ?_
            refine ⟨by omega, ?_⟩
            intro s_28 e_29
            have hs_30 : XI L 0 s_28 := by rw [e_29]; exact xw34 hs_11 _ _
            have hf_31 : gX L false [34, 35] s s_28 := by rw [e_29]; exact gX.wI hf_12 (Or.inl rfl)
            have kt_32 : kT L s_28 p0 n_p0 := by rw [e_29]; exact kt_13
            try rw [show gp_wr (v5_2 + 1) = v5_2 + 1 from gp_wr_id (by omega) (by omega)]
            exact ih_2 _ _ _ hs_30 hf_31 kt_32 (by omega) (by omega)
        · refine ⟨kt_p0_s_2.2.1, ?_⟩
          refine ⟨(p0 + 2), (kt_p0_s_2.tt hs_s_2).1.2.2.2.1.2.1, ?_⟩
          refine ⟨gin ((kt_p0_s_2.tt hs_s_2).1.2.2.2.2.1.2.1) (by omega), ?_⟩
          have b_34 : bd (gp_L s_2 (p0 + 2) (Int.toNat p1)) p1 := bd_le ((kt_p0_s_2.tt hs_s_2).1.2.2.2.2.2 (Int.toNat p1)).1.2 (by omega)
          refine ⟨fun h_35 => ?_, fun h_35 => ?_⟩
          · have hz_36 : gp_L s_2 (p0 + 2) (Int.toNat p1) = 0#64 := (gm_cmp0 _ _).mp h_35
            refine ⟨kt_p0_s_2.2.1, ?_⟩
            refine ⟨(p0 + 4), (kt_p0_s_2.tt hs_s_2).1.2.2.2.1.2.2.2.1, ?_⟩
            refine ⟨gin ((kt_p0_s_2.tt hs_s_2).1.2.2.2.2.1.2.2.2.1) (by omega), ?_⟩
            refine s_773_78 _ _ _ _ _ _ ?_
            try rw [show gp_wr ((p1 * 61) + v5_2) = (p1 * 61) + v5_2 from gp_wr_id (by omega) (by omega)]
            refine ⟨by omega, ?_⟩
            intro s_38 e_39
            have hs_40 : XI L 0 s_38 := by rw [e_39]; exact xw35 hs_s_2 _ _
            have hf_41 : gX L false [34, 35] s s_38 := by rw [e_39]; exact gX.wI hf_s_2 (Or.inl rfl)
            have kt_42 : kT L s_38 p0 n_p0 := by rw [e_39]; exact kt_p0_s_2
            try rw [show gp_wr ((p1 * 61) + v5_2) = (p1 * 61) + v5_2 from gp_wr_id (by omega) (by omega)]
            refine ⟨p0, rfl, ?_⟩
            refine ⟨kt_42.2.1, ?_⟩
            refine ⟨(p0 + 1), (kt_42.tt hs_40).1.2.2.2.1.1, ?_⟩
            refine ⟨gin ((kt_42.tt hs_40).1.2.2.2.2.1.1) (by omega), ?_⟩
            have b_43 : bd (gp_L s_38 (p0 + 1) (Int.toNat p1)) p1 := bd_le ((kt_42.tt hs_40).1.2.2.2.2.2 (Int.toNat p1)).1.1 (by omega)
            refine ⟨fun h_44 => ?_, fun h_44 => ?_⟩
            · have hz_45 : gp_L s_38 (p0 + 1) (Int.toNat p1) = 0#64 := (gm_cmp0 _ _).mp h_44
              refine ⟨kt_42.2.1, ?_⟩
              refine ⟨(p0 + 3), (kt_42.tt hs_40).1.2.2.2.1.2.2.1, ?_⟩
              refine ⟨gin ((kt_42.tt hs_40).1.2.2.2.2.1.2.2.1) (by omega), ?_⟩
              refine s_773_134 _ _ _ _ _ _ _ _ ?_
              refine ⟨by omega, ?_⟩
              intro s_47 e_48
              have hs_49 : XI L 0 s_47 := by rw [e_48]; exact xw34 hs_40 _ _
              have hf_50 : gX L false [34, 35] s s_47 := by rw [e_48]; exact gX.wI hf_41 (Or.inl rfl)
              have kt_51 : kT L s_47 p0 n_p0 := by rw [e_48]; exact kt_42
              try rw [show gp_wr (v5_2 + 1) = v5_2 + 1 from gp_wr_id (by omega) (by omega)]
              exact ih_2 _ _ _ hs_49 hf_50 kt_51 (by omega) (by omega)
            · have hz_53 : ¬ (gp_L s_38 (p0 + 1) (Int.toNat p1)) = 0#64 := fun q => h_44 ((gm_cmp0 _ _).mpr q)
              refine ⟨kt_42.2.1, ?_⟩
              refine ⟨(p0 + 1), (kt_42.tt hs_40).1.2.2.2.1.1, ?_⟩
              refine ⟨gin ((kt_42.tt hs_40).1.2.2.2.2.1.1) (by omega), ?_⟩
              have b_54 : bd (gp_L s_38 (p0 + 1) (Int.toNat p1)) p1 := bd_le ((kt_42.tt hs_40).1.2.2.2.2.2 (Int.toNat p1)).1.1 (by omega)
              refine xm_highestOf35 _ _ hs_40 (by omega) (by first | assumption | exact bd_le (by assumption) (by omega) | exact bd_0 _) (fun x_55 => ⟨_, rfl, ?_⟩)
              refine s_773_134 _ _ _ _ _ _ _ _ ?_
              refine ⟨by omega, ?_⟩
              intro s_57 e_58
              have hs_59 : XI L 0 s_57 := by rw [e_58]; exact xw34 hs_40 _ _
              have hf_60 : gX L false [34, 35] s s_57 := by rw [e_58]; exact gX.wI hf_41 (Or.inl rfl)
              have kt_61 : kT L s_57 p0 n_p0 := by rw [e_58]; exact kt_42
              try rw [show gp_wr (v5_2 + 1) = v5_2 + 1 from gp_wr_id (by omega) (by omega)]
              exact ih_2 _ _ _ hs_59 hf_60 kt_61 (by omega) (by omega)
          · have hz_63 : ¬ (gp_L s_2 (p0 + 2) (Int.toNat p1)) = 0#64 := fun q => h_35 ((gm_cmp0 _ _).mpr q)
            refine s_773_78 _ _ _ _ _ _ ?_
            try rw [show gp_wr ((p1 * 61) + v5_2) = (p1 * 61) + v5_2 from gp_wr_id (by omega) (by omega)]
            refine ⟨by omega, ?_⟩
            intro s_65 e_66
            have hs_67 : XI L 0 s_65 := by rw [e_66]; exact xw35 hs_s_2 _ _
            have hf_68 : gX L false [34, 35] s s_65 := by rw [e_66]; exact gX.wI hf_s_2 (Or.inl rfl)
            have kt_69 : kT L s_65 p0 n_p0 := by rw [e_66]; exact kt_p0_s_2
            try rw [show gp_wr ((p1 * 61) + v5_2) = (p1 * 61) + v5_2 from gp_wr_id (by omega) (by omega)]
            refine ⟨p0, rfl, ?_⟩
            refine ⟨kt_69.2.1, ?_⟩
            refine ⟨(p0 + 1), (kt_69.tt hs_67).1.2.2.2.1.1, ?_⟩
            refine ⟨gin ((kt_69.tt hs_67).1.2.2.2.2.1.1) (by omega), ?_⟩
            have b_70 : bd (gp_L s_65 (p0 + 1) (Int.toNat p1)) p1 := bd_le ((kt_69.tt hs_67).1.2.2.2.2.2 (Int.toNat p1)).1.1 (by omega)
            refine ⟨fun h_71 => ?_, fun h_71 => ?_⟩
            · have hz_72 : gp_L s_65 (p0 + 1) (Int.toNat p1) = 0#64 := (gm_cmp0 _ _).mp h_71
              refine ⟨kt_69.2.1, ?_⟩
              refine ⟨(p0 + 3), (kt_69.tt hs_67).1.2.2.2.1.2.2.1, ?_⟩
              refine ⟨gin ((kt_69.tt hs_67).1.2.2.2.2.1.2.2.1) (by omega), ?_⟩
              refine s_773_134 _ _ _ _ _ _ _ _ ?_
              refine ⟨by omega, ?_⟩
              intro s_74 e_75
              have hs_76 : XI L 0 s_74 := by rw [e_75]; exact xw34 hs_67 _ _
              have hf_77 : gX L false [34, 35] s s_74 := by rw [e_75]; exact gX.wI hf_68 (Or.inl rfl)
              have kt_78 : kT L s_74 p0 n_p0 := by rw [e_75]; exact kt_69
              try rw [show gp_wr (v5_2 + 1) = v5_2 + 1 from gp_wr_id (by omega) (by omega)]
              exact ih_2 _ _ _ hs_76 hf_77 kt_78 (by omega) (by omega)
            · have hz_80 : ¬ (gp_L s_65 (p0 + 1) (Int.toNat p1)) = 0#64 := fun q => h_71 ((gm_cmp0 _ _).mpr q)
              refine ⟨kt_69.2.1, ?_⟩
              refine ⟨(p0 + 1), (kt_69.tt hs_67).1.2.2.2.1.1, ?_⟩
              refine ⟨gin ((kt_69.tt hs_67).1.2.2.2.2.1.1) (by omega), ?_⟩
              have b_81 : bd (gp_L s_65 (p0 + 1) (Int.toNat p1)) p1 := bd_le ((kt_69.tt hs_67).1.2.2.2.2.2 (Int.toNat p1)).1.1 (by omega)
              refine xm_highestOf35 _ _ hs_67 (by omega) (by first | assumption | exact bd_le (by assumption) (by omega) | exact bd_0 _) (fun x_82 => ⟨_, rfl, ?_⟩)
              refine s_773_134 _ _ _ _ _ _ _ _ ?_
              refine ⟨by omega, ?_⟩
              intro s_84 e_85
              have hs_86 : XI L 0 s_84 := by rw [e_85]; exact xw34 hs_67 _ _
              have hf_87 : gX L false [34, 35] s s_84 := by rw [e_85]; exact gX.wI hf_68 (Or.inl rfl)
              have kt_88 : kT L s_84 p0 n_p0 := by rw [e_85]; exact kt_69
              try rw [show gp_wr (v5_2 + 1) = v5_2 + 1 from gp_wr_id (by omega) (by omega)]
              exact ih_2 _ _ _ hs_86 hf_87 kt_88 (by omega) (by omega)
  exact lp_2 _ _ _ _ hs (gX.refl _ _ _ _) q0 (by omega) (Nat.lt_succ_self _)
set_option maxRecDepth 100000 in
/-- Measures.measure -/
theorem xm_measure  {L d : Nat} {K : Option gV → gH → Prop} {s : gH} (n_p0 : Nat) (p0 : Nat) (p1 : Int) (p2 : Int) (hs : XI L 0 s) (h_p1 : 0 ≤ p1 ∧ p1 ≤ 59) (h_p2 : 0 ≤ p2 ∧ p2 ≤ 60) (q0 : kT L s p0 n_p0) (q1 : kB L s p0) (q2 : p1 < n_p0) (k : ∀ (t : gH), XI L 0 t → gX L false [16, 17, 18, 19, 32, 33, 34, 35] s t → K none t) : gs_C L (d + 4) 771 6 [gp_r (some 31), gp_r (some p0), gp_i p1, gp_i p2] s K := by
  have hn_p0 := q0.n hs
  refine s_771_e _ _ _ ?_
  refine xm_addWaits n_p0 _ _ _ hs (by omega) (by omega) (by first | assumption | exact kT7 hs.1.1 | exact kT25 hs.1.1) (by first | omega | assumption) (fun s_1 hs_2 hf_3 => ⟨rfl, ?_⟩)
  have hf_4 : gX L false [16, 17, 18, 19, 32, 33, 34, 35] s s_1 := gX.sub hf_3 rfl rfl
  have kt_5 : kT L s_1 p0 n_p0 := q0.fr hf_3.1
  have kb_6 : kB L s_1 p0 := q1.fr hf_3.1
  refine xm_addNegatives n_p0 _ _ _ hs_2 (by omega) (by omega) (by first | assumption | exact kT7 hs_2.1.1 | exact kT25 hs_2.1.1) (by first | omega | assumption) (fun s_7 hs_8 hf_9 => ⟨rfl, ?_⟩)
  have hf_10 : gX L false [16, 17, 18, 19, 32, 33, 34, 35] s s_7 := gX.trans hf_4 hf_9 rfl rfl
  have kt_11 : kT L s_7 p0 n_p0 := kt_5.fr hf_9.1
  have kb_12 : kB L s_7 p0 := kb_6.fr hf_9.1
  try rw [show gp_wr (p1 * 61) = p1 * 61 from gp_wr_id (by omega) (by omega)]
  refine ⟨p0, rfl, ?_⟩
  refine ⟨kt_11.2.1, ?_⟩
  refine ⟨by omega, ?_⟩
  obtain ⟨b_13, rb_13, lb_13, hb_13, tb_13, cb_13⟩ := (kb_12.bb (kt_11.tt hs_8)).2.1
  refine ⟨b_13, rb_13, ?_⟩
  refine ⟨gin hb_13 (by omega), ?_⟩
  intro s_14 e_15
  have hs_16 : XI L 0 s_14 := by rw [e_15]; exact XI.nt hs_8 _ _ _ (by rw [hb_13]) tb_13 (xPb cb_13)
  have hf_17 : gX L false [16, 17, 18, 19, 32, 33, 34, 35] s s_14 := by rw [e_15]; exact gX.wI hf_10 (gXb cb_13 rfl)
  have kt_18 : kT L s_14 p0 n_p0 := by rw [e_15]; exact kt_11
  have kb_19 : kB L s_14 p0 := by rw [e_15]; exact kb_12
  refine ⟨kt_18.2.1, ?_⟩
  obtain ⟨b_20, rb_20, lb_20, hb_20, tb_20, cb_20⟩ := (kb_19.bb (kt_18.tt hs_16)).2.2.1
  refine ⟨b_20, rb_20, ?_⟩
  refine ⟨gin hb_20 (by omega), ?_⟩
  intro s_21 e_22
  have hs_23 : XI L 0 s_21 := by rw [e_22]; exact XI.nt hs_16 _ _ _ (by rw [hb_20]) tb_20 (xPb cb_20)
  have hf_24 : gX L false [16, 17, 18, 19, 32, 33, 34, 35] s s_21 := by rw [e_22]; exact gX.wI hf_17 (gXb cb_20 rfl)
  have kt_25 : kT L s_21 p0 n_p0 := by rw [e_22]; exact kt_18
  have kb_26 : kB L s_21 p0 := by rw [e_22]; exact kb_19
  refine ⟨kt_25.2.1, ?_⟩
  refine ⟨by omega, ?_⟩
  obtain ⟨b_27, rb_27, lb_27, hb_27, tb_27, cb_27⟩ := (kb_26.bb (kt_25.tt hs_23)).1
  refine ⟨b_27, rb_27, ?_⟩
  refine ⟨gin hb_27 (by omega), ?_⟩
  intro s_28 e_29
  have hs_30 : XI L 0 s_28 := by rw [e_29]; exact XI.nt hs_23 _ _ _ (by rw [hb_27]) tb_27 (xPb cb_27)
  have hf_31 : gX L false [16, 17, 18, 19, 32, 33, 34, 35] s s_28 := by rw [e_29]; exact gX.wI hf_24 (gXb cb_27 rfl)
  have kt_32 : kT L s_28 p0 n_p0 := by rw [e_29]; exact kt_25
  have kb_33 : kB L s_28 p0 := by rw [e_29]; exact kb_26
  refine ⟨kt_32.2.1, ?_⟩
  obtain ⟨b_34, rb_34, lb_34, hb_34, tb_34, cb_34⟩ := (kb_33.bb (kt_32.tt hs_30)).2.2.2
  refine ⟨b_34, rb_34, ?_⟩
  refine ⟨gin hb_34 (by omega), ?_⟩
  intro s_35 e_36
  have hs_37 : XI L 0 s_35 := by rw [e_36]; exact XI.nt hs_30 _ _ _ (by rw [hb_34]) tb_34 (xPb cb_34)
  have hf_38 : gX L false [16, 17, 18, 19, 32, 33, 34, 35] s s_35 := by rw [e_36]; exact gX.wI hf_31 (gXb cb_34 rfl)
  have kt_39 : kT L s_35 p0 n_p0 := by rw [e_36]; exact kt_32
  have kb_40 : kB L s_35 p0 := by rw [e_36]; exact kb_33
  have lp_42 : ∀ (n_42 : Nat) (v5_42 : Int) (s_42 : gH), (XI L 0 s_42) → (gX L false [16, 17, 18, 19, 32, 33, 34, 35] s s_42) → (kT L s_42 p0 n_p0) → (kB L s_42 p0) → (1 ≤ v5_42 ∧ v5_42 ≤ 61) → (62 - v5_42).toNat < n_42 → gs_E L (d + 4) 771 63 [gp_r (some 31), gp_r (some p0), gp_i p1, gp_i p2, gp_i (p1 * 61), gp_i v5_42] [] s_42 K := by
    intro n_42
    induction n_42 with
    | zero => intro v5_42 s_42 hs_s_42 hf_s_42 kt_p0_s_42 kb_p0_s_42 hv5_42 hm_42; exact absurd hm_42 (Nat.not_lt_zero _)
    | succ n_42 ih_42 =>
      intro v5_42 s_42 hs_s_42 hf_s_42 kt_p0_s_42 kb_p0_s_42 hv5_42 hm_42
      refine s_771_63 _ _ _ _ _ ?_
      refine ⟨p0, rfl, ?_⟩
      refine ⟨kt_p0_s_42.2.1, ?_⟩
      refine ⟨(p0 + 5), (kt_p0_s_42.tt hs_s_42).1.2.2.2.1.2.2.2.2, ?_⟩
      refine ⟨gin ((kt_p0_s_42.tt hs_s_42).1.2.2.2.2.1.2.2.2.2) (by omega), ?_⟩
      have f_43 := ((kt_p0_s_42.tt hs_s_42).1.2.2.2.2.2 (Int.toNat p1)).2
      try rw [show gp_wr ((gp_I s_42 (p0 + 5) (Int.toNat p1)) + 1) = (gp_I s_42 (p0 + 5) (Int.toNat p1)) + 1 from gp_wr_id (by omega) (by omega)]
      refine ⟨fun h_44 => ?_, fun h_44 => ?_⟩
      · exact k s_42 hs_s_42 hf_s_42
      · try rw [show gp_wr ((p1 * 61) + v5_42) = (p1 * 61) + v5_42 from gp_wr_id (by omega) (by omega)]
        refine ⟨by omega, ?_⟩
        refine ⟨kt_p0_s_42.2.1, ?_⟩
        obtain ⟨b_45, rb_45, lb_45, hb_45, tb_45, cb_45⟩ := (kb_p0_s_42.bb (kt_p0_s_42.tt hs_s_42)).2.1
        refine ⟨b_45, rb_45, ?_⟩
        refine ⟨gin hb_45 (by omega), ?_⟩
        refine ⟨fun h_46 => ?_, fun h_46 => ?_⟩
        · refine ⟨kt_p0_s_42.2.1, ?_⟩
          try rw [show gp_wr ((p1 * 61) + v5_42) = (p1 * 61) + v5_42 from gp_wr_id (by omega) (by omega)]
          refine ⟨by omega, ?_⟩
          obtain ⟨b_47, rb_47, lb_47, hb_47, tb_47, cb_47⟩ := (kb_p0_s_42.bb (kt_p0_s_42.tt hs_s_42)).2.1
          refine ⟨b_47, rb_47, ?_⟩
          refine ⟨gin hb_47 (by omega), ?_⟩
          intro s_48 e_49
          have hs_50 : XI L 0 s_48 := by rw [e_49]; exact XI.nt hs_s_42 _ _ _ (by rw [hb_47]) tb_47 (xPb cb_47)
          have hf_51 : gX L false [16, 17, 18, 19, 32, 33, 34, 35] s s_48 := by rw [e_49]; exact gX.wI hf_s_42 (gXb cb_47 rfl)
          have kt_52 : kT L s_48 p0 n_p0 := by rw [e_49]; exact kt_p0_s_42
          have kb_53 : kB L s_48 p0 := by rw [e_49]; exact kb_p0_s_42
          refine ⟨kt_52.2.1, ?_⟩
          obtain ⟨b_54, rb_54, lb_54, hb_54, tb_54, cb_54⟩ := (kb_53.bb (kt_52.tt hs_50)).2.2.1
          refine ⟨b_54, rb_54, ?_⟩
          refine ⟨gin hb_54 (by omega), ?_⟩
          intro s_55 e_56
          have hs_57 : XI L 0 s_55 := by rw [e_56]; exact XI.nt hs_50 _ _ _ (by rw [hb_54]) tb_54 (xPb cb_54)
          have hf_58 : gX L false [16, 17, 18, 19, 32, 33, 34, 35] s s_55 := by rw [e_56]; exact gX.wI hf_51 (gXb cb_54 rfl)
          have kt_59 : kT L s_55 p0 n_p0 := by rw [e_56]; exact kt_52
          have kb_60 : kB L s_55 p0 := by rw [e_56]; exact kb_53
          refine s_771_119 _ _ _ _ _ ?_
          try rw [show gp_wr ((p1 * 61) + v5_42) = (p1 * 61) + v5_42 from gp_wr_id (by omega) (by omega)]
          refine ⟨by omega, ?_⟩
          refine ⟨p0, rfl, ?_⟩
          refine ⟨kt_59.2.1, ?_⟩
          obtain ⟨b_62, rb_62, lb_62, hb_62, tb_62, cb_62⟩ := (kb_60.bb (kt_59.tt hs_57)).1
          refine ⟨b_62, rb_62, ?_⟩
          refine ⟨gin hb_62 (by omega), ?_⟩
          refine ⟨fun h_63 => ?_, fun h_63 => ?_⟩
          · refine ⟨kt_59.2.1, ?_⟩
            try rw [show gp_wr ((p1 * 61) + v5_42) = (p1 * 61) + v5_42 from gp_wr_id (by omega) (by omega)]
            refine ⟨by omega, ?_⟩
            obtain ⟨b_64, rb_64, lb_64, hb_64, tb_64, cb_64⟩ := (kb_60.bb (kt_59.tt hs_57)).1
            refine ⟨b_64, rb_64, ?_⟩
            refine ⟨gin hb_64 (by omega), ?_⟩
            intro s_65 e_66
            have hs_67 : XI L 0 s_65 := by rw [e_66]; exact XI.nt hs_57 _ _ _ (by rw [hb_64]) tb_64 (xPb cb_64)
            have hf_68 : gX L false [16, 17, 18, 19, 32, 33, 34, 35] s s_65 := by rw [e_66]; exact gX.wI hf_58 (gXb cb_64 rfl)
            have kt_69 : kT L s_65 p0 n_p0 := by rw [e_66]; exact kt_59
            have kb_70 : kB L s_65 p0 := by rw [e_66]; exact kb_60
            refine ⟨kt_69.2.1, ?_⟩
            obtain ⟨b_71, rb_71, lb_71, hb_71, tb_71, cb_71⟩ := (kb_70.bb (kt_69.tt hs_67)).2.2.2
            refine ⟨b_71, rb_71, ?_⟩
            refine ⟨gin hb_71 (by omega), ?_⟩
            intro s_72 e_73
            have hs_74 : XI L 0 s_72 := by rw [e_73]; exact XI.nt hs_67 _ _ _ (by rw [hb_71]) tb_71 (xPb cb_71)
            have hf_75 : gX L false [16, 17, 18, 19, 32, 33, 34, 35] s s_72 := by rw [e_73]; exact gX.wI hf_68 (gXb cb_71 rfl)
            have kt_76 : kT L s_72 p0 n_p0 := by rw [e_73]; exact kt_69
            have kb_77 : kB L s_72 p0 := by rw [e_73]; exact kb_70
            refine s_771_162 _ _ _ _ _ ?_
            try rw [show gp_wr (v5_42 + 1) = v5_42 + 1 from gp_wr_id (by omega) (by omega)]
            exact ih_42 _ _ hs_74 hf_75 kt_76 kb_77 (by omega) (by omega)
          · refine s_771_162 _ _ _ _ _ ?_
            try rw [show gp_wr (v5_42 + 1) = v5_42 + 1 from gp_wr_id (by omega) (by omega)]
            exact ih_42 _ _ hs_57 hf_58 kt_59 kb_60 (by omega) (by omega)
        · refine s_771_119 _ _ _ _ _ ?_
          try rw [show gp_wr ((p1 * 61) + v5_42) = (p1 * 61) + v5_42 from gp_wr_id (by omega) (by omega)]
          refine ⟨by omega, ?_⟩
          refine ⟨p0, rfl, ?_⟩
          refine ⟨kt_p0_s_42.2.1, ?_⟩
          obtain ⟨b_83, rb_83, lb_83, hb_83, tb_83, cb_83⟩ := (kb_p0_s_42.bb (kt_p0_s_42.tt hs_s_42)).1
          refine ⟨b_83, rb_83, ?_⟩
          refine ⟨gin hb_83 (by omega), ?_⟩
          refine ⟨fun h_84 => ?_, fun h_84 => ?_⟩
          · refine ⟨kt_p0_s_42.2.1, ?_⟩
            try rw [show gp_wr ((p1 * 61) + v5_42) = (p1 * 61) + v5_42 from gp_wr_id (by omega) (by omega)]
            refine ⟨by omega, ?_⟩
            obtain ⟨b_85, rb_85, lb_85, hb_85, tb_85, cb_85⟩ := (kb_p0_s_42.bb (kt_p0_s_42.tt hs_s_42)).1
            refine ⟨b_85, rb_85, ?_⟩
            refine ⟨gin hb_85 (by omega), ?_⟩
            intro s_86 e_87
            have hs_88 : XI L 0 s_86 := by rw [e_87]; exact XI.nt hs_s_42 _ _ _ (by rw [hb_85]) tb_85 (xPb cb_85)
            have hf_89 : gX L false [16, 17, 18, 19, 32, 33, 34, 35] s s_86 := by rw [e_87]; exact gX.wI hf_s_42 (gXb cb_85 rfl)
            have kt_90 : kT L s_86 p0 n_p0 := by rw [e_87]; exact kt_p0_s_42
            have kb_91 : kB L s_86 p0 := by rw [e_87]; exact kb_p0_s_42
            refine ⟨kt_90.2.1, ?_⟩
            obtain ⟨b_92, rb_92, lb_92, hb_92, tb_92, cb_92⟩ := (kb_91.bb (kt_90.tt hs_88)).2.2.2
            refine ⟨b_92, rb_92, ?_⟩
            refine ⟨gin hb_92 (by omega), ?_⟩
            intro s_93 e_94
            have hs_95 : XI L 0 s_93 := by rw [e_94]; exact XI.nt hs_88 _ _ _ (by rw [hb_92]) tb_92 (xPb cb_92)
            have hf_96 : gX L false [16, 17, 18, 19, 32, 33, 34, 35] s s_93 := by rw [e_94]; exact gX.wI hf_89 (gXb cb_92 rfl)
            have kt_97 : kT L s_93 p0 n_p0 := by rw [e_94]; exact kt_90
            have kb_98 : kB L s_93 p0 := by rw [e_94]; exact kb_91
            refine s_771_162 _ _ _ _ _ ?_
            try rw [show gp_wr (v5_42 + 1) = v5_42 + 1 from gp_wr_id (by omega) (by omega)]
            exact ih_42 _ _ hs_95 hf_96 kt_97 kb_98 (by omega) (by omega)
          · refine s_771_162 _ _ _ _ _ ?_
            try rw [show gp_wr (v5_42 + 1) = v5_42 + 1 from gp_wr_id (by omega) (by omega)]
            exact ih_42 _ _ hs_s_42 hf_s_42 kt_p0_s_42 kb_p0_s_42 (by omega) (by omega)
  exact lp_42 _ _ _ hs_37 hf_38 kt_39 kb_40 (by omega) (Nat.lt_succ_self _)
set_option maxRecDepth 100000 in
/-- Measures.bound -/
theorem xm_bound  {L d : Nat} {K : Option gV → gH → Prop} {s : gH} (n_p0 : Nat) (p0 : Nat) (hs : XI L 0 s)  (q0 : kT L s p0 n_p0) (q1 : n_p0 ≤ 60) (k : ∀ (t : gH), XI L 0 t → gX L true [16, 17, 18, 19, 32, 33, 34, 35, 1806, 1807, 1808, 1809] s t → (kB L t p0) → (gp_sz t ≤ gp_sz s + 4) → (gp_us t ≤ gp_us s + 240) → K none t) : gs_C L (d + 5) 770 4 [gp_r (some 31), gp_r (some p0)] s K := by
  have hn_p0 := q0.n hs
  refine s_770_e _ ?_
  refine ⟨p0, rfl, ?_⟩
  refine ⟨q0.2.1, ?_⟩
  refine ⟨fun hq_1 => ?_, fun q_2 hq_1 => ?_⟩
  · refine ⟨q0.2.1, ?_⟩
    refine xm_mb n_p0 _ hs (by first | assumption | exact kT7 hs.1.1 | exact kT25 hs.1.1) (by first | omega | assumption) (fun s_3 hs_4 hf_5 p_6 p_7 p_8 => ⟨rfl, ?_⟩)
    have hf_9 : gX L true [16, 17, 18, 19, 32, 33, 34, 35, 1806, 1807, 1808, 1809] s s_3 := gX.sub hf_5 rfl rfl
    have kt_10 : kT L s_3 p0 n_p0 := q0.fr hf_5.1
    refine ⟨kt_10.2.1, ?_⟩
    refine ⟨kt_10.2.1, ?_⟩
    refine xm_root n_p0 _ hs_4 (by first | assumption | exact kT7 hs_4.1.1 | exact kT25 hs_4.1.1) (fun x_11 p_12 p_13 => ⟨_, rfl, ?_⟩)
    refine ⟨(p0 + 5), (kt_10.tt hs_4).1.2.2.2.1.2.2.2.2, ?_⟩
    refine ⟨gin ((kt_10.tt hs_4).1.2.2.2.2.1.2.2.2.2) (by omega), ?_⟩
    have f_14 := ((kt_10.tt hs_4).1.2.2.2.2.2 (Int.toNat x_11)).2
    try rw [show gp_wr ((gp_I s_3 (p0 + 5) (Int.toNat x_11)) + 1) = (gp_I s_3 (p0 + 5) (Int.toNat x_11)) + 1 from gp_wr_id (by omega) (by omega)]
    have lp_16 : ∀ (n_16 : Nat) (v3_16 : Int) (s_16 : gH), (XI L 0 s_16) → (gX L true [16, 17, 18, 19, 32, 33, 34, 35, 1806, 1807, 1808, 1809] s s_16) → (kT L s_16 p0 n_p0) → (kB L s_16 p0) → (gp_sz s_16 ≤ gp_sz s + 4 ∧ gp_us s_16 ≤ gp_us s + 240) → (0 ≤ v3_16 ∧ v3_16 ≤ 60) → (61 - v3_16).toNat < n_16 → gs_E L (d + 5) 770 25 [gp_r (some 31), gp_r (some p0), gp_i ((gp_I s_3 (p0 + 5) (Int.toNat x_11)) + 1), gp_i v3_16] [] s_16 K := by
      intro n_16
      induction n_16 with
      | zero => intro v3_16 s_16 hs_s_16 hf_s_16 kt_p0_s_16 kb_p0_s_16 rm_s_16 hv3_16 hm_16; exact absurd hm_16 (Nat.not_lt_zero _)
      | succ n_16 ih_16 =>
        intro v3_16 s_16 hs_s_16 hf_s_16 kt_p0_s_16 kb_p0_s_16 rm_s_16 hv3_16 hm_16
        refine s_770_25 _ _ _ ?_
        refine ⟨p0, rfl, ?_⟩
        refine ⟨kt_p0_s_16.2.1, ?_⟩
        have f_17 := (kt_p0_s_16.tt hs_s_16).1.2.2.1
        have f_18 := kt_p0_s_16.n hs_s_16
        refine ⟨fun h_19 => ?_, fun h_19 => ?_⟩
        · refine xm_measure n_p0 _ _ _ hs_s_16 (by omega) (by omega) (by first | assumption | exact kT7 hs_s_16.1.1 | exact kT25 hs_s_16.1.1) (by first | assumption | exact kB7 hs_s_16.1.1) (by first | omega | assumption) (fun s_20 hs_21 hf_22 => ⟨rfl, ?_⟩)
          have hf_23 : gX L true [16, 17, 18, 19, 32, 33, 34, 35, 1806, 1807, 1808, 1809] s s_20 := gX.trans hf_s_16 hf_22 rfl rfl
          have kt_24 : kT L s_20 p0 n_p0 := kt_p0_s_16.fr hf_22.1
          have kb_25 : kB L s_20 p0 := kb_p0_s_16.fr hf_22.1
          have z_26 : gp_sz s_20 = gp_sz s_16 ∧ gp_us s_20 = gp_us s_16 := hf_22.2.1 rfl
          try rw [show gp_wr (v3_16 + 1) = v3_16 + 1 from gp_wr_id (by omega) (by omega)]
          exact ih_16 _ _ hs_21 hf_23 kt_24 kb_25 (by omega) (by omega) (by omega)
        · refine s_770_46 _ _ _ ?_
          exact k s_16 hs_s_16 hf_s_16 (by first | assumption | exact kB7 hs_s_16.1.1) (by first | omega | assumption) (by first | omega | assumption)
    exact lp_16 _ _ _ hs_4 hf_9 kt_10 p_6 (by omega) (by omega) (Nat.lt_succ_self _)
  · have kb_29 : kB L s p0 := ⟨by have := q0.1; omega, q0.2.1, _, hq_1⟩
    refine s_770_46 _ _ _ ?_
    exact k s hs (gX.refl _ _ _ _) (by first | assumption | exact kB7 hs.1.1) (by first | omega | assumption) (by first | omega | assumption)
set_option maxRecDepth 100000 in
/-- Measures.worth -/
theorem xm_worth  {L d : Nat} {K : Option gV → gH → Prop} {s : gH} (n_p0 : Nat) (p0 : Nat) (p1 : Int) (hs : XI L 0 s)  (q0 : kT L s p0 n_p0) (q1 : n_p0 ≤ 60) (k : ∀ (r : Int), ∀ (t : gH), XI L 0 t → gX L false [32, 33] s t → K (some (gp_i r)) t) : gs_C L (d + 4) 769 4 [gp_r (some 31), gp_r (some p0), gp_i p1] s K := by
  have hn_p0 := q0.n hs
  refine s_769_e _ _ ?_
  have lp_2 : ∀ (n_2 : Nat) (v3_2 : Int) (s_2 : gH), (XI L 0 s_2) → (gX L false [32, 33] s s_2) → (kT L s_2 p0 n_p0) → (0 ≤ v3_2 ∧ v3_2 ≤ 60) → (61 - v3_2).toNat < n_2 → gs_E L (d + 4) 769 2 [gp_r (some 31), gp_r (some p0), gp_i p1, gp_i v3_2] [] s_2 K := by
    intro n_2
    induction n_2 with
    | zero => intro v3_2 s_2 hs_s_2 hf_s_2 kt_p0_s_2 hv3_2 hm_2; exact absurd hm_2 (Nat.not_lt_zero _)
    | succ n_2 ih_2 =>
      intro v3_2 s_2 hs_s_2 hf_s_2 kt_p0_s_2 hv3_2 hm_2
      refine s_769_2 _ _ _ ?_
      refine ⟨p0, rfl, ?_⟩
      refine ⟨kt_p0_s_2.2.1, ?_⟩
      have f_3 := (kt_p0_s_2.tt hs_s_2).1.2.2.1
      have f_4 := kt_p0_s_2.n hs_s_2
      refine ⟨fun h_5 => ?_, fun h_5 => ?_⟩
      · refine xm_addWaits n_p0 _ _ _ hs_s_2 (by omega) (by omega) (by first | assumption | exact kT7 hs_s_2.1.1 | exact kT25 hs_s_2.1.1) (by first | omega | assumption) (fun s_6 hs_7 hf_8 => ⟨rfl, ?_⟩)
        have hf_9 : gX L false [32, 33] s s_6 := gX.trans hf_s_2 hf_8 rfl rfl
        have kt_10 : kT L s_6 p0 n_p0 := kt_p0_s_2.fr hf_8.1
        try rw [show gp_wr (v3_2 + 1) = v3_2 + 1 from gp_wr_id (by omega) (by omega)]
        exact ih_2 _ _ hs_7 hf_9 kt_10 (by omega) (by omega)
      · refine ⟨kt_p0_s_2.2.1, ?_⟩
        refine xm_root n_p0 _ hs_s_2 (by first | assumption | exact kT7 hs_s_2.1.1 | exact kT25 hs_s_2.1.1) (fun x_12 p_13 p_14 => ⟨_, rfl, ?_⟩)
        try rw [show gp_wr (x_12 * 61) = x_12 * 61 from gp_wr_id (by omega) (by omega)]
        refine ⟨fun h_15 => ?_, fun h_15 => ?_⟩
        · refine ⟨by omega, ?_⟩
          refine s_769_50 _ _ _ _ ?_
          exact k _ s_2 hs_s_2 hf_s_2
        · refine ⟨by omega, ?_⟩
          refine s_769_50 _ _ _ _ ?_
          exact k _ s_2 hs_s_2 hf_s_2
  exact lp_2 _ _ _ hs (gX.refl _ _ _ _) q0 (by omega) (Nat.lt_succ_self _)
set_option maxRecDepth 100000 in
/-- Measures.spread -/
theorem xm_spread  {L d : Nat} {K : Option gV → gH → Prop} {s : gH} (n_p0 : Nat) (p0 : Nat) (p1 : Int) (hs : XI L 0 s) (h_p1 : 0 ≤ p1 ∧ p1 ≤ 59) (q0 : kT L s p0 n_p0) (q1 : n_p0 ≤ 60) (q2 : p1 < n_p0) (k : ∀ (t : gH), XI L 0 t → gX L false [36, 37] s t → K none t) : gs_C L (d + 2) 777 8 [gp_r (some 31), gp_r (some p0), gp_i p1] s K := by
  have hn_p0 := q0.n hs
  refine s_777_e _ _ ?_
  have lp_2 : ∀ (n_2 : Nat) (v3_2 : Int) (v4_2 : Int) (v5_2 : Int) (v6_2 : gV) (v7_2 : gV), (0 ≤ v5_2 ∧ v5_2 ≤ 2) → (3 - v5_2).toNat < n_2 → gs_E L (d + 2) 777 10 [gp_r (some 31), gp_r (some p0), gp_i p1, gp_i v3_2, gp_i v4_2, gp_i v5_2, v6_2, v7_2] [] s K := by
    intro n_2
    induction n_2 with
    | zero => intro v3_2 v4_2 v5_2 v6_2 v7_2 hv5_2 hm_2; exact absurd hm_2 (Nat.not_lt_zero _)
    | succ n_2 ih_2 =>
      intro v3_2 v4_2 v5_2 v6_2 v7_2 hv5_2 hm_2
      refine s_777_10 _ _ _ _ _ _ _ ?_
      refine ⟨fun h_3 => ?_, fun h_3 => ?_⟩
      · refine ⟨p0, rfl, ?_⟩
        refine ⟨q0.2.1, ?_⟩
        refine xm_options n_p0 _ _ _ hs (by omega) (by first | assumption | exact kT7 hs.1.1 | exact kT25 hs.1.1) (by first | omega | assumption) (fun m_4 p_5 p_6 => ⟨_, rfl, ?_⟩)
        refine ⟨fun h_7 => ?_, fun h_7 => ?_⟩
        · have hz_8 : m_4 = 0#64 := (gm_cmp0 _ _).mp h_7
          refine ⟨q0.2.1, ?_⟩
          refine xm_shutNumber n_p0 _ _ _ hs (by omega) (by first | assumption | exact kT7 hs.1.1 | exact kT25 hs.1.1) (by first | omega | assumption) (fun x_9 => ⟨_, rfl, ?_⟩)
          have w_10 := gz_mi (v3_2) (x_9)
          refine ⟨q0.2.1, ?_⟩
          refine xm_shutNumber n_p0 _ _ _ hs (by omega) (by first | assumption | exact kT7 hs.1.1 | exact kT25 hs.1.1) (by first | omega | assumption) (fun x_11 => ⟨_, rfl, ?_⟩)
          have w_12 := gz_mx (v4_2) (x_11)
          refine s_777_54 _ _ _ _ _ _ _ ?_
          try rw [show gp_wr (v5_2 + 1) = v5_2 + 1 from gp_wr_id (by omega) (by omega)]
          exact ih_2 _ _ _ _ _ (by omega) (by omega)
        · have hz_15 : ¬ m_4 = 0#64 := fun q => h_7 ((gm_cmp0 _ _).mpr q)
          refine s_777_54 _ _ _ _ _ _ _ ?_
          try rw [show gp_wr (v5_2 + 1) = v5_2 + 1 from gp_wr_id (by omega) (by omega)]
          exact ih_2 _ _ _ _ _ (by omega) (by omega)
      · refine ⟨p0, rfl, ?_⟩
        refine ⟨q0.2.1, ?_⟩
        refine ⟨(p0 + 1), (q0.tt hs).1.2.2.2.1.1, ?_⟩
        refine ⟨gin ((q0.tt hs).1.2.2.2.2.1.1) (by omega), ?_⟩
        have b_18 : bd (gp_L s (p0 + 1) (Int.toNat p1)) p1 := bd_le ((q0.tt hs).1.2.2.2.2.2 (Int.toNat p1)).1.1 (by omega)
        refine ⟨q0.2.1, ?_⟩
        refine ⟨(p0 + 2), (q0.tt hs).1.2.2.2.1.2.1, ?_⟩
        refine ⟨gin ((q0.tt hs).1.2.2.2.2.1.2.1) (by omega), ?_⟩
        have b_19 : bd (gp_L s (p0 + 2) (Int.toNat p1)) p1 := bd_le ((q0.tt hs).1.2.2.2.2.2 (Int.toNat p1)).1.2 (by omega)
        have lp_21 : ∀ (n_21 : Nat) (v3_21 : Int) (v4_21 : Int) (v5_21 : BitVec 64) (v7_21 : gV), (sub v5_21 (gp_L s (p0 + 1) (Int.toNat p1) ||| gp_L s (p0 + 2) (Int.toNat p1))) → ((v5_21).toNat) < n_21 → gs_E L (d + 2) 777 75 [gp_r (some 31), gp_r (some p0), gp_i p1, gp_i v3_21, gp_i v4_21, gp_l v5_21, gp_n, v7_21] [] s K := by
          intro n_21
          induction n_21 with
          | zero => intro v3_21 v4_21 v5_21 v7_21 iv0_21 hm_21; exact absurd hm_21 (Nat.not_lt_zero _)
          | succ n_21 ih_21 =>
            intro v3_21 v4_21 v5_21 v7_21 iv0_21 hm_21
            refine s_777_75 _ _ _ _ _ _ ?_
            refine ⟨fun h_22 => ?_, fun h_22 => ?_⟩
            · have hz_23 : v5_21 = 0#64 := (gm_cmp0 _ _).mp h_22
              refine ⟨by omega, ?_⟩
              intro s_24 e_25
              have hs_26 : XI L 0 s_24 := by rw [e_25]; exact xw36 hs _ _
              have hf_27 : gX L false [36, 37] s s_24 := by rw [e_25]; exact gX.wI (gX.refl _ _ _ _) (Or.inl rfl)
              have kt_28 : kT L s_24 p0 n_p0 := by rw [e_25]; exact q0
              refine ⟨by omega, ?_⟩
              intro s_29 e_30
              have hs_31 : XI L 0 s_29 := by rw [e_30]; exact xw37 hs_26 _ _
              have hf_32 : gX L false [36, 37] s s_29 := by rw [e_30]; exact gX.wI hf_27 (Or.inl rfl)
              have kt_33 : kT L s_29 p0 n_p0 := by rw [e_30]; exact kt_28
              exact k s_29 hs_31 hf_32
            · have hz_34 : ¬ v5_21 = 0#64 := fun q => h_22 ((gm_cmp0 _ _).mpr q)
              refine xm_lowest _ (fun x_35 p_36 p_37 => ⟨_, rfl, ?_⟩)
              have hlw := iv0_21.low (by assumption) p_37
              have hl0 := (bd_or (‹bd (gp_L s (p0 + 1) (Int.toNat p1)) p1›) (‹bd (gp_L s (p0 + 2) (Int.toNat p1)) p1›)) _ hlw.2.2
              refine ⟨by omega, ?_⟩
              have w_38 := gz_mi (v3_21) (gp_I s 36 (Int.toNat x_35))
              refine ⟨by omega, ?_⟩
              have w_39 := gz_mx (v4_21) (gp_I s 37 (Int.toNat x_35))
              exact ih_21 _ _ _ _ (by first | assumption | exact sub.refl _ | exact sub.rest (by assumption)) (by have := rest_lt (by assumption : ¬ v5_21 = 0#64); omega)
        exact lp_21 _ _ _ _ _ (by first | assumption | exact sub.refl _ | exact sub.rest (by assumption)) (Nat.lt_succ_self _)
  exact lp_2 _ _ _ _ _ _ (by omega) (Nat.lt_succ_self _)
set_option maxRecDepth 100000 in
/-- Measures.sure -/
theorem xm_sure  {L d : Nat} {K : Option gV → gH → Prop} {s : gH} (n_p0 : Nat) (p0 : Nat) (hs : XI L 0 s)  (q0 : kT L s p0 n_p0) (q1 : n_p0 ≤ 60) (k : ∀ (r : Int), ∀ (t : gH), XI L 0 t → gX L false [36, 37] s t → (0 ≤ r ∧ r ≤ 1) → K (some (gp_i r)) t) : gs_C L (d + 3) 776 3 [gp_r (some 31), gp_r (some p0)] s K := by
  have hn_p0 := q0.n hs
  refine s_776_e _ ?_
  have lp_2 : ∀ (n_2 : Nat) (v2_2 : Int) (s_2 : gH), (XI L 0 s_2) → (gX L false [36, 37] s s_2) → (kT L s_2 p0 n_p0) → (0 ≤ v2_2 ∧ v2_2 ≤ 60) → (61 - v2_2).toNat < n_2 → gs_E L (d + 3) 776 2 [gp_r (some 31), gp_r (some p0), gp_i v2_2] [] s_2 K := by
    intro n_2
    induction n_2 with
    | zero => intro v2_2 s_2 hs_s_2 hf_s_2 kt_p0_s_2 hv2_2 hm_2; exact absurd hm_2 (Nat.not_lt_zero _)
    | succ n_2 ih_2 =>
      intro v2_2 s_2 hs_s_2 hf_s_2 kt_p0_s_2 hv2_2 hm_2
      refine s_776_2 _ _ ?_
      refine ⟨p0, rfl, ?_⟩
      refine ⟨kt_p0_s_2.2.1, ?_⟩
      have f_3 := (kt_p0_s_2.tt hs_s_2).1.2.2.1
      have f_4 := kt_p0_s_2.n hs_s_2
      refine ⟨fun h_5 => ?_, fun h_5 => ?_⟩
      · refine xm_spread n_p0 _ _ hs_s_2 (by omega) (by first | assumption | exact kT7 hs_s_2.1.1 | exact kT25 hs_s_2.1.1) (by first | omega | assumption) (by first | omega | assumption) (fun s_6 hs_7 hf_8 => ⟨rfl, ?_⟩)
        have hf_9 : gX L false [36, 37] s s_6 := gX.trans hf_s_2 hf_8 rfl rfl
        have kt_10 : kT L s_6 p0 n_p0 := kt_p0_s_2.fr hf_8.1
        refine ⟨kt_10.2.1, ?_⟩
        refine ⟨(p0 + 1), (kt_10.tt hs_7).1.2.2.2.1.1, ?_⟩
        refine ⟨gin ((kt_10.tt hs_7).1.2.2.2.2.1.1) (by omega), ?_⟩
        have b_11 : bd (gp_L s_6 (p0 + 1) (Int.toNat v2_2)) v2_2 := bd_le ((kt_10.tt hs_7).1.2.2.2.2.2 (Int.toNat v2_2)).1.1 (by omega)
        refine ⟨fun h_12 => ?_, fun h_12 => ?_⟩
        · have hz_13 : gp_L s_6 (p0 + 1) (Int.toNat v2_2) = 0#64 := (gm_cmp0 _ _).mp h_12
          refine ⟨by omega, ?_⟩
          refine ⟨kt_10.2.1, ?_⟩
          refine ⟨(p0 + 3), (kt_10.tt hs_7).1.2.2.2.1.2.2.1, ?_⟩
          refine ⟨gin ((kt_10.tt hs_7).1.2.2.2.2.1.2.2.1) (by omega), ?_⟩
          refine ⟨fun h_14 => ?_, fun h_14 => ?_⟩
          · refine s_776_68 _ _ ?_
            exact k _ s_6 hs_7 hf_9 (by omega)
          · refine s_776_42 _ _ ?_
            refine ⟨p0, rfl, ?_⟩
            refine ⟨kt_10.2.1, ?_⟩
            refine ⟨(p0 + 2), (kt_10.tt hs_7).1.2.2.2.1.2.1, ?_⟩
            refine ⟨gin ((kt_10.tt hs_7).1.2.2.2.2.1.2.1) (by omega), ?_⟩
            have b_17 : bd (gp_L s_6 (p0 + 2) (Int.toNat v2_2)) v2_2 := bd_le ((kt_10.tt hs_7).1.2.2.2.2.2 (Int.toNat v2_2)).1.2 (by omega)
            refine ⟨fun h_18 => ?_, fun h_18 => ?_⟩
            · have hz_19 : gp_L s_6 (p0 + 2) (Int.toNat v2_2) = 0#64 := (gm_cmp0 _ _).mp h_18
              refine ⟨by omega, ?_⟩
              refine ⟨kt_10.2.1, ?_⟩
              refine ⟨(p0 + 4), (kt_10.tt hs_7).1.2.2.2.1.2.2.2.1, ?_⟩
              refine ⟨gin ((kt_10.tt hs_7).1.2.2.2.2.1.2.2.2.1) (by omega), ?_⟩
              refine ⟨fun h_20 => ?_, fun h_20 => ?_⟩
              · refine s_776_68 _ _ ?_
                exact k _ s_6 hs_7 hf_9 (by omega)
              · refine s_776_70 _ _ ?_
                try rw [show gp_wr (v2_2 + 1) = v2_2 + 1 from gp_wr_id (by omega) (by omega)]
                exact ih_2 _ _ hs_7 hf_9 kt_10 (by omega) (by omega)
            · have hz_24 : ¬ (gp_L s_6 (p0 + 2) (Int.toNat v2_2)) = 0#64 := fun q => h_18 ((gm_cmp0 _ _).mpr q)
              refine s_776_70 _ _ ?_
              try rw [show gp_wr (v2_2 + 1) = v2_2 + 1 from gp_wr_id (by omega) (by omega)]
              exact ih_2 _ _ hs_7 hf_9 kt_10 (by omega) (by omega)
        · have hz_27 : ¬ (gp_L s_6 (p0 + 1) (Int.toNat v2_2)) = 0#64 := fun q => h_12 ((gm_cmp0 _ _).mpr q)
          refine s_776_42 _ _ ?_
          refine ⟨p0, rfl, ?_⟩
          refine ⟨kt_10.2.1, ?_⟩
          refine ⟨(p0 + 2), (kt_10.tt hs_7).1.2.2.2.1.2.1, ?_⟩
          refine ⟨gin ((kt_10.tt hs_7).1.2.2.2.2.1.2.1) (by omega), ?_⟩
          have b_29 : bd (gp_L s_6 (p0 + 2) (Int.toNat v2_2)) v2_2 := bd_le ((kt_10.tt hs_7).1.2.2.2.2.2 (Int.toNat v2_2)).1.2 (by omega)
          refine ⟨fun h_30 => ?_, fun h_30 => ?_⟩
          · have hz_31 : gp_L s_6 (p0 + 2) (Int.toNat v2_2) = 0#64 := (gm_cmp0 _ _).mp h_30
            refine ⟨by omega, ?_⟩
            refine ⟨kt_10.2.1, ?_⟩
            refine ⟨(p0 + 4), (kt_10.tt hs_7).1.2.2.2.1.2.2.2.1, ?_⟩
            refine ⟨gin ((kt_10.tt hs_7).1.2.2.2.2.1.2.2.2.1) (by omega), ?_⟩
            refine ⟨fun h_32 => ?_, fun h_32 => ?_⟩
            · refine s_776_68 _ _ ?_
              exact k _ s_6 hs_7 hf_9 (by omega)
            · refine s_776_70 _ _ ?_
              try rw [show gp_wr (v2_2 + 1) = v2_2 + 1 from gp_wr_id (by omega) (by omega)]
              exact ih_2 _ _ hs_7 hf_9 kt_10 (by omega) (by omega)
          · have hz_36 : ¬ (gp_L s_6 (p0 + 2) (Int.toNat v2_2)) = 0#64 := fun q => h_30 ((gm_cmp0 _ _).mpr q)
            refine s_776_70 _ _ ?_
            try rw [show gp_wr (v2_2 + 1) = v2_2 + 1 from gp_wr_id (by omega) (by omega)]
            exact ih_2 _ _ hs_7 hf_9 kt_10 (by omega) (by omega)
      · exact k _ s_2 hs_s_2 hf_s_2 (by omega)
  exact lp_2 _ _ _ hs (gX.refl _ _ _ _) q0 (by omega) (Nat.lt_succ_self _)
set_option maxRecDepth 100000 in
/-- Least.note -/
theorem xm_note38  {L d : Nat} {K : Option gV → gH → Prop} {s : gH}  (p0 : Int) (p1 : Int) (hs : XI L 0 s) (h_p0 : 0 ≤ p0 ∧ p0 ≤ 60) (h_p1 : 0 ≤ p1 ∧ p1 ≤ 60)  (k : ∀ (t : gH), XI L 0 t → gX L false [39, 40] s t → K none t) : gs_C L d 3 3 [gp_r (some 38), gp_i p0, gp_i p1] s K := by
  refine s_3_e _ _ _ ?_
  refine ⟨38, rfl, ?_⟩
  refine ⟨rfl, ?_⟩
  refine ⟨39, rfl, ?_⟩
  refine ⟨⟨rfl, by show 0 ≤ p0 ∧ p0 < 61; omega⟩, ?_⟩
  refine ⟨⟨rfl, by show 0 ≤ p0 ∧ p0 < 61; omega⟩, ?_⟩
  intro s_1 e_2
  have hs_3 : XI L 0 s_1 := by rw [e_2]; exact xw39 hs _ _
  have hf_4 : gX L false [39, 40] s s_1 := by rw [e_2]; exact gX.wL (gX.refl _ _ _ _) (Or.inl ⟨by decide, rfl⟩)
  refine ⟨rfl, ?_⟩
  refine ⟨40, rfl, ?_⟩
  refine ⟨⟨rfl, by show 0 ≤ p1 ∧ p1 < 61; omega⟩, ?_⟩
  refine ⟨⟨rfl, by show 0 ≤ p1 ∧ p1 < 61; omega⟩, ?_⟩
  intro s_5 e_6
  have hs_7 : XI L 0 s_5 := by rw [e_6]; exact xw40 hs_3 _ _
  have hf_8 : gX L false [39, 40] s s_5 := by rw [e_6]; exact gX.wL hf_4 (Or.inl ⟨by decide, rfl⟩)
  exact k s_5 hs_7 hf_8
set_option maxRecDepth 100000 in
/-- Least.note -/
theorem xm_note42  {L d : Nat} {K : Option gV → gH → Prop} {s : gH}  (p0 : Int) (p1 : Int) (hs : XI L 0 s) (h_p0 : 0 ≤ p0 ∧ p0 ≤ 60) (h_p1 : 0 ≤ p1 ∧ p1 ≤ 60)  (k : ∀ (t : gH), XI L 0 t → gX L false [43, 44] s t → K none t) : gs_C L d 3 3 [gp_r (some 42), gp_i p0, gp_i p1] s K := by
  refine s_3_e _ _ _ ?_
  refine ⟨42, rfl, ?_⟩
  refine ⟨rfl, ?_⟩
  refine ⟨43, rfl, ?_⟩
  refine ⟨⟨rfl, by show 0 ≤ p0 ∧ p0 < 61; omega⟩, ?_⟩
  refine ⟨⟨rfl, by show 0 ≤ p0 ∧ p0 < 61; omega⟩, ?_⟩
  intro s_1 e_2
  have hs_3 : XI L 0 s_1 := by rw [e_2]; exact xw43 hs _ _
  have hf_4 : gX L false [43, 44] s s_1 := by rw [e_2]; exact gX.wL (gX.refl _ _ _ _) (Or.inl ⟨by decide, rfl⟩)
  refine ⟨rfl, ?_⟩
  refine ⟨44, rfl, ?_⟩
  refine ⟨⟨rfl, by show 0 ≤ p1 ∧ p1 < 61; omega⟩, ?_⟩
  refine ⟨⟨rfl, by show 0 ≤ p1 ∧ p1 < 61; omega⟩, ?_⟩
  intro s_5 e_6
  have hs_7 : XI L 0 s_5 := by rw [e_6]; exact xw44 hs_3 _ _
  have hf_8 : gX L false [43, 44] s s_5 := by rw [e_6]; exact gX.wL hf_4 (Or.inl ⟨by decide, rfl⟩)
  exact k s_5 hs_7 hf_8
set_option maxRecDepth 100000 in
/-- Least.shown -/
theorem xm_shown38  {L d : Nat} {K : Option gV → gH → Prop} {s : gH} (n_p0 n_p2 : Nat) (p0 : Nat) (p1 : Int) (p2 : Nat) (p3 : Int) (hs : XI L 0 s) (h_p1 : 0 ≤ p1 ∧ p1 ≤ 60) (h_p3 : 0 ≤ p3 ∧ p3 ≤ 60) (q0 : kT L s p0 n_p0) (q1 : kT L s p2 n_p2) (q2 : kB L s p0) (q3 : kB L s p2) (q4 : p1 < n_p0) (q5 : p3 < n_p2) (k : ∀ (r : Int), (0 ≤ r ∧ r ≤ 1) → K (some (gp_i r)) s) : gs_C L (d + 2) 4 8 [gp_r (some 38), gp_r (some p0), gp_i p1, gp_r (some p2), gp_i p3] s K := by
  have hn_p0 := q0.n hs
  have hn_p2 := q1.n hs
  refine s_4_e _ _ _ _ _ ?_
  refine ⟨p0, rfl, ?_⟩
  refine ⟨q0.2.1, ?_⟩
  obtain ⟨b_1, rb_1, lb_1, hb_1, tb_1, cb_1⟩ := (q2.bb (q0.tt hs)).1
  refine ⟨b_1, rb_1, ?_⟩
  refine ⟨gin hb_1 (by omega), ?_⟩
  refine ⟨p2, rfl, ?_⟩
  refine ⟨q1.2.1, ?_⟩
  obtain ⟨b_2, rb_2, lb_2, hb_2, tb_2, cb_2⟩ := (q3.bb (q1.tt hs)).1
  refine ⟨b_2, rb_2, ?_⟩
  refine ⟨gin hb_2 (by omega), ?_⟩
  refine ⟨fun h_3 => ?_, fun h_3 => ?_⟩
  · refine s_4_32 _ _ _ _ _ _ _ _ ?_
    exact k _ (by omega)
  · refine ⟨q0.2.1, ?_⟩
    obtain ⟨b_7, rb_7, lb_7, hb_7, tb_7, cb_7⟩ := (q2.bb (q0.tt hs)).2.1
    refine ⟨b_7, rb_7, ?_⟩
    refine ⟨gin hb_7 (by omega), ?_⟩
    refine ⟨q1.2.1, ?_⟩
    obtain ⟨b_8, rb_8, lb_8, hb_8, tb_8, cb_8⟩ := (q3.bb (q1.tt hs)).2.1
    refine ⟨b_8, rb_8, ?_⟩
    refine ⟨gin hb_8 (by omega), ?_⟩
    refine ⟨fun h_9 => ?_, fun h_9 => ?_⟩
    · refine s_4_32 _ _ _ _ _ _ _ _ ?_
      exact k _ (by omega)
    · refine ⟨q1.2.1, ?_⟩
      refine ⟨(p2 + 1), (q1.tt hs).1.2.2.2.1.1, ?_⟩
      refine ⟨gin ((q1.tt hs).1.2.2.2.2.1.1) (by omega), ?_⟩
      have b_13 : bd (gp_L s (p2 + 1) (Int.toNat p3)) p3 := bd_le ((q1.tt hs).1.2.2.2.2.2 (Int.toNat p3)).1.1 (by omega)
      have lp_17 : ∀ (n_17 : Nat) (v5_17 : BitVec 64) (v7_17 : gV), (sub v5_17 (gp_L s (p2 + 1) (Int.toNat p3))) → ((v5_17).toNat) < n_17 → gs_E L (d + 2) 4 43 [gp_r (some 38), gp_r (some p0), gp_i p1, gp_r (some p2), gp_i p3, gp_l v5_17, gp_n, v7_17] [] s K := by
        intro n_17
        induction n_17 with
        | zero => intro v5_17 v7_17 iv0_17 hm_17; exact absurd hm_17 (Nat.not_lt_zero _)
        | succ n_17 ih_17 =>
          intro v5_17 v7_17 iv0_17 hm_17
          refine s_4_43 _ _ _ _ _ _ _ ?_
          refine ⟨fun h_18 => ?_, fun h_18 => ?_⟩
          · have hz_19 : v5_17 = 0#64 := (gm_cmp0 _ _).mp h_18
            refine ⟨p0, rfl, ?_⟩
            refine ⟨q0.2.1, ?_⟩
            refine ⟨(p0 + 2), (q0.tt hs).1.2.2.2.1.2.1, ?_⟩
            refine ⟨gin ((q0.tt hs).1.2.2.2.2.1.2.1) (by omega), ?_⟩
            have b_20 : bd (gp_L s (p0 + 2) (Int.toNat p1)) p1 := bd_le ((q0.tt hs).1.2.2.2.2.2 (Int.toNat p1)).1.2 (by omega)
            have lp_24 : ∀ (n_24 : Nat) (v5_24 : BitVec 64) (v7_24 : gV), (sub v5_24 (gp_L s (p0 + 2) (Int.toNat p1))) → ((v5_24).toNat) < n_24 → gs_E L (d + 2) 4 117 [gp_r (some 38), gp_r (some p0), gp_i p1, gp_r (some p2), gp_i p3, gp_l v5_24, gp_n, v7_24] [] s K := by
              intro n_24
              induction n_24 with
              | zero => intro v5_24 v7_24 iv0_24 hm_24; exact absurd hm_24 (Nat.not_lt_zero _)
              | succ n_24 ih_24 =>
                intro v5_24 v7_24 iv0_24 hm_24
                refine s_4_117 _ _ _ _ _ _ _ ?_
                refine ⟨fun h_25 => ?_, fun h_25 => ?_⟩
                · have hz_26 : v5_24 = 0#64 := (gm_cmp0 _ _).mp h_25
                  exact k _ (by omega)
                · have hz_27 : ¬ v5_24 = 0#64 := fun q => h_25 ((gm_cmp0 _ _).mpr q)
                  refine xm_lowest _ (fun x_28 p_29 p_30 => ⟨_, rfl, ?_⟩)
                  have hlw := iv0_24.low (by assumption) p_30
                  have hl0 := (‹bd (gp_L s (p0 + 2) (Int.toNat p1)) p1›) _ hlw.2.2
                  refine ⟨p2, rfl, ?_⟩
                  refine ⟨q1.2.1, ?_⟩
                  refine ⟨(p2 + 2), (q1.tt hs).1.2.2.2.1.2.1, ?_⟩
                  refine ⟨gin ((q1.tt hs).1.2.2.2.2.1.2.1) (by omega), ?_⟩
                  have b_31 : bd (gp_L s (p2 + 2) (Int.toNat p3)) p3 := bd_le ((q1.tt hs).1.2.2.2.2.2 (Int.toNat p3)).1.2 (by omega)
                  refine ⟨38, rfl, ?_⟩
                  refine ⟨rfl, ?_⟩
                  refine ⟨39, rfl, ?_⟩
                  refine ⟨⟨rfl, by show 0 ≤ x_28 ∧ x_28 < 61; omega⟩, ?_⟩
                  refine ⟨fun h_32 => ?_, fun h_32 => ?_⟩
                  · have hz_33 : (gp_L s (p2 + 2) (Int.toNat p3)) &&& (gp_L s 39 (Int.toNat x_28)) = 0#64 := (gm_cmp0 _ _).mp h_32
                    refine ⟨p0, rfl, ?_⟩
                    refine ⟨q0.2.1, ?_⟩
                    refine ⟨(p0 + 1), (q0.tt hs).1.2.2.2.1.1, ?_⟩
                    refine ⟨gin ((q0.tt hs).1.2.2.2.2.1.1) (by omega), ?_⟩
                    have b_34 : bd (gp_L s (p0 + 1) (Int.toNat x_28)) x_28 := bd_le ((q0.tt hs).1.2.2.2.2.2 (Int.toNat x_28)).1.1 (by omega)
                    refine ⟨rfl, ?_⟩
                    refine ⟨40, rfl, ?_⟩
                    refine ⟨⟨rfl, by show 0 ≤ p3 ∧ p3 < 61; omega⟩, ?_⟩
                    refine ⟨fun h_35 => ?_, fun h_35 => ?_⟩
                    · have hz_36 : (gp_L s (p0 + 1) (Int.toNat x_28)) &&& (gp_L s 40 (Int.toNat p3)) = 0#64 := (gm_cmp0 _ _).mp h_35
                      exact k _ (by omega)
                    · have hz_37 : ¬ ((gp_L s (p0 + 1) (Int.toNat x_28)) &&& (gp_L s 40 (Int.toNat p3))) = 0#64 := fun q => h_35 ((gm_cmp0 _ _).mpr q)
                      refine s_4_173 _ _ _ _ _ _ _ ?_
                      exact ih_24 _ _ (by first | assumption | exact sub.refl _ | exact sub.rest (by assumption)) (by have := rest_lt (by assumption : ¬ v5_24 = 0#64); omega)
                  · have hz_44 : ¬ ((gp_L s (p2 + 2) (Int.toNat p3)) &&& (gp_L s 39 (Int.toNat x_28))) = 0#64 := fun q => h_32 ((gm_cmp0 _ _).mpr q)
                    refine s_4_173 _ _ _ _ _ _ _ ?_
                    exact ih_24 _ _ (by first | assumption | exact sub.refl _ | exact sub.rest (by assumption)) (by have := rest_lt (by assumption : ¬ v5_24 = 0#64); omega)
            exact lp_24 _ _ _ (by first | assumption | exact sub.refl _ | exact sub.rest (by assumption)) (Nat.lt_succ_self _)
          · have hz_51 : ¬ v5_17 = 0#64 := fun q => h_18 ((gm_cmp0 _ _).mpr q)
            refine xm_lowest _ (fun x_52 p_53 p_54 => ⟨_, rfl, ?_⟩)
            have hlw := iv0_17.low (by assumption) p_54
            have hl0 := (‹bd (gp_L s (p2 + 1) (Int.toNat p3)) p3›) _ hlw.2.2
            refine ⟨p0, rfl, ?_⟩
            refine ⟨q0.2.1, ?_⟩
            refine ⟨(p0 + 1), (q0.tt hs).1.2.2.2.1.1, ?_⟩
            refine ⟨gin ((q0.tt hs).1.2.2.2.2.1.1) (by omega), ?_⟩
            have b_55 : bd (gp_L s (p0 + 1) (Int.toNat p1)) p1 := bd_le ((q0.tt hs).1.2.2.2.2.2 (Int.toNat p1)).1.1 (by omega)
            refine ⟨38, rfl, ?_⟩
            refine ⟨rfl, ?_⟩
            refine ⟨40, rfl, ?_⟩
            refine ⟨⟨rfl, by show 0 ≤ x_52 ∧ x_52 < 61; omega⟩, ?_⟩
            refine ⟨fun h_56 => ?_, fun h_56 => ?_⟩
            · have hz_57 : (gp_L s (p0 + 1) (Int.toNat p1)) &&& (gp_L s 40 (Int.toNat x_52)) = 0#64 := (gm_cmp0 _ _).mp h_56
              refine ⟨p2, rfl, ?_⟩
              refine ⟨q1.2.1, ?_⟩
              refine ⟨(p2 + 2), (q1.tt hs).1.2.2.2.1.2.1, ?_⟩
              refine ⟨gin ((q1.tt hs).1.2.2.2.2.1.2.1) (by omega), ?_⟩
              have b_58 : bd (gp_L s (p2 + 2) (Int.toNat x_52)) x_52 := bd_le ((q1.tt hs).1.2.2.2.2.2 (Int.toNat x_52)).1.2 (by omega)
              refine ⟨rfl, ?_⟩
              refine ⟨39, rfl, ?_⟩
              refine ⟨⟨rfl, by show 0 ≤ p1 ∧ p1 < 61; omega⟩, ?_⟩
              refine ⟨fun h_59 => ?_, fun h_59 => ?_⟩
              · have hz_60 : (gp_L s (p2 + 2) (Int.toNat x_52)) &&& (gp_L s 39 (Int.toNat p1)) = 0#64 := (gm_cmp0 _ _).mp h_59
                exact k _ (by omega)
              · have hz_61 : ¬ ((gp_L s (p2 + 2) (Int.toNat x_52)) &&& (gp_L s 39 (Int.toNat p1))) = 0#64 := fun q => h_59 ((gm_cmp0 _ _).mpr q)
                refine s_4_97 _ _ _ _ _ _ _ ?_
                exact ih_17 _ _ (by first | assumption | exact sub.refl _ | exact sub.rest (by assumption)) (by have := rest_lt (by assumption : ¬ v5_17 = 0#64); omega)
            · have hz_68 : ¬ ((gp_L s (p0 + 1) (Int.toNat p1)) &&& (gp_L s 40 (Int.toNat x_52))) = 0#64 := fun q => h_56 ((gm_cmp0 _ _).mpr q)
              refine s_4_97 _ _ _ _ _ _ _ ?_
              exact ih_17 _ _ (by first | assumption | exact sub.refl _ | exact sub.rest (by assumption)) (by have := rest_lt (by assumption : ¬ v5_17 = 0#64); omega)
      exact lp_17 _ _ _ (by first | assumption | exact sub.refl _ | exact sub.rest (by assumption)) (Nat.lt_succ_self _)
set_option maxRecDepth 100000 in
/-- Least.shown -/
theorem xm_shown42  {L d : Nat} {K : Option gV → gH → Prop} {s : gH} (n_p0 n_p2 : Nat) (p0 : Nat) (p1 : Int) (p2 : Nat) (p3 : Int) (hs : XI L 0 s) (h_p1 : 0 ≤ p1 ∧ p1 ≤ 60) (h_p3 : 0 ≤ p3 ∧ p3 ≤ 60) (q0 : kT L s p0 n_p0) (q1 : kT L s p2 n_p2) (q2 : kB L s p0) (q3 : kB L s p2) (q4 : p1 < n_p0) (q5 : p3 < n_p2) (k : ∀ (r : Int), (0 ≤ r ∧ r ≤ 1) → K (some (gp_i r)) s) : gs_C L (d + 2) 4 8 [gp_r (some 42), gp_r (some p0), gp_i p1, gp_r (some p2), gp_i p3] s K := by
  have hn_p0 := q0.n hs
  have hn_p2 := q1.n hs
  refine s_4_e _ _ _ _ _ ?_
  refine ⟨p0, rfl, ?_⟩
  refine ⟨q0.2.1, ?_⟩
  obtain ⟨b_1, rb_1, lb_1, hb_1, tb_1, cb_1⟩ := (q2.bb (q0.tt hs)).1
  refine ⟨b_1, rb_1, ?_⟩
  refine ⟨gin hb_1 (by omega), ?_⟩
  refine ⟨p2, rfl, ?_⟩
  refine ⟨q1.2.1, ?_⟩
  obtain ⟨b_2, rb_2, lb_2, hb_2, tb_2, cb_2⟩ := (q3.bb (q1.tt hs)).1
  refine ⟨b_2, rb_2, ?_⟩
  refine ⟨gin hb_2 (by omega), ?_⟩
  refine ⟨fun h_3 => ?_, fun h_3 => ?_⟩
  · refine s_4_32 _ _ _ _ _ _ _ _ ?_
    exact k _ (by omega)
  · refine ⟨q0.2.1, ?_⟩
    obtain ⟨b_7, rb_7, lb_7, hb_7, tb_7, cb_7⟩ := (q2.bb (q0.tt hs)).2.1
    refine ⟨b_7, rb_7, ?_⟩
    refine ⟨gin hb_7 (by omega), ?_⟩
    refine ⟨q1.2.1, ?_⟩
    obtain ⟨b_8, rb_8, lb_8, hb_8, tb_8, cb_8⟩ := (q3.bb (q1.tt hs)).2.1
    refine ⟨b_8, rb_8, ?_⟩
    refine ⟨gin hb_8 (by omega), ?_⟩
    refine ⟨fun h_9 => ?_, fun h_9 => ?_⟩
    · refine s_4_32 _ _ _ _ _ _ _ _ ?_
      exact k _ (by omega)
    · refine ⟨q1.2.1, ?_⟩
      refine ⟨(p2 + 1), (q1.tt hs).1.2.2.2.1.1, ?_⟩
      refine ⟨gin ((q1.tt hs).1.2.2.2.2.1.1) (by omega), ?_⟩
      have b_13 : bd (gp_L s (p2 + 1) (Int.toNat p3)) p3 := bd_le ((q1.tt hs).1.2.2.2.2.2 (Int.toNat p3)).1.1 (by omega)
      have lp_17 : ∀ (n_17 : Nat) (v5_17 : BitVec 64) (v7_17 : gV), (sub v5_17 (gp_L s (p2 + 1) (Int.toNat p3))) → ((v5_17).toNat) < n_17 → gs_E L (d + 2) 4 43 [gp_r (some 42), gp_r (some p0), gp_i p1, gp_r (some p2), gp_i p3, gp_l v5_17, gp_n, v7_17] [] s K := by
        intro n_17
        induction n_17 with
        | zero => intro v5_17 v7_17 iv0_17 hm_17; exact absurd hm_17 (Nat.not_lt_zero _)
        | succ n_17 ih_17 =>
          intro v5_17 v7_17 iv0_17 hm_17
          refine s_4_43 _ _ _ _ _ _ _ ?_
          refine ⟨fun h_18 => ?_, fun h_18 => ?_⟩
          · have hz_19 : v5_17 = 0#64 := (gm_cmp0 _ _).mp h_18
            refine ⟨p0, rfl, ?_⟩
            refine ⟨q0.2.1, ?_⟩
            refine ⟨(p0 + 2), (q0.tt hs).1.2.2.2.1.2.1, ?_⟩
            refine ⟨gin ((q0.tt hs).1.2.2.2.2.1.2.1) (by omega), ?_⟩
            have b_20 : bd (gp_L s (p0 + 2) (Int.toNat p1)) p1 := bd_le ((q0.tt hs).1.2.2.2.2.2 (Int.toNat p1)).1.2 (by omega)
            have lp_24 : ∀ (n_24 : Nat) (v5_24 : BitVec 64) (v7_24 : gV), (sub v5_24 (gp_L s (p0 + 2) (Int.toNat p1))) → ((v5_24).toNat) < n_24 → gs_E L (d + 2) 4 117 [gp_r (some 42), gp_r (some p0), gp_i p1, gp_r (some p2), gp_i p3, gp_l v5_24, gp_n, v7_24] [] s K := by
              intro n_24
              induction n_24 with
              | zero => intro v5_24 v7_24 iv0_24 hm_24; exact absurd hm_24 (Nat.not_lt_zero _)
              | succ n_24 ih_24 =>
                intro v5_24 v7_24 iv0_24 hm_24
                refine s_4_117 _ _ _ _ _ _ _ ?_
                refine ⟨fun h_25 => ?_, fun h_25 => ?_⟩
                · have hz_26 : v5_24 = 0#64 := (gm_cmp0 _ _).mp h_25
                  exact k _ (by omega)
                · have hz_27 : ¬ v5_24 = 0#64 := fun q => h_25 ((gm_cmp0 _ _).mpr q)
                  refine xm_lowest _ (fun x_28 p_29 p_30 => ⟨_, rfl, ?_⟩)
                  have hlw := iv0_24.low (by assumption) p_30
                  have hl0 := (‹bd (gp_L s (p0 + 2) (Int.toNat p1)) p1›) _ hlw.2.2
                  refine ⟨p2, rfl, ?_⟩
                  refine ⟨q1.2.1, ?_⟩
                  refine ⟨(p2 + 2), (q1.tt hs).1.2.2.2.1.2.1, ?_⟩
                  refine ⟨gin ((q1.tt hs).1.2.2.2.2.1.2.1) (by omega), ?_⟩
                  have b_31 : bd (gp_L s (p2 + 2) (Int.toNat p3)) p3 := bd_le ((q1.tt hs).1.2.2.2.2.2 (Int.toNat p3)).1.2 (by omega)
                  refine ⟨42, rfl, ?_⟩
                  refine ⟨rfl, ?_⟩
                  refine ⟨43, rfl, ?_⟩
                  refine ⟨⟨rfl, by show 0 ≤ x_28 ∧ x_28 < 61; omega⟩, ?_⟩
                  refine ⟨fun h_32 => ?_, fun h_32 => ?_⟩
                  · have hz_33 : (gp_L s (p2 + 2) (Int.toNat p3)) &&& (gp_L s 43 (Int.toNat x_28)) = 0#64 := (gm_cmp0 _ _).mp h_32
                    refine ⟨p0, rfl, ?_⟩
                    refine ⟨q0.2.1, ?_⟩
                    refine ⟨(p0 + 1), (q0.tt hs).1.2.2.2.1.1, ?_⟩
                    refine ⟨gin ((q0.tt hs).1.2.2.2.2.1.1) (by omega), ?_⟩
                    have b_34 : bd (gp_L s (p0 + 1) (Int.toNat x_28)) x_28 := bd_le ((q0.tt hs).1.2.2.2.2.2 (Int.toNat x_28)).1.1 (by omega)
                    refine ⟨rfl, ?_⟩
                    refine ⟨44, rfl, ?_⟩
                    refine ⟨⟨rfl, by show 0 ≤ p3 ∧ p3 < 61; omega⟩, ?_⟩
                    refine ⟨fun h_35 => ?_, fun h_35 => ?_⟩
                    · have hz_36 : (gp_L s (p0 + 1) (Int.toNat x_28)) &&& (gp_L s 44 (Int.toNat p3)) = 0#64 := (gm_cmp0 _ _).mp h_35
                      exact k _ (by omega)
                    · have hz_37 : ¬ ((gp_L s (p0 + 1) (Int.toNat x_28)) &&& (gp_L s 44 (Int.toNat p3))) = 0#64 := fun q => h_35 ((gm_cmp0 _ _).mpr q)
                      refine s_4_173 _ _ _ _ _ _ _ ?_
                      exact ih_24 _ _ (by first | assumption | exact sub.refl _ | exact sub.rest (by assumption)) (by have := rest_lt (by assumption : ¬ v5_24 = 0#64); omega)
                  · have hz_44 : ¬ ((gp_L s (p2 + 2) (Int.toNat p3)) &&& (gp_L s 43 (Int.toNat x_28))) = 0#64 := fun q => h_32 ((gm_cmp0 _ _).mpr q)
                    refine s_4_173 _ _ _ _ _ _ _ ?_
                    exact ih_24 _ _ (by first | assumption | exact sub.refl _ | exact sub.rest (by assumption)) (by have := rest_lt (by assumption : ¬ v5_24 = 0#64); omega)
            exact lp_24 _ _ _ (by first | assumption | exact sub.refl _ | exact sub.rest (by assumption)) (Nat.lt_succ_self _)
          · have hz_51 : ¬ v5_17 = 0#64 := fun q => h_18 ((gm_cmp0 _ _).mpr q)
            refine xm_lowest _ (fun x_52 p_53 p_54 => ⟨_, rfl, ?_⟩)
            have hlw := iv0_17.low (by assumption) p_54
            have hl0 := (‹bd (gp_L s (p2 + 1) (Int.toNat p3)) p3›) _ hlw.2.2
            refine ⟨p0, rfl, ?_⟩
            refine ⟨q0.2.1, ?_⟩
            refine ⟨(p0 + 1), (q0.tt hs).1.2.2.2.1.1, ?_⟩
            refine ⟨gin ((q0.tt hs).1.2.2.2.2.1.1) (by omega), ?_⟩
            have b_55 : bd (gp_L s (p0 + 1) (Int.toNat p1)) p1 := bd_le ((q0.tt hs).1.2.2.2.2.2 (Int.toNat p1)).1.1 (by omega)
            refine ⟨42, rfl, ?_⟩
            refine ⟨rfl, ?_⟩
            refine ⟨44, rfl, ?_⟩
            refine ⟨⟨rfl, by show 0 ≤ x_52 ∧ x_52 < 61; omega⟩, ?_⟩
            refine ⟨fun h_56 => ?_, fun h_56 => ?_⟩
            · have hz_57 : (gp_L s (p0 + 1) (Int.toNat p1)) &&& (gp_L s 44 (Int.toNat x_52)) = 0#64 := (gm_cmp0 _ _).mp h_56
              refine ⟨p2, rfl, ?_⟩
              refine ⟨q1.2.1, ?_⟩
              refine ⟨(p2 + 2), (q1.tt hs).1.2.2.2.1.2.1, ?_⟩
              refine ⟨gin ((q1.tt hs).1.2.2.2.2.1.2.1) (by omega), ?_⟩
              have b_58 : bd (gp_L s (p2 + 2) (Int.toNat x_52)) x_52 := bd_le ((q1.tt hs).1.2.2.2.2.2 (Int.toNat x_52)).1.2 (by omega)
              refine ⟨rfl, ?_⟩
              refine ⟨43, rfl, ?_⟩
              refine ⟨⟨rfl, by show 0 ≤ p1 ∧ p1 < 61; omega⟩, ?_⟩
              refine ⟨fun h_59 => ?_, fun h_59 => ?_⟩
              · have hz_60 : (gp_L s (p2 + 2) (Int.toNat x_52)) &&& (gp_L s 43 (Int.toNat p1)) = 0#64 := (gm_cmp0 _ _).mp h_59
                exact k _ (by omega)
              · have hz_61 : ¬ ((gp_L s (p2 + 2) (Int.toNat x_52)) &&& (gp_L s 43 (Int.toNat p1))) = 0#64 := fun q => h_59 ((gm_cmp0 _ _).mpr q)
                refine s_4_97 _ _ _ _ _ _ _ ?_
                exact ih_17 _ _ (by first | assumption | exact sub.refl _ | exact sub.rest (by assumption)) (by have := rest_lt (by assumption : ¬ v5_17 = 0#64); omega)
            · have hz_68 : ¬ ((gp_L s (p0 + 1) (Int.toNat p1)) &&& (gp_L s 44 (Int.toNat x_52))) = 0#64 := fun q => h_56 ((gm_cmp0 _ _).mpr q)
              refine s_4_97 _ _ _ _ _ _ _ ?_
              exact ih_17 _ _ (by first | assumption | exact sub.refl _ | exact sub.rest (by assumption)) (by have := rest_lt (by assumption : ¬ v5_17 = 0#64); omega)
      exact lp_17 _ _ _ (by first | assumption | exact sub.refl _ | exact sub.rest (by assumption)) (Nat.lt_succ_self _)
set_option maxRecDepth 100000 in
/-- Least.relate -/
theorem xm_relate38  {L d : Nat} {K : Option gV → gH → Prop} {s : gH} (n_p0 n_p1 : Nat) (p0 : Nat) (p1 : Nat) (hs : XI L 0 s)  (q0 : kT L s p0 n_p0) (q1 : n_p0 ≤ 60) (q2 : kT L s p1 n_p1) (q3 : n_p1 ≤ 60) (q4 : kB L s p0) (q5 : kB L s p1) (k : ∀ (r : Int), ∀ (t : gH), XI L 0 t → gX L false [39, 40] s t → (0 ≤ r ∧ r ≤ 1) → K (some (gp_i r)) t) : gs_C L (d + 3) 1 5 [gp_r (some 38), gp_r (some p0), gp_r (some p1)] s K := by
  have hn_p0 := q0.n hs
  have hn_p1 := q2.n hs
  refine s_1_e _ _ _ ?_
  have lp_4 : ∀ (n_4 : Nat) (v3_4 : Int) (v4_4 : gV) (s_4 : gH), (XI L 0 s_4) → (gX L false [39, 40] s s_4) → (kT L s_4 p0 n_p0) → (kT L s_4 p1 n_p1) → (kB L s_4 p0) → (kB L s_4 p1) → (0 ≤ v3_4 ∧ v3_4 ≤ 60) → (61 - v3_4).toNat < n_4 → gs_E L (d + 3) 1 2 [gp_r (some 38), gp_r (some p0), gp_r (some p1), gp_i v3_4, v4_4] [] s_4 K := by
    intro n_4
    induction n_4 with
    | zero => intro v3_4 v4_4 s_4 hs_s_4 hf_s_4 kt_p0_s_4 kt_p1_s_4 kb_p0_s_4 kb_p1_s_4 hv3_4 hm_4; exact absurd hm_4 (Nat.not_lt_zero _)
    | succ n_4 ih_4 =>
      intro v3_4 v4_4 s_4 hs_s_4 hf_s_4 kt_p0_s_4 kt_p1_s_4 kb_p0_s_4 kb_p1_s_4 hv3_4 hm_4
      refine s_1_2 _ _ _ _ _ ?_
      refine ⟨p0, rfl, ?_⟩
      refine ⟨kt_p0_s_4.2.1, ?_⟩
      have f_5 := (kt_p0_s_4.tt hs_s_4).1.2.2.1
      have f_6 := kt_p0_s_4.n hs_s_4
      refine ⟨fun h_7 => ?_, fun h_7 => ?_⟩
      · refine ⟨38, rfl, ?_⟩
        refine ⟨rfl, ?_⟩
        refine ⟨39, rfl, ?_⟩
        refine ⟨⟨rfl, by show 0 ≤ v3_4 ∧ v3_4 < 61; omega⟩, ?_⟩
        intro s_8 e_9
        have hs_10 : XI L 0 s_8 := by rw [e_9]; exact xw39 hs_s_4 _ _
        have hf_11 : gX L false [39, 40] s s_8 := by rw [e_9]; exact gX.wL hf_s_4 (Or.inl ⟨by decide, rfl⟩)
        have kt_12 : kT L s_8 p0 n_p0 := by rw [e_9]; exact kt_p0_s_4
        have kt_13 : kT L s_8 p1 n_p1 := by rw [e_9]; exact kt_p1_s_4
        have kb_14 : kB L s_8 p0 := by rw [e_9]; exact kb_p0_s_4
        have kb_15 : kB L s_8 p1 := by rw [e_9]; exact kb_p1_s_4
        try rw [show gp_wr (v3_4 + 1) = v3_4 + 1 from gp_wr_id (by omega) (by omega)]
        exact ih_4 _ _ _ hs_10 hf_11 kt_12 kt_13 kb_14 kb_15 (by omega) (by omega)
      · have lp_22 : ∀ (n_22 : Nat) (v3_22 : Int) (v4_22 : gV) (s_22 : gH), (XI L 0 s_22) → (gX L false [39, 40] s s_22) → (kT L s_22 p0 n_p0) → (kT L s_22 p1 n_p1) → (kB L s_22 p0) → (kB L s_22 p1) → (0 ≤ v3_22 ∧ v3_22 ≤ 60) → (61 - v3_22).toNat < n_22 → gs_E L (d + 3) 1 25 [gp_r (some 38), gp_r (some p0), gp_r (some p1), gp_i v3_22, v4_22] [] s_22 K := by
          intro n_22
          induction n_22 with
          | zero => intro v3_22 v4_22 s_22 hs_s_22 hf_s_22 kt_p0_s_22 kt_p1_s_22 kb_p0_s_22 kb_p1_s_22 hv3_22 hm_22; exact absurd hm_22 (Nat.not_lt_zero _)
          | succ n_22 ih_22 =>
            intro v3_22 v4_22 s_22 hs_s_22 hf_s_22 kt_p0_s_22 kt_p1_s_22 kb_p0_s_22 kb_p1_s_22 hv3_22 hm_22
            refine s_1_25 _ _ _ _ _ ?_
            refine ⟨p1, rfl, ?_⟩
            refine ⟨kt_p1_s_22.2.1, ?_⟩
            have f_23 := (kt_p1_s_22.tt hs_s_22).1.2.2.1
            have f_24 := kt_p1_s_22.n hs_s_22
            refine ⟨fun h_25 => ?_, fun h_25 => ?_⟩
            · refine ⟨38, rfl, ?_⟩
              refine ⟨rfl, ?_⟩
              refine ⟨40, rfl, ?_⟩
              refine ⟨⟨rfl, by show 0 ≤ v3_22 ∧ v3_22 < 61; omega⟩, ?_⟩
              intro s_26 e_27
              have hs_28 : XI L 0 s_26 := by rw [e_27]; exact xw40 hs_s_22 _ _
              have hf_29 : gX L false [39, 40] s s_26 := by rw [e_27]; exact gX.wL hf_s_22 (Or.inl ⟨by decide, rfl⟩)
              have kt_30 : kT L s_26 p0 n_p0 := by rw [e_27]; exact kt_p0_s_22
              have kt_31 : kT L s_26 p1 n_p1 := by rw [e_27]; exact kt_p1_s_22
              have kb_32 : kB L s_26 p0 := by rw [e_27]; exact kb_p0_s_22
              have kb_33 : kB L s_26 p1 := by rw [e_27]; exact kb_p1_s_22
              try rw [show gp_wr (v3_22 + 1) = v3_22 + 1 from gp_wr_id (by omega) (by omega)]
              exact ih_22 _ _ _ hs_28 hf_29 kt_30 kt_31 kb_32 kb_33 (by omega) (by omega)
            · have lp_40 : ∀ (n_40 : Nat) (v3_40 : Int) (v4_40 : gV) (s_40 : gH), (XI L 0 s_40) → (gX L false [39, 40] s s_40) → (kT L s_40 p0 n_p0) → (kT L s_40 p1 n_p1) → (kB L s_40 p0) → (kB L s_40 p1) → (0 ≤ v3_40 ∧ v3_40 ≤ 60) → (61 - v3_40).toNat < n_40 → gs_E L (d + 3) 1 48 [gp_r (some 38), gp_r (some p0), gp_r (some p1), gp_i v3_40, v4_40] [] s_40 K := by
                intro n_40
                induction n_40 with
                | zero => intro v3_40 v4_40 s_40 hs_s_40 hf_s_40 kt_p0_s_40 kt_p1_s_40 kb_p0_s_40 kb_p1_s_40 hv3_40 hm_40; exact absurd hm_40 (Nat.not_lt_zero _)
                | succ n_40 ih_40 =>
                  intro v3_40 v4_40 s_40 hs_s_40 hf_s_40 kt_p0_s_40 kt_p1_s_40 kb_p0_s_40 kb_p1_s_40 hv3_40 hm_40
                  refine s_1_48 _ _ _ _ _ ?_
                  refine ⟨p0, rfl, ?_⟩
                  refine ⟨kt_p0_s_40.2.1, ?_⟩
                  have f_41 := (kt_p0_s_40.tt hs_s_40).1.2.2.1
                  have f_42 := kt_p0_s_40.n hs_s_40
                  refine ⟨fun h_43 => ?_, fun h_43 => ?_⟩
                  · have lp_47 : ∀ (n_47 : Nat) (v4_47 : Int) (s_47 : gH), (XI L 0 s_47) → (gX L false [39, 40] s s_47) → (kT L s_47 p0 n_p0) → (kT L s_47 p1 n_p1) → (kB L s_47 p0) → (kB L s_47 p1) → (0 ≤ v4_47 ∧ v4_47 ≤ 60) → (61 - v4_47).toNat < n_47 → gs_E L (d + 3) 1 59 [gp_r (some 38), gp_r (some p0), gp_r (some p1), gp_i v3_40, gp_i v4_47] [] s_47 K := by
                      intro n_47
                      induction n_47 with
                      | zero => intro v4_47 s_47 hs_s_47 hf_s_47 kt_p0_s_47 kt_p1_s_47 kb_p0_s_47 kb_p1_s_47 hv4_47 hm_47; exact absurd hm_47 (Nat.not_lt_zero _)
                      | succ n_47 ih_47 =>
                        intro v4_47 s_47 hs_s_47 hf_s_47 kt_p0_s_47 kt_p1_s_47 kb_p0_s_47 kb_p1_s_47 hv4_47 hm_47
                        refine s_1_59 _ _ _ _ _ ?_
                        refine ⟨p1, rfl, ?_⟩
                        refine ⟨kt_p1_s_47.2.1, ?_⟩
                        have f_48 := (kt_p1_s_47.tt hs_s_47).1.2.2.1
                        have f_49 := kt_p1_s_47.n hs_s_47
                        refine ⟨fun h_50 => ?_, fun h_50 => ?_⟩
                        · refine ⟨38, rfl, ?_⟩
                          refine ⟨rfl, ?_⟩
                          refine xm_shown38 n_p0 n_p1 _ _ _ _ hs_s_47 (by omega) (by omega) (by first | assumption | exact kT7 hs_s_47.1.1 | exact kT25 hs_s_47.1.1) (by first | assumption | exact kT7 hs_s_47.1.1 | exact kT25 hs_s_47.1.1) (by first | assumption | exact kB7 hs_s_47.1.1) (by first | assumption | exact kB7 hs_s_47.1.1) (by first | omega | assumption) (by first | omega | assumption) (fun x_51 p_52 => ⟨_, rfl, ?_⟩)
                          refine ⟨fun h_53 => ?_, fun h_53 => ?_⟩
                          · refine s_1_87 _ _ _ _ _ ?_
                            try rw [show gp_wr (v4_47 + 1) = v4_47 + 1 from gp_wr_id (by omega) (by omega)]
                            exact ih_47 _ _ hs_s_47 hf_s_47 kt_p0_s_47 kt_p1_s_47 kb_p0_s_47 kb_p1_s_47 (by omega) (by omega)
                          · refine ⟨rfl, ?_⟩
                            refine xm_note38 _ _ hs_s_47 (by omega) (by omega) (fun s_60 hs_61 hf_62 => ⟨rfl, ?_⟩)
                            have hf_63 : gX L false [39, 40] s s_60 := gX.trans hf_s_47 hf_62 rfl rfl
                            have kt_64 : kT L s_60 p0 n_p0 := kt_p0_s_47.fr hf_62.1
                            have kt_65 : kT L s_60 p1 n_p1 := kt_p1_s_47.fr hf_62.1
                            have kb_66 : kB L s_60 p0 := kb_p0_s_47.fr hf_62.1
                            have kb_67 : kB L s_60 p1 := kb_p1_s_47.fr hf_62.1
                            refine s_1_87 _ _ _ _ _ ?_
                            try rw [show gp_wr (v4_47 + 1) = v4_47 + 1 from gp_wr_id (by omega) (by omega)]
                            exact ih_47 _ _ hs_61 hf_63 kt_64 kt_65 kb_66 kb_67 (by omega) (by omega)
                        · try rw [show gp_wr (v3_40 + 1) = v3_40 + 1 from gp_wr_id (by omega) (by omega)]
                          exact ih_40 _ _ _ hs_s_47 hf_s_47 kt_p0_s_47 kt_p1_s_47 kb_p0_s_47 kb_p1_s_47 (by omega) (by omega)
                    exact lp_47 _ _ _ hs_s_40 hf_s_40 kt_p0_s_40 kt_p1_s_40 kb_p0_s_40 kb_p1_s_40 (by omega) (Nat.lt_succ_self _)
                  · refine ⟨38, rfl, ?_⟩
                    refine ⟨rfl, ?_⟩
                    refine ⟨kt_p0_s_40.2.1, ?_⟩
                    refine xm_root n_p0 _ hs_s_40 (by first | assumption | exact kT7 hs_s_40.1.1 | exact kT25 hs_s_40.1.1) (fun x_77 p_78 p_79 => ⟨_, rfl, ?_⟩)
                    refine ⟨39, rfl, ?_⟩
                    refine ⟨⟨rfl, by show 0 ≤ x_77 ∧ x_77 < 61; omega⟩, ?_⟩
                    refine ⟨p1, rfl, ?_⟩
                    refine ⟨kt_p1_s_40.2.1, ?_⟩
                    refine xm_root n_p1 _ hs_s_40 (by first | assumption | exact kT7 hs_s_40.1.1 | exact kT25 hs_s_40.1.1) (fun x_80 p_81 p_82 => ⟨_, rfl, ?_⟩)
                    refine xm_has _ _ (by omega) (fun x_83 p_84 p_85 => ⟨_, rfl, ?_⟩)
                    refine ⟨by omega, ?_⟩
                    exact k _ s_40 hs_s_40 hf_s_40 (by omega)
              exact lp_40 _ _ _ _ hs_s_22 hf_s_22 kt_p0_s_22 kt_p1_s_22 kb_p0_s_22 kb_p1_s_22 (by omega) (Nat.lt_succ_self _)
        exact lp_22 _ _ _ _ hs_s_4 hf_s_4 kt_p0_s_4 kt_p1_s_4 kb_p0_s_4 kb_p1_s_4 (by omega) (Nat.lt_succ_self _)
  exact lp_4 _ _ _ _ hs (gX.refl _ _ _ _) q0 q2 q4 q5 (by omega) (Nat.lt_succ_self _)
set_option maxRecDepth 100000 in
/-- Least.relateLast -/
theorem xm_relateLast42  {L d : Nat} {K : Option gV → gH → Prop} {s : gH}  (p1 : Int) (hs : XI L 0 s) (h_p1 : 0 ≤ p1 ∧ p1 ≤ 60)  (k : ∀ (t : gH), XI L 0 t → gX L false [43, 44] s t → K none t) : gs_C L (d + 3) 2 6 [gp_r (some 42), gp_r (some 7), gp_i p1] s K := by
  refine s_2_e _ _ _ ?_
  refine ⟨42, rfl, ?_⟩
  refine ⟨rfl, ?_⟩
  refine ⟨43, rfl, ?_⟩
  refine ⟨⟨rfl, by show 0 ≤ p1 ∧ p1 < 61; omega⟩, ?_⟩
  intro s_1 e_2
  have hs_3 : XI L 0 s_1 := by rw [e_2]; exact xw43 hs _ _
  have hf_4 : gX L false [43, 44] s s_1 := by rw [e_2]; exact gX.wL (gX.refl _ _ _ _) (Or.inl ⟨by decide, rfl⟩)
  refine ⟨rfl, ?_⟩
  refine ⟨44, rfl, ?_⟩
  refine ⟨⟨rfl, by show 0 ≤ p1 ∧ p1 < 61; omega⟩, ?_⟩
  intro s_5 e_6
  have hs_7 : XI L 0 s_5 := by rw [e_6]; exact xw44 hs_3 _ _
  have hf_8 : gX L false [43, 44] s s_5 := by rw [e_6]; exact gX.wL hf_4 (Or.inl ⟨by decide, rfl⟩)
  have lp_11 : ∀ (n_11 : Nat) (v5_11 : Int) (s_11 : gH), (XI L 0 s_11) → (gX L false [43, 44] s s_11) → (0 ≤ v5_11 ∧ v5_11 ≤ 60) → (61 - v5_11).toNat < n_11 → gs_E L (d + 3) 2 25 [gp_r (some 42), gp_r (some 7), gp_i p1, gp_l (((1#64) <<< (Int.toNat (p1 % 64))) ^^^ (BitVec.ofInt 64 (-1))), gp_n, gp_i v5_11] [] s_11 K := by
    intro n_11
    induction n_11 with
    | zero => intro v5_11 s_11 hs_s_11 hf_s_11 hv5_11 hm_11; exact absurd hm_11 (Nat.not_lt_zero _)
    | succ n_11 ih_11 =>
      intro v5_11 s_11 hs_s_11 hf_s_11 hv5_11 hm_11
      refine s_2_25 _ _ _ _ _ ?_
      refine ⟨fun h_12 => ?_, fun h_12 => ?_⟩
      · refine ⟨42, rfl, ?_⟩
        refine ⟨rfl, ?_⟩
        refine ⟨43, rfl, ?_⟩
        refine ⟨⟨rfl, by show 0 ≤ v5_11 ∧ v5_11 < 61; omega⟩, ?_⟩
        refine ⟨⟨rfl, by show 0 ≤ v5_11 ∧ v5_11 < 61; omega⟩, ?_⟩
        intro s_13 e_14
        have hs_15 : XI L 0 s_13 := by rw [e_14]; exact xw43 hs_s_11 _ _
        have hf_16 : gX L false [43, 44] s s_13 := by rw [e_14]; exact gX.wL hf_s_11 (Or.inl ⟨by decide, rfl⟩)
        refine ⟨rfl, ?_⟩
        refine ⟨44, rfl, ?_⟩
        refine ⟨⟨rfl, by show 0 ≤ v5_11 ∧ v5_11 < 61; omega⟩, ?_⟩
        refine ⟨⟨rfl, by show 0 ≤ v5_11 ∧ v5_11 < 61; omega⟩, ?_⟩
        intro s_17 e_18
        have hs_19 : XI L 0 s_17 := by rw [e_18]; exact xw44 hs_15 _ _
        have hf_20 : gX L false [43, 44] s s_17 := by rw [e_18]; exact gX.wL hf_16 (Or.inl ⟨by decide, rfl⟩)
        refine ⟨rfl, ?_⟩
        refine xm_shown42 61 61 _ _ _ _ hs_19 (by omega) (by omega) (by first | assumption | exact kT7 hs_19.1.1 | exact kT25 hs_19.1.1) (by first | assumption | exact kT7 hs_19.1.1 | exact kT25 hs_19.1.1) (by first | assumption | exact kB7 hs_19.1.1) (by first | assumption | exact kB7 hs_19.1.1) (by first | omega | assumption) (by first | omega | assumption) (fun x_21 p_22 => ⟨_, rfl, ?_⟩)
        refine ⟨fun h_23 => ?_, fun h_23 => ?_⟩
        · refine s_2_72 _ _ _ _ _ ?_
          refine ⟨42, rfl, ?_⟩
          refine ⟨rfl, ?_⟩
          refine xm_shown42 61 61 _ _ _ _ hs_19 (by omega) (by omega) (by first | assumption | exact kT7 hs_19.1.1 | exact kT25 hs_19.1.1) (by first | assumption | exact kT7 hs_19.1.1 | exact kT25 hs_19.1.1) (by first | assumption | exact kB7 hs_19.1.1) (by first | assumption | exact kB7 hs_19.1.1) (by first | omega | assumption) (by first | omega | assumption) (fun x_26 p_27 => ⟨_, rfl, ?_⟩)
          refine ⟨fun h_28 => ?_, fun h_28 => ?_⟩
          · refine s_2_91 _ _ _ _ _ ?_
            try rw [show gp_wr (v5_11 + 1) = v5_11 + 1 from gp_wr_id (by omega) (by omega)]
            exact ih_11 _ _ hs_19 hf_20 (by omega) (by omega)
          · refine ⟨rfl, ?_⟩
            refine xm_note42 _ _ hs_19 (by omega) (by omega) (fun s_33 hs_34 hf_35 => ⟨rfl, ?_⟩)
            have hf_36 : gX L false [43, 44] s s_33 := gX.trans hf_20 hf_35 rfl rfl
            refine s_2_91 _ _ _ _ _ ?_
            try rw [show gp_wr (v5_11 + 1) = v5_11 + 1 from gp_wr_id (by omega) (by omega)]
            exact ih_11 _ _ hs_34 hf_36 (by omega) (by omega)
        · refine ⟨rfl, ?_⟩
          refine xm_note42 _ _ hs_19 (by omega) (by omega) (fun s_41 hs_42 hf_43 => ⟨rfl, ?_⟩)
          have hf_44 : gX L false [43, 44] s s_41 := gX.trans hf_20 hf_43 rfl rfl
          refine s_2_72 _ _ _ _ _ ?_
          refine ⟨42, rfl, ?_⟩
          refine ⟨rfl, ?_⟩
          refine xm_shown42 61 61 _ _ _ _ hs_42 (by omega) (by omega) (by first | assumption | exact kT7 hs_42.1.1 | exact kT25 hs_42.1.1) (by first | assumption | exact kT7 hs_42.1.1 | exact kT25 hs_42.1.1) (by first | assumption | exact kB7 hs_42.1.1) (by first | assumption | exact kB7 hs_42.1.1) (by first | omega | assumption) (by first | omega | assumption) (fun x_47 p_48 => ⟨_, rfl, ?_⟩)
          refine ⟨fun h_49 => ?_, fun h_49 => ?_⟩
          · refine s_2_91 _ _ _ _ _ ?_
            try rw [show gp_wr (v5_11 + 1) = v5_11 + 1 from gp_wr_id (by omega) (by omega)]
            exact ih_11 _ _ hs_42 hf_44 (by omega) (by omega)
          · refine ⟨rfl, ?_⟩
            refine xm_note42 _ _ hs_42 (by omega) (by omega) (fun s_54 hs_55 hf_56 => ⟨rfl, ?_⟩)
            have hf_57 : gX L false [43, 44] s s_54 := gX.trans hf_44 hf_56 rfl rfl
            refine s_2_91 _ _ _ _ _ ?_
            try rw [show gp_wr (v5_11 + 1) = v5_11 + 1 from gp_wr_id (by omega) (by omega)]
            exact ih_11 _ _ hs_55 hf_57 (by omega) (by omega)
      · exact k s_11 hs_s_11 hf_s_11
  exact lp_11 _ _ _ hs_7 hf_8 (by omega) (Nat.lt_succ_self _)
set_option maxRecDepth 100000 in
/-- Least.named -/
theorem xm_named  {L d : Nat} {K : Option gV → gH → Prop} {s : gH}  (p0 : BitVec 64) (p1 : BitVec 64) (p2 : BitVec 64) (p3 : BitVec 64)    (k : ∀ (r : Int), (0 ≤ r ∧ r ≤ 164) → K (some (gp_i r)) s) : gs_C L (d + 2) 7 8 [gp_l p0, gp_l p1, gp_l p2, gp_l p3] s K := by
  refine s_7_e _ _ _ _ ?_
  refine ⟨fun h_1 => ?_, fun h_1 => ?_⟩
  · have hz_2 : p0 &&& p1 = 0#64 := (gm_cmp0 _ _).mp h_1
    refine xm_lowest _ (fun x_3 p_4 p_5 => ⟨_, rfl, ?_⟩)
    refine xm_ahead _ _ (fun x_6 p_7 => ⟨_, rfl, ?_⟩)
    try rw [show gp_wr (100 + x_6) = 100 + x_6 from gp_wr_id (by omega) (by omega)]
    exact k _ (by omega)
  · have hz_8 : ¬ (p0 &&& p1) = 0#64 := fun q => h_1 ((gm_cmp0 _ _).mpr q)
    refine xm_lowest _ (fun x_9 p_10 p_11 => ⟨_, rfl, ?_⟩)
    refine xm_ahead _ _ (fun x_12 p_13 => ⟨_, rfl, ?_⟩)
    exact k _ (by omega)
set_option maxRecDepth 100000 in
/-- Least.leftAnswer -/
theorem xm_leftAnswer38  {L d : Nat} {K : Option gV → gH → Prop} {s : gH} (n_p0 n_p1 : Nat) (p0 : Nat) (p1 : Nat) (p2 : Int) (hs : XI L 0 s) (h_p2 : 0 ≤ p2 ∧ p2 ≤ 59) (q0 : kT L s p0 n_p0) (q1 : n_p0 ≤ 60) (q2 : kT L s p1 n_p1) (q3 : n_p1 ≤ 60) (q4 : p2 < n_p1) (k : ∀ (r : Int), (0 ≤ r ∧ r ≤ 164) → K (some (gp_i r)) s) : gs_C L (d + 3) 5 4 [gp_r (some 38), gp_r (some p0), gp_r (some p1), gp_i p2] s K := by
  have hn_p0 := q0.n hs
  have hn_p1 := q2.n hs
  refine s_5_e _ _ _ _ ?_
  refine ⟨p0, rfl, ?_⟩
  refine ⟨q0.2.1, ?_⟩
  refine ⟨q0.2.1, ?_⟩
  refine xm_root n_p0 _ hs (by first | assumption | exact kT7 hs.1.1 | exact kT25 hs.1.1) (fun x_1 p_2 p_3 => ⟨_, rfl, ?_⟩)
  refine ⟨(p0 + 1), (q0.tt hs).1.2.2.2.1.1, ?_⟩
  refine ⟨gin ((q0.tt hs).1.2.2.2.2.1.1) (by omega), ?_⟩
  have b_4 : bd (gp_L s (p0 + 1) (Int.toNat x_1)) x_1 := bd_le ((q0.tt hs).1.2.2.2.2.2 (Int.toNat x_1)).1.1 (by omega)
  refine ⟨38, rfl, ?_⟩
  refine ⟨rfl, ?_⟩
  refine ⟨40, rfl, ?_⟩
  refine ⟨⟨rfl, by show 0 ≤ p2 ∧ p2 < 61; omega⟩, ?_⟩
  refine ⟨p1, rfl, ?_⟩
  refine ⟨q2.2.1, ?_⟩
  refine ⟨(p1 + 2), (q2.tt hs).1.2.2.2.1.2.1, ?_⟩
  refine ⟨gin ((q2.tt hs).1.2.2.2.2.1.2.1) (by omega), ?_⟩
  have b_5 : bd (gp_L s (p1 + 2) (Int.toNat p2)) p2 := bd_le ((q2.tt hs).1.2.2.2.2.2 (Int.toNat p2)).1.2 (by omega)
  refine ⟨rfl, ?_⟩
  refine ⟨q0.2.1, ?_⟩
  refine xm_root n_p0 _ hs (by first | assumption | exact kT7 hs.1.1 | exact kT25 hs.1.1) (fun x_6 p_7 p_8 => ⟨_, rfl, ?_⟩)
  refine ⟨39, rfl, ?_⟩
  refine ⟨⟨rfl, by show 0 ≤ x_6 ∧ x_6 < 61; omega⟩, ?_⟩
  refine xm_named _ _ _ _ (fun x_9 p_10 => ⟨_, rfl, ?_⟩)
  exact k _ (by omega)
set_option maxRecDepth 100000 in
/-- Least.rightAnswer -/
theorem xm_rightAnswer38  {L d : Nat} {K : Option gV → gH → Prop} {s : gH} (n_p0 n_p1 : Nat) (p0 : Nat) (p1 : Nat) (p2 : Int) (hs : XI L 0 s) (h_p2 : 0 ≤ p2 ∧ p2 ≤ 59) (q0 : kT L s p0 n_p0) (q1 : n_p0 ≤ 60) (q2 : kT L s p1 n_p1) (q3 : n_p1 ≤ 60) (q4 : p2 < n_p0) (k : ∀ (r : Int), (0 ≤ r ∧ r ≤ 164) → K (some (gp_i r)) s) : gs_C L (d + 3) 6 4 [gp_r (some 38), gp_r (some p0), gp_r (some p1), gp_i p2] s K := by
  have hn_p0 := q0.n hs
  have hn_p1 := q2.n hs
  refine s_6_e _ _ _ _ ?_
  refine ⟨p1, rfl, ?_⟩
  refine ⟨q2.2.1, ?_⟩
  refine ⟨q2.2.1, ?_⟩
  refine xm_root n_p1 _ hs (by first | assumption | exact kT7 hs.1.1 | exact kT25 hs.1.1) (fun x_1 p_2 p_3 => ⟨_, rfl, ?_⟩)
  refine ⟨(p1 + 2), (q2.tt hs).1.2.2.2.1.2.1, ?_⟩
  refine ⟨gin ((q2.tt hs).1.2.2.2.2.1.2.1) (by omega), ?_⟩
  have b_4 : bd (gp_L s (p1 + 2) (Int.toNat x_1)) x_1 := bd_le ((q2.tt hs).1.2.2.2.2.2 (Int.toNat x_1)).1.2 (by omega)
  refine ⟨38, rfl, ?_⟩
  refine ⟨rfl, ?_⟩
  refine ⟨39, rfl, ?_⟩
  refine ⟨⟨rfl, by show 0 ≤ p2 ∧ p2 < 61; omega⟩, ?_⟩
  refine ⟨p0, rfl, ?_⟩
  refine ⟨q0.2.1, ?_⟩
  refine ⟨(p0 + 1), (q0.tt hs).1.2.2.2.1.1, ?_⟩
  refine ⟨gin ((q0.tt hs).1.2.2.2.2.1.1) (by omega), ?_⟩
  have b_5 : bd (gp_L s (p0 + 1) (Int.toNat p2)) p2 := bd_le ((q0.tt hs).1.2.2.2.2.2 (Int.toNat p2)).1.1 (by omega)
  refine ⟨rfl, ?_⟩
  refine ⟨q2.2.1, ?_⟩
  refine xm_root n_p1 _ hs (by first | assumption | exact kT7 hs.1.1 | exact kT25 hs.1.1) (fun x_6 p_7 p_8 => ⟨_, rfl, ?_⟩)
  refine ⟨40, rfl, ?_⟩
  refine ⟨⟨rfl, by show 0 ≤ x_6 ∧ x_6 < 61; omega⟩, ?_⟩
  refine xm_named _ _ _ _ (fun x_9 p_10 => ⟨_, rfl, ?_⟩)
  exact k _ (by omega)
