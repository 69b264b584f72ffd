set_option maxRecDepth 100000 in
/-- GatheredPointsModel.negates [(0, 7)] -/
theorem zm3121_0 {z : gH} {L d : Nat} {K : Option gV → gH → Prop} {s : gH} (p0 : Int) (hs : zM z s) (h_p0 : 0 ≤ p0 ∧ p0 ≤ 7) (q0 : gp_I s 74 11 = 0) (q1 : gp_I s 74 43 = 0) (q2 : gp_I s 74 57 = 0) (q3 : gp_I s 74 58 = 0) (q4 : gp_I s 74 7 = 1) (q5 : gp_I s 74 9 = 0) (q6 : gp_I s 81 20 = 0) (k : ∀ (t : gH), zM z t → (gp_I t 74 11 = 0) → (gp_I t 74 43 = 0) → (gp_I t 74 57 = 0) → (gp_I t 74 58 = 0) → (gp_I t 74 7 = 1) → (gp_I t 74 9 = 0) → (gp_I t 81 19 = 1) → (gp_I t 81 20 = 1) → K none t) : gs_C L (d + 4) 3121 8 [gp_r (some 74), gp_i p0] s K := by
  refine s_3121_e _ ?_
  refine zm3085_0 hs (by omega) (by omega) (by omega) (by omega) (by omega) (by omega) (by omega) (fun s_1 hs_2 q_3 q_4 q_5 q_6 q_7 q_8 q_9 => ⟨rfl, ?_⟩)
  refine s_3121_6 _ _ _ _ _ _ _ ?_
  refine ⟨by omega, ?_⟩
  have f_10 := zr81 hs_2 p0.toNat
  have e_11 : gp_I s_1 81 p0.toNat = 1 := by omega
  try rw [e_11]
  refine ⟨fun h_12 => ?_, fun h_12 => ?_⟩
  · refine s_3121_24 _ _ _ _ _ ?_
    refine ⟨fun h_13 => ?_, fun h_13 => ?_⟩
    · exfalso; omega
    · have w_14 := gz_w (64 * p0)
      have w_15 := gz_w ((gp_wr (64 * p0)) + 0)
      refine ⟨by omega, ?_⟩
      have f_16 := zr79 hs_2 ((gp_wr ((gp_wr (64 * p0)) + 0)).toNat)
      have e_17 : gp_I s_1 79 (gp_wr ((gp_wr (64 * p0)) + 0)).toNat = 0 := by omega
      try rw [e_17]
      have w_18 := gz_w (-0)
      have e_19 : gp_wr (-0) = 0 := by omega
      try rw [e_19]
      have w_20 := gz_w (64 * p0)
      have w_21 := gz_w ((gp_wr (64 * p0)) + 0)
      refine ⟨by omega, ?_⟩
      have f_22 := zr78 hs_2 ((gp_wr ((gp_wr (64 * p0)) + 0)).toNat)
      have e_23 : gp_I s_1 78 (gp_wr ((gp_wr (64 * p0)) + 0)).toNat = 0 := by omega
      try rw [e_23]
      have w_24 := gz_w (-0)
      have e_25 : gp_wr (-0) = 0 := by omega
      try rw [e_25]
      refine zm3088_1 hs_2 (by omega) (by omega) (by omega) (by omega) (by omega) (by omega) (by omega) (fun s_26 hs_27 q_28 q_29 q_30 q_31 q_32 q_33 q_34 => ⟨_, rfl, ?_⟩)
      refine ⟨by omega, ?_⟩
      intro s_35 e_36
      have hs_37 : zM z s_35 := by rw [e_36]; exact zw89 hs_27 _ _ (by omega)
      have q_38 : gp_I s_35 74 11 = 0 := by rw [e_36]; exact q_28
      have q_39 : gp_I s_35 74 43 = 0 := by rw [e_36]; exact q_29
      have q_40 : gp_I s_35 74 57 = 0 := by rw [e_36]; exact q_30
      have q_41 : gp_I s_35 74 58 = 0 := by rw [e_36]; exact q_31
      have q_42 : gp_I s_35 74 7 = 1 := by rw [e_36]; exact q_32
      have q_43 : gp_I s_35 74 9 = 0 := by rw [e_36]; exact q_33
      have q_44 : gp_I s_35 81 20 = 1 := by rw [e_36]; exact q_34
      have w_45 := gz_w (0 + 1)
      have e_46 : gp_wr (0 + 1) = 1 := by omega
      try rw [e_46]
      refine s_3121_6 _ _ _ _ _ _ _ ?_
      refine ⟨by omega, ?_⟩
      have f_47 := zr81 hs_37 p0.toNat
      have e_48 : gp_I s_35 81 p0.toNat = 1 := by omega
      try rw [e_48]
      refine ⟨fun h_49 => ?_, fun h_49 => ?_⟩
      · exfalso; omega
      · refine ⟨by omega, ?_⟩
        have f_50 := zr81 hs_37 p0.toNat
        have e_51 : gp_I s_35 81 p0.toNat = 1 := by omega
        try rw [e_51]
        have w_52 := gz_w (1 - 1)
        have e_53 : gp_wr (1 - 1) = 0 := by omega
        try rw [e_53]
        refine ⟨by omega, ?_⟩
        have f_54 := zr89 hs_37 ((0 : Int).toNat)
        have e_55 : gp_I s_35 89 (0 : Int).toNat = 0 := by omega
        try rw [e_55]
        refine zm3093_1 hs_37 (by omega) (by omega) (by omega) (by omega) (by omega) (by omega) (by omega) (fun s_56 hs_57 q_58 q_59 q_60 q_61 q_62 q_63 q_64 q_65 => ⟨rfl, ?_⟩)
        exact k s_56 hs_57 (by omega) (by omega) (by omega) (by omega) (by omega) (by omega) (by omega) (by omega)
  · exfalso; omega
set_option maxRecDepth 100000 in
/-- GatheredPointsModel.copies [(19, 19), (0, 7)] -/
theorem zm3084_1 {z : gH} {L d : Nat} {K : Option gV → gH → Prop} {s : gH} (p1 : Int) (hs : zM z s) (h_p1 : 0 ≤ p1 ∧ p1 ≤ 7) (q0 : gp_I s 74 11 = 0) (q1 : gp_I s 74 43 = 0) (q2 : gp_I s 74 57 = 0) (q3 : gp_I s 74 58 = 0) (q4 : gp_I s 74 7 = 1) (q5 : gp_I s 74 9 = 0) (q6 : gp_I s 81 19 = 1) (q7 : gp_I s 81 20 = 1) (k : ∀ (t : gH), zM z t → (gp_I t 74 11 = 0) → (gp_I t 74 43 = 0) → (gp_I t 74 57 = 0) → (gp_I t 74 58 = 0) → (gp_I t 74 7 = 1) → (gp_I t 74 9 = 0) → (gp_I t 81 19 = 1) → (gp_I t 81 20 = 1) → K none t) : gs_C L d 3084 6 [gp_r (some 74), gp_i 19, gp_i p1] s K := by
  refine s_3084_e _ _ ?_
  refine ⟨by omega, ?_⟩
  try rw [show gp_I s 81 (19 : Int).toNat = 1 from q6]
  refine ⟨by omega, ?_⟩
  intro s_1 e_2
  have hs_3 : zM z s_1 := by rw [e_2]; exact zw81 hs _ _ (by omega)
  have q_4 : gp_I s_1 74 11 = 0 := by rw [e_2]; exact q0
  have q_5 : gp_I s_1 74 43 = 0 := by rw [e_2]; exact q1
  have q_6 : gp_I s_1 74 57 = 0 := by rw [e_2]; exact q2
  have q_7 : gp_I s_1 74 58 = 0 := by rw [e_2]; exact q3
  have q_8 : gp_I s_1 74 7 = 1 := by rw [e_2]; exact q4
  have q_9 : gp_I s_1 74 9 = 0 := by rw [e_2]; exact q5
  have q_10 : gp_I s_1 81 19 = 1 := by rw [e_2]; exact gz_oI (by omega) q6
  have q_11 : gp_I s_1 81 20 = 1 := by rw [e_2]; exact gz_oI (by omega) q7
  refine s_3084_14 _ _ _ _ _ ?_
  refine ⟨by omega, ?_⟩
  try rw [show gp_I s_1 81 (19 : Int).toNat = 1 from q_10]
  refine ⟨fun h_12 => ?_, fun h_12 => ?_⟩
  · have w_13 := gz_w (64 * 19)
    have e_14 : gp_wr (64 * 19) = 1216 := by omega
    try rw [e_14]
    have w_15 := gz_w (1216 + 0)
    have e_16 : gp_wr (1216 + 0) = 1216 := by omega
    try rw [e_16]
    have w_17 := gz_w (64 * p1)
    have w_18 := gz_w ((gp_wr (64 * p1)) + 0)
    refine ⟨by omega, ?_⟩
    try rw [zr76 hs_3 ((1216 : Int).toNat)]
    refine ⟨by omega, ?_⟩
    intro s_19 e_20
    have hs_21 : zM z s_19 := by rw [e_20]; exact zw76 hs_3 _ _ rfl
    have q_22 : gp_I s_19 74 11 = 0 := by rw [e_20]; exact q_4
    have q_23 : gp_I s_19 74 43 = 0 := by rw [e_20]; exact q_5
    have q_24 : gp_I s_19 74 57 = 0 := by rw [e_20]; exact q_6
    have q_25 : gp_I s_19 74 58 = 0 := by rw [e_20]; exact q_7
    have q_26 : gp_I s_19 74 7 = 1 := by rw [e_20]; exact q_8
    have q_27 : gp_I s_19 74 9 = 0 := by rw [e_20]; exact q_9
    have q_28 : gp_I s_19 81 19 = 1 := by rw [e_20]; exact q_10
    have q_29 : gp_I s_19 81 20 = 1 := by rw [e_20]; exact q_11
    refine ⟨by omega, ?_⟩
    try rw [zr77 hs_21 ((1216 : Int).toNat)]
    refine ⟨by omega, ?_⟩
    intro s_30 e_31
    have hs_32 : zM z s_30 := by rw [e_31]; exact zw77 hs_21 _ _ rfl
    have q_33 : gp_I s_30 74 11 = 0 := by rw [e_31]; exact q_22
    have q_34 : gp_I s_30 74 43 = 0 := by rw [e_31]; exact q_23
    have q_35 : gp_I s_30 74 57 = 0 := by rw [e_31]; exact q_24
    have q_36 : gp_I s_30 74 58 = 0 := by rw [e_31]; exact q_25
    have q_37 : gp_I s_30 74 7 = 1 := by rw [e_31]; exact q_26
    have q_38 : gp_I s_30 74 9 = 0 := by rw [e_31]; exact q_27
    have q_39 : gp_I s_30 81 19 = 1 := by rw [e_31]; exact q_28
    have q_40 : gp_I s_30 81 20 = 1 := by rw [e_31]; exact q_29
    refine ⟨by omega, ?_⟩
    have f_41 := zr78 hs_32 ((1216 : Int).toNat)
    have e_42 : gp_I s_30 78 (1216 : Int).toNat = 0 := by omega
    try rw [e_42]
    refine ⟨by omega, ?_⟩
    intro s_43 e_44
    have hs_45 : zM z s_43 := by rw [e_44]; exact zw78 hs_32 _ _ (by omega)
    have q_46 : gp_I s_43 74 11 = 0 := by rw [e_44]; exact q_33
    have q_47 : gp_I s_43 74 43 = 0 := by rw [e_44]; exact q_34
    have q_48 : gp_I s_43 74 57 = 0 := by rw [e_44]; exact q_35
    have q_49 : gp_I s_43 74 58 = 0 := by rw [e_44]; exact q_36
    have q_50 : gp_I s_43 74 7 = 1 := by rw [e_44]; exact q_37
    have q_51 : gp_I s_43 74 9 = 0 := by rw [e_44]; exact q_38
    have q_52 : gp_I s_43 81 19 = 1 := by rw [e_44]; exact q_39
    have q_53 : gp_I s_43 81 20 = 1 := by rw [e_44]; exact q_40
    refine ⟨by omega, ?_⟩
    have f_54 := zr79 hs_45 ((1216 : Int).toNat)
    have e_55 : gp_I s_43 79 (1216 : Int).toNat = 0 := by omega
    try rw [e_55]
    refine ⟨by omega, ?_⟩
    intro s_56 e_57
    have hs_58 : zM z s_56 := by rw [e_57]; exact zw79 hs_45 _ _ (by omega)
    have q_59 : gp_I s_56 74 11 = 0 := by rw [e_57]; exact q_46
    have q_60 : gp_I s_56 74 43 = 0 := by rw [e_57]; exact q_47
    have q_61 : gp_I s_56 74 57 = 0 := by rw [e_57]; exact q_48
    have q_62 : gp_I s_56 74 58 = 0 := by rw [e_57]; exact q_49
    have q_63 : gp_I s_56 74 7 = 1 := by rw [e_57]; exact q_50
    have q_64 : gp_I s_56 74 9 = 0 := by rw [e_57]; exact q_51
    have q_65 : gp_I s_56 81 19 = 1 := by rw [e_57]; exact q_52
    have q_66 : gp_I s_56 81 20 = 1 := by rw [e_57]; exact q_53
    refine ⟨by omega, ?_⟩
    have f_67 := zr80 hs_58 ((1216 : Int).toNat)
    have e_68 : gp_I s_56 80 (1216 : Int).toNat = 0 := by omega
    try rw [e_68]
    refine ⟨by omega, ?_⟩
    intro s_69 e_70
    have hs_71 : zM z s_69 := by rw [e_70]; exact zw80 hs_58 _ _ (by omega)
    have q_72 : gp_I s_69 74 11 = 0 := by rw [e_70]; exact q_59
    have q_73 : gp_I s_69 74 43 = 0 := by rw [e_70]; exact q_60
    have q_74 : gp_I s_69 74 57 = 0 := by rw [e_70]; exact q_61
    have q_75 : gp_I s_69 74 58 = 0 := by rw [e_70]; exact q_62
    have q_76 : gp_I s_69 74 7 = 1 := by rw [e_70]; exact q_63
    have q_77 : gp_I s_69 74 9 = 0 := by rw [e_70]; exact q_64
    have q_78 : gp_I s_69 81 19 = 1 := by rw [e_70]; exact q_65
    have q_79 : gp_I s_69 81 20 = 1 := by rw [e_70]; exact q_66
    have w_80 := gz_w (0 + 1)
    have e_81 : gp_wr (0 + 1) = 1 := by omega
    try rw [e_81]
    refine s_3084_14 _ _ _ _ _ ?_
    refine ⟨by omega, ?_⟩
    try rw [show gp_I s_69 81 (19 : Int).toNat = 1 from q_78]
    refine ⟨fun h_82 => ?_, fun h_82 => ?_⟩
    · exfalso; omega
    · exact k s_69 hs_71 (by omega) (by omega) (by omega) (by omega) (by omega) (by omega) (by omega) (by omega)
  · exfalso; omega
set_option maxRecDepth 100000 in
/-- GatheredPointsModel.holds [(0, 7)] -/
theorem zm3123_1 {z : gH} {L d : Nat} {K : Option gV → gH → Prop} {s : gH} (p0 : Int) (hs : zM z s) (h_p0 : 0 ≤ p0 ∧ p0 ≤ 7) (q0 : gp_I s 74 11 = 0) (q1 : gp_I s 74 43 = 0) (q2 : gp_I s 74 57 = 0) (q3 : gp_I s 74 58 = 0) (q4 : gp_I s 74 7 = 1) (q5 : gp_I s 74 9 = 0) (q6 : gp_I s 81 19 = 1) (q7 : gp_I s 81 20 = 1) (k : ∀ (t : gH), zM z t → (gp_I t 74 11 = 0) → (gp_I t 74 43 = 0) → (gp_I t 74 57 = 0) → (gp_I t 74 58 = 0) → (gp_I t 74 7 = 1) → (gp_I t 74 9 = 0) → (gp_I t 81 19 = 1) → (gp_I t 81 20 = 1) → K (some (gp_i 1)) t) : gs_C L (d + 1) 3123 2 [gp_r (some 74), gp_i p0] s K := by
  refine s_3123_e _ ?_
  refine zm3084_1 _ hs (by omega) (by omega) (by omega) (by omega) (by omega) (by omega) (by omega) (by omega) (by omega) (fun s_1 hs_2 q_3 q_4 q_5 q_6 q_7 q_8 q_9 q_10 => ⟨rfl, ?_⟩)
  refine ⟨by omega, ?_⟩
  have f_11 := zr81 hs_2 p0.toNat
  have e_12 : gp_I s_1 81 p0.toNat = 1 := by omega
  try rw [e_12]
  exact k s_1 hs_2 (by omega) (by omega) (by omega) (by omega) (by omega) (by omega) (by omega) (by omega)
set_option maxRecDepth 100000 in
/-- GatheredPointsModel.negate [(0, 7), (0, 7)] -/
theorem zm3147_4 {z : gH} {L d : Nat} {K : Option gV → gH → Prop} {s : gH} (p0 : Int) (p1 : Int) (hs : zM z s) (h_p0 : 0 ≤ p0 ∧ p0 ≤ 7) (h_p1 : 0 ≤ p1 ∧ p1 ≤ 7) (q0 : gp_I s 74 11 = 0) (q1 : gp_I s 74 43 = 0) (q2 : gp_I s 74 57 = 0) (q3 : gp_I s 74 58 = 0) (q4 : gp_I s 74 7 = 1) (q5 : gp_I s 74 9 = 0) (q6 : gp_I s 81 20 = 0) (k : ∀ (t : gH), zM z t → (gp_I t 74 11 = 0) → (gp_I t 74 43 = 0) → (gp_I t 74 57 = 0) → (gp_I t 74 58 = 0) → (gp_I t 74 7 = 1) → (gp_I t 74 9 = 0) → (gp_I t 81 19 = 1) → (gp_I t 81 20 = 1) → K (some (gp_i 1)) t) : gs_C L (d + 5) 3147 3 [gp_r (some 74), gp_i p0, gp_i p1] s K := by
  refine s_3147_e _ _ ?_
  refine zm3075_2 _ hs (by omega) (⟨_, rfl, ?_⟩)
  refine ⟨fun h_1 => ?_, fun h_1 => ?_⟩
  · exfalso; omega
  · refine zm3075_2 _ hs (by omega) (⟨_, rfl, ?_⟩)
    refine ⟨fun h_2 => ?_, fun h_2 => ?_⟩
    · exfalso; omega
    · refine zm3121_0 _ hs (by omega) (by omega) (by omega) (by omega) (by omega) (by omega) (by omega) (by omega) (fun s_3 hs_4 q_5 q_6 q_7 q_8 q_9 q_10 q_11 q_12 => ⟨rfl, ?_⟩)
      refine zm3123_1 _ hs_4 (by omega) (by omega) (by omega) (by omega) (by omega) (by omega) (by omega) (by omega) (by omega) (fun s_13 hs_14 q_15 q_16 q_17 q_18 q_19 q_20 q_21 q_22 => ⟨_, rfl, ?_⟩)
      exact k s_13 hs_14 (by omega) (by omega) (by omega) (by omega) (by omega) (by omega) (by omega) (by omega)
set_option maxRecDepth 100000 in
/-- GatheredPointsModel.reduce [(-2147483648, -1), (-2147483648, 2147483647)] -/
theorem zm3154_0 {z : gH} {L d : Nat} {K : Option gV → gH → Prop} {s : gH} (p0 : Int) (p1 : Int) (hs : zM z s) (h_p0 : (-2147483648) ≤ p0 ∧ p0 ≤ (-1)) (h_p1 : (-2147483648) ≤ p1 ∧ p1 ≤ 2147483647) (q0 : gp_I s 74 11 = 0) (q1 : gp_I s 74 43 = 0) (q2 : gp_I s 74 57 = 0) (q3 : gp_I s 74 58 = 0) (q4 : gp_I s 74 7 = 1) (q5 : gp_I s 74 9 = 0) (q6 : gp_I s 81 20 = 0) (k : ∀ (t : gH), zM z t → (gp_I t 74 11 = 0) → (gp_I t 74 43 = 0) → (gp_I t 74 57 = 0) → (gp_I t 74 58 = 0) → (gp_I t 74 7 = 1) → (gp_I t 74 9 = 0) → ((-2147483648) ≤ gp_I t 75 1 ∧ gp_I t 75 1 ≤ 2147483647) → (gp_I t 81 20 = 0) → K (some (gp_i (-1000000001))) t) : gs_C L (d + 1) 3154 3 [gp_r (some 74), gp_i p0, gp_i p1] s K := by
  refine s_3154_e _ _ ?_
  refine zm3075_0 _ hs (by omega) (⟨_, rfl, ?_⟩)
  refine ⟨fun h_1 => ?_, fun h_1 => ?_⟩
  · refine s_3154_14 _ _ ?_
    refine zm3074_1 hs (by omega) (by omega) (by omega) (by omega) (by omega) (by omega) (by omega) (fun s_2 hs_3 q_4 q_5 q_6 q_7 q_8 q_9 q_10 q_11 => ⟨_, rfl, ?_⟩)
    exact k s_2 hs_3 (by omega) (by omega) (by omega) (by omega) (by omega) (by omega) (by omega) (by omega)
  · exfalso; omega
set_option maxRecDepth 100000 in
/-- GatheredPointsModel.reduce [(8, 2147483647), (-2147483648, 2147483647)] -/
theorem zm3154_1 {z : gH} {L d : Nat} {K : Option gV → gH → Prop} {s : gH} (p0 : Int) (p1 : Int) (hs : zM z s) (h_p0 : 8 ≤ p0 ∧ p0 ≤ 2147483647) (h_p1 : (-2147483648) ≤ p1 ∧ p1 ≤ 2147483647) (q0 : gp_I s 74 11 = 0) (q1 : gp_I s 74 43 = 0) (q2 : gp_I s 74 57 = 0) (q3 : gp_I s 74 58 = 0) (q4 : gp_I s 74 7 = 1) (q5 : gp_I s 74 9 = 0) (q6 : gp_I s 81 20 = 0) (k : ∀ (t : gH), zM z t → (gp_I t 74 11 = 0) → (gp_I t 74 43 = 0) → (gp_I t 74 57 = 0) → (gp_I t 74 58 = 0) → (gp_I t 74 7 = 1) → (gp_I t 74 9 = 0) → ((-2147483648) ≤ gp_I t 75 1 ∧ gp_I t 75 1 ≤ 2147483647) → (gp_I t 81 20 = 0) → K (some (gp_i (-1000000001))) t) : gs_C L (d + 1) 3154 3 [gp_r (some 74), gp_i p0, gp_i p1] s K := by
  refine s_3154_e _ _ ?_
  refine zm3075_1 _ hs (by omega) (⟨_, rfl, ?_⟩)
  refine ⟨fun h_1 => ?_, fun h_1 => ?_⟩
  · refine s_3154_14 _ _ ?_
    refine zm3074_1 hs (by omega) (by omega) (by omega) (by omega) (by omega) (by omega) (by omega) (fun s_2 hs_3 q_4 q_5 q_6 q_7 q_8 q_9 q_10 q_11 => ⟨_, rfl, ?_⟩)
    exact k s_2 hs_3 (by omega) (by omega) (by omega) (by omega) (by omega) (by omega) (by omega) (by omega)
  · exfalso; omega
set_option maxRecDepth 100000 in
/-- GatheredPointsModel.reduce [(0, 7), (-2147483648, -1)] -/
theorem zm3154_2 {z : gH} {L d : Nat} {K : Option gV → gH → Prop} {s : gH} (p0 : Int) (p1 : Int) (hs : zM z s) (h_p0 : 0 ≤ p0 ∧ p0 ≤ 7) (h_p1 : (-2147483648) ≤ p1 ∧ p1 ≤ (-1)) (q0 : gp_I s 74 11 = 0) (q1 : gp_I s 74 43 = 0) (q2 : gp_I s 74 57 = 0) (q3 : gp_I s 74 58 = 0) (q4 : gp_I s 74 7 = 1) (q5 : gp_I s 74 9 = 0) (q6 : gp_I s 81 20 = 0) (k : ∀ (t : gH), zM z t → (gp_I t 74 11 = 0) → (gp_I t 74 43 = 0) → (gp_I t 74 57 = 0) → (gp_I t 74 58 = 0) → (gp_I t 74 7 = 1) → (gp_I t 74 9 = 0) → ((-2147483648) ≤ gp_I t 75 1 ∧ gp_I t 75 1 ≤ 2147483647) → (gp_I t 81 20 = 0) → K (some (gp_i (-1000000001))) t) : gs_C L (d + 1) 3154 3 [gp_r (some 74), gp_i p0, gp_i p1] s K := by
  refine s_3154_e _ _ ?_
  refine zm3075_2 _ hs (by omega) (⟨_, rfl, ?_⟩)
  refine ⟨fun h_1 => ?_, fun h_1 => ?_⟩
  · exfalso; omega
  · refine zm3075_0 _ hs (by omega) (⟨_, rfl, ?_⟩)
    refine ⟨fun h_2 => ?_, fun h_2 => ?_⟩
    · refine s_3154_14 _ _ ?_
      refine zm3074_1 hs (by omega) (by omega) (by omega) (by omega) (by omega) (by omega) (by omega) (fun s_3 hs_4 q_5 q_6 q_7 q_8 q_9 q_10 q_11 q_12 => ⟨_, rfl, ?_⟩)
      exact k s_3 hs_4 (by omega) (by omega) (by omega) (by omega) (by omega) (by omega) (by omega) (by omega)
    · exfalso; omega
set_option maxRecDepth 100000 in
/-- GatheredPointsModel.reduce [(0, 7), (8, 2147483647)] -/
theorem zm3154_3 {z : gH} {L d : Nat} {K : Option gV → gH → Prop} {s : gH} (p0 : Int) (p1 : Int) (hs : zM z s) (h_p0 : 0 ≤ p0 ∧ p0 ≤ 7) (h_p1 : 8 ≤ p1 ∧ p1 ≤ 2147483647) (q0 : gp_I s 74 11 = 0) (q1 : gp_I s 74 43 = 0) (q2 : gp_I s 74 57 = 0) (q3 : gp_I s 74 58 = 0) (q4 : gp_I s 74 7 = 1) (q5 : gp_I s 74 9 = 0) (q6 : gp_I s 81 20 = 0) (k : ∀ (t : gH), zM z t → (gp_I t 74 11 = 0) → (gp_I t 74 43 = 0) → (gp_I t 74 57 = 0) → (gp_I t 74 58 = 0) → (gp_I t 74 7 = 1) → (gp_I t 74 9 = 0) → ((-2147483648) ≤ gp_I t 75 1 ∧ gp_I t 75 1 ≤ 2147483647) → (gp_I t 81 20 = 0) → K (some (gp_i (-1000000001))) t) : gs_C L (d + 1) 3154 3 [gp_r (some 74), gp_i p0, gp_i p1] s K := by
  refine s_3154_e _ _ ?_
  refine zm3075_2 _ hs (by omega) (⟨_, rfl, ?_⟩)
  refine ⟨fun h_1 => ?_, fun h_1 => ?_⟩
  · exfalso; omega
  · refine zm3075_1 _ hs (by omega) (⟨_, rfl, ?_⟩)
    refine ⟨fun h_2 => ?_, fun h_2 => ?_⟩
    · refine s_3154_14 _ _ ?_
      refine zm3074_1 hs (by omega) (by omega) (by omega) (by omega) (by omega) (by omega) (by omega) (fun s_3 hs_4 q_5 q_6 q_7 q_8 q_9 q_10 q_11 q_12 => ⟨_, rfl, ?_⟩)
      exact k s_3 hs_4 (by omega) (by omega) (by omega) (by omega) (by omega) (by omega) (by omega) (by omega)
    · exfalso; omega
set_option maxRecDepth 100000 in
/-- GatheredPointsModel.side [(0, 7), (0, 0), (0, 0)] -/
theorem zm3082_0 {z : gH} {L d : Nat} {K : Option gV → gH → Prop} {s : gH} (p0 : Int) (hs : zM z s) (h_p0 : 0 ≤ p0 ∧ p0 ≤ 7)  (k : K (some (gp_l (0#64))) s) : gs_C L d 3082 4 [gp_r (some 74), gp_i p0, gp_i 0, gp_i 0] s K := by
  refine s_3082_e _ _ _ ?_
  refine ⟨fun h_1 => ?_, fun h_1 => ?_⟩
  · have w_2 := gz_w (64 * p0)
    have w_3 := gz_w ((gp_wr (64 * p0)) + 0)
    refine ⟨by omega, ?_⟩
    try rw [zr76 hs ((gp_wr ((gp_wr (64 * p0)) + 0)).toNat)]
    refine s_3082_29 _ _ _ _ ?_
    exact k
  · exfalso; omega
set_option maxRecDepth 100000 in
/-- GatheredPointsModel.shut [(0, 7), (0, 0), (0, 0)] -/
theorem zm3083_0 {z : gH} {L d : Nat} {K : Option gV → gH → Prop} {s : gH} (p0 : Int) (hs : zM z s) (h_p0 : 0 ≤ p0 ∧ p0 ≤ 7)  (k : K (some (gp_i 0)) s) : gs_C L d 3083 4 [gp_r (some 74), gp_i p0, gp_i 0, gp_i 0] s K := by
  refine s_3083_e _ _ _ ?_
  refine ⟨fun h_1 => ?_, fun h_1 => ?_⟩
  · have w_2 := gz_w (64 * p0)
    have w_3 := gz_w ((gp_wr (64 * p0)) + 0)
    refine ⟨by omega, ?_⟩
    have f_4 := zr78 hs ((gp_wr ((gp_wr (64 * p0)) + 0)).toNat)
    have e_5 : gp_I s 78 (gp_wr ((gp_wr (64 * p0)) + 0)).toNat = 0 := by omega
    try rw [e_5]
    refine s_3083_29 _ _ _ _ ?_
    exact k
  · exfalso; omega
set_option maxRecDepth 100000 in
/-- GatheredPointsModel.side [(0, 7), (0, 0), (1, 1)] -/
theorem zm3082_1 {z : gH} {L d : Nat} {K : Option gV → gH → Prop} {s : gH} (p0 : Int) (hs : zM z s) (h_p0 : 0 ≤ p0 ∧ p0 ≤ 7)  (k : K (some (gp_l (0#64))) s) : gs_C L d 3082 4 [gp_r (some 74), gp_i p0, gp_i 0, gp_i 1] s K := by
  refine s_3082_e _ _ _ ?_
  refine ⟨fun h_1 => ?_, fun h_1 => ?_⟩
  · exfalso; omega
  · have w_2 := gz_w (64 * p0)
    have w_3 := gz_w ((gp_wr (64 * p0)) + 0)
    refine ⟨by omega, ?_⟩
    try rw [zr77 hs ((gp_wr ((gp_wr (64 * p0)) + 0)).toNat)]
    refine s_3082_29 _ _ _ _ ?_
    exact k
set_option maxRecDepth 100000 in
/-- GatheredPointsModel.shut [(0, 7), (0, 0), (1, 1)] -/
theorem zm3083_1 {z : gH} {L d : Nat} {K : Option gV → gH → Prop} {s : gH} (p0 : Int) (hs : zM z s) (h_p0 : 0 ≤ p0 ∧ p0 ≤ 7)  (k : K (some (gp_i 0)) s) : gs_C L d 3083 4 [gp_r (some 74), gp_i p0, gp_i 0, gp_i 1] s K := by
  refine s_3083_e _ _ _ ?_
  refine ⟨fun h_1 => ?_, fun h_1 => ?_⟩
  · exfalso; omega
  · have w_2 := gz_w (64 * p0)
    have w_3 := gz_w ((gp_wr (64 * p0)) + 0)
    refine ⟨by omega, ?_⟩
    have f_4 := zr79 hs ((gp_wr ((gp_wr (64 * p0)) + 0)).toNat)
    have e_5 : gp_I s 79 (gp_wr ((gp_wr (64 * p0)) + 0)).toNat = 0 := by omega
    try rw [e_5]
    refine s_3083_29 _ _ _ _ ?_
    exact k
set_option maxRecDepth 100000 in
/-- GatheredPointsModel.isSure [(0, 7)] -/
theorem zm3103_0 {z : gH} {L d : Nat} {K : Option gV → gH → Prop} {s : gH} (p0 : Int) (hs : zM z s) (h_p0 : 0 ≤ p0 ∧ p0 ≤ 7) (q0 : gp_I s 81 20 = 0) (k : K (some (gp_i 1)) s) : gs_C L (d + 1) 3103 9 [gp_r (some 74), gp_i p0] s K := by
  refine s_3103_e _ ?_
  refine s_3103_2 _ _ _ _ _ _ _ _ ?_
  refine ⟨by omega, ?_⟩
  have f_1 := zr81 hs p0.toNat
  have e_2 : gp_I s 81 p0.toNat = 1 := by omega
  try rw [e_2]
  refine ⟨fun h_3 => ?_, fun h_3 => ?_⟩
  · have w_4 := gz_w (64 * p0)
    have w_5 := gz_w ((gp_wr (64 * p0)) + 0)
    have e_6 : (1#64) <<< ((0 : Int) % 64).toNat = 1#64 := by decide
    try rw [e_6]
    refine s_3103_27 _ _ _ _ _ _ _ ?_
    refine ⟨fun h_7 => ?_, fun h_7 => ?_⟩
    · exfalso; omega
    · refine zm3078_5 hs (⟨_, rfl, ?_⟩)
      refine ⟨fun h_8 => ?_, fun h_8 => ?_⟩
      · exfalso; omega
      · have w_9 := gz_w (64 * p0)
        have w_10 := gz_w ((gp_wr (64 * p0)) + 0)
        refine ⟨by omega, ?_⟩
        try rw [zr76 hs ((gp_wr ((gp_wr (64 * p0)) + 0)).toNat)]
        have w_11 := gz_w (64 * p0)
        have w_12 := gz_w ((gp_wr (64 * p0)) + 0)
        refine ⟨by omega, ?_⟩
        try rw [zr77 hs ((gp_wr ((gp_wr (64 * p0)) + 0)).toNat)]
        have e_13 : (0#64) ||| (0#64) = 0#64 := by decide
        try rw [e_13]
        refine s_3103_73 _ _ _ _ _ _ _ _ _ ?_
        have e_14 : (1#64) ||| (0#64) = 1#64 := by decide
        try rw [e_14]
        have w_15 := gz_w (0 + (-1))
        have e_16 : gp_wr (0 + (-1)) = (-1) := by omega
        try rw [e_16]
        refine s_3103_27 _ _ _ _ _ _ _ ?_
        refine ⟨fun h_17 => ?_, fun h_17 => ?_⟩
        · refine s_3103_85 _ _ _ _ _ _ _ ?_
          refine ⟨fun h_18 => ?_, fun h_18 => ?_⟩
          · exfalso; omega
          · refine s_3103_94 _ _ _ _ _ _ _ ?_
            refine ⟨fun h_19 => ?_, fun h_19 => ?_⟩
            · refine zm3078_5 hs (⟨_, rfl, ?_⟩)
              refine ⟨fun h_20 => ?_, fun h_20 => ?_⟩
              · exfalso; omega
              · refine zm3082_0 _ hs (by omega) (⟨_, rfl, ?_⟩)
                have e_21 : gp_cmp (0#64) (0#64) = 0 := by decide
                try rw [e_21]
                refine ⟨fun h_22 => ?_, fun h_22 => ?_⟩
                · refine s_3103_129 _ _ _ _ _ _ _ _ ?_
                  refine ⟨fun h_23 => ?_, fun h_23 => ?_⟩
                  · exfalso; omega
                  · refine ⟨by omega, ?_⟩
                    try rw [zr76 hs ((gp_wr ((gp_wr (64 * p0)) + 0)).toNat)]
                    have e_24 : gp_cmp (0#64) (0#64) = 0 := by decide
                    try rw [e_24]
                    refine ⟨fun h_25 => ?_, fun h_25 => ?_⟩
                    · refine zm3083_0 _ hs (by omega) (⟨_, rfl, ?_⟩)
                      refine ⟨by omega, ?_⟩
                      have f_26 := zr78 hs ((gp_wr ((gp_wr (64 * p0)) + 0)).toNat)
                      have e_27 : gp_I s 78 (gp_wr ((gp_wr (64 * p0)) + 0)).toNat = 0 := by omega
                      try rw [e_27]
                      refine ⟨fun h_28 => ?_, fun h_28 => ?_⟩
                      · exfalso; omega
                      · refine s_3103_165 _ _ _ _ _ _ _ ?_
                        refine ⟨by omega, ?_⟩
                        try rw [zr77 hs ((gp_wr ((gp_wr (64 * p0)) + 0)).toNat)]
                        have e_29 : gp_cmp (0#64) (0#64) = 0 := by decide
                        try rw [e_29]
                        refine ⟨fun h_30 => ?_, fun h_30 => ?_⟩
                        · refine zm3083_0 _ hs (by omega) (⟨_, rfl, ?_⟩)
                          refine ⟨by omega, ?_⟩
                          have f_31 := zr79 hs ((gp_wr ((gp_wr (64 * p0)) + 0)).toNat)
                          have e_32 : gp_I s 79 (gp_wr ((gp_wr (64 * p0)) + 0)).toNat = 0 := by omega
                          try rw [e_32]
                          refine ⟨fun h_33 => ?_, fun h_33 => ?_⟩
                          · exfalso; omega
                          · refine s_3103_196 _ _ _ _ _ _ _ ?_
                            have w_34 := gz_w (0 + 1)
                            have e_35 : gp_wr (0 + 1) = 1 := by omega
                            try rw [e_35]
                            refine s_3103_94 _ _ _ _ _ _ _ ?_
                            refine ⟨fun h_36 => ?_, fun h_36 => ?_⟩
                            · refine zm3078_5 hs (⟨_, rfl, ?_⟩)
                              refine ⟨fun h_37 => ?_, fun h_37 => ?_⟩
                              · exfalso; omega
                              · refine zm3082_1 _ hs (by omega) (⟨_, rfl, ?_⟩)
                                have e_38 : gp_cmp (0#64) (0#64) = 0 := by decide
                                try rw [e_38]
                                refine ⟨fun h_39 => ?_, fun h_39 => ?_⟩
                                · refine s_3103_129 _ _ _ _ _ _ _ _ ?_
                                  refine ⟨fun h_40 => ?_, fun h_40 => ?_⟩
                                  · exfalso; omega
                                  · refine ⟨by omega, ?_⟩
                                    try rw [zr76 hs ((gp_wr ((gp_wr (64 * p0)) + 0)).toNat)]
                                    have e_41 : gp_cmp (0#64) (0#64) = 0 := by decide
                                    try rw [e_41]
                                    refine ⟨fun h_42 => ?_, fun h_42 => ?_⟩
                                    · refine zm3083_1 _ hs (by omega) (⟨_, rfl, ?_⟩)
                                      refine ⟨by omega, ?_⟩
                                      have f_43 := zr78 hs ((gp_wr ((gp_wr (64 * p0)) + 0)).toNat)
                                      have e_44 : gp_I s 78 (gp_wr ((gp_wr (64 * p0)) + 0)).toNat = 0 := by omega
                                      try rw [e_44]
                                      refine ⟨fun h_45 => ?_, fun h_45 => ?_⟩
                                      · exfalso; omega
                                      · refine s_3103_165 _ _ _ _ _ _ _ ?_
                                        refine ⟨by omega, ?_⟩
                                        try rw [zr77 hs ((gp_wr ((gp_wr (64 * p0)) + 0)).toNat)]
                                        have e_46 : gp_cmp (0#64) (0#64) = 0 := by decide
                                        try rw [e_46]
                                        refine ⟨fun h_47 => ?_, fun h_47 => ?_⟩
                                        · refine zm3083_1 _ hs (by omega) (⟨_, rfl, ?_⟩)
                                          refine ⟨by omega, ?_⟩
                                          have f_48 := zr79 hs ((gp_wr ((gp_wr (64 * p0)) + 0)).toNat)
                                          have e_49 : gp_I s 79 (gp_wr ((gp_wr (64 * p0)) + 0)).toNat = 0 := by omega
                                          try rw [e_49]
                                          refine ⟨fun h_50 => ?_, fun h_50 => ?_⟩
                                          · exfalso; omega
                                          · refine s_3103_196 _ _ _ _ _ _ _ ?_
                                            have w_51 := gz_w (1 + 1)
                                            have e_52 : gp_wr (1 + 1) = 2 := by omega
                                            try rw [e_52]
                                            refine s_3103_94 _ _ _ _ _ _ _ ?_
                                            refine ⟨fun h_53 => ?_, fun h_53 => ?_⟩
                                            · exfalso; omega
                                            · refine s_3103_202 _ _ _ _ _ _ _ ?_
                                              have w_54 := gz_w (0 + 1)
                                              have e_55 : gp_wr (0 + 1) = 1 := by omega
                                              try rw [e_55]
                                              refine s_3103_85 _ _ _ _ _ _ _ ?_
                                              refine ⟨fun h_56 => ?_, fun h_56 => ?_⟩
                                              · have w_57 := gz_w (0 + 1)
                                                have e_58 : gp_wr (0 + 1) = 1 := by omega
                                                try rw [e_58]
                                                refine s_3103_2 _ _ _ _ _ _ _ _ ?_
                                                refine ⟨by omega, ?_⟩
                                                have f_59 := zr81 hs p0.toNat
                                                have e_60 : gp_I s 81 p0.toNat = 1 := by omega
                                                try rw [e_60]
                                                refine ⟨fun h_61 => ?_, fun h_61 => ?_⟩
                                                · exfalso; omega
                                                · exact k
                                              · exfalso; omega
                                        · exfalso; omega
                                    · exfalso; omega
                                · exfalso; omega
                            · exfalso; omega
                        · exfalso; omega
                    · exfalso; omega
                · exfalso; omega
            · exfalso; omega
        · exfalso; omega
  · exfalso; omega
set_option maxRecDepth 100000 in
/-- GatheredPointsModel.reducedSet [0, (0, 0)] -/
theorem zm3110_0 {z : gH} {L d : Nat} {K : Option gV → gH → Prop} {s : gH}  (hs : zM z s)   (k : K (some (gp_l (0#64))) s) : gs_C L (d + 1) 3110 7 [gp_r (some 74), gp_l (0#64), gp_i 0] s K := by
  refine s_3110_e _ _ ?_
  refine s_3110_6 _ _ _ _ ?_
  refine ⟨fun h_1 => ?_, fun h_1 => ?_⟩
  · exfalso; omega
  · exact k
set_option maxRecDepth 100000 in
/-- GatheredPointsModel.worst [(20, 20), (0, 0), 94, (64, 64), (0, 0)] -/
theorem zm3098_0 {z : gH} {L d : Nat} {K : Option gV → gH → Prop} {s : gH}  (hs : zM z s)   (k : K (some (gp_i 0)) s) : gs_C L (d + 1) 3098 9 [gp_r (some 74), gp_i 20, gp_i 0, gp_r (some 94), gp_i 64, gp_i 0] s K := by
  refine s_3098_e _ _ _ _ _ ?_
  have w_1 := gz_w (64 * 20)
  have e_2 : gp_wr (64 * 20) = 1280 := by omega
  try rw [e_2]
  have w_3 := gz_w (1280 + 0)
  have e_4 : gp_wr (1280 + 0) = 1280 := by omega
  try rw [e_4]
  refine ⟨by omega, ?_⟩
  try rw [zr77 hs ((1280 : Int).toNat)]
  have e_5 : gp_cmp (0#64) (0#64) = 0 := by decide
  try rw [e_5]
  refine ⟨fun h_6 => ?_, fun h_6 => ?_⟩
  · refine ⟨by omega, ?_⟩
    have f_7 := zr79 hs ((1280 : Int).toNat)
    have e_8 : gp_I s 79 (1280 : Int).toNat = 0 := by omega
    try rw [e_8]
    refine s_3098_32 _ _ _ _ _ _ _ _ _ ?_
    refine s_3098_37 _ _ _ _ _ _ _ _ ?_
    refine ⟨fun h_11 => ?_, fun h_11 => ?_⟩
    · exfalso; omega
    · exact k
  · exfalso; omega
set_option maxRecDepth 100000 in
/-- GatheredPointsModel.best [(20, 20), (0, 0), 97, (64, 64), (0, 0)] -/
theorem zm3097_0 {z : gH} {L d : Nat} {K : Option gV → gH → Prop} {s : gH}  (hs : zM z s)   (k : K (some (gp_i 0)) s) : gs_C L (d + 1) 3097 9 [gp_r (some 74), gp_i 20, gp_i 0, gp_r (some 97), gp_i 64, gp_i 0] s K := by
  refine s_3097_e _ _ _ _ _ ?_
  have w_1 := gz_w (64 * 20)
  have e_2 : gp_wr (64 * 20) = 1280 := by omega
  try rw [e_2]
  have w_3 := gz_w (1280 + 0)
  have e_4 : gp_wr (1280 + 0) = 1280 := by omega
  try rw [e_4]
  refine ⟨by omega, ?_⟩
  try rw [zr76 hs ((1280 : Int).toNat)]
  have e_5 : gp_cmp (0#64) (0#64) = 0 := by decide
  try rw [e_5]
  refine ⟨fun h_6 => ?_, fun h_6 => ?_⟩
  · refine ⟨by omega, ?_⟩
    have f_7 := zr78 hs ((1280 : Int).toNat)
    have e_8 : gp_I s 78 (1280 : Int).toNat = 0 := by omega
    try rw [e_8]
    refine s_3097_32 _ _ _ _ _ _ _ _ _ ?_
    refine s_3097_37 _ _ _ _ _ _ _ _ ?_
    refine ⟨fun h_11 => ?_, fun h_11 => ?_⟩
    · exfalso; omega
    · exact k
  · exfalso; omega
set_option maxRecDepth 100000 in
/-- GatheredPointsModel.best [(20, 20), (0, 0), 95, (64, 64), (0, 0)] -/
theorem zm3097_1 {z : gH} {L d : Nat} {K : Option gV → gH → Prop} {s : gH}  (hs : zM z s)   (k : K (some (gp_i 0)) s) : gs_C L (d + 1) 3097 9 [gp_r (some 74), gp_i 20, gp_i 0, gp_r (some 95), gp_i 64, gp_i 0] s K := by
  refine s_3097_e _ _ _ _ _ ?_
  have w_1 := gz_w (64 * 20)
  have e_2 : gp_wr (64 * 20) = 1280 := by omega
  try rw [e_2]
  have w_3 := gz_w (1280 + 0)
  have e_4 : gp_wr (1280 + 0) = 1280 := by omega
  try rw [e_4]
  refine ⟨by omega, ?_⟩
  try rw [zr76 hs ((1280 : Int).toNat)]
  have e_5 : gp_cmp (0#64) (0#64) = 0 := by decide
  try rw [e_5]
  refine ⟨fun h_6 => ?_, fun h_6 => ?_⟩
  · refine ⟨by omega, ?_⟩
    have f_7 := zr78 hs ((1280 : Int).toNat)
    have e_8 : gp_I s 78 (1280 : Int).toNat = 0 := by omega
    try rw [e_8]
    refine s_3097_32 _ _ _ _ _ _ _ _ _ ?_
    refine s_3097_37 _ _ _ _ _ _ _ _ ?_
    refine ⟨fun h_11 => ?_, fun h_11 => ?_⟩
    · exfalso; omega
    · exact k
  · exfalso; omega
set_option maxRecDepth 100000 in
/-- GatheredPointsModel.worst [(20, 20), (0, 0), 96, (64, 64), (0, 0)] -/
theorem zm3098_1 {z : gH} {L d : Nat} {K : Option gV → gH → Prop} {s : gH}  (hs : zM z s)   (k : K (some (gp_i 0)) s) : gs_C L (d + 1) 3098 9 [gp_r (some 74), gp_i 20, gp_i 0, gp_r (some 96), gp_i 64, gp_i 0] s K := by
  refine s_3098_e _ _ _ _ _ ?_
  have w_1 := gz_w (64 * 20)
  have e_2 : gp_wr (64 * 20) = 1280 := by omega
  try rw [e_2]
  have w_3 := gz_w (1280 + 0)
  have e_4 : gp_wr (1280 + 0) = 1280 := by omega
  try rw [e_4]
  refine ⟨by omega, ?_⟩
  try rw [zr77 hs ((1280 : Int).toNat)]
  have e_5 : gp_cmp (0#64) (0#64) = 0 := by decide
  try rw [e_5]
  refine ⟨fun h_6 => ?_, fun h_6 => ?_⟩
  · refine ⟨by omega, ?_⟩
    have f_7 := zr79 hs ((1280 : Int).toNat)
    have e_8 : gp_I s 79 (1280 : Int).toNat = 0 := by omega
    try rw [e_8]
    refine s_3098_32 _ _ _ _ _ _ _ _ _ ?_
    refine s_3098_37 _ _ _ _ _ _ _ _ ?_
    refine ⟨fun h_11 => ?_, fun h_11 => ?_⟩
    · exfalso; omega
    · exact k
  · exfalso; omega
set_option maxRecDepth 100000 in
/-- GatheredPointsModel.worst [(20, 20), (0, 0), 94, (64, 64), (0, 1)] -/
theorem zm3098_2 {z : gH} {L d : Nat} {K : Option gV → gH → Prop} {s : gH} (p4 : Int) (hs : zM z s) (h_p4 : 0 ≤ p4 ∧ p4 ≤ 1)  (k : K (some (gp_i 0)) s) : gs_C L (d + 1) 3098 9 [gp_r (some 74), gp_i 20, gp_i 0, gp_r (some 94), gp_i 64, gp_i p4] s K := by
  refine s_3098_e _ _ _ _ _ ?_
  have w_1 := gz_w (64 * 20)
  have e_2 : gp_wr (64 * 20) = 1280 := by omega
  try rw [e_2]
  have w_3 := gz_w (1280 + 0)
  have e_4 : gp_wr (1280 + 0) = 1280 := by omega
  try rw [e_4]
  refine ⟨by omega, ?_⟩
  try rw [zr77 hs ((1280 : Int).toNat)]
  have e_5 : gp_cmp (0#64) (0#64) = 0 := by decide
  try rw [e_5]
  refine ⟨fun h_6 => ?_, fun h_6 => ?_⟩
  · refine ⟨by omega, ?_⟩
    have f_7 := zr79 hs ((1280 : Int).toNat)
    have e_8 : gp_I s 79 (1280 : Int).toNat = 0 := by omega
    try rw [e_8]
    refine s_3098_32 _ _ _ _ _ _ _ _ _ ?_
    refine s_3098_37 _ _ _ _ _ _ _ _ ?_
    refine ⟨fun h_11 => ?_, fun h_11 => ?_⟩
    · exfalso; omega
    · exact k
  · exfalso; omega
set_option maxRecDepth 100000 in
/-- GatheredPointsModel.best [(20, 20), (0, 0), 97, (64, 64), (0, 1)] -/
theorem zm3097_2 {z : gH} {L d : Nat} {K : Option gV → gH → Prop} {s : gH} (p4 : Int) (hs : zM z s) (h_p4 : 0 ≤ p4 ∧ p4 ≤ 1)  (k : K (some (gp_i 0)) s) : gs_C L (d + 1) 3097 9 [gp_r (some 74), gp_i 20, gp_i 0, gp_r (some 97), gp_i 64, gp_i p4] s K := by
  refine s_3097_e _ _ _ _ _ ?_
  have w_1 := gz_w (64 * 20)
  have e_2 : gp_wr (64 * 20) = 1280 := by omega
  try rw [e_2]
  have w_3 := gz_w (1280 + 0)
  have e_4 : gp_wr (1280 + 0) = 1280 := by omega
  try rw [e_4]
  refine ⟨by omega, ?_⟩
  try rw [zr76 hs ((1280 : Int).toNat)]
  have e_5 : gp_cmp (0#64) (0#64) = 0 := by decide
  try rw [e_5]
  refine ⟨fun h_6 => ?_, fun h_6 => ?_⟩
  · refine ⟨by omega, ?_⟩
    have f_7 := zr78 hs ((1280 : Int).toNat)
    have e_8 : gp_I s 78 (1280 : Int).toNat = 0 := by omega
    try rw [e_8]
    refine s_3097_32 _ _ _ _ _ _ _ _ _ ?_
    refine s_3097_37 _ _ _ _ _ _ _ _ ?_
    refine ⟨fun h_11 => ?_, fun h_11 => ?_⟩
    · exfalso; omega
    · exact k
  · exfalso; omega
set_option maxRecDepth 100000 in
/-- GatheredPointsModel.worst [(20, 20), (0, 0), 94, (64, 64), (0, 2)] -/
theorem zm3098_3 {z : gH} {L d : Nat} {K : Option gV → gH → Prop} {s : gH} (p4 : Int) (hs : zM z s) (h_p4 : 0 ≤ p4 ∧ p4 ≤ 2)  (k : K (some (gp_i 0)) s) : gs_C L (d + 1) 3098 9 [gp_r (some 74), gp_i 20, gp_i 0, gp_r (some 94), gp_i 64, gp_i p4] s K := by
  refine s_3098_e _ _ _ _ _ ?_
  have w_1 := gz_w (64 * 20)
  have e_2 : gp_wr (64 * 20) = 1280 := by omega
  try rw [e_2]
  have w_3 := gz_w (1280 + 0)
  have e_4 : gp_wr (1280 + 0) = 1280 := by omega
  try rw [e_4]
  refine ⟨by omega, ?_⟩
  try rw [zr77 hs ((1280 : Int).toNat)]
  have e_5 : gp_cmp (0#64) (0#64) = 0 := by decide
  try rw [e_5]
  refine ⟨fun h_6 => ?_, fun h_6 => ?_⟩
  · refine ⟨by omega, ?_⟩
    have f_7 := zr79 hs ((1280 : Int).toNat)
    have e_8 : gp_I s 79 (1280 : Int).toNat = 0 := by omega
    try rw [e_8]
    refine s_3098_32 _ _ _ _ _ _ _ _ _ ?_
    refine s_3098_37 _ _ _ _ _ _ _ _ ?_
    refine ⟨fun h_11 => ?_, fun h_11 => ?_⟩
    · exfalso; omega
    · exact k
  · exfalso; omega
set_option maxRecDepth 100000 in
/-- GatheredPointsModel.best [(20, 20), (0, 0), 97, (64, 64), (0, 2)] -/
theorem zm3097_3 {z : gH} {L d : Nat} {K : Option gV → gH → Prop} {s : gH} (p4 : Int) (hs : zM z s) (h_p4 : 0 ≤ p4 ∧ p4 ≤ 2)  (k : K (some (gp_i 0)) s) : gs_C L (d + 1) 3097 9 [gp_r (some 74), gp_i 20, gp_i 0, gp_r (some 97), gp_i 64, gp_i p4] s K := by
  refine s_3097_e _ _ _ _ _ ?_
  have w_1 := gz_w (64 * 20)
  have e_2 : gp_wr (64 * 20) = 1280 := by omega
  try rw [e_2]
  have w_3 := gz_w (1280 + 0)
  have e_4 : gp_wr (1280 + 0) = 1280 := by omega
  try rw [e_4]
  refine ⟨by omega, ?_⟩
  try rw [zr76 hs ((1280 : Int).toNat)]
  have e_5 : gp_cmp (0#64) (0#64) = 0 := by decide
  try rw [e_5]
  refine ⟨fun h_6 => ?_, fun h_6 => ?_⟩
  · refine ⟨by omega, ?_⟩
    have f_7 := zr78 hs ((1280 : Int).toNat)
    have e_8 : gp_I s 78 (1280 : Int).toNat = 0 := by omega
    try rw [e_8]
    refine s_3097_32 _ _ _ _ _ _ _ _ _ ?_
    refine s_3097_37 _ _ _ _ _ _ _ _ ?_
    refine ⟨fun h_11 => ?_, fun h_11 => ?_⟩
    · exfalso; omega
    · exact k
  · exfalso; omega
set_option maxRecDepth 100000 in
/-- GatheredPointsModel.worst [(20, 20), (0, 0), 94, (64, 64), (0, 59)] -/
theorem zm3098_4 {z : gH} {L d : Nat} {K : Option gV → gH → Prop} {s : gH} (p4 : Int) (hs : zM z s) (h_p4 : 0 ≤ p4 ∧ p4 ≤ 59)  (k : K (some (gp_i 0)) s) : gs_C L (d + 1) 3098 9 [gp_r (some 74), gp_i 20, gp_i 0, gp_r (some 94), gp_i 64, gp_i p4] s K := by
  refine s_3098_e _ _ _ _ _ ?_
  have w_1 := gz_w (64 * 20)
  have e_2 : gp_wr (64 * 20) = 1280 := by omega
  try rw [e_2]
  have w_3 := gz_w (1280 + 0)
  have e_4 : gp_wr (1280 + 0) = 1280 := by omega
  try rw [e_4]
  refine ⟨by omega, ?_⟩
  try rw [zr77 hs ((1280 : Int).toNat)]
  have e_5 : gp_cmp (0#64) (0#64) = 0 := by decide
  try rw [e_5]
  refine ⟨fun h_6 => ?_, fun h_6 => ?_⟩
  · refine ⟨by omega, ?_⟩
    have f_7 := zr79 hs ((1280 : Int).toNat)
    have e_8 : gp_I s 79 (1280 : Int).toNat = 0 := by omega
    try rw [e_8]
    refine s_3098_32 _ _ _ _ _ _ _ _ _ ?_
    refine s_3098_37 _ _ _ _ _ _ _ _ ?_
    refine ⟨fun h_11 => ?_, fun h_11 => ?_⟩
    · exfalso; omega
    · exact k
  · exfalso; omega
set_option maxRecDepth 100000 in
/-- GatheredPointsModel.best [(20, 20), (0, 0), 97, (64, 64), (0, 59)] -/
theorem zm3097_4 {z : gH} {L d : Nat} {K : Option gV → gH → Prop} {s : gH} (p4 : Int) (hs : zM z s) (h_p4 : 0 ≤ p4 ∧ p4 ≤ 59)  (k : K (some (gp_i 0)) s) : gs_C L (d + 1) 3097 9 [gp_r (some 74), gp_i 20, gp_i 0, gp_r (some 97), gp_i 64, gp_i p4] s K := by
  refine s_3097_e _ _ _ _ _ ?_
  have w_1 := gz_w (64 * 20)
  have e_2 : gp_wr (64 * 20) = 1280 := by omega
  try rw [e_2]
  have w_3 := gz_w (1280 + 0)
  have e_4 : gp_wr (1280 + 0) = 1280 := by omega
  try rw [e_4]
  refine ⟨by omega, ?_⟩
  try rw [zr76 hs ((1280 : Int).toNat)]
  have e_5 : gp_cmp (0#64) (0#64) = 0 := by decide
  try rw [e_5]
  refine ⟨fun h_6 => ?_, fun h_6 => ?_⟩
  · refine ⟨by omega, ?_⟩
    have f_7 := zr78 hs ((1280 : Int).toNat)
    have e_8 : gp_I s 78 (1280 : Int).toNat = 0 := by omega
    try rw [e_8]
    refine s_3097_32 _ _ _ _ _ _ _ _ _ ?_
    refine s_3097_37 _ _ _ _ _ _ _ _ ?_
    refine ⟨fun h_11 => ?_, fun h_11 => ?_⟩
    · exfalso; omega
    · exact k
  · exfalso; omega
set_option maxRecDepth 100000 in
/-- GatheredPointsModel.worst [(20, 20), (0, 0), 94, (64, 64), (0, 60)] -/
theorem zm3098_5 {z : gH} {L d : Nat} {K : Option gV → gH → Prop} {s : gH} (p4 : Int) (hs : zM z s) (h_p4 : 0 ≤ p4 ∧ p4 ≤ 60)  (k : K (some (gp_i 0)) s) : gs_C L (d + 1) 3098 9 [gp_r (some 74), gp_i 20, gp_i 0, gp_r (some 94), gp_i 64, gp_i p4] s K := by
  refine s_3098_e _ _ _ _ _ ?_
  have w_1 := gz_w (64 * 20)
  have e_2 : gp_wr (64 * 20) = 1280 := by omega
  try rw [e_2]
  have w_3 := gz_w (1280 + 0)
  have e_4 : gp_wr (1280 + 0) = 1280 := by omega
  try rw [e_4]
  refine ⟨by omega, ?_⟩
  try rw [zr77 hs ((1280 : Int).toNat)]
  have e_5 : gp_cmp (0#64) (0#64) = 0 := by decide
  try rw [e_5]
  refine ⟨fun h_6 => ?_, fun h_6 => ?_⟩
  · refine ⟨by omega, ?_⟩
    have f_7 := zr79 hs ((1280 : Int).toNat)
    have e_8 : gp_I s 79 (1280 : Int).toNat = 0 := by omega
    try rw [e_8]
    refine s_3098_32 _ _ _ _ _ _ _ _ _ ?_
    refine s_3098_37 _ _ _ _ _ _ _ _ ?_
    refine ⟨fun h_11 => ?_, fun h_11 => ?_⟩
    · exfalso; omega
    · exact k
  · exfalso; omega
set_option maxRecDepth 100000 in
/-- GatheredPointsModel.best [(20, 20), (0, 0), 97, (64, 64), (0, 60)] -/
theorem zm3097_5 {z : gH} {L d : Nat} {K : Option gV → gH → Prop} {s : gH} (p4 : Int) (hs : zM z s) (h_p4 : 0 ≤ p4 ∧ p4 ≤ 60)  (k : K (some (gp_i 0)) s) : gs_C L (d + 1) 3097 9 [gp_r (some 74), gp_i 20, gp_i 0, gp_r (some 97), gp_i 64, gp_i p4] s K := by
  refine s_3097_e _ _ _ _ _ ?_
  have w_1 := gz_w (64 * 20)
  have e_2 : gp_wr (64 * 20) = 1280 := by omega
  try rw [e_2]
  have w_3 := gz_w (1280 + 0)
  have e_4 : gp_wr (1280 + 0) = 1280 := by omega
  try rw [e_4]
  refine ⟨by omega, ?_⟩
  try rw [zr76 hs ((1280 : Int).toNat)]
  have e_5 : gp_cmp (0#64) (0#64) = 0 := by decide
  try rw [e_5]
  refine ⟨fun h_6 => ?_, fun h_6 => ?_⟩
  · refine ⟨by omega, ?_⟩
    have f_7 := zr78 hs ((1280 : Int).toNat)
    have e_8 : gp_I s 78 (1280 : Int).toNat = 0 := by omega
    try rw [e_8]
    refine s_3097_32 _ _ _ _ _ _ _ _ _ ?_
    refine s_3097_37 _ _ _ _ _ _ _ _ ?_
    refine ⟨fun h_11 => ?_, fun h_11 => ?_⟩
    · exfalso; omega
    · exact k
  · exfalso; omega
set_option maxRecDepth 100000 in
/-- GatheredPointsModel.bound, the loop at 10 -/
theorem zm3100_0_l10_0 {z : gH} {L d : Nat} {K : Option gV → gH → Prop}   (k : ∀ (t : gH), zM z t → (gp_I t 74 11 = 0) → (gp_I t 74 43 = 0) → (gp_I t 74 57 = 0) → (gp_I t 74 58 = 0) → (gp_I t 74 7 = 1) → (gp_I t 74 9 = 0) → (gp_I t 81 20 = 0) → K none t)  : ∀ (n : Nat) (v1 : Int) (v2 : Int) (v3 : Int) (v4 : Int) (v5 : gV) (v6 : gV) (v7 : gV) (s : gH), zM z s → (62 - v4).toNat < n → (v1 = 20) → (v2 = 0) → (v3 = 1280) → (0 ≤ v4 ∧ v4 ≤ 61) → (gp_I s 74 11 = 0) → (gp_I s 74 43 = 0) → (gp_I s 74 57 = 0) → (gp_I s 74 58 = 0) → (gp_I s 74 7 = 1) → (gp_I s 74 9 = 0) → (gp_I s 81 20 = 0) → gs_E L (d + 2) 3100 10 [gp_r (some 74), gp_i v1, gp_i v2, gp_i v3, gp_i v4, v5, v6, v7] [] s K := by
  intro n
  induction n with
  | zero => intro v1 v2 v3 v4 v5 v6 v7 s hs hm i0 i1 i2 i3 i4 i5 i6 i7 i8 i9 i10; exact absurd hm (Nat.not_lt_zero _)
  | succ n ih =>
    intro v1 v2 v3 v4 v5 v6 v7 s hs hm i0 i1 i2 i3 i4 i5 i6 i7 i8 i9 i10
    subst i0
    subst i1
    subst i2
    refine s_3100_10 _ _ _ _ _ _ _ ?_
    refine ⟨fun h_1 => ?_, fun h_1 => ?_⟩
    · have e_2 : v4 = 61 := by omega
      subst e_2
      have w_3 := gz_w (64 * 0)
      have e_4 : gp_wr (64 * 0) = 0 := by omega
      try rw [e_4]
      refine ⟨by omega, ?_⟩
      have f_5 := zr96 hs ((0 : Int).toNat)
      have e_6 : gp_I s 96 (0 : Int).toNat = 0 := by omega
      try rw [e_6]
      refine ⟨by omega, ?_⟩
      intro s_7 e_8
      have hs_9 : zM z s_7 := by rw [e_8]; exact zw92 hs _ _ (by omega)
      have q_10 : gp_I s_7 74 11 = 0 := by rw [e_8]; exact i4
      have q_11 : gp_I s_7 74 43 = 0 := by rw [e_8]; exact i5
      have q_12 : gp_I s_7 74 57 = 0 := by rw [e_8]; exact i6
      have q_13 : gp_I s_7 74 58 = 0 := by rw [e_8]; exact i7
      have q_14 : gp_I s_7 74 7 = 1 := by rw [e_8]; exact i8
      have q_15 : gp_I s_7 74 9 = 0 := by rw [e_8]; exact i9
      have q_16 : gp_I s_7 81 20 = 0 := by rw [e_8]; exact i10
      have w_17 := gz_w (64 * 0)
      have e_18 : gp_wr (64 * 0) = 0 := by omega
      try rw [e_18]
      refine ⟨by omega, ?_⟩
      have f_19 := zr95 hs_9 ((0 : Int).toNat)
      have e_20 : gp_I s_7 95 (0 : Int).toNat = 0 := by omega
      try rw [e_20]
      refine ⟨by omega, ?_⟩
      intro s_21 e_22
      have hs_23 : zM z s_21 := by rw [e_22]; exact zw93 hs_9 _ _ (by omega)
      have q_24 : gp_I s_21 74 11 = 0 := by rw [e_22]; exact q_10
      have q_25 : gp_I s_21 74 43 = 0 := by rw [e_22]; exact q_11
      have q_26 : gp_I s_21 74 57 = 0 := by rw [e_22]; exact q_12
      have q_27 : gp_I s_21 74 58 = 0 := by rw [e_22]; exact q_13
      have q_28 : gp_I s_21 74 7 = 1 := by rw [e_22]; exact q_14
      have q_29 : gp_I s_21 74 9 = 0 := by rw [e_22]; exact q_15
      have q_30 : gp_I s_21 81 20 = 0 := by rw [e_22]; exact q_16
      refine s_3100_275 _ _ _ _ _ _ _ ?_
      refine ⟨by omega, ?_⟩
      have f_31 := zr80 hs_23 ((1280 : Int).toNat)
      have e_32 : gp_I s_21 80 (1280 : Int).toNat = 0 := by omega
      try rw [e_32]
      have w_33 := gz_w (0 + 1)
      have e_34 : gp_wr (0 + 1) = 1 := by omega
      try rw [e_34]
      refine ⟨fun h_35 => ?_, fun h_35 => ?_⟩
      · exfalso; omega
      · have w_36 := gz_w (64 * 0)
        have e_37 : gp_wr (64 * 0) = 0 := by omega
        try rw [e_37]
        have w_38 := gz_w (0 + 1)
        have e_39 : gp_wr (0 + 1) = 1 := by omega
        try rw [e_39]
        refine ⟨by omega, ?_⟩
        have f_40 := zr96 hs_23 ((1 : Int).toNat)
        have e_41 : gp_I s_21 96 (1 : Int).toNat = 0 := by omega
        try rw [e_41]
        refine ⟨by omega, ?_⟩
        have f_42 := zr92 hs_23 ((0 : Int).toNat)
        have e_43 : gp_I s_21 92 (0 : Int).toNat = 0 := by omega
        try rw [e_43]
        refine ⟨fun h_44 => ?_, fun h_44 => ?_⟩
        · exfalso; omega
        · refine ⟨by omega, ?_⟩
          have f_45 := zr92 hs_23 ((0 : Int).toNat)
          have e_46 : gp_I s_21 92 (0 : Int).toNat = 0 := by omega
          try rw [e_46]
          refine s_3100_335 _ _ _ _ _ _ _ _ _ ?_
          refine ⟨by omega, ?_⟩
          intro s_47 e_48
          have hs_49 : zM z s_47 := by rw [e_48]; exact zw92 hs_23 _ _ (by omega)
          have q_50 : gp_I s_47 74 11 = 0 := by rw [e_48]; exact q_24
          have q_51 : gp_I s_47 74 43 = 0 := by rw [e_48]; exact q_25
          have q_52 : gp_I s_47 74 57 = 0 := by rw [e_48]; exact q_26
          have q_53 : gp_I s_47 74 58 = 0 := by rw [e_48]; exact q_27
          have q_54 : gp_I s_47 74 7 = 1 := by rw [e_48]; exact q_28
          have q_55 : gp_I s_47 74 9 = 0 := by rw [e_48]; exact q_29
          have q_56 : gp_I s_47 81 20 = 0 := by rw [e_48]; exact q_30
          have w_57 := gz_w (64 * 0)
          have e_58 : gp_wr (64 * 0) = 0 := by omega
          try rw [e_58]
          have w_59 := gz_w (0 + 1)
          have e_60 : gp_wr (0 + 1) = 1 := by omega
          try rw [e_60]
          refine ⟨by omega, ?_⟩
          have f_61 := zr95 hs_49 ((1 : Int).toNat)
          have e_62 : gp_I s_47 95 (1 : Int).toNat = 0 := by omega
          try rw [e_62]
          refine ⟨by omega, ?_⟩
          have f_63 := zr93 hs_49 ((0 : Int).toNat)
          have e_64 : gp_I s_47 93 (0 : Int).toNat = 0 := by omega
          try rw [e_64]
          refine ⟨fun h_65 => ?_, fun h_65 => ?_⟩
          · exfalso; omega
          · refine ⟨by omega, ?_⟩
            have f_66 := zr93 hs_49 ((0 : Int).toNat)
            have e_67 : gp_I s_47 93 (0 : Int).toNat = 0 := by omega
            try rw [e_67]
            refine s_3100_383 _ _ _ _ _ _ _ _ _ ?_
            refine ⟨by omega, ?_⟩
            intro s_68 e_69
            have hs_70 : zM z s_68 := by rw [e_69]; exact zw93 hs_49 _ _ (by omega)
            have q_71 : gp_I s_68 74 11 = 0 := by rw [e_69]; exact q_50
            have q_72 : gp_I s_68 74 43 = 0 := by rw [e_69]; exact q_51
            have q_73 : gp_I s_68 74 57 = 0 := by rw [e_69]; exact q_52
            have q_74 : gp_I s_68 74 58 = 0 := by rw [e_69]; exact q_53
            have q_75 : gp_I s_68 74 7 = 1 := by rw [e_69]; exact q_54
            have q_76 : gp_I s_68 74 9 = 0 := by rw [e_69]; exact q_55
            have q_77 : gp_I s_68 81 20 = 0 := by rw [e_69]; exact q_56
            have w_78 := gz_w (1 + 1)
            have e_79 : gp_wr (1 + 1) = 2 := by omega
            try rw [e_79]
            refine s_3100_275 _ _ _ _ _ _ _ ?_
            refine ⟨by omega, ?_⟩
            have f_80 := zr80 hs_70 ((1280 : Int).toNat)
            have e_81 : gp_I s_68 80 (1280 : Int).toNat = 0 := by omega
            try rw [e_81]
            have w_82 := gz_w (0 + 1)
            have e_83 : gp_wr (0 + 1) = 1 := by omega
            try rw [e_83]
            refine ⟨fun h_84 => ?_, fun h_84 => ?_⟩
            · exact k s_68 hs_70 (by omega) (by omega) (by omega) (by omega) (by omega) (by omega) (by omega)
            · exfalso; omega
    · have w_85 := gz_w (64 * 0)
      have e_86 : gp_wr (64 * 0) = 0 := by omega
      try rw [e_86]
      have w_87 := gz_w (0 + v4)
      refine zm3098_5 _ hs (by omega) (⟨_, rfl, ?_⟩)
      refine ⟨by omega, ?_⟩
      intro s_88 e_89
      have hs_90 : zM z s_88 := by rw [e_89]; exact zw95 hs _ _ (by omega)
      have q_91 : gp_I s_88 74 11 = 0 := by rw [e_89]; exact i4
      have q_92 : gp_I s_88 74 43 = 0 := by rw [e_89]; exact i5
      have q_93 : gp_I s_88 74 57 = 0 := by rw [e_89]; exact i6
      have q_94 : gp_I s_88 74 58 = 0 := by rw [e_89]; exact i7
      have q_95 : gp_I s_88 74 7 = 1 := by rw [e_89]; exact i8
      have q_96 : gp_I s_88 74 9 = 0 := by rw [e_89]; exact i9
      have q_97 : gp_I s_88 81 20 = 0 := by rw [e_89]; exact i10
      refine zm3097_5 _ hs_90 (by omega) (⟨_, rfl, ?_⟩)
      refine ⟨by omega, ?_⟩
      intro s_98 e_99
      have hs_100 : zM z s_98 := by rw [e_99]; exact zw96 hs_90 _ _ (by omega)
      have q_101 : gp_I s_98 74 11 = 0 := by rw [e_99]; exact q_91
      have q_102 : gp_I s_98 74 43 = 0 := by rw [e_99]; exact q_92
      have q_103 : gp_I s_98 74 57 = 0 := by rw [e_99]; exact q_93
      have q_104 : gp_I s_98 74 58 = 0 := by rw [e_99]; exact q_94
      have q_105 : gp_I s_98 74 7 = 1 := by rw [e_99]; exact q_95
      have q_106 : gp_I s_98 74 9 = 0 := by rw [e_99]; exact q_96
      have q_107 : gp_I s_98 81 20 = 0 := by rw [e_99]; exact q_97
      refine ⟨by omega, ?_⟩
      try rw [zr76 hs_100 ((1280 : Int).toNat)]
      have e_108 : gp_cmp (0#64) (0#64) = 0 := by decide
      try rw [e_108]
      refine ⟨fun h_109 => ?_, fun h_109 => ?_⟩
      · refine ⟨fun h_110 => ?_, fun h_110 => ?_⟩
        · have w_111 := gz_w ((gp_wr (0 + v4)) - 1)
          refine ⟨by omega, ?_⟩
          have f_112 := zr95 hs_100 ((gp_wr ((gp_wr (0 + v4)) - 1)).toNat)
          have e_113 : gp_I s_98 95 (gp_wr ((gp_wr (0 + v4)) - 1)).toNat = 0 := by omega
          try rw [e_113]
          refine s_3100_110 _ _ _ _ _ _ _ _ ?_
          refine ⟨by omega, ?_⟩
          try rw [zr77 hs_100 ((1280 : Int).toNat)]
          have e_114 : gp_cmp (0#64) (0#64) = 0 := by decide
          try rw [e_114]
          refine ⟨fun h_115 => ?_, fun h_115 => ?_⟩
          · refine ⟨fun h_116 => ?_, fun h_116 => ?_⟩
            · have w_117 := gz_w ((gp_wr (0 + v4)) - 1)
              refine ⟨by omega, ?_⟩
              have f_118 := zr96 hs_100 ((gp_wr ((gp_wr (0 + v4)) - 1)).toNat)
              have e_119 : gp_I s_98 96 (gp_wr ((gp_wr (0 + v4)) - 1)).toNat = 0 := by omega
              try rw [e_119]
              refine s_3100_154 _ _ _ _ _ _ _ _ ?_
              refine ⟨fun h_120 => ?_, fun h_120 => ?_⟩
              · have w_121 := gz_w ((gp_wr (0 + v4)) - 1)
                refine ⟨by omega, ?_⟩
                have f_122 := zr95 hs_100 ((gp_wr ((gp_wr (0 + v4)) - 1)).toNat)
                have e_123 : gp_I s_98 95 (gp_wr ((gp_wr (0 + v4)) - 1)).toNat = 0 := by omega
                try rw [e_123]
                refine ⟨fun h_124 => ?_, fun h_124 => ?_⟩
                · exfalso; omega
                · refine s_3100_193 _ _ _ _ _ _ _ _ ?_
                  refine s_3100_195 _ _ _ _ _ _ _ _ _ ?_
                  refine ⟨by omega, ?_⟩
                  intro s_125 e_126
                  have hs_127 : zM z s_125 := by rw [e_126]; exact zw94 hs_100 _ _ (by omega)
                  have q_128 : gp_I s_125 74 11 = 0 := by rw [e_126]; exact q_101
                  have q_129 : gp_I s_125 74 43 = 0 := by rw [e_126]; exact q_102
                  have q_130 : gp_I s_125 74 57 = 0 := by rw [e_126]; exact q_103
                  have q_131 : gp_I s_125 74 58 = 0 := by rw [e_126]; exact q_104
                  have q_132 : gp_I s_125 74 7 = 1 := by rw [e_126]; exact q_105
                  have q_133 : gp_I s_125 74 9 = 0 := by rw [e_126]; exact q_106
                  have q_134 : gp_I s_125 81 20 = 0 := by rw [e_126]; exact q_107
                  refine ⟨fun h_135 => ?_, fun h_135 => ?_⟩
                  · have w_136 := gz_w ((gp_wr (0 + v4)) - 1)
                    refine ⟨by omega, ?_⟩
                    have f_137 := zr96 hs_127 ((gp_wr ((gp_wr (0 + v4)) - 1)).toNat)
                    have e_138 : gp_I s_125 96 (gp_wr ((gp_wr (0 + v4)) - 1)).toNat = 0 := by omega
                    try rw [e_138]
                    refine ⟨fun h_139 => ?_, fun h_139 => ?_⟩
                    · exfalso; omega
                    · refine s_3100_233 _ _ _ _ _ _ _ _ ?_
                      refine s_3100_235 _ _ _ _ _ _ _ _ _ ?_
                      refine ⟨by omega, ?_⟩
                      intro s_140 e_141
                      have hs_142 : zM z s_140 := by rw [e_141]; exact zw97 hs_127 _ _ (by omega)
                      have q_143 : gp_I s_140 74 11 = 0 := by rw [e_141]; exact q_128
                      have q_144 : gp_I s_140 74 43 = 0 := by rw [e_141]; exact q_129
                      have q_145 : gp_I s_140 74 57 = 0 := by rw [e_141]; exact q_130
                      have q_146 : gp_I s_140 74 58 = 0 := by rw [e_141]; exact q_131
                      have q_147 : gp_I s_140 74 7 = 1 := by rw [e_141]; exact q_132
                      have q_148 : gp_I s_140 74 9 = 0 := by rw [e_141]; exact q_133
                      have q_149 : gp_I s_140 81 20 = 0 := by rw [e_141]; exact q_134
                      have w_150 := gz_w (v4 + 1)
                      exact ih _ _ _ _ _ _ _ s_140 hs_142 (by omega) (by omega) (by omega) (by omega) (by omega) (by omega) (by omega) (by omega) (by omega) (by omega) (by omega) (by omega)
                  · exfalso; omega
              · exfalso; omega
            · exfalso; omega
          · exfalso; omega
        · have e_151 : v4 = 0 := by omega
          subst e_151
          refine s_3100_96 _ _ _ _ _ _ _ ?_
          refine zm3097_1 hs_100 (⟨_, rfl, ?_⟩)
          refine s_3100_110 _ _ _ _ _ _ _ _ ?_
          refine ⟨by omega, ?_⟩
          try rw [zr77 hs_100 ((1280 : Int).toNat)]
          have e_152 : gp_cmp (0#64) (0#64) = 0 := by decide
          try rw [e_152]
          refine ⟨fun h_153 => ?_, fun h_153 => ?_⟩
          · refine ⟨fun h_154 => ?_, fun h_154 => ?_⟩
            · exfalso; omega
            · refine s_3100_140 _ _ _ _ _ _ _ ?_
              refine zm3098_1 hs_100 (⟨_, rfl, ?_⟩)
              refine s_3100_154 _ _ _ _ _ _ _ _ ?_
              have e_155 : gp_wr (0 + 0) = 0 := by omega
              try rw [e_155]
              refine ⟨fun h_156 => ?_, fun h_156 => ?_⟩
              · exfalso; omega
              · refine s_3100_193 _ _ _ _ _ _ _ _ ?_
                refine s_3100_195 _ _ _ _ _ _ _ _ _ ?_
                refine ⟨by omega, ?_⟩
                intro s_157 e_158
                have hs_159 : zM z s_157 := by rw [e_158]; exact zw94 hs_100 _ _ (by omega)
                have q_160 : gp_I s_157 74 11 = 0 := by rw [e_158]; exact q_101
                have q_161 : gp_I s_157 74 43 = 0 := by rw [e_158]; exact q_102
                have q_162 : gp_I s_157 74 57 = 0 := by rw [e_158]; exact q_103
                have q_163 : gp_I s_157 74 58 = 0 := by rw [e_158]; exact q_104
                have q_164 : gp_I s_157 74 7 = 1 := by rw [e_158]; exact q_105
                have q_165 : gp_I s_157 74 9 = 0 := by rw [e_158]; exact q_106
                have q_166 : gp_I s_157 81 20 = 0 := by rw [e_158]; exact q_107
                refine ⟨fun h_167 => ?_, fun h_167 => ?_⟩
                · exfalso; omega
                · refine s_3100_233 _ _ _ _ _ _ _ _ ?_
                  refine s_3100_235 _ _ _ _ _ _ _ _ _ ?_
                  refine ⟨by omega, ?_⟩
                  intro s_168 e_169
                  have hs_170 : zM z s_168 := by rw [e_169]; exact zw97 hs_159 _ _ (by omega)
                  have q_171 : gp_I s_168 74 11 = 0 := by rw [e_169]; exact q_160
                  have q_172 : gp_I s_168 74 43 = 0 := by rw [e_169]; exact q_161
                  have q_173 : gp_I s_168 74 57 = 0 := by rw [e_169]; exact q_162
                  have q_174 : gp_I s_168 74 58 = 0 := by rw [e_169]; exact q_163
                  have q_175 : gp_I s_168 74 7 = 1 := by rw [e_169]; exact q_164
                  have q_176 : gp_I s_168 74 9 = 0 := by rw [e_169]; exact q_165
                  have q_177 : gp_I s_168 81 20 = 0 := by rw [e_169]; exact q_166
                  have w_178 := gz_w (0 + 1)
                  have e_179 : gp_wr (0 + 1) = 1 := by omega
                  try rw [e_179]
                  exact ih _ _ _ _ _ _ _ s_168 hs_170 (by omega) (by omega) (by omega) (by omega) (by omega) (by omega) (by omega) (by omega) (by omega) (by omega) (by omega) (by omega)
          · exfalso; omega
      · exfalso; omega
set_option maxRecDepth 100000 in
/-- GatheredPointsModel.bound [(20, 20), (0, 0)] -/
theorem zm3100_0 {z : gH} {L d : Nat} {K : Option gV → gH → Prop} {s : gH}  (hs : zM z s)  (q0 : gp_I s 74 11 = 0) (q1 : gp_I s 74 43 = 0) (q2 : gp_I s 74 57 = 0) (q3 : gp_I s 74 58 = 0) (q4 : gp_I s 74 7 = 1) (q5 : gp_I s 74 9 = 0) (q6 : gp_I s 81 20 = 0) (k : ∀ (t : gH), zM z t → (gp_I t 74 11 = 0) → (gp_I t 74 43 = 0) → (gp_I t 74 57 = 0) → (gp_I t 74 58 = 0) → (gp_I t 74 7 = 1) → (gp_I t 74 9 = 0) → (gp_I t 81 20 = 0) → K none t) : gs_C L (d + 2) 3100 8 [gp_r (some 74), gp_i 20, gp_i 0] s K := by
  refine s_3100_e _ _ ?_
  have w_1 := gz_w (64 * 20)
  have e_2 : gp_wr (64 * 20) = 1280 := by omega
  try rw [e_2]
  have w_3 := gz_w (1280 + 0)
  have e_4 : gp_wr (1280 + 0) = 1280 := by omega
  try rw [e_4]
  exact zm3100_0_l10_0 k _ _ _ _ _ _ _ _ s hs (Nat.lt_succ_self _) (by omega) (by omega) (by omega) (by omega) (by omega) (by omega) (by omega) (by omega) (by omega) (by omega) (by omega)
set_option maxRecDepth 100000 in
/-- GatheredPointsModel.knows [(0, 0)] -/
theorem zm3111_0 {z : gH} {L d : Nat} {K : Option gV → gH → Prop} {s : gH}  (hs : zM z s)  (q0 : gp_I s 74 11 = 0) (q1 : gp_I s 74 43 = 0) (q2 : gp_I s 74 57 = 0) (q3 : gp_I s 74 58 = 0) (q4 : gp_I s 74 7 = 1) (q5 : gp_I s 74 9 = 0) (q6 : gp_I s 81 20 = 0) (k : ∀ (t : gH), zM z t → (gp_I t 74 11 = 0) → (gp_I t 74 43 = 0) → (gp_I t 74 57 = 0) → (gp_I t 74 58 = 0) → (gp_I t 74 7 = 1) → (gp_I t 74 9 = 0) → (gp_I t 81 20 = 0) → K none t) : gs_C L (d + 3) 3111 2 [gp_r (some 74), gp_i 0] s K := by
  refine s_3111_e _ ?_
  refine zm3100_0 hs (by omega) (by omega) (by omega) (by omega) (by omega) (by omega) (by omega) (fun s_1 hs_2 q_3 q_4 q_5 q_6 q_7 q_8 q_9 => ⟨rfl, ?_⟩)
  refine ⟨by omega, ?_⟩
  have f_10 := zr92 hs_2 ((0 : Int).toNat)
  have e_11 : gp_I s_1 92 (0 : Int).toNat = 0 := by omega
  try rw [e_11]
  refine ⟨by omega, ?_⟩
  intro s_12 e_13
  have hs_14 : zM z s_12 := by rw [e_13]; exact zw100 hs_2 _ _ (by omega)
  have q_15 : gp_I s_12 74 11 = 0 := by rw [e_13]; exact q_3
  have q_16 : gp_I s_12 74 43 = 0 := by rw [e_13]; exact q_4
  have q_17 : gp_I s_12 74 57 = 0 := by rw [e_13]; exact q_5
  have q_18 : gp_I s_12 74 58 = 0 := by rw [e_13]; exact q_6
  have q_19 : gp_I s_12 74 7 = 1 := by rw [e_13]; exact q_7
  have q_20 : gp_I s_12 74 9 = 0 := by rw [e_13]; exact q_8
  have q_21 : gp_I s_12 81 20 = 0 := by rw [e_13]; exact q_9
  refine ⟨by omega, ?_⟩
  have f_22 := zr92 hs_14 ((0 : Int).toNat)
  have e_23 : gp_I s_12 92 (0 : Int).toNat = 0 := by omega
  try rw [e_23]
  refine ⟨by omega, ?_⟩
  intro s_24 e_25
  have hs_26 : zM z s_24 := by rw [e_25]; exact zw102 hs_14 _ _ (by omega)
  have q_27 : gp_I s_24 74 11 = 0 := by rw [e_25]; exact q_15
  have q_28 : gp_I s_24 74 43 = 0 := by rw [e_25]; exact q_16
  have q_29 : gp_I s_24 74 57 = 0 := by rw [e_25]; exact q_17
  have q_30 : gp_I s_24 74 58 = 0 := by rw [e_25]; exact q_18
  have q_31 : gp_I s_24 74 7 = 1 := by rw [e_25]; exact q_19
  have q_32 : gp_I s_24 74 9 = 0 := by rw [e_25]; exact q_20
  have q_33 : gp_I s_24 81 20 = 0 := by rw [e_25]; exact q_21
  refine ⟨by omega, ?_⟩
  have f_34 := zr93 hs_26 ((0 : Int).toNat)
  have e_35 : gp_I s_24 93 (0 : Int).toNat = 0 := by omega
  try rw [e_35]
  refine ⟨by omega, ?_⟩
  intro s_36 e_37
  have hs_38 : zM z s_36 := by rw [e_37]; exact zw101 hs_26 _ _ (by omega)
  have q_39 : gp_I s_36 74 11 = 0 := by rw [e_37]; exact q_27
  have q_40 : gp_I s_36 74 43 = 0 := by rw [e_37]; exact q_28
  have q_41 : gp_I s_36 74 57 = 0 := by rw [e_37]; exact q_29
  have q_42 : gp_I s_36 74 58 = 0 := by rw [e_37]; exact q_30
  have q_43 : gp_I s_36 74 7 = 1 := by rw [e_37]; exact q_31
  have q_44 : gp_I s_36 74 9 = 0 := by rw [e_37]; exact q_32
  have q_45 : gp_I s_36 81 20 = 0 := by rw [e_37]; exact q_33
  refine ⟨by omega, ?_⟩
  have f_46 := zr93 hs_38 ((0 : Int).toNat)
  have e_47 : gp_I s_36 93 (0 : Int).toNat = 0 := by omega
  try rw [e_47]
  refine ⟨by omega, ?_⟩
  intro s_48 e_49
  have hs_50 : zM z s_48 := by rw [e_49]; exact zw103 hs_38 _ _ (by omega)
  have q_51 : gp_I s_48 74 11 = 0 := by rw [e_49]; exact q_39
  have q_52 : gp_I s_48 74 43 = 0 := by rw [e_49]; exact q_40
  have q_53 : gp_I s_48 74 57 = 0 := by rw [e_49]; exact q_41
  have q_54 : gp_I s_48 74 58 = 0 := by rw [e_49]; exact q_42
  have q_55 : gp_I s_48 74 7 = 1 := by rw [e_49]; exact q_43
  have q_56 : gp_I s_48 74 9 = 0 := by rw [e_49]; exact q_44
  have q_57 : gp_I s_48 81 20 = 0 := by rw [e_49]; exact q_45
  exact k s_48 hs_50 (by omega) (by omega) (by omega) (by omega) (by omega) (by omega) (by omega)
set_option maxRecDepth 100000 in
/-- GatheredPointsModel.has [0, (1, 1)] -/
theorem zm3078_13 {z : gH} {L d : Nat} {K : Option gV → gH → Prop} {s : gH}  (hs : zM z s)   (k : K (some (gp_i 0)) s) : gs_C L d 3078 3 [gp_l (0#64), gp_i 1] s K := by
  refine s_3078_e _ _ ?_
  have e_1 : (0#64) >>> ((1 : Int) % 64).toNat = 0#64 := by decide
  try rw [e_1]
  have e_2 : (0#64) &&& (1#64) = 0#64 := by decide
  try rw [e_2]
  have e_3 : gp_cmp (0#64) (1#64) = (-1) := by decide
  try rw [e_3]
  refine ⟨fun h_4 => ?_, fun h_4 => ?_⟩
  · exfalso; omega
  · refine s_3078_15 _ _ _ ?_
    refine ⟨by omega, ?_⟩
    exact k
set_option maxRecDepth 100000 in
/-- GatheredPointsModel.has [0, (1, 2)] -/
theorem zm3078_14 {z : gH} {L d : Nat} {K : Option gV → gH → Prop} {s : gH} (p1 : Int) (hs : zM z s) (h_p1 : 1 ≤ p1 ∧ p1 ≤ 2)  (k : K (some (gp_i 0)) s) : gs_C L d 3078 3 [gp_l (0#64), gp_i p1] s K := by
  refine s_3078_e _ _ ?_
  have e_1 : (0#64) >>> (p1 % 64).toNat = 0#64 := gz_0sh _
  try rw [e_1]
  have e_2 : (0#64) &&& (1#64) = 0#64 := by decide
  try rw [e_2]
  have e_3 : gp_cmp (0#64) (1#64) = (-1) := by decide
  try rw [e_3]
  refine ⟨fun h_4 => ?_, fun h_4 => ?_⟩
  · exfalso; omega
  · refine s_3078_15 _ _ _ ?_
    refine ⟨by omega, ?_⟩
    exact k
set_option maxRecDepth 100000 in
/-- GatheredPointsModel.has [0, (1, 60)] -/
theorem zm3078_15 {z : gH} {L d : Nat} {K : Option gV → gH → Prop} {s : gH} (p1 : Int) (hs : zM z s) (h_p1 : 1 ≤ p1 ∧ p1 ≤ 60)  (k : K (some (gp_i 0)) s) : gs_C L d 3078 3 [gp_l (0#64), gp_i p1] s K := by
  refine s_3078_e _ _ ?_
  have e_1 : (0#64) >>> (p1 % 64).toNat = 0#64 := gz_0sh _
  try rw [e_1]
  have e_2 : (0#64) &&& (1#64) = 0#64 := by decide
  try rw [e_2]
  have e_3 : gp_cmp (0#64) (1#64) = (-1) := by decide
  try rw [e_3]
  refine ⟨fun h_4 => ?_, fun h_4 => ?_⟩
  · exfalso; omega
  · refine s_3078_15 _ _ _ ?_
    refine ⟨by omega, ?_⟩
    exact k
set_option maxRecDepth 100000 in
/-- GatheredPointsModel.has [0, (1, 63)] -/
theorem zm3078_16 {z : gH} {L d : Nat} {K : Option gV → gH → Prop} {s : gH} (p1 : Int) (hs : zM z s) (h_p1 : 1 ≤ p1 ∧ p1 ≤ 63)  (k : K (some (gp_i 0)) s) : gs_C L d 3078 3 [gp_l (0#64), gp_i p1] s K := by
  refine s_3078_e _ _ ?_
  have e_1 : (0#64) >>> (p1 % 64).toNat = 0#64 := gz_0sh _
  try rw [e_1]
  have e_2 : (0#64) &&& (1#64) = 0#64 := by decide
  try rw [e_2]
  have e_3 : gp_cmp (0#64) (1#64) = (-1) := by decide
  try rw [e_3]
  refine ⟨fun h_4 => ?_, fun h_4 => ?_⟩
  · exfalso; omega
  · refine s_3078_15 _ _ _ ?_
    refine ⟨by omega, ?_⟩
    exact k
set_option maxRecDepth 100000 in
/-- GatheredPointsModel.size, the loop at 4 -/
theorem zm3079_1_l4_0 {z : gH} {L d : Nat} {K : Option gV → gH → Prop}  {s : gH} (hs : zM z s)  (k : K (some (gp_i 0)) s)  : ∀ (n : Nat) (v0 : BitVec 64) (v2 : Int) (v3 : Int), (65 - v3).toNat < n → (v0 = 0#64) → (v2 = 0) → (1 ≤ v3 ∧ v3 ≤ 64) → gs_E L (d + 1) 3079 4 [gp_l v0, gp_n, gp_i v2, gp_i v3] [] s K := by
  intro n
  induction n with
  | zero => intro v0 v2 v3 hm i0 i1 i2; exact absurd hm (Nat.not_lt_zero _)
  | succ n ih =>
    intro v0 v2 v3 hm i0 i1 i2
    subst i0
    subst i1
    refine s_3079_4 _ _ _ ?_
    refine ⟨fun h_1 => ?_, fun h_1 => ?_⟩
    · refine zm3078_16 _ hs (by omega) (⟨_, rfl, ?_⟩)
      refine ⟨fun h_2 => ?_, fun h_2 => ?_⟩
      · refine s_3079_24 _ _ _ _ _ ?_
        have w_3 := gz_w (0 + 0)
        have e_4 : gp_wr (0 + 0) = 0 := by omega
        try rw [e_4]
        have w_5 := gz_w (v3 + 1)
        exact ih _ _ _ (by omega) rfl (by omega) (by omega)
      · exfalso; omega
    · have e_6 : v3 = 64 := by omega
      subst e_6
      exact k
set_option maxRecDepth 100000 in
/-- GatheredPointsModel.size [0] -/
theorem zm3079_1 {z : gH} {L d : Nat} {K : Option gV → gH → Prop} {s : gH}  (hs : zM z s)   (k : K (some (gp_i 0)) s) : gs_C L (d + 1) 3079 4 [gp_l (0#64)] s K := by
  refine s_3079_e _ ?_
  refine s_3079_4 _ _ _ ?_
  refine ⟨fun h_1 => ?_, fun h_1 => ?_⟩
  · refine zm3078_0 hs (⟨_, rfl, ?_⟩)
    refine ⟨fun h_2 => ?_, fun h_2 => ?_⟩
    · refine s_3079_24 _ _ _ _ _ ?_
      have w_3 := gz_w (0 + 0)
      have e_4 : gp_wr (0 + 0) = 0 := by omega
      try rw [e_4]
      have w_5 := gz_w (0 + 1)
      have e_6 : gp_wr (0 + 1) = 1 := by omega
      try rw [e_6]
      exact zm3079_1_l4_0 hs k _ _ _ _ (Nat.lt_succ_self _) rfl (by omega) (by omega)
    · exfalso; omega
  · exfalso; omega
set_option maxRecDepth 100000 in
/-- GatheredPointsModel.turnsLeft [(0, 0)] -/
theorem zm3114_0 {z : gH} {L d : Nat} {K : Option gV → gH → Prop} {s : gH}  (hs : zM z s)  (q0 : gp_I s 74 11 = 0) (q1 : gp_I s 74 43 = 0) (q2 : gp_I s 74 57 = 0) (q3 : gp_I s 74 58 = 0) (q4 : gp_I s 74 7 = 1) (q5 : gp_I s 74 9 = 0) (q6 : gp_I s 81 20 = 0) (k : K (some (gp_i 0)) s) : gs_C L (d + 2) 3114 8 [gp_r (some 74), gp_i 0] s K := by
  refine s_3114_e _ ?_
  refine s_3114_2 _ _ _ _ _ _ _ ?_
  try rw [zr74_35 hs 35]
  refine zm3079_1 hs (⟨_, rfl, ?_⟩)
  refine ⟨fun h_1 => ?_, fun h_1 => ?_⟩
  · exfalso; omega
  · exact k
set_option maxRecDepth 100000 in
/-- GatheredPointsModel.turnsRight [(0, 0)] -/
theorem zm3115_0 {z : gH} {L d : Nat} {K : Option gV → gH → Prop} {s : gH}  (hs : zM z s)  (q0 : gp_I s 74 11 = 0) (q1 : gp_I s 74 43 = 0) (q2 : gp_I s 74 57 = 0) (q3 : gp_I s 74 58 = 0) (q4 : gp_I s 74 7 = 1) (q5 : gp_I s 74 9 = 0) (q6 : gp_I s 81 20 = 0) (k : K (some (gp_i 0)) s) : gs_C L (d + 2) 3115 8 [gp_r (some 74), gp_i 0] s K := by
  refine s_3115_e _ ?_
  refine s_3115_2 _ _ _ _ _ _ _ ?_
  try rw [zr74_36 hs 36]
  refine zm3079_1 hs (⟨_, rfl, ?_⟩)
  refine ⟨fun h_1 => ?_, fun h_1 => ?_⟩
  · exfalso; omega
  · exact k
set_option maxRecDepth 100000 in
/-- GatheredPointsModel.dropsLeft [] -/
theorem zm3116_0 {z : gH} {L d : Nat} {K : Option gV → gH → Prop} {s : gH}  (hs : zM z s)  (q0 : gp_I s 74 11 = 0) (q1 : gp_I s 74 43 = 0) (q2 : gp_I s 74 57 = 0) (q3 : gp_I s 74 58 = 0) (q4 : gp_I s 74 7 = 1) (q5 : gp_I s 74 9 = 0) (q6 : gp_I s 81 20 = 0) (k : K (some (gp_i 0)) s) : gs_C L (d + 2) 3116 5 [gp_r (some 74)] s K := by
  refine s_3116_e ?_
  refine s_3116_2 _ _ _ _ ?_
  try rw [zr74_35 hs 35]
  refine zm3079_1 hs (⟨_, rfl, ?_⟩)
  refine ⟨fun h_1 => ?_, fun h_1 => ?_⟩
  · exfalso; omega
  · exact k
set_option maxRecDepth 100000 in
/-- GatheredPointsModel.dropsRight [] -/
theorem zm3117_0 {z : gH} {L d : Nat} {K : Option gV → gH → Prop} {s : gH}  (hs : zM z s)  (q0 : gp_I s 74 11 = 0) (q1 : gp_I s 74 43 = 0) (q2 : gp_I s 74 57 = 0) (q3 : gp_I s 74 58 = 0) (q4 : gp_I s 74 7 = 1) (q5 : gp_I s 74 9 = 0) (q6 : gp_I s 81 20 = 0) (k : K (some (gp_i 0)) s) : gs_C L (d + 2) 3117 5 [gp_r (some 74)] s K := by
  refine s_3117_e ?_
  refine s_3117_2 _ _ _ _ ?_
  try rw [zr74_36 hs 36]
  refine zm3079_1 hs (⟨_, rfl, ?_⟩)
  refine ⟨fun h_1 => ?_, fun h_1 => ?_⟩
  · exfalso; omega
  · exact k
set_option maxRecDepth 100000 in
/-- GatheredPointsModel.bound, the loop at 10 -/
theorem zm3100_1_l10_0 {z : gH} {L d : Nat} {K : Option gV → gH → Prop}   (k : ∀ (t : gH), zM z t → (gp_I t 74 11 = 0) → (gp_I t 74 43 = 0) → (gp_I t 74 57 = 0) → (gp_I t 74 58 = 0) → (gp_I t 74 7 = 1) → (gp_I t 74 9 = 0) → (gp_I t 81 20 = 1) → K none t)  : ∀ (n : Nat) (v1 : Int) (v2 : Int) (v3 : Int) (v4 : Int) (v5 : gV) (v6 : gV) (v7 : gV) (s : gH), zM z s → (62 - v4).toNat < n → (v1 = 20) → (v2 = 0) → (v3 = 1280) → (0 ≤ v4 ∧ v4 ≤ 61) → (gp_I s 74 11 = 0) → (gp_I s 74 43 = 0) → (gp_I s 74 57 = 0) → (gp_I s 74 58 = 0) → (gp_I s 74 7 = 1) → (gp_I s 74 9 = 0) → (gp_I s 81 20 = 1) → gs_E L (d + 2) 3100 10 [gp_r (some 74), gp_i v1, gp_i v2, gp_i v3, gp_i v4, v5, v6, v7] [] s K := by
  intro n
  induction n with
  | zero => intro v1 v2 v3 v4 v5 v6 v7 s hs hm i0 i1 i2 i3 i4 i5 i6 i7 i8 i9 i10; exact absurd hm (Nat.not_lt_zero _)
  | succ n ih =>
    intro v1 v2 v3 v4 v5 v6 v7 s hs hm i0 i1 i2 i3 i4 i5 i6 i7 i8 i9 i10
    subst i0
    subst i1
    subst i2
    refine s_3100_10 _ _ _ _ _ _ _ ?_
    refine ⟨fun h_1 => ?_, fun h_1 => ?_⟩
    · have e_2 : v4 = 61 := by omega
      subst e_2
      have w_3 := gz_w (64 * 0)
      have e_4 : gp_wr (64 * 0) = 0 := by omega
      try rw [e_4]
      refine ⟨by omega, ?_⟩
      have f_5 := zr96 hs ((0 : Int).toNat)
      have e_6 : gp_I s 96 (0 : Int).toNat = 0 := by omega
      try rw [e_6]
      refine ⟨by omega, ?_⟩
      intro s_7 e_8
      have hs_9 : zM z s_7 := by rw [e_8]; exact zw92 hs _ _ (by omega)
      have q_10 : gp_I s_7 74 11 = 0 := by rw [e_8]; exact i4
      have q_11 : gp_I s_7 74 43 = 0 := by rw [e_8]; exact i5
      have q_12 : gp_I s_7 74 57 = 0 := by rw [e_8]; exact i6
      have q_13 : gp_I s_7 74 58 = 0 := by rw [e_8]; exact i7
      have q_14 : gp_I s_7 74 7 = 1 := by rw [e_8]; exact i8
      have q_15 : gp_I s_7 74 9 = 0 := by rw [e_8]; exact i9
      have q_16 : gp_I s_7 81 20 = 1 := by rw [e_8]; exact i10
      have w_17 := gz_w (64 * 0)
      have e_18 : gp_wr (64 * 0) = 0 := by omega
      try rw [e_18]
      refine ⟨by omega, ?_⟩
      have f_19 := zr95 hs_9 ((0 : Int).toNat)
      have e_20 : gp_I s_7 95 (0 : Int).toNat = 0 := by omega
      try rw [e_20]
      refine ⟨by omega, ?_⟩
      intro s_21 e_22
      have hs_23 : zM z s_21 := by rw [e_22]; exact zw93 hs_9 _ _ (by omega)
      have q_24 : gp_I s_21 74 11 = 0 := by rw [e_22]; exact q_10
      have q_25 : gp_I s_21 74 43 = 0 := by rw [e_22]; exact q_11
      have q_26 : gp_I s_21 74 57 = 0 := by rw [e_22]; exact q_12
      have q_27 : gp_I s_21 74 58 = 0 := by rw [e_22]; exact q_13
      have q_28 : gp_I s_21 74 7 = 1 := by rw [e_22]; exact q_14
      have q_29 : gp_I s_21 74 9 = 0 := by rw [e_22]; exact q_15
      have q_30 : gp_I s_21 81 20 = 1 := by rw [e_22]; exact q_16
      refine s_3100_275 _ _ _ _ _ _ _ ?_
      refine ⟨by omega, ?_⟩
      have f_31 := zr80 hs_23 ((1280 : Int).toNat)
      have e_32 : gp_I s_21 80 (1280 : Int).toNat = 0 := by omega
      try rw [e_32]
      have w_33 := gz_w (0 + 1)
      have e_34 : gp_wr (0 + 1) = 1 := by omega
      try rw [e_34]
      refine ⟨fun h_35 => ?_, fun h_35 => ?_⟩
      · exfalso; omega
      · have w_36 := gz_w (64 * 0)
        have e_37 : gp_wr (64 * 0) = 0 := by omega
        try rw [e_37]
        have w_38 := gz_w (0 + 1)
        have e_39 : gp_wr (0 + 1) = 1 := by omega
        try rw [e_39]
        refine ⟨by omega, ?_⟩
        have f_40 := zr96 hs_23 ((1 : Int).toNat)
        have e_41 : gp_I s_21 96 (1 : Int).toNat = 0 := by omega
        try rw [e_41]
        refine ⟨by omega, ?_⟩
        have f_42 := zr92 hs_23 ((0 : Int).toNat)
        have e_43 : gp_I s_21 92 (0 : Int).toNat = 0 := by omega
        try rw [e_43]
        refine ⟨fun h_44 => ?_, fun h_44 => ?_⟩
        · exfalso; omega
        · refine ⟨by omega, ?_⟩
          have f_45 := zr92 hs_23 ((0 : Int).toNat)
          have e_46 : gp_I s_21 92 (0 : Int).toNat = 0 := by omega
          try rw [e_46]
          refine s_3100_335 _ _ _ _ _ _ _ _ _ ?_
          refine ⟨by omega, ?_⟩
          intro s_47 e_48
          have hs_49 : zM z s_47 := by rw [e_48]; exact zw92 hs_23 _ _ (by omega)
          have q_50 : gp_I s_47 74 11 = 0 := by rw [e_48]; exact q_24
          have q_51 : gp_I s_47 74 43 = 0 := by rw [e_48]; exact q_25
          have q_52 : gp_I s_47 74 57 = 0 := by rw [e_48]; exact q_26
          have q_53 : gp_I s_47 74 58 = 0 := by rw [e_48]; exact q_27
          have q_54 : gp_I s_47 74 7 = 1 := by rw [e_48]; exact q_28
          have q_55 : gp_I s_47 74 9 = 0 := by rw [e_48]; exact q_29
          have q_56 : gp_I s_47 81 20 = 1 := by rw [e_48]; exact q_30
          have w_57 := gz_w (64 * 0)
          have e_58 : gp_wr (64 * 0) = 0 := by omega
          try rw [e_58]
          have w_59 := gz_w (0 + 1)
          have e_60 : gp_wr (0 + 1) = 1 := by omega
          try rw [e_60]
          refine ⟨by omega, ?_⟩
          have f_61 := zr95 hs_49 ((1 : Int).toNat)
          have e_62 : gp_I s_47 95 (1 : Int).toNat = 0 := by omega
          try rw [e_62]
          refine ⟨by omega, ?_⟩
          have f_63 := zr93 hs_49 ((0 : Int).toNat)
          have e_64 : gp_I s_47 93 (0 : Int).toNat = 0 := by omega
          try rw [e_64]
          refine ⟨fun h_65 => ?_, fun h_65 => ?_⟩
          · exfalso; omega
          · refine ⟨by omega, ?_⟩
            have f_66 := zr93 hs_49 ((0 : Int).toNat)
            have e_67 : gp_I s_47 93 (0 : Int).toNat = 0 := by omega
            try rw [e_67]
            refine s_3100_383 _ _ _ _ _ _ _ _ _ ?_
            refine ⟨by omega, ?_⟩
            intro s_68 e_69
            have hs_70 : zM z s_68 := by rw [e_69]; exact zw93 hs_49 _ _ (by omega)
            have q_71 : gp_I s_68 74 11 = 0 := by rw [e_69]; exact q_50
            have q_72 : gp_I s_68 74 43 = 0 := by rw [e_69]; exact q_51
            have q_73 : gp_I s_68 74 57 = 0 := by rw [e_69]; exact q_52
            have q_74 : gp_I s_68 74 58 = 0 := by rw [e_69]; exact q_53
            have q_75 : gp_I s_68 74 7 = 1 := by rw [e_69]; exact q_54
            have q_76 : gp_I s_68 74 9 = 0 := by rw [e_69]; exact q_55
            have q_77 : gp_I s_68 81 20 = 1 := by rw [e_69]; exact q_56
            have w_78 := gz_w (1 + 1)
            have e_79 : gp_wr (1 + 1) = 2 := by omega
            try rw [e_79]
            refine s_3100_275 _ _ _ _ _ _ _ ?_
            refine ⟨by omega, ?_⟩
            have f_80 := zr80 hs_70 ((1280 : Int).toNat)
            have e_81 : gp_I s_68 80 (1280 : Int).toNat = 0 := by omega
            try rw [e_81]
            have w_82 := gz_w (0 + 1)
            have e_83 : gp_wr (0 + 1) = 1 := by omega
            try rw [e_83]
            refine ⟨fun h_84 => ?_, fun h_84 => ?_⟩
            · exact k s_68 hs_70 (by omega) (by omega) (by omega) (by omega) (by omega) (by omega) (by omega)
            · exfalso; omega
    · have w_85 := gz_w (64 * 0)
      have e_86 : gp_wr (64 * 0) = 0 := by omega
      try rw [e_86]
      have w_87 := gz_w (0 + v4)
      refine zm3098_5 _ hs (by omega) (⟨_, rfl, ?_⟩)
      refine ⟨by omega, ?_⟩
      intro s_88 e_89
      have hs_90 : zM z s_88 := by rw [e_89]; exact zw95 hs _ _ (by omega)
      have q_91 : gp_I s_88 74 11 = 0 := by rw [e_89]; exact i4
      have q_92 : gp_I s_88 74 43 = 0 := by rw [e_89]; exact i5
      have q_93 : gp_I s_88 74 57 = 0 := by rw [e_89]; exact i6
      have q_94 : gp_I s_88 74 58 = 0 := by rw [e_89]; exact i7
      have q_95 : gp_I s_88 74 7 = 1 := by rw [e_89]; exact i8
      have q_96 : gp_I s_88 74 9 = 0 := by rw [e_89]; exact i9
      have q_97 : gp_I s_88 81 20 = 1 := by rw [e_89]; exact i10
      refine zm3097_5 _ hs_90 (by omega) (⟨_, rfl, ?_⟩)
      refine ⟨by omega, ?_⟩
      intro s_98 e_99
      have hs_100 : zM z s_98 := by rw [e_99]; exact zw96 hs_90 _ _ (by omega)
      have q_101 : gp_I s_98 74 11 = 0 := by rw [e_99]; exact q_91
      have q_102 : gp_I s_98 74 43 = 0 := by rw [e_99]; exact q_92
      have q_103 : gp_I s_98 74 57 = 0 := by rw [e_99]; exact q_93
      have q_104 : gp_I s_98 74 58 = 0 := by rw [e_99]; exact q_94
      have q_105 : gp_I s_98 74 7 = 1 := by rw [e_99]; exact q_95
      have q_106 : gp_I s_98 74 9 = 0 := by rw [e_99]; exact q_96
      have q_107 : gp_I s_98 81 20 = 1 := by rw [e_99]; exact q_97
      refine ⟨by omega, ?_⟩
      try rw [zr76 hs_100 ((1280 : Int).toNat)]
      have e_108 : gp_cmp (0#64) (0#64) = 0 := by decide
      try rw [e_108]
      refine ⟨fun h_109 => ?_, fun h_109 => ?_⟩
      · refine ⟨fun h_110 => ?_, fun h_110 => ?_⟩
        · have w_111 := gz_w ((gp_wr (0 + v4)) - 1)
          refine ⟨by omega, ?_⟩
          have f_112 := zr95 hs_100 ((gp_wr ((gp_wr (0 + v4)) - 1)).toNat)
          have e_113 : gp_I s_98 95 (gp_wr ((gp_wr (0 + v4)) - 1)).toNat = 0 := by omega
          try rw [e_113]
          refine s_3100_110 _ _ _ _ _ _ _ _ ?_
          refine ⟨by omega, ?_⟩
          try rw [zr77 hs_100 ((1280 : Int).toNat)]
          have e_114 : gp_cmp (0#64) (0#64) = 0 := by decide
          try rw [e_114]
          refine ⟨fun h_115 => ?_, fun h_115 => ?_⟩
          · refine ⟨fun h_116 => ?_, fun h_116 => ?_⟩
            · have w_117 := gz_w ((gp_wr (0 + v4)) - 1)
              refine ⟨by omega, ?_⟩
              have f_118 := zr96 hs_100 ((gp_wr ((gp_wr (0 + v4)) - 1)).toNat)
              have e_119 : gp_I s_98 96 (gp_wr ((gp_wr (0 + v4)) - 1)).toNat = 0 := by omega
              try rw [e_119]
              refine s_3100_154 _ _ _ _ _ _ _ _ ?_
              refine ⟨fun h_120 => ?_, fun h_120 => ?_⟩
              · have w_121 := gz_w ((gp_wr (0 + v4)) - 1)
                refine ⟨by omega, ?_⟩
                have f_122 := zr95 hs_100 ((gp_wr ((gp_wr (0 + v4)) - 1)).toNat)
                have e_123 : gp_I s_98 95 (gp_wr ((gp_wr (0 + v4)) - 1)).toNat = 0 := by omega
                try rw [e_123]
                refine ⟨fun h_124 => ?_, fun h_124 => ?_⟩
                · exfalso; omega
                · refine s_3100_193 _ _ _ _ _ _ _ _ ?_
                  refine s_3100_195 _ _ _ _ _ _ _ _ _ ?_
                  refine ⟨by omega, ?_⟩
                  intro s_125 e_126
                  have hs_127 : zM z s_125 := by rw [e_126]; exact zw94 hs_100 _ _ (by omega)
                  have q_128 : gp_I s_125 74 11 = 0 := by rw [e_126]; exact q_101
                  have q_129 : gp_I s_125 74 43 = 0 := by rw [e_126]; exact q_102
                  have q_130 : gp_I s_125 74 57 = 0 := by rw [e_126]; exact q_103
                  have q_131 : gp_I s_125 74 58 = 0 := by rw [e_126]; exact q_104
                  have q_132 : gp_I s_125 74 7 = 1 := by rw [e_126]; exact q_105
                  have q_133 : gp_I s_125 74 9 = 0 := by rw [e_126]; exact q_106
                  have q_134 : gp_I s_125 81 20 = 1 := by rw [e_126]; exact q_107
                  refine ⟨fun h_135 => ?_, fun h_135 => ?_⟩
                  · have w_136 := gz_w ((gp_wr (0 + v4)) - 1)
                    refine ⟨by omega, ?_⟩
                    have f_137 := zr96 hs_127 ((gp_wr ((gp_wr (0 + v4)) - 1)).toNat)
                    have e_138 : gp_I s_125 96 (gp_wr ((gp_wr (0 + v4)) - 1)).toNat = 0 := by omega
                    try rw [e_138]
                    refine ⟨fun h_139 => ?_, fun h_139 => ?_⟩
                    · exfalso; omega
                    · refine s_3100_233 _ _ _ _ _ _ _ _ ?_
                      refine s_3100_235 _ _ _ _ _ _ _ _ _ ?_
                      refine ⟨by omega, ?_⟩
                      intro s_140 e_141
                      have hs_142 : zM z s_140 := by rw [e_141]; exact zw97 hs_127 _ _ (by omega)
                      have q_143 : gp_I s_140 74 11 = 0 := by rw [e_141]; exact q_128
                      have q_144 : gp_I s_140 74 43 = 0 := by rw [e_141]; exact q_129
                      have q_145 : gp_I s_140 74 57 = 0 := by rw [e_141]; exact q_130
                      have q_146 : gp_I s_140 74 58 = 0 := by rw [e_141]; exact q_131
                      have q_147 : gp_I s_140 74 7 = 1 := by rw [e_141]; exact q_132
                      have q_148 : gp_I s_140 74 9 = 0 := by rw [e_141]; exact q_133
                      have q_149 : gp_I s_140 81 20 = 1 := by rw [e_141]; exact q_134
                      have w_150 := gz_w (v4 + 1)
                      exact ih _ _ _ _ _ _ _ s_140 hs_142 (by omega) (by omega) (by omega) (by omega) (by omega) (by omega) (by omega) (by omega) (by omega) (by omega) (by omega) (by omega)
                  · exfalso; omega
              · exfalso; omega
            · exfalso; omega
          · exfalso; omega
        · have e_151 : v4 = 0 := by omega
          subst e_151
          refine s_3100_96 _ _ _ _ _ _ _ ?_
          refine zm3097_1 hs_100 (⟨_, rfl, ?_⟩)
          refine s_3100_110 _ _ _ _ _ _ _ _ ?_
          refine ⟨by omega, ?_⟩
          try rw [zr77 hs_100 ((1280 : Int).toNat)]
          have e_152 : gp_cmp (0#64) (0#64) = 0 := by decide
          try rw [e_152]
          refine ⟨fun h_153 => ?_, fun h_153 => ?_⟩
          · refine ⟨fun h_154 => ?_, fun h_154 => ?_⟩
            · exfalso; omega
            · refine s_3100_140 _ _ _ _ _ _ _ ?_
              refine zm3098_1 hs_100 (⟨_, rfl, ?_⟩)
              refine s_3100_154 _ _ _ _ _ _ _ _ ?_
              have e_155 : gp_wr (0 + 0) = 0 := by omega
              try rw [e_155]
              refine ⟨fun h_156 => ?_, fun h_156 => ?_⟩
              · exfalso; omega
              · refine s_3100_193 _ _ _ _ _ _ _ _ ?_
                refine s_3100_195 _ _ _ _ _ _ _ _ _ ?_
                refine ⟨by omega, ?_⟩
                intro s_157 e_158
                have hs_159 : zM z s_157 := by rw [e_158]; exact zw94 hs_100 _ _ (by omega)
                have q_160 : gp_I s_157 74 11 = 0 := by rw [e_158]; exact q_101
                have q_161 : gp_I s_157 74 43 = 0 := by rw [e_158]; exact q_102
                have q_162 : gp_I s_157 74 57 = 0 := by rw [e_158]; exact q_103
                have q_163 : gp_I s_157 74 58 = 0 := by rw [e_158]; exact q_104
                have q_164 : gp_I s_157 74 7 = 1 := by rw [e_158]; exact q_105
                have q_165 : gp_I s_157 74 9 = 0 := by rw [e_158]; exact q_106
                have q_166 : gp_I s_157 81 20 = 1 := by rw [e_158]; exact q_107
                refine ⟨fun h_167 => ?_, fun h_167 => ?_⟩
                · exfalso; omega
                · refine s_3100_233 _ _ _ _ _ _ _ _ ?_
                  refine s_3100_235 _ _ _ _ _ _ _ _ _ ?_
                  refine ⟨by omega, ?_⟩
                  intro s_168 e_169
                  have hs_170 : zM z s_168 := by rw [e_169]; exact zw97 hs_159 _ _ (by omega)
                  have q_171 : gp_I s_168 74 11 = 0 := by rw [e_169]; exact q_160
                  have q_172 : gp_I s_168 74 43 = 0 := by rw [e_169]; exact q_161
                  have q_173 : gp_I s_168 74 57 = 0 := by rw [e_169]; exact q_162
                  have q_174 : gp_I s_168 74 58 = 0 := by rw [e_169]; exact q_163
                  have q_175 : gp_I s_168 74 7 = 1 := by rw [e_169]; exact q_164
                  have q_176 : gp_I s_168 74 9 = 0 := by rw [e_169]; exact q_165
                  have q_177 : gp_I s_168 81 20 = 1 := by rw [e_169]; exact q_166
                  have w_178 := gz_w (0 + 1)
                  have e_179 : gp_wr (0 + 1) = 1 := by omega
                  try rw [e_179]
                  exact ih _ _ _ _ _ _ _ s_168 hs_170 (by omega) (by omega) (by omega) (by omega) (by omega) (by omega) (by omega) (by omega) (by omega) (by omega) (by omega) (by omega)
          · exfalso; omega
      · exfalso; omega
set_option maxRecDepth 100000 in
/-- GatheredPointsModel.bound [(20, 20), (0, 0)] -/
theorem zm3100_1 {z : gH} {L d : Nat} {K : Option gV → gH → Prop} {s : gH}  (hs : zM z s)  (q0 : gp_I s 74 11 = 0) (q1 : gp_I s 74 43 = 0) (q2 : gp_I s 74 57 = 0) (q3 : gp_I s 74 58 = 0) (q4 : gp_I s 74 7 = 1) (q5 : gp_I s 74 9 = 0) (q6 : gp_I s 81 20 = 1) (k : ∀ (t : gH), zM z t → (gp_I t 74 11 = 0) → (gp_I t 74 43 = 0) → (gp_I t 74 57 = 0) → (gp_I t 74 58 = 0) → (gp_I t 74 7 = 1) → (gp_I t 74 9 = 0) → (gp_I t 81 20 = 1) → K none t) : gs_C L (d + 2) 3100 8 [gp_r (some 74), gp_i 20, gp_i 0] s K := by
  refine s_3100_e _ _ ?_
  have w_1 := gz_w (64 * 20)
  have e_2 : gp_wr (64 * 20) = 1280 := by omega
  try rw [e_2]
  have w_3 := gz_w (1280 + 0)
  have e_4 : gp_wr (1280 + 0) = 1280 := by omega
  try rw [e_4]
  exact zm3100_1_l10_0 k _ _ _ _ _ _ _ _ s hs (Nat.lt_succ_self _) (by omega) (by omega) (by omega) (by omega) (by omega) (by omega) (by omega) (by omega) (by omega) (by omega) (by omega)
set_option maxRecDepth 100000 in
/-- GatheredPointsModel.knows [(0, 0)] -/
theorem zm3111_1 {z : gH} {L d : Nat} {K : Option gV → gH → Prop} {s : gH}  (hs : zM z s)  (q0 : gp_I s 74 11 = 0) (q1 : gp_I s 74 43 = 0) (q2 : gp_I s 74 57 = 0) (q3 : gp_I s 74 58 = 0) (q4 : gp_I s 74 7 = 1) (q5 : gp_I s 74 9 = 0) (q6 : gp_I s 81 20 = 1) (k : ∀ (t : gH), zM z t → (gp_I t 74 11 = 0) → (gp_I t 74 43 = 0) → (gp_I t 74 57 = 0) → (gp_I t 74 58 = 0) → (gp_I t 74 7 = 1) → (gp_I t 74 9 = 0) → (gp_I t 81 20 = 1) → K none t) : gs_C L (d + 3) 3111 2 [gp_r (some 74), gp_i 0] s K := by
  refine s_3111_e _ ?_
  refine zm3100_1 hs (by omega) (by omega) (by omega) (by omega) (by omega) (by omega) (by omega) (fun s_1 hs_2 q_3 q_4 q_5 q_6 q_7 q_8 q_9 => ⟨rfl, ?_⟩)
  refine ⟨by omega, ?_⟩
  have f_10 := zr92 hs_2 ((0 : Int).toNat)
  have e_11 : gp_I s_1 92 (0 : Int).toNat = 0 := by omega
  try rw [e_11]
  refine ⟨by omega, ?_⟩
  intro s_12 e_13
  have hs_14 : zM z s_12 := by rw [e_13]; exact zw100 hs_2 _ _ (by omega)
  have q_15 : gp_I s_12 74 11 = 0 := by rw [e_13]; exact q_3
  have q_16 : gp_I s_12 74 43 = 0 := by rw [e_13]; exact q_4
  have q_17 : gp_I s_12 74 57 = 0 := by rw [e_13]; exact q_5
  have q_18 : gp_I s_12 74 58 = 0 := by rw [e_13]; exact q_6
  have q_19 : gp_I s_12 74 7 = 1 := by rw [e_13]; exact q_7
  have q_20 : gp_I s_12 74 9 = 0 := by rw [e_13]; exact q_8
  have q_21 : gp_I s_12 81 20 = 1 := by rw [e_13]; exact q_9
  refine ⟨by omega, ?_⟩
  have f_22 := zr92 hs_14 ((0 : Int).toNat)
  have e_23 : gp_I s_12 92 (0 : Int).toNat = 0 := by omega
  try rw [e_23]
  refine ⟨by omega, ?_⟩
  intro s_24 e_25
  have hs_26 : zM z s_24 := by rw [e_25]; exact zw102 hs_14 _ _ (by omega)
  have q_27 : gp_I s_24 74 11 = 0 := by rw [e_25]; exact q_15
  have q_28 : gp_I s_24 74 43 = 0 := by rw [e_25]; exact q_16
  have q_29 : gp_I s_24 74 57 = 0 := by rw [e_25]; exact q_17
  have q_30 : gp_I s_24 74 58 = 0 := by rw [e_25]; exact q_18
  have q_31 : gp_I s_24 74 7 = 1 := by rw [e_25]; exact q_19
  have q_32 : gp_I s_24 74 9 = 0 := by rw [e_25]; exact q_20
  have q_33 : gp_I s_24 81 20 = 1 := by rw [e_25]; exact q_21
  refine ⟨by omega, ?_⟩
  have f_34 := zr93 hs_26 ((0 : Int).toNat)
  have e_35 : gp_I s_24 93 (0 : Int).toNat = 0 := by omega
  try rw [e_35]
  refine ⟨by omega, ?_⟩
  intro s_36 e_37
  have hs_38 : zM z s_36 := by rw [e_37]; exact zw101 hs_26 _ _ (by omega)
  have q_39 : gp_I s_36 74 11 = 0 := by rw [e_37]; exact q_27
  have q_40 : gp_I s_36 74 43 = 0 := by rw [e_37]; exact q_28
  have q_41 : gp_I s_36 74 57 = 0 := by rw [e_37]; exact q_29
  have q_42 : gp_I s_36 74 58 = 0 := by rw [e_37]; exact q_30
  have q_43 : gp_I s_36 74 7 = 1 := by rw [e_37]; exact q_31
  have q_44 : gp_I s_36 74 9 = 0 := by rw [e_37]; exact q_32
  have q_45 : gp_I s_36 81 20 = 1 := by rw [e_37]; exact q_33
  refine ⟨by omega, ?_⟩
  have f_46 := zr93 hs_38 ((0 : Int).toNat)
  have e_47 : gp_I s_36 93 (0 : Int).toNat = 0 := by omega
  try rw [e_47]
  refine ⟨by omega, ?_⟩
  intro s_48 e_49
  have hs_50 : zM z s_48 := by rw [e_49]; exact zw103 hs_38 _ _ (by omega)
  have q_51 : gp_I s_48 74 11 = 0 := by rw [e_49]; exact q_39
  have q_52 : gp_I s_48 74 43 = 0 := by rw [e_49]; exact q_40
  have q_53 : gp_I s_48 74 57 = 0 := by rw [e_49]; exact q_41
  have q_54 : gp_I s_48 74 58 = 0 := by rw [e_49]; exact q_42
  have q_55 : gp_I s_48 74 7 = 1 := by rw [e_49]; exact q_43
  have q_56 : gp_I s_48 74 9 = 0 := by rw [e_49]; exact q_44
  have q_57 : gp_I s_48 81 20 = 1 := by rw [e_49]; exact q_45
  exact k s_48 hs_50 (by omega) (by omega) (by omega) (by omega) (by omega) (by omega) (by omega)
set_option maxRecDepth 100000 in
/-- GatheredPointsModel.reduced, the loop at 54 -/
theorem zm3113_0_l54_0 {z : gH} {L d : Nat} {K : Option gV → gH → Prop}   (k : ∀ (t : gH), zM z t → (gp_I t 74 11 = 0) → (gp_I t 74 43 = 0) → (gp_I t 74 57 = 0) → (gp_I t 74 58 = 0) → (gp_I t 74 7 = 1) → (gp_I t 74 9 = 0) → (gp_I t 81 20 = 1) → K (some (gp_i 0)) t)  : ∀ (n : Nat) (v1 : BitVec 64) (v3 : BitVec 64) (v5 : Int) (v6 : Int) (v7 : Int) (v8 : Int) (v9 : Int) (s : gH), zM z s → (65 - v9).toNat < n → (v1 = 0#64) → (v3 = 0#64) → (v5 = 0) → (v6 = 0) → (v7 = 0) → (v8 = 1) → (0 ≤ v9 ∧ v9 ≤ 64) → (gp_I s 74 11 = 0) → (gp_I s 74 43 = 0) → (gp_I s 74 57 = 0) → (gp_I s 74 58 = 0) → (gp_I s 74 7 = 1) → (gp_I s 74 9 = 0) → (gp_I s 81 20 = 0) → gs_E L (d + 4) 3113 54 [gp_r (some 74), gp_l v1, gp_n, gp_l v3, gp_n, gp_i v5, gp_i v6, gp_i v7, gp_i v8, gp_i v9] [] s K := by
  intro n
  induction n with
  | zero => intro v1 v3 v5 v6 v7 v8 v9 s hs hm i0 i1 i2 i3 i4 i5 i6 i7 i8 i9 i10 i11 i12 i13; exact absurd hm (Nat.not_lt_zero _)
  | succ n ih =>
    intro v1 v3 v5 v6 v7 v8 v9 s hs hm i0 i1 i2 i3 i4 i5 i6 i7 i8 i9 i10 i11 i12 i13
    subst i0
    subst i1
    subst i2
    subst i3
    subst i4
    subst i5
    refine s_3113_54 _ _ _ _ _ _ _ ?_
    refine ⟨fun h_1 => ?_, fun h_1 => ?_⟩
    · have w_2 := gz_w (64 * 0)
      have e_3 : gp_wr (64 * 0) = 0 := by omega
      try rw [e_3]
      have w_4 := gz_w (0 + v9)
      refine ⟨by omega, ?_⟩
      intro s_5 e_6
      have hs_7 : zM z s_5 := by rw [e_6]; exact zw98 hs _ _ (by omega)
      have q_8 : gp_I s_5 74 11 = 0 := by rw [e_6]; exact i7
      have q_9 : gp_I s_5 74 43 = 0 := by rw [e_6]; exact i8
      have q_10 : gp_I s_5 74 57 = 0 := by rw [e_6]; exact i9
      have q_11 : gp_I s_5 74 58 = 0 := by rw [e_6]; exact i10
      have q_12 : gp_I s_5 74 7 = 1 := by rw [e_6]; exact i11
      have q_13 : gp_I s_5 74 9 = 0 := by rw [e_6]; exact i12
      have q_14 : gp_I s_5 81 20 = 0 := by rw [e_6]; exact i13
      have w_15 := gz_w (64 * v9)
      have w_16 := gz_w ((gp_wr (64 * v9)) + 0)
      refine ⟨by omega, ?_⟩
      intro s_17 e_18
      have hs_19 : zM z s_17 := by rw [e_18]; exact zw98 hs_7 _ _ (by omega)
      have q_20 : gp_I s_17 74 11 = 0 := by rw [e_18]; exact q_8
      have q_21 : gp_I s_17 74 43 = 0 := by rw [e_18]; exact q_9
      have q_22 : gp_I s_17 74 57 = 0 := by rw [e_18]; exact q_10
      have q_23 : gp_I s_17 74 58 = 0 := by rw [e_18]; exact q_11
      have q_24 : gp_I s_17 74 7 = 1 := by rw [e_18]; exact q_12
      have q_25 : gp_I s_17 74 9 = 0 := by rw [e_18]; exact q_13
      have q_26 : gp_I s_17 81 20 = 0 := by rw [e_18]; exact q_14
      have w_27 := gz_w (v9 + 1)
      exact ih _ _ _ _ _ _ _ s_17 hs_19 (by omega) rfl rfl (by omega) (by omega) (by omega) (by omega) (by omega) (by omega) (by omega) (by omega) (by omega) (by omega) (by omega) (by omega)
    · have e_28 : v9 = 64 := by omega
      subst e_28
      refine zm3114_0 hs (by omega) (by omega) (by omega) (by omega) (by omega) (by omega) (by omega) (⟨_, rfl, ?_⟩)
      refine ⟨fun h_29 => ?_, fun h_29 => ?_⟩
      · refine zm3115_0 hs (by omega) (by omega) (by omega) (by omega) (by omega) (by omega) (by omega) (⟨_, rfl, ?_⟩)
        refine ⟨fun h_30 => ?_, fun h_30 => ?_⟩
        · refine zm3116_0 hs (by omega) (by omega) (by omega) (by omega) (by omega) (by omega) (by omega) (⟨_, rfl, ?_⟩)
          refine ⟨fun h_31 => ?_, fun h_31 => ?_⟩
          · refine zm3117_0 hs (by omega) (by omega) (by omega) (by omega) (by omega) (by omega) (by omega) (⟨_, rfl, ?_⟩)
            refine ⟨fun h_32 => ?_, fun h_32 => ?_⟩
            · refine s_3113_132 _ _ _ _ _ _ _ _ ?_
              refine s_3113_22 _ _ _ _ _ _ _ ?_
              refine ⟨fun h_33 => ?_, fun h_33 => ?_⟩
              · try rw [zr74_35 hs 35]
                try rw [zr74_36 hs 36]
                refine zm3088_1 hs (by omega) (by omega) (by omega) (by omega) (by omega) (by omega) (by omega) (fun s_34 hs_35 q_36 q_37 q_38 q_39 q_40 q_41 q_42 => ⟨_, rfl, ?_⟩)
                refine zm3111_1 hs_35 (by omega) (by omega) (by omega) (by omega) (by omega) (by omega) (by omega) (fun s_43 hs_44 q_45 q_46 q_47 q_48 q_49 q_50 q_51 => ⟨rfl, ?_⟩)
                exact k s_43 hs_44 (by omega) (by omega) (by omega) (by omega) (by omega) (by omega) (by omega)
              · exfalso; omega
            · exfalso; omega
          · exfalso; omega
        · exfalso; omega
      · exfalso; omega
set_option maxRecDepth 100000 in
/-- GatheredPointsModel.reduced [0, 0, (0, 0), (0, 0)] -/
theorem zm3113_0 {z : gH} {L d : Nat} {K : Option gV → gH → Prop} {s : gH}  (hs : zM z s)  (q0 : gp_I s 74 11 = 0) (q1 : gp_I s 74 43 = 0) (q2 : gp_I s 74 57 = 0) (q3 : gp_I s 74 58 = 0) (q4 : gp_I s 74 7 = 1) (q5 : gp_I s 74 9 = 0) (q6 : gp_I s 81 20 = 0) (k : ∀ (t : gH), zM z t → (gp_I t 74 11 = 0) → (gp_I t 74 43 = 0) → (gp_I t 74 57 = 0) → (gp_I t 74 58 = 0) → (gp_I t 74 7 = 1) → (gp_I t 74 9 = 0) → (gp_I t 81 20 = 1) → K (some (gp_i 0)) t) : gs_C L (d + 4) 3113 10 [gp_r (some 74), gp_l (0#64), gp_l (0#64), gp_i 0, gp_i 0] s K := by
  refine s_3113_e _ _ _ _ ?_
  try rw [show gp_I s 81 20 = 0 from q6]
  intro s_1 e_2
  have hs_3 : zM z s_1 := by rw [e_2]; exact zw74_35 hs 0 _ rfl
  have q_4 : gp_I s_1 74 11 = 0 := by rw [e_2]; exact q0
  have q_5 : gp_I s_1 74 43 = 0 := by rw [e_2]; exact q1
  have q_6 : gp_I s_1 74 57 = 0 := by rw [e_2]; exact q2
  have q_7 : gp_I s_1 74 58 = 0 := by rw [e_2]; exact q3
  have q_8 : gp_I s_1 74 7 = 1 := by rw [e_2]; exact q4
  have q_9 : gp_I s_1 74 9 = 0 := by rw [e_2]; exact q5
  have q_10 : gp_I s_1 81 20 = 0 := by rw [e_2]; exact q6
  intro s_11 e_12
  have hs_13 : zM z s_11 := by rw [e_12]; exact zw74_36 hs_3 0 _ rfl
  have q_14 : gp_I s_11 74 11 = 0 := by rw [e_12]; exact q_4
  have q_15 : gp_I s_11 74 43 = 0 := by rw [e_12]; exact q_5
  have q_16 : gp_I s_11 74 57 = 0 := by rw [e_12]; exact q_6
  have q_17 : gp_I s_11 74 58 = 0 := by rw [e_12]; exact q_7
  have q_18 : gp_I s_11 74 7 = 1 := by rw [e_12]; exact q_8
  have q_19 : gp_I s_11 74 9 = 0 := by rw [e_12]; exact q_9
  have q_20 : gp_I s_11 81 20 = 0 := by rw [e_12]; exact q_10
  refine s_3113_22 _ _ _ _ _ _ _ ?_
  refine ⟨fun h_21 => ?_, fun h_21 => ?_⟩
  · exfalso; omega
  · try rw [zr74_35 hs_13 35]
    try rw [zr74_36 hs_13 36]
    refine zm3087_1 hs_13 (by omega) (by omega) (by omega) (by omega) (by omega) (by omega) (by omega) (fun s_22 hs_23 q_24 q_25 q_26 q_27 q_28 q_29 q_30 => ⟨rfl, ?_⟩)
    refine zm3111_0 hs_23 (by omega) (by omega) (by omega) (by omega) (by omega) (by omega) (by omega) (fun s_31 hs_32 q_33 q_34 q_35 q_36 q_37 q_38 q_39 => ⟨rfl, ?_⟩)
    exact zm3113_0_l54_0 k _ _ _ _ _ _ _ _ s_31 hs_32 (Nat.lt_succ_self _) rfl rfl (by omega) (by omega) (by omega) (by omega) (by omega) (by omega) (by omega) (by omega) (by omega) (by omega) (by omega) (by omega)
set_option maxRecDepth 100000 in
/-- GatheredPointsModel.reduces, the loop at 6 -/
theorem zm3109_0_l6_0 {z : gH} {L d : Nat} {K : Option gV → gH → Prop} (p0 : Int)  (k : ∀ (t : gH), zM z t → (gp_I t 74 11 = 0) → (gp_I t 74 43 = 0) → (gp_I t 74 57 = 0) → (gp_I t 74 58 = 0) → (gp_I t 74 7 = 1) → (gp_I t 74 9 = 0) → (gp_I t 81 19 = 1) → (gp_I t 81 20 = 1) → K none t)  : ∀ (n : Nat) (v1 : Int) (v2 : Int) (v3 : gV) (v4 : gV) (v5 : gV) (v6 : gV) (s : gH), zM z s → (4097 - v2).toNat < n → (0 ≤ v1 ∧ v1 ≤ 7) → (0 ≤ v2 ∧ v2 ≤ 4096) → (gp_I s 74 11 = 0) → (gp_I s 74 43 = 0) → (gp_I s 74 57 = 0) → (gp_I s 74 58 = 0) → (gp_I s 74 7 = 1) → (gp_I s 74 9 = 0) → (gp_I s 81 20 = 0) → gs_E L (d + 5) 3109 6 [gp_r (some 74), gp_i v1, gp_i v2, v3, v4, v5, v6] [] s K := by
  intro n
  induction n with
  | zero => intro v1 v2 v3 v4 v5 v6 s hs hm i0 i1 i2 i3 i4 i5 i6 i7 i8; exact absurd hm (Nat.not_lt_zero _)
  | succ n ih =>
    intro v1 v2 v3 v4 v5 v6 s hs hm i0 i1 i2 i3 i4 i5 i6 i7 i8
    refine s_3109_6 _ _ _ _ _ _ ?_
    refine ⟨fun h_1 => ?_, fun h_1 => ?_⟩
    · refine ⟨by omega, ?_⟩
      intro s_2 e_3
      have hs_4 : zM z s_2 := by rw [e_3]; exact zw98 hs _ _ (by omega)
      have q_5 : gp_I s_2 74 11 = 0 := by rw [e_3]; exact i2
      have q_6 : gp_I s_2 74 43 = 0 := by rw [e_3]; exact i3
      have q_7 : gp_I s_2 74 57 = 0 := by rw [e_3]; exact i4
      have q_8 : gp_I s_2 74 58 = 0 := by rw [e_3]; exact i5
      have q_9 : gp_I s_2 74 7 = 1 := by rw [e_3]; exact i6
      have q_10 : gp_I s_2 74 9 = 0 := by rw [e_3]; exact i7
      have q_11 : gp_I s_2 81 20 = 0 := by rw [e_3]; exact i8
      have w_12 := gz_w (v2 + 1)
      exact ih _ _ _ _ _ _ s_2 hs_4 (by omega) (by omega) (by omega) (by omega) (by omega) (by omega) (by omega) (by omega) (by omega) (by omega)
    · have e_13 : v2 = 4096 := by omega
      subst e_13
      refine s_3109_28 _ _ _ _ _ _ ?_
      refine ⟨by omega, ?_⟩
      have f_14 := zr81 hs v1.toNat
      have e_15 : gp_I s 81 v1.toNat = 1 := by omega
      try rw [e_15]
      refine ⟨fun h_16 => ?_, fun h_16 => ?_⟩
      · have w_17 := gz_w (64 * v1)
        have w_18 := gz_w ((gp_wr (64 * v1)) + 0)
        refine ⟨by omega, ?_⟩
        try rw [zr76 hs ((gp_wr ((gp_wr (64 * v1)) + 0)).toNat)]
        refine zm3110_0 hs (⟨_, rfl, ?_⟩)
        have w_19 := gz_w (64 * v1)
        have w_20 := gz_w ((gp_wr (64 * v1)) + 0)
        refine ⟨by omega, ?_⟩
        try rw [zr77 hs ((gp_wr ((gp_wr (64 * v1)) + 0)).toNat)]
        refine zm3110_0 hs (⟨_, rfl, ?_⟩)
        have w_21 := gz_w (64 * v1)
        have w_22 := gz_w ((gp_wr (64 * v1)) + 0)
        refine ⟨by omega, ?_⟩
        have f_23 := zr78 hs ((gp_wr ((gp_wr (64 * v1)) + 0)).toNat)
        have e_24 : gp_I s 78 (gp_wr ((gp_wr (64 * v1)) + 0)).toNat = 0 := by omega
        try rw [e_24]
        have w_25 := gz_w (64 * v1)
        have w_26 := gz_w ((gp_wr (64 * v1)) + 0)
        refine ⟨by omega, ?_⟩
        have f_27 := zr79 hs ((gp_wr ((gp_wr (64 * v1)) + 0)).toNat)
        have e_28 : gp_I s 79 (gp_wr ((gp_wr (64 * v1)) + 0)).toNat = 0 := by omega
        try rw [e_28]
        refine zm3113_0 hs (by omega) (by omega) (by omega) (by omega) (by omega) (by omega) (by omega) (fun s_29 hs_30 q_31 q_32 q_33 q_34 q_35 q_36 q_37 => ⟨_, rfl, ?_⟩)
        refine ⟨by omega, ?_⟩
        intro s_38 e_39
        have hs_40 : zM z s_38 := by rw [e_39]; exact zw104 hs_30 _ _ (by omega)
        have q_41 : gp_I s_38 74 11 = 0 := by rw [e_39]; exact q_31
        have q_42 : gp_I s_38 74 43 = 0 := by rw [e_39]; exact q_32
        have q_43 : gp_I s_38 74 57 = 0 := by rw [e_39]; exact q_33
        have q_44 : gp_I s_38 74 58 = 0 := by rw [e_39]; exact q_34
        have q_45 : gp_I s_38 74 7 = 1 := by rw [e_39]; exact q_35
        have q_46 : gp_I s_38 74 9 = 0 := by rw [e_39]; exact q_36
        have q_47 : gp_I s_38 81 20 = 1 := by rw [e_39]; exact q_37
        have w_48 := gz_w (0 + 1)
        have e_49 : gp_wr (0 + 1) = 1 := by omega
        try rw [e_49]
        refine s_3109_28 _ _ _ _ _ _ ?_
        refine ⟨by omega, ?_⟩
        have f_50 := zr81 hs_40 v1.toNat
        have e_51 : gp_I s_38 81 v1.toNat = 1 := by omega
        try rw [e_51]
        refine ⟨fun h_52 => ?_, fun h_52 => ?_⟩
        · exfalso; omega
        · refine ⟨by omega, ?_⟩
          have f_53 := zr81 hs_40 v1.toNat
          have e_54 : gp_I s_38 81 v1.toNat = 1 := by omega
          try rw [e_54]
          have w_55 := gz_w (1 - 1)
          have e_56 : gp_wr (1 - 1) = 0 := by omega
          try rw [e_56]
          refine ⟨by omega, ?_⟩
          have f_57 := zr104 hs_40 ((0 : Int).toNat)
          have e_58 : gp_I s_38 104 (0 : Int).toNat = 0 := by omega
          try rw [e_58]
          refine zm3093_1 hs_40 (by omega) (by omega) (by omega) (by omega) (by omega) (by omega) (by omega) (fun s_59 hs_60 q_61 q_62 q_63 q_64 q_65 q_66 q_67 q_68 => ⟨rfl, ?_⟩)
          exact k s_59 hs_60 (by omega) (by omega) (by omega) (by omega) (by omega) (by omega) (by omega) (by omega)
      · exfalso; omega
set_option maxRecDepth 100000 in
/-- GatheredPointsModel.reduces [(0, 7)] -/
theorem zm3109_0 {z : gH} {L d : Nat} {K : Option gV → gH → Prop} {s : gH} (p0 : Int) (hs : zM z s) (h_p0 : 0 ≤ p0 ∧ p0 ≤ 7) (q0 : gp_I s 74 11 = 0) (q1 : gp_I s 74 43 = 0) (q2 : gp_I s 74 57 = 0) (q3 : gp_I s 74 58 = 0) (q4 : gp_I s 74 7 = 1) (q5 : gp_I s 74 9 = 0) (q6 : gp_I s 81 20 = 0) (k : ∀ (t : gH), zM z t → (gp_I t 74 11 = 0) → (gp_I t 74 43 = 0) → (gp_I t 74 57 = 0) → (gp_I t 74 58 = 0) → (gp_I t 74 7 = 1) → (gp_I t 74 9 = 0) → (gp_I t 81 19 = 1) → (gp_I t 81 20 = 1) → K none t) : gs_C L (d + 5) 3109 7 [gp_r (some 74), gp_i p0] s K := by
  refine s_3109_e _ ?_
  refine zm3085_0 hs (by omega) (by omega) (by omega) (by omega) (by omega) (by omega) (by omega) (fun s_1 hs_2 q_3 q_4 q_5 q_6 q_7 q_8 q_9 => ⟨rfl, ?_⟩)
  exact zm3109_0_l6_0 p0 k _ _ _ _ _ _ _ s_1 hs_2 (Nat.lt_succ_self _) (by omega) (by omega) (by omega) (by omega) (by omega) (by omega) (by omega) (by omega) (by omega)
set_option maxRecDepth 100000 in
/-- GatheredPointsModel.reduce [(0, 7), (0, 7)] -/
theorem zm3154_4 {z : gH} {L d : Nat} {K : Option gV → gH → Prop} {s : gH} (p0 : Int) (p1 : Int) (hs : zM z s) (h_p0 : 0 ≤ p0 ∧ p0 ≤ 7) (h_p1 : 0 ≤ p1 ∧ p1 ≤ 7) (q0 : gp_I s 74 11 = 0) (q1 : gp_I s 74 43 = 0) (q2 : gp_I s 74 57 = 0) (q3 : gp_I s 74 58 = 0) (q4 : gp_I s 74 7 = 1) (q5 : gp_I s 74 9 = 0) (q6 : gp_I s 81 20 = 0) (k : ∀ (t : gH), zM z t → (gp_I t 74 11 = 0) → (gp_I t 74 43 = 0) → (gp_I t 74 57 = 0) → (gp_I t 74 58 = 0) → (gp_I t 74 7 = 1) → (gp_I t 74 9 = 0) → (gp_I t 81 19 = 1) → (gp_I t 81 20 = 1) → K (some (gp_i 1)) t) : gs_C L (d + 6) 3154 3 [gp_r (some 74), gp_i p0, gp_i p1] s K := by
  refine s_3154_e _ _ ?_
  refine zm3075_2 _ hs (by omega) (⟨_, rfl, ?_⟩)
  refine ⟨fun h_1 => ?_, fun h_1 => ?_⟩
  · exfalso; omega
  · refine zm3075_2 _ hs (by omega) (⟨_, rfl, ?_⟩)
    refine ⟨fun h_2 => ?_, fun h_2 => ?_⟩
    · exfalso; omega
    · refine zm3103_0 _ hs (by omega) (by omega) (⟨_, rfl, ?_⟩)
      refine ⟨fun h_3 => ?_, fun h_3 => ?_⟩
      · exfalso; omega
      · refine zm3109_0 _ hs (by omega) (by omega) (by omega) (by omega) (by omega) (by omega) (by omega) (by omega) (fun s_4 hs_5 q_6 q_7 q_8 q_9 q_10 q_11 q_12 q_13 => ⟨rfl, ?_⟩)
        refine zm3123_1 _ hs_5 (by omega) (by omega) (by omega) (by omega) (by omega) (by omega) (by omega) (by omega) (by omega) (fun s_14 hs_15 q_16 q_17 q_18 q_19 q_20 q_21 q_22 q_23 => ⟨_, rfl, ?_⟩)
        exact k s_14 hs_15 (by omega) (by omega) (by omega) (by omega) (by omega) (by omega) (by omega) (by omega)
set_option maxRecDepth 100000 in
/-- GatheredPointsModel.finds [(1, 1)] -/
theorem zm3074_4 {z : gH} {L d : Nat} {K : Option gV → gH → Prop} {s : gH}  (hs : zM z s)  (q0 : gp_I s 81 20 = 0) (k : ∀ (t : gH), zM z t → ((-2147483648) ≤ gp_I t 75 1 ∧ gp_I t 75 1 ≤ 2147483647) → (gp_I t 81 20 = 0) → K (some (gp_i (-1000000001))) t) : gs_C L d 3074 2 [gp_r (some 74), gp_i 1] s K := by
  refine s_3074_e _ ?_
  refine ⟨by omega, ?_⟩
  have w_1 := gz_w ((gp_I s 75 (1 : Int).toNat) + 1)
  refine ⟨by omega, ?_⟩
  intro s_2 e_3
  have hs_4 : zM z s_2 := by rw [e_3]; exact zw75 hs _ _
  have q_5 : gp_I s_2 81 20 = 0 := by rw [e_3]; exact q0
  have q_6 : (-2147483648) ≤ gp_I s_2 75 1 ∧ gp_I s_2 75 1 ≤ 2147483647 := by have x_7 : gp_I s_2 75 1 = gp_wr ((gp_I s 75 (1 : Int).toNat) + 1) := (by rw [e_3]; rfl); omega
  have w_8 := gz_w ((-1000000000) - 1)
  have e_9 : gp_wr ((-1000000000) - 1) = (-1000000001) := by omega
  try rw [e_9]
  exact k s_2 hs_4 (by omega) (by omega)
set_option maxRecDepth 100000 in
/-- GatheredPointsModel.order [(-2147483648, -1), (-2147483648, 2147483647)] -/
theorem zm3151_0 {z : gH} {L d : Nat} {K : Option gV → gH → Prop} {s : gH} (p0 : Int) (p1 : Int) (hs : zM z s) (h_p0 : (-2147483648) ≤ p0 ∧ p0 ≤ (-1)) (h_p1 : (-2147483648) ≤ p1 ∧ p1 ≤ 2147483647) (q0 : gp_I s 81 20 = 0) (k : ∀ (t : gH), zM z t → ((-2147483648) ≤ gp_I t 75 1 ∧ gp_I t 75 1 ≤ 2147483647) → (gp_I t 81 20 = 0) → K (some (gp_i (-1000000001))) t) : gs_C L (d + 1) 3151 3 [gp_r (some 74), gp_i p0, gp_i p1] s K := by
  refine s_3151_e _ _ ?_
  refine zm3075_0 _ hs (by omega) (⟨_, rfl, ?_⟩)
  refine ⟨fun h_1 => ?_, fun h_1 => ?_⟩
  · refine s_3151_14 _ _ ?_
    refine zm3074_4 hs (by omega) (fun s_2 hs_3 q_4 q_5 => ⟨_, rfl, ?_⟩)
    exact k s_2 hs_3 (by omega) (by omega)
  · exfalso; omega
set_option maxRecDepth 100000 in
/-- GatheredPointsModel.order [(8, 2147483647), (-2147483648, 2147483647)] -/
theorem zm3151_1 {z : gH} {L d : Nat} {K : Option gV → gH → Prop} {s : gH} (p0 : Int) (p1 : Int) (hs : zM z s) (h_p0 : 8 ≤ p0 ∧ p0 ≤ 2147483647) (h_p1 : (-2147483648) ≤ p1 ∧ p1 ≤ 2147483647) (q0 : gp_I s 81 20 = 0) (k : ∀ (t : gH), zM z t → ((-2147483648) ≤ gp_I t 75 1 ∧ gp_I t 75 1 ≤ 2147483647) → (gp_I t 81 20 = 0) → K (some (gp_i (-1000000001))) t) : gs_C L (d + 1) 3151 3 [gp_r (some 74), gp_i p0, gp_i p1] s K := by
  refine s_3151_e _ _ ?_
  refine zm3075_1 _ hs (by omega) (⟨_, rfl, ?_⟩)
  refine ⟨fun h_1 => ?_, fun h_1 => ?_⟩
  · refine s_3151_14 _ _ ?_
    refine zm3074_4 hs (by omega) (fun s_2 hs_3 q_4 q_5 => ⟨_, rfl, ?_⟩)
    exact k s_2 hs_3 (by omega) (by omega)
  · exfalso; omega
set_option maxRecDepth 100000 in
/-- GatheredPointsModel.order [(0, 7), (-2147483648, -1)] -/
theorem zm3151_2 {z : gH} {L d : Nat} {K : Option gV → gH → Prop} {s : gH} (p0 : Int) (p1 : Int) (hs : zM z s) (h_p0 : 0 ≤ p0 ∧ p0 ≤ 7) (h_p1 : (-2147483648) ≤ p1 ∧ p1 ≤ (-1)) (q0 : gp_I s 81 20 = 0) (k : ∀ (t : gH), zM z t → ((-2147483648) ≤ gp_I t 75 1 ∧ gp_I t 75 1 ≤ 2147483647) → (gp_I t 81 20 = 0) → K (some (gp_i (-1000000001))) t) : gs_C L (d + 1) 3151 3 [gp_r (some 74), gp_i p0, gp_i p1] s K := by
  refine s_3151_e _ _ ?_
  refine zm3075_2 _ hs (by omega) (⟨_, rfl, ?_⟩)
  refine ⟨fun h_1 => ?_, fun h_1 => ?_⟩
  · exfalso; omega
  · refine zm3075_0 _ hs (by omega) (⟨_, rfl, ?_⟩)
    refine ⟨fun h_2 => ?_, fun h_2 => ?_⟩
    · refine s_3151_14 _ _ ?_
      refine zm3074_4 hs (by omega) (fun s_3 hs_4 q_5 q_6 => ⟨_, rfl, ?_⟩)
      exact k s_3 hs_4 (by omega) (by omega)
    · exfalso; omega
set_option maxRecDepth 100000 in
/-- GatheredPointsModel.order [(0, 7), (8, 2147483647)] -/
theorem zm3151_3 {z : gH} {L d : Nat} {K : Option gV → gH → Prop} {s : gH} (p0 : Int) (p1 : Int) (hs : zM z s) (h_p0 : 0 ≤ p0 ∧ p0 ≤ 7) (h_p1 : 8 ≤ p1 ∧ p1 ≤ 2147483647) (q0 : gp_I s 81 20 = 0) (k : ∀ (t : gH), zM z t → ((-2147483648) ≤ gp_I t 75 1 ∧ gp_I t 75 1 ≤ 2147483647) → (gp_I t 81 20 = 0) → K (some (gp_i (-1000000001))) t) : gs_C L (d + 1) 3151 3 [gp_r (some 74), gp_i p0, gp_i p1] s K := by
  refine s_3151_e _ _ ?_
  refine zm3075_2 _ hs (by omega) (⟨_, rfl, ?_⟩)
  refine ⟨fun h_1 => ?_, fun h_1 => ?_⟩
  · exfalso; omega
  · refine zm3075_1 _ hs (by omega) (⟨_, rfl, ?_⟩)
    refine ⟨fun h_2 => ?_, fun h_2 => ?_⟩
    · refine s_3151_14 _ _ ?_
      refine zm3074_4 hs (by omega) (fun s_3 hs_4 q_5 q_6 => ⟨_, rfl, ?_⟩)
      exact k s_3 hs_4 (by omega) (by omega)
    · exfalso; omega
set_option maxRecDepth 100000 in
/-- GatheredPointsModel.forgets, the loop at 2 -/
theorem zm3089_3_l2_0 {z : gH} {L d : Nat} {K : Option gV → gH → Prop}   (k : ∀ (t : gH), zM z t → (gp_I t 81 20 = 0) → K none t)  : ∀ (n : Nat) (v1 : Int) (s : gH), zM z s → (4097 - v1).toNat < n → (0 ≤ v1 ∧ v1 ≤ 4096) → (gp_I s 81 20 = 0) → gs_E L d 3089 2 [gp_r (some 74), gp_i v1] [] s K := by
  intro n
  induction n with
  | zero => intro v1 s hs hm i0 i1; exact absurd hm (Nat.not_lt_zero _)
  | succ n ih =>
    intro v1 s hs hm i0 i1
    refine s_3089_2 _ ?_
    refine ⟨fun h_1 => ?_, fun h_1 => ?_⟩
    · refine ⟨by omega, ?_⟩
      intro s_2 e_3
      have hs_4 : zM z s_2 := by rw [e_3]; exact zw86 hs _ _ (by omega)
      have q_5 : gp_I s_2 81 20 = 0 := by rw [e_3]; exact i1
      have w_6 := gz_w (v1 + 1)
      exact ih _ s_2 hs_4 (by omega) (by omega) (by omega)
    · have e_7 : v1 = 4096 := by omega
      subst e_7
      exact k s hs (by omega)
set_option maxRecDepth 100000 in
/-- GatheredPointsModel.forgets [] -/
theorem zm3089_3 {z : gH} {L d : Nat} {K : Option gV → gH → Prop} {s : gH}  (hs : zM z s)  (q0 : gp_I s 81 20 = 0) (k : ∀ (t : gH), zM z t → (gp_I t 81 20 = 0) → K none t) : gs_C L d 3089 2 [gp_r (some 74)] s K := by
  refine s_3089_e ?_
  exact zm3089_3_l2_0 k _ _ s hs (Nat.lt_succ_self _) (by omega) (by omega)
set_option maxRecDepth 100000 in
/-- GatheredPointsModel.orderOfSides [(0, 7), 0, (0, 0), (0, 7), 0, (0, 0)] -/
theorem zm3091_0 {z : gH} {L d : Nat} {K : Option gV → gH → Prop} {s : gH} (p0 : Int) (p3 : Int) (hs : zM z s) (h_p0 : 0 ≤ p0 ∧ p0 ≤ 7) (h_p3 : 0 ≤ p3 ∧ p3 ≤ 7) (q0 : gp_I s 86 0 = 0) (k : K (some (gp_i 0)) s) : gs_C L (d + 1) 3091 13 [gp_r (some 74), gp_i p0, gp_l (0#64), gp_i 0, gp_i p3, gp_l (0#64), gp_i 0] s K := by
  refine s_3091_e _ _ _ _ _ _ ?_
  have e_1 : gp_cmp (0#64) (0#64) = 0 := by decide
  try rw [e_1]
  refine ⟨fun h_2 => ?_, fun h_2 => ?_⟩
  · have e_3 : gp_cmp (0#64) (0#64) = 0 := by decide
    try rw [e_3]
    refine ⟨fun h_4 => ?_, fun h_4 => ?_⟩
    · refine ⟨fun h_5 => ?_, fun h_5 => ?_⟩
      · exfalso; omega
      · refine ⟨fun h_6 => ?_, fun h_6 => ?_⟩
        · exfalso; omega
        · refine s_3091_36 _ _ _ _ _ _ _ _ _ _ _ ?_
          exact k
    · exfalso; omega
  · exfalso; omega
set_option maxRecDepth 100000 in
/-- GatheredPointsModel.order [(0, 7), (0, 0), (0, 7), (0, 0)] -/
theorem zm3090_0 {z : gH} {L d : Nat} {K : Option gV → gH → Prop} {s : gH} (p0 : Int) (p2 : Int) (hs : zM z s) (h_p0 : 0 ≤ p0 ∧ p0 ≤ 7) (h_p2 : 0 ≤ p2 ∧ p2 ≤ 7) (q0 : gp_I s 81 20 = 0) (k : ∀ (t : gH), zM z t → (gp_I t 81 20 = 0) → (gp_I t 86 0 = 2) → K (some (gp_i 0)) t) : gs_C L (d + 2) 3090 9 [gp_r (some 74), gp_i p0, gp_i 0, gp_i p2, gp_i 0] s K := by
  refine s_3090_e _ _ _ _ ?_
  have w_1 := gz_w (64 * 0)
  have e_2 : gp_wr (64 * 0) = 0 := by omega
  try rw [e_2]
  have w_3 := gz_w (0 + 0)
  have e_4 : gp_wr (0 + 0) = 0 := by omega
  try rw [e_4]
  refine ⟨by omega, ?_⟩
  have f_5 := zr86 hs ((0 : Int).toNat)
  refine ⟨fun h_6 => ?_, fun h_6 => ?_⟩
  · have q_8 : gp_I s 86 (0 : Int).toNat = 0 := by omega
    have q_7 : gp_I s 86 0 = 0 := q_8
    have e_9 : gp_I s 86 (0 : Int).toNat = 0 := by omega
    try rw [e_9]
    have w_10 := gz_w (64 * p0)
    have w_11 := gz_w ((gp_wr (64 * p0)) + 0)
    refine ⟨by omega, ?_⟩
    have f_12 := zr80 hs ((gp_wr ((gp_wr (64 * p0)) + 0)).toNat)
    have e_13 : gp_I s 80 (gp_wr ((gp_wr (64 * p0)) + 0)).toNat = 0 := by omega
    try rw [e_13]
    have w_14 := gz_w (64 * p2)
    have w_15 := gz_w ((gp_wr (64 * p2)) + 0)
    refine ⟨by omega, ?_⟩
    have f_16 := zr80 hs ((gp_wr ((gp_wr (64 * p2)) + 0)).toNat)
    have e_17 : gp_I s 80 (gp_wr ((gp_wr (64 * p2)) + 0)).toNat = 0 := by omega
    try rw [e_17]
    refine ⟨fun h_18 => ?_, fun h_18 => ?_⟩
    · exfalso; omega
    · refine ⟨fun h_19 => ?_, fun h_19 => ?_⟩
      · exfalso; omega
      · refine s_3090_65 _ _ _ _ _ _ _ _ _ ?_
        refine s_3090_70 _ _ _ _ _ _ _ _ ?_
        refine ⟨fun h_20 => ?_, fun h_20 => ?_⟩
        · refine ⟨fun h_21 => ?_, fun h_21 => ?_⟩
          · refine zm3082_0 _ hs (by omega) (⟨_, rfl, ?_⟩)
            refine zm3083_0 _ hs (by omega) (⟨_, rfl, ?_⟩)
            refine zm3082_0 _ hs (by omega) (⟨_, rfl, ?_⟩)
            refine zm3083_0 _ hs (by omega) (⟨_, rfl, ?_⟩)
            refine zm3091_0 _ _ hs (by omega) (by omega) (by omega) (⟨_, rfl, ?_⟩)
            have w_22 := gz_w (0 + 1)
            have e_23 : gp_wr (0 + 1) = 1 := by omega
            try rw [e_23]
            refine s_3090_70 _ _ _ _ _ _ _ _ ?_
            refine ⟨fun h_24 => ?_, fun h_24 => ?_⟩
            · refine ⟨fun h_25 => ?_, fun h_25 => ?_⟩
              · refine zm3082_1 _ hs (by omega) (⟨_, rfl, ?_⟩)
                refine zm3083_1 _ hs (by omega) (⟨_, rfl, ?_⟩)
                refine zm3082_1 _ hs (by omega) (⟨_, rfl, ?_⟩)
                refine zm3083_1 _ hs (by omega) (⟨_, rfl, ?_⟩)
                refine zm3091_0 _ _ hs (by omega) (by omega) (by omega) (⟨_, rfl, ?_⟩)
                have w_26 := gz_w (1 + 1)
                have e_27 : gp_wr (1 + 1) = 2 := by omega
                try rw [e_27]
                refine s_3090_70 _ _ _ _ _ _ _ _ ?_
                refine ⟨fun h_28 => ?_, fun h_28 => ?_⟩
                · exfalso; omega
                · refine s_3090_129 _ _ _ _ _ _ _ _ ?_
                  have w_29 := gz_w (64 * 0)
                  have e_30 : gp_wr (64 * 0) = 0 := by omega
                  try rw [e_30]
                  have w_31 := gz_w (0 + 0)
                  have e_32 : gp_wr (0 + 0) = 0 := by omega
                  try rw [e_32]
                  have w_33 := gz_w (2 + 0)
                  have e_34 : gp_wr (2 + 0) = 2 := by omega
                  try rw [e_34]
                  refine ⟨by omega, ?_⟩
                  intro s_35 e_36
                  have hs_37 : zM z s_35 := by rw [e_36]; exact zw86 hs _ _ (by omega)
                  have q_38 : gp_I s_35 81 20 = 0 := by rw [e_36]; exact q0
                  have q_39 : gp_I s_35 86 0 = 2 := by rw [e_36]; rfl
                  refine s_3090_145 _ _ _ _ _ _ _ _ ?_
                  have w_41 := gz_w (64 * 0)
                  have e_42 : gp_wr (64 * 0) = 0 := by omega
                  try rw [e_42]
                  have w_43 := gz_w (0 + 0)
                  have e_44 : gp_wr (0 + 0) = 0 := by omega
                  try rw [e_44]
                  refine ⟨by omega, ?_⟩
                  try rw [show gp_I s_35 86 (0 : Int).toNat = 2 from q_39]
                  have w_45 := gz_w (2 - 2)
                  have e_46 : gp_wr (2 - 2) = 0 := by omega
                  try rw [e_46]
                  exact k s_35 hs_37 (by omega) (by omega)
              · exfalso; omega
            · exfalso; omega
          · exfalso; omega
        · exfalso; omega
  · have q_48 : gp_I s 86 (0 : Int).toNat = 2 := by omega
    have q_47 : gp_I s 86 0 = 2 := q_48
    have e_49 : gp_I s 86 (0 : Int).toNat = 2 := by omega
    try rw [e_49]
    refine s_3090_145 _ _ _ _ _ _ _ _ ?_
    have w_50 := gz_w (64 * 0)
    have e_51 : gp_wr (64 * 0) = 0 := by omega
    try rw [e_51]
    have w_52 := gz_w (0 + 0)
    have e_53 : gp_wr (0 + 0) = 0 := by omega
    try rw [e_53]
    refine ⟨by omega, ?_⟩
    try rw [show gp_I s 86 (0 : Int).toNat = 2 from q_47]
    have w_54 := gz_w (2 - 2)
    have e_55 : gp_wr (2 - 2) = 0 := by omega
    try rw [e_55]
    exact k s hs (by omega) (by omega)
set_option maxRecDepth 100000 in
/-- GatheredPointsModel.order [(0, 7), (0, 7)] -/
theorem zm3151_4 {z : gH} {L d : Nat} {K : Option gV → gH → Prop} {s : gH} (p0 : Int) (p1 : Int) (hs : zM z s) (h_p0 : 0 ≤ p0 ∧ p0 ≤ 7) (h_p1 : 0 ≤ p1 ∧ p1 ≤ 7) (q0 : gp_I s 81 20 = 0) (k : ∀ (t : gH), zM z t → (gp_I t 81 20 = 0) → (gp_I t 86 0 = 2) → K (some (gp_i 0)) t) : gs_C L (d + 3) 3151 3 [gp_r (some 74), gp_i p0, gp_i p1] s K := by
  refine s_3151_e _ _ ?_
  refine zm3075_2 _ hs (by omega) (⟨_, rfl, ?_⟩)
  refine ⟨fun h_1 => ?_, fun h_1 => ?_⟩
  · exfalso; omega
  · refine zm3075_2 _ hs (by omega) (⟨_, rfl, ?_⟩)
    refine ⟨fun h_2 => ?_, fun h_2 => ?_⟩
    · exfalso; omega
    · refine zm3089_3 hs (by omega) (fun s_3 hs_4 q_5 => ⟨rfl, ?_⟩)
      refine zm3081_0 _ hs_4 (by omega) (by omega) (⟨_, rfl, ?_⟩)
      refine zm3081_0 _ hs_4 (by omega) (by omega) (⟨_, rfl, ?_⟩)
      refine zm3090_0 _ _ hs_4 (by omega) (by omega) (by omega) (fun s_6 hs_7 q_8 q_9 => ⟨_, rfl, ?_⟩)
      exact k s_6 hs_7 (by omega) (by omega)
set_option maxRecDepth 100000 in
/-- GatheredPointsModel.compare [(-2147483648, -1), (-2147483648, 2147483647)] -/
theorem zm3152_0 {z : gH} {L d : Nat} {K : Option gV → gH → Prop} {s : gH} (p0 : Int) (p1 : Int) (hs : zM z s) (h_p0 : (-2147483648) ≤ p0 ∧ p0 ≤ (-1)) (h_p1 : (-2147483648) ≤ p1 ∧ p1 ≤ 2147483647) (q0 : gp_I s 81 20 = 0) (k : ∀ (t : gH), zM z t → ((-2147483648) ≤ gp_I t 75 1 ∧ gp_I t 75 1 ≤ 2147483647) → (gp_I t 81 20 = 0) → K (some (gp_i (-1000000001))) t) : gs_C L (d + 1) 3152 4 [gp_r (some 74), gp_i p0, gp_i p1] s K := by
  refine s_3152_e _ _ ?_
  refine zm3075_0 _ hs (by omega) (⟨_, rfl, ?_⟩)
  refine ⟨fun h_1 => ?_, fun h_1 => ?_⟩
  · refine s_3152_14 _ _ _ ?_
    refine zm3074_4 hs (by omega) (fun s_2 hs_3 q_4 q_5 => ⟨_, rfl, ?_⟩)
    exact k s_2 hs_3 (by omega) (by omega)
  · exfalso; omega
set_option maxRecDepth 100000 in
/-- GatheredPointsModel.compare [(8, 2147483647), (-2147483648, 2147483647)] -/
theorem zm3152_1 {z : gH} {L d : Nat} {K : Option gV → gH → Prop} {s : gH} (p0 : Int) (p1 : Int) (hs : zM z s) (h_p0 : 8 ≤ p0 ∧ p0 ≤ 2147483647) (h_p1 : (-2147483648) ≤ p1 ∧ p1 ≤ 2147483647) (q0 : gp_I s 81 20 = 0) (k : ∀ (t : gH), zM z t → ((-2147483648) ≤ gp_I t 75 1 ∧ gp_I t 75 1 ≤ 2147483647) → (gp_I t 81 20 = 0) → K (some (gp_i (-1000000001))) t) : gs_C L (d + 1) 3152 4 [gp_r (some 74), gp_i p0, gp_i p1] s K := by
  refine s_3152_e _ _ ?_
  refine zm3075_1 _ hs (by omega) (⟨_, rfl, ?_⟩)
  refine ⟨fun h_1 => ?_, fun h_1 => ?_⟩
  · refine s_3152_14 _ _ _ ?_
    refine zm3074_4 hs (by omega) (fun s_2 hs_3 q_4 q_5 => ⟨_, rfl, ?_⟩)
    exact k s_2 hs_3 (by omega) (by omega)
  · exfalso; omega
set_option maxRecDepth 100000 in
/-- GatheredPointsModel.compare [(0, 7), (-2147483648, -1)] -/
theorem zm3152_2 {z : gH} {L d : Nat} {K : Option gV → gH → Prop} {s : gH} (p0 : Int) (p1 : Int) (hs : zM z s) (h_p0 : 0 ≤ p0 ∧ p0 ≤ 7) (h_p1 : (-2147483648) ≤ p1 ∧ p1 ≤ (-1)) (q0 : gp_I s 81 20 = 0) (k : ∀ (t : gH), zM z t → ((-2147483648) ≤ gp_I t 75 1 ∧ gp_I t 75 1 ≤ 2147483647) → (gp_I t 81 20 = 0) → K (some (gp_i (-1000000001))) t) : gs_C L (d + 1) 3152 4 [gp_r (some 74), gp_i p0, gp_i p1] s K := by
  refine s_3152_e _ _ ?_
  refine zm3075_2 _ hs (by omega) (⟨_, rfl, ?_⟩)
  refine ⟨fun h_1 => ?_, fun h_1 => ?_⟩
  · exfalso; omega
  · refine zm3075_0 _ hs (by omega) (⟨_, rfl, ?_⟩)
    refine ⟨fun h_2 => ?_, fun h_2 => ?_⟩
    · refine s_3152_14 _ _ _ ?_
      refine zm3074_4 hs (by omega) (fun s_3 hs_4 q_5 q_6 => ⟨_, rfl, ?_⟩)
      exact k s_3 hs_4 (by omega) (by omega)
    · exfalso; omega
set_option maxRecDepth 100000 in
/-- GatheredPointsModel.compare [(0, 7), (8, 2147483647)] -/
theorem zm3152_3 {z : gH} {L d : Nat} {K : Option gV → gH → Prop} {s : gH} (p0 : Int) (p1 : Int) (hs : zM z s) (h_p0 : 0 ≤ p0 ∧ p0 ≤ 7) (h_p1 : 8 ≤ p1 ∧ p1 ≤ 2147483647) (q0 : gp_I s 81 20 = 0) (k : ∀ (t : gH), zM z t → ((-2147483648) ≤ gp_I t 75 1 ∧ gp_I t 75 1 ≤ 2147483647) → (gp_I t 81 20 = 0) → K (some (gp_i (-1000000001))) t) : gs_C L (d + 1) 3152 4 [gp_r (some 74), gp_i p0, gp_i p1] s K := by
  refine s_3152_e _ _ ?_
  refine zm3075_2 _ hs (by omega) (⟨_, rfl, ?_⟩)
  refine ⟨fun h_1 => ?_, fun h_1 => ?_⟩
  · exfalso; omega
  · refine zm3075_1 _ hs (by omega) (⟨_, rfl, ?_⟩)
    refine ⟨fun h_2 => ?_, fun h_2 => ?_⟩
    · refine s_3152_14 _ _ _ ?_
      refine zm3074_4 hs (by omega) (fun s_3 hs_4 q_5 q_6 => ⟨_, rfl, ?_⟩)
      exact k s_3 hs_4 (by omega) (by omega)
    · exfalso; omega
set_option maxRecDepth 100000 in
/-- GatheredPointsModel.worst [(0, 7), (0, 0), 94, (64, 64), (0, 0)] -/
theorem zm3098_6 {z : gH} {L d : Nat} {K : Option gV → gH → Prop} {s : gH} (p0 : Int) (hs : zM z s) (h_p0 : 0 ≤ p0 ∧ p0 ≤ 7)  (k : K (some (gp_i 0)) s) : gs_C L (d + 1) 3098 9 [gp_r (some 74), gp_i p0, gp_i 0, gp_r (some 94), gp_i 64, gp_i 0] s K := by
  refine s_3098_e _ _ _ _ _ ?_
  have w_1 := gz_w (64 * p0)
  have w_2 := gz_w ((gp_wr (64 * p0)) + 0)
  refine ⟨by omega, ?_⟩
  try rw [zr77 hs ((gp_wr ((gp_wr (64 * p0)) + 0)).toNat)]
  have e_3 : gp_cmp (0#64) (0#64) = 0 := by decide
  try rw [e_3]
  refine ⟨fun h_4 => ?_, fun h_4 => ?_⟩
  · refine ⟨by omega, ?_⟩
    have f_5 := zr79 hs ((gp_wr ((gp_wr (64 * p0)) + 0)).toNat)
    have e_6 : gp_I s 79 (gp_wr ((gp_wr (64 * p0)) + 0)).toNat = 0 := by omega
    try rw [e_6]
    refine s_3098_32 _ _ _ _ _ _ _ _ _ ?_
    refine s_3098_37 _ _ _ _ _ _ _ _ ?_
    refine ⟨fun h_9 => ?_, fun h_9 => ?_⟩
    · exfalso; omega
    · exact k
  · exfalso; omega
set_option maxRecDepth 100000 in
/-- GatheredPointsModel.best [(0, 7), (0, 0), 97, (64, 64), (0, 0)] -/
theorem zm3097_6 {z : gH} {L d : Nat} {K : Option gV → gH → Prop} {s : gH} (p0 : Int) (hs : zM z s) (h_p0 : 0 ≤ p0 ∧ p0 ≤ 7)  (k : K (some (gp_i 0)) s) : gs_C L (d + 1) 3097 9 [gp_r (some 74), gp_i p0, gp_i 0, gp_r (some 97), gp_i 64, gp_i 0] s K := by
  refine s_3097_e _ _ _ _ _ ?_
  have w_1 := gz_w (64 * p0)
  have w_2 := gz_w ((gp_wr (64 * p0)) + 0)
  refine ⟨by omega, ?_⟩
  try rw [zr76 hs ((gp_wr ((gp_wr (64 * p0)) + 0)).toNat)]
  have e_3 : gp_cmp (0#64) (0#64) = 0 := by decide
  try rw [e_3]
  refine ⟨fun h_4 => ?_, fun h_4 => ?_⟩
  · refine ⟨by omega, ?_⟩
    have f_5 := zr78 hs ((gp_wr ((gp_wr (64 * p0)) + 0)).toNat)
    have e_6 : gp_I s 78 (gp_wr ((gp_wr (64 * p0)) + 0)).toNat = 0 := by omega
    try rw [e_6]
    refine s_3097_32 _ _ _ _ _ _ _ _ _ ?_
    refine s_3097_37 _ _ _ _ _ _ _ _ ?_
    refine ⟨fun h_9 => ?_, fun h_9 => ?_⟩
    · exfalso; omega
    · exact k
  · exfalso; omega
set_option maxRecDepth 100000 in
/-- GatheredPointsModel.best [(0, 7), (0, 0), 95, (64, 64), (0, 0)] -/
theorem zm3097_7 {z : gH} {L d : Nat} {K : Option gV → gH → Prop} {s : gH} (p0 : Int) (hs : zM z s) (h_p0 : 0 ≤ p0 ∧ p0 ≤ 7)  (k : K (some (gp_i 0)) s) : gs_C L (d + 1) 3097 9 [gp_r (some 74), gp_i p0, gp_i 0, gp_r (some 95), gp_i 64, gp_i 0] s K := by
  refine s_3097_e _ _ _ _ _ ?_
  have w_1 := gz_w (64 * p0)
  have w_2 := gz_w ((gp_wr (64 * p0)) + 0)
  refine ⟨by omega, ?_⟩
  try rw [zr76 hs ((gp_wr ((gp_wr (64 * p0)) + 0)).toNat)]
  have e_3 : gp_cmp (0#64) (0#64) = 0 := by decide
  try rw [e_3]
  refine ⟨fun h_4 => ?_, fun h_4 => ?_⟩
  · refine ⟨by omega, ?_⟩
    have f_5 := zr78 hs ((gp_wr ((gp_wr (64 * p0)) + 0)).toNat)
    have e_6 : gp_I s 78 (gp_wr ((gp_wr (64 * p0)) + 0)).toNat = 0 := by omega
    try rw [e_6]
    refine s_3097_32 _ _ _ _ _ _ _ _ _ ?_
    refine s_3097_37 _ _ _ _ _ _ _ _ ?_
    refine ⟨fun h_9 => ?_, fun h_9 => ?_⟩
    · exfalso; omega
    · exact k
  · exfalso; omega
set_option maxRecDepth 100000 in
/-- GatheredPointsModel.worst [(0, 7), (0, 0), 96, (64, 64), (0, 0)] -/
theorem zm3098_7 {z : gH} {L d : Nat} {K : Option gV → gH → Prop} {s : gH} (p0 : Int) (hs : zM z s) (h_p0 : 0 ≤ p0 ∧ p0 ≤ 7)  (k : K (some (gp_i 0)) s) : gs_C L (d + 1) 3098 9 [gp_r (some 74), gp_i p0, gp_i 0, gp_r (some 96), gp_i 64, gp_i 0] s K := by
  refine s_3098_e _ _ _ _ _ ?_
  have w_1 := gz_w (64 * p0)
  have w_2 := gz_w ((gp_wr (64 * p0)) + 0)
  refine ⟨by omega, ?_⟩
  try rw [zr77 hs ((gp_wr ((gp_wr (64 * p0)) + 0)).toNat)]
  have e_3 : gp_cmp (0#64) (0#64) = 0 := by decide
  try rw [e_3]
  refine ⟨fun h_4 => ?_, fun h_4 => ?_⟩
  · refine ⟨by omega, ?_⟩
    have f_5 := zr79 hs ((gp_wr ((gp_wr (64 * p0)) + 0)).toNat)
    have e_6 : gp_I s 79 (gp_wr ((gp_wr (64 * p0)) + 0)).toNat = 0 := by omega
    try rw [e_6]
    refine s_3098_32 _ _ _ _ _ _ _ _ _ ?_
    refine s_3098_37 _ _ _ _ _ _ _ _ ?_
    refine ⟨fun h_9 => ?_, fun h_9 => ?_⟩
    · exfalso; omega
    · exact k
  · exfalso; omega
set_option maxRecDepth 100000 in
/-- GatheredPointsModel.worst [(0, 7), (0, 0), 94, (64, 64), (0, 1)] -/
theorem zm3098_8 {z : gH} {L d : Nat} {K : Option gV → gH → Prop} {s : gH} (p0 : Int) (p4 : Int) (hs : zM z s) (h_p0 : 0 ≤ p0 ∧ p0 ≤ 7) (h_p4 : 0 ≤ p4 ∧ p4 ≤ 1)  (k : K (some (gp_i 0)) s) : gs_C L (d + 1) 3098 9 [gp_r (some 74), gp_i p0, gp_i 0, gp_r (some 94), gp_i 64, gp_i p4] s K := by
  refine s_3098_e _ _ _ _ _ ?_
  have w_1 := gz_w (64 * p0)
  have w_2 := gz_w ((gp_wr (64 * p0)) + 0)
  refine ⟨by omega, ?_⟩
  try rw [zr77 hs ((gp_wr ((gp_wr (64 * p0)) + 0)).toNat)]
  have e_3 : gp_cmp (0#64) (0#64) = 0 := by decide
  try rw [e_3]
  refine ⟨fun h_4 => ?_, fun h_4 => ?_⟩
  · refine ⟨by omega, ?_⟩
    have f_5 := zr79 hs ((gp_wr ((gp_wr (64 * p0)) + 0)).toNat)
    have e_6 : gp_I s 79 (gp_wr ((gp_wr (64 * p0)) + 0)).toNat = 0 := by omega
    try rw [e_6]
    refine s_3098_32 _ _ _ _ _ _ _ _ _ ?_
    refine s_3098_37 _ _ _ _ _ _ _ _ ?_
    refine ⟨fun h_9 => ?_, fun h_9 => ?_⟩
    · exfalso; omega
    · exact k
  · exfalso; omega
set_option maxRecDepth 100000 in
/-- GatheredPointsModel.best [(0, 7), (0, 0), 97, (64, 64), (0, 1)] -/
theorem zm3097_8 {z : gH} {L d : Nat} {K : Option gV → gH → Prop} {s : gH} (p0 : Int) (p4 : Int) (hs : zM z s) (h_p0 : 0 ≤ p0 ∧ p0 ≤ 7) (h_p4 : 0 ≤ p4 ∧ p4 ≤ 1)  (k : K (some (gp_i 0)) s) : gs_C L (d + 1) 3097 9 [gp_r (some 74), gp_i p0, gp_i 0, gp_r (some 97), gp_i 64, gp_i p4] s K := by
  refine s_3097_e _ _ _ _ _ ?_
  have w_1 := gz_w (64 * p0)
  have w_2 := gz_w ((gp_wr (64 * p0)) + 0)
  refine ⟨by omega, ?_⟩
  try rw [zr76 hs ((gp_wr ((gp_wr (64 * p0)) + 0)).toNat)]
  have e_3 : gp_cmp (0#64) (0#64) = 0 := by decide
  try rw [e_3]
  refine ⟨fun h_4 => ?_, fun h_4 => ?_⟩
  · refine ⟨by omega, ?_⟩
    have f_5 := zr78 hs ((gp_wr ((gp_wr (64 * p0)) + 0)).toNat)
    have e_6 : gp_I s 78 (gp_wr ((gp_wr (64 * p0)) + 0)).toNat = 0 := by omega
    try rw [e_6]
    refine s_3097_32 _ _ _ _ _ _ _ _ _ ?_
    refine s_3097_37 _ _ _ _ _ _ _ _ ?_
    refine ⟨fun h_9 => ?_, fun h_9 => ?_⟩
    · exfalso; omega
    · exact k
  · exfalso; omega
set_option maxRecDepth 100000 in
/-- GatheredPointsModel.worst [(0, 7), (0, 0), 94, (64, 64), (0, 2)] -/
theorem zm3098_9 {z : gH} {L d : Nat} {K : Option gV → gH → Prop} {s : gH} (p0 : Int) (p4 : Int) (hs : zM z s) (h_p0 : 0 ≤ p0 ∧ p0 ≤ 7) (h_p4 : 0 ≤ p4 ∧ p4 ≤ 2)  (k : K (some (gp_i 0)) s) : gs_C L (d + 1) 3098 9 [gp_r (some 74), gp_i p0, gp_i 0, gp_r (some 94), gp_i 64, gp_i p4] s K := by
  refine s_3098_e _ _ _ _ _ ?_
  have w_1 := gz_w (64 * p0)
  have w_2 := gz_w ((gp_wr (64 * p0)) + 0)
  refine ⟨by omega, ?_⟩
  try rw [zr77 hs ((gp_wr ((gp_wr (64 * p0)) + 0)).toNat)]
  have e_3 : gp_cmp (0#64) (0#64) = 0 := by decide
  try rw [e_3]
  refine ⟨fun h_4 => ?_, fun h_4 => ?_⟩
  · refine ⟨by omega, ?_⟩
    have f_5 := zr79 hs ((gp_wr ((gp_wr (64 * p0)) + 0)).toNat)
    have e_6 : gp_I s 79 (gp_wr ((gp_wr (64 * p0)) + 0)).toNat = 0 := by omega
    try rw [e_6]
    refine s_3098_32 _ _ _ _ _ _ _ _ _ ?_
    refine s_3098_37 _ _ _ _ _ _ _ _ ?_
    refine ⟨fun h_9 => ?_, fun h_9 => ?_⟩
    · exfalso; omega
    · exact k
  · exfalso; omega
set_option maxRecDepth 100000 in
/-- GatheredPointsModel.best [(0, 7), (0, 0), 97, (64, 64), (0, 2)] -/
theorem zm3097_9 {z : gH} {L d : Nat} {K : Option gV → gH → Prop} {s : gH} (p0 : Int) (p4 : Int) (hs : zM z s) (h_p0 : 0 ≤ p0 ∧ p0 ≤ 7) (h_p4 : 0 ≤ p4 ∧ p4 ≤ 2)  (k : K (some (gp_i 0)) s) : gs_C L (d + 1) 3097 9 [gp_r (some 74), gp_i p0, gp_i 0, gp_r (some 97), gp_i 64, gp_i p4] s K := by
  refine s_3097_e _ _ _ _ _ ?_
  have w_1 := gz_w (64 * p0)
  have w_2 := gz_w ((gp_wr (64 * p0)) + 0)
  refine ⟨by omega, ?_⟩
  try rw [zr76 hs ((gp_wr ((gp_wr (64 * p0)) + 0)).toNat)]
  have e_3 : gp_cmp (0#64) (0#64) = 0 := by decide
  try rw [e_3]
  refine ⟨fun h_4 => ?_, fun h_4 => ?_⟩
  · refine ⟨by omega, ?_⟩
    have f_5 := zr78 hs ((gp_wr ((gp_wr (64 * p0)) + 0)).toNat)
    have e_6 : gp_I s 78 (gp_wr ((gp_wr (64 * p0)) + 0)).toNat = 0 := by omega
    try rw [e_6]
    refine s_3097_32 _ _ _ _ _ _ _ _ _ ?_
    refine s_3097_37 _ _ _ _ _ _ _ _ ?_
    refine ⟨fun h_9 => ?_, fun h_9 => ?_⟩
    · exfalso; omega
    · exact k
  · exfalso; omega
set_option maxRecDepth 100000 in
/-- GatheredPointsModel.worst [(0, 7), (0, 0), 94, (64, 64), (0, 59)] -/
theorem zm3098_10 {z : gH} {L d : Nat} {K : Option gV → gH → Prop} {s : gH} (p0 : Int) (p4 : Int) (hs : zM z s) (h_p0 : 0 ≤ p0 ∧ p0 ≤ 7) (h_p4 : 0 ≤ p4 ∧ p4 ≤ 59)  (k : K (some (gp_i 0)) s) : gs_C L (d + 1) 3098 9 [gp_r (some 74), gp_i p0, gp_i 0, gp_r (some 94), gp_i 64, gp_i p4] s K := by
  refine s_3098_e _ _ _ _ _ ?_
  have w_1 := gz_w (64 * p0)
  have w_2 := gz_w ((gp_wr (64 * p0)) + 0)
  refine ⟨by omega, ?_⟩
  try rw [zr77 hs ((gp_wr ((gp_wr (64 * p0)) + 0)).toNat)]
  have e_3 : gp_cmp (0#64) (0#64) = 0 := by decide
  try rw [e_3]
  refine ⟨fun h_4 => ?_, fun h_4 => ?_⟩
  · refine ⟨by omega, ?_⟩
    have f_5 := zr79 hs ((gp_wr ((gp_wr (64 * p0)) + 0)).toNat)
    have e_6 : gp_I s 79 (gp_wr ((gp_wr (64 * p0)) + 0)).toNat = 0 := by omega
    try rw [e_6]
    refine s_3098_32 _ _ _ _ _ _ _ _ _ ?_
    refine s_3098_37 _ _ _ _ _ _ _ _ ?_
    refine ⟨fun h_9 => ?_, fun h_9 => ?_⟩
    · exfalso; omega
    · exact k
  · exfalso; omega
set_option maxRecDepth 100000 in
/-- GatheredPointsModel.best [(0, 7), (0, 0), 97, (64, 64), (0, 59)] -/
theorem zm3097_10 {z : gH} {L d : Nat} {K : Option gV → gH → Prop} {s : gH} (p0 : Int) (p4 : Int) (hs : zM z s) (h_p0 : 0 ≤ p0 ∧ p0 ≤ 7) (h_p4 : 0 ≤ p4 ∧ p4 ≤ 59)  (k : K (some (gp_i 0)) s) : gs_C L (d + 1) 3097 9 [gp_r (some 74), gp_i p0, gp_i 0, gp_r (some 97), gp_i 64, gp_i p4] s K := by
  refine s_3097_e _ _ _ _ _ ?_
  have w_1 := gz_w (64 * p0)
  have w_2 := gz_w ((gp_wr (64 * p0)) + 0)
  refine ⟨by omega, ?_⟩
  try rw [zr76 hs ((gp_wr ((gp_wr (64 * p0)) + 0)).toNat)]
  have e_3 : gp_cmp (0#64) (0#64) = 0 := by decide
  try rw [e_3]
  refine ⟨fun h_4 => ?_, fun h_4 => ?_⟩
  · refine ⟨by omega, ?_⟩
    have f_5 := zr78 hs ((gp_wr ((gp_wr (64 * p0)) + 0)).toNat)
    have e_6 : gp_I s 78 (gp_wr ((gp_wr (64 * p0)) + 0)).toNat = 0 := by omega
    try rw [e_6]
    refine s_3097_32 _ _ _ _ _ _ _ _ _ ?_
    refine s_3097_37 _ _ _ _ _ _ _ _ ?_
    refine ⟨fun h_9 => ?_, fun h_9 => ?_⟩
    · exfalso; omega
    · exact k
  · exfalso; omega
set_option maxRecDepth 100000 in
/-- GatheredPointsModel.worst [(0, 7), (0, 0), 94, (64, 64), (0, 60)] -/
theorem zm3098_11 {z : gH} {L d : Nat} {K : Option gV → gH → Prop} {s : gH} (p0 : Int) (p4 : Int) (hs : zM z s) (h_p0 : 0 ≤ p0 ∧ p0 ≤ 7) (h_p4 : 0 ≤ p4 ∧ p4 ≤ 60)  (k : K (some (gp_i 0)) s) : gs_C L (d + 1) 3098 9 [gp_r (some 74), gp_i p0, gp_i 0, gp_r (some 94), gp_i 64, gp_i p4] s K := by
  refine s_3098_e _ _ _ _ _ ?_
  have w_1 := gz_w (64 * p0)
  have w_2 := gz_w ((gp_wr (64 * p0)) + 0)
  refine ⟨by omega, ?_⟩
  try rw [zr77 hs ((gp_wr ((gp_wr (64 * p0)) + 0)).toNat)]
  have e_3 : gp_cmp (0#64) (0#64) = 0 := by decide
  try rw [e_3]
  refine ⟨fun h_4 => ?_, fun h_4 => ?_⟩
  · refine ⟨by omega, ?_⟩
    have f_5 := zr79 hs ((gp_wr ((gp_wr (64 * p0)) + 0)).toNat)
    have e_6 : gp_I s 79 (gp_wr ((gp_wr (64 * p0)) + 0)).toNat = 0 := by omega
    try rw [e_6]
    refine s_3098_32 _ _ _ _ _ _ _ _ _ ?_
    refine s_3098_37 _ _ _ _ _ _ _ _ ?_
    refine ⟨fun h_9 => ?_, fun h_9 => ?_⟩
    · exfalso; omega
    · exact k
  · exfalso; omega
set_option maxRecDepth 100000 in
/-- GatheredPointsModel.best [(0, 7), (0, 0), 97, (64, 64), (0, 60)] -/
theorem zm3097_11 {z : gH} {L d : Nat} {K : Option gV → gH → Prop} {s : gH} (p0 : Int) (p4 : Int) (hs : zM z s) (h_p0 : 0 ≤ p0 ∧ p0 ≤ 7) (h_p4 : 0 ≤ p4 ∧ p4 ≤ 60)  (k : K (some (gp_i 0)) s) : gs_C L (d + 1) 3097 9 [gp_r (some 74), gp_i p0, gp_i 0, gp_r (some 97), gp_i 64, gp_i p4] s K := by
  refine s_3097_e _ _ _ _ _ ?_
  have w_1 := gz_w (64 * p0)
  have w_2 := gz_w ((gp_wr (64 * p0)) + 0)
  refine ⟨by omega, ?_⟩
  try rw [zr76 hs ((gp_wr ((gp_wr (64 * p0)) + 0)).toNat)]
  have e_3 : gp_cmp (0#64) (0#64) = 0 := by decide
  try rw [e_3]
  refine ⟨fun h_4 => ?_, fun h_4 => ?_⟩
  · refine ⟨by omega, ?_⟩
    have f_5 := zr78 hs ((gp_wr ((gp_wr (64 * p0)) + 0)).toNat)
    have e_6 : gp_I s 78 (gp_wr ((gp_wr (64 * p0)) + 0)).toNat = 0 := by omega
    try rw [e_6]
    refine s_3097_32 _ _ _ _ _ _ _ _ _ ?_
    refine s_3097_37 _ _ _ _ _ _ _ _ ?_
    refine ⟨fun h_9 => ?_, fun h_9 => ?_⟩
    · exfalso; omega
    · exact k
  · exfalso; omega
set_option maxRecDepth 100000 in
/-- GatheredPointsModel.bound, the loop at 10 -/
theorem zm3100_2_l10_0 {z : gH} {L d : Nat} {K : Option gV → gH → Prop} (p0 : Int)  (k : ∀ (t : gH), zM z t → (gp_I t 81 20 = 0) → K none t)  : ∀ (n : Nat) (v1 : Int) (v2 : Int) (v3 : Int) (v4 : Int) (v5 : gV) (v6 : gV) (v7 : gV) (s : gH), zM z s → (62 - v4).toNat < n → (0 ≤ v1 ∧ v1 ≤ 7) → (v2 = 0) → (0 ≤ v3 ∧ v3 ≤ 448) → (0 ≤ v4 ∧ v4 ≤ 61) → (gp_I s 81 20 = 0) → gs_E L (d + 2) 3100 10 [gp_r (some 74), gp_i v1, gp_i v2, gp_i v3, gp_i v4, v5, v6, v7] [] s K := by
  intro n
  induction n with
  | zero => intro v1 v2 v3 v4 v5 v6 v7 s hs hm i0 i1 i2 i3 i4; exact absurd hm (Nat.not_lt_zero _)
  | succ n ih =>
    intro v1 v2 v3 v4 v5 v6 v7 s hs hm i0 i1 i2 i3 i4
    subst i1
    refine s_3100_10 _ _ _ _ _ _ _ ?_
    refine ⟨fun h_1 => ?_, fun h_1 => ?_⟩
    · have e_2 : v4 = 61 := by omega
      subst e_2
      have w_3 := gz_w (64 * 0)
      have e_4 : gp_wr (64 * 0) = 0 := by omega
      try rw [e_4]
      refine ⟨by omega, ?_⟩
      have f_5 := zr96 hs ((0 : Int).toNat)
      have e_6 : gp_I s 96 (0 : Int).toNat = 0 := by omega
      try rw [e_6]
      refine ⟨by omega, ?_⟩
      intro s_7 e_8
      have hs_9 : zM z s_7 := by rw [e_8]; exact zw92 hs _ _ (by omega)
      have q_10 : gp_I s_7 81 20 = 0 := by rw [e_8]; exact i4
      have w_11 := gz_w (64 * 0)
      have e_12 : gp_wr (64 * 0) = 0 := by omega
      try rw [e_12]
      refine ⟨by omega, ?_⟩
      have f_13 := zr95 hs_9 ((0 : Int).toNat)
      have e_14 : gp_I s_7 95 (0 : Int).toNat = 0 := by omega
      try rw [e_14]
      refine ⟨by omega, ?_⟩
      intro s_15 e_16
      have hs_17 : zM z s_15 := by rw [e_16]; exact zw93 hs_9 _ _ (by omega)
      have q_18 : gp_I s_15 81 20 = 0 := by rw [e_16]; exact q_10
      refine s_3100_275 _ _ _ _ _ _ _ ?_
      refine ⟨by omega, ?_⟩
      have f_19 := zr80 hs_17 v3.toNat
      have e_20 : gp_I s_15 80 v3.toNat = 0 := by omega
      try rw [e_20]
      have w_21 := gz_w (0 + 1)
      have e_22 : gp_wr (0 + 1) = 1 := by omega
      try rw [e_22]
      refine ⟨fun h_23 => ?_, fun h_23 => ?_⟩
      · exfalso; omega
      · have w_24 := gz_w (64 * 0)
        have e_25 : gp_wr (64 * 0) = 0 := by omega
        try rw [e_25]
        have w_26 := gz_w (0 + 1)
        have e_27 : gp_wr (0 + 1) = 1 := by omega
        try rw [e_27]
        refine ⟨by omega, ?_⟩
        have f_28 := zr96 hs_17 ((1 : Int).toNat)
        have e_29 : gp_I s_15 96 (1 : Int).toNat = 0 := by omega
        try rw [e_29]
        refine ⟨by omega, ?_⟩
        have f_30 := zr92 hs_17 ((0 : Int).toNat)
        have e_31 : gp_I s_15 92 (0 : Int).toNat = 0 := by omega
        try rw [e_31]
        refine ⟨fun h_32 => ?_, fun h_32 => ?_⟩
        · exfalso; omega
        · refine ⟨by omega, ?_⟩
          have f_33 := zr92 hs_17 ((0 : Int).toNat)
          have e_34 : gp_I s_15 92 (0 : Int).toNat = 0 := by omega
          try rw [e_34]
          refine s_3100_335 _ _ _ _ _ _ _ _ _ ?_
          refine ⟨by omega, ?_⟩
          intro s_35 e_36
          have hs_37 : zM z s_35 := by rw [e_36]; exact zw92 hs_17 _ _ (by omega)
          have q_38 : gp_I s_35 81 20 = 0 := by rw [e_36]; exact q_18
          have w_39 := gz_w (64 * 0)
          have e_40 : gp_wr (64 * 0) = 0 := by omega
          try rw [e_40]
          have w_41 := gz_w (0 + 1)
          have e_42 : gp_wr (0 + 1) = 1 := by omega
          try rw [e_42]
          refine ⟨by omega, ?_⟩
          have f_43 := zr95 hs_37 ((1 : Int).toNat)
          have e_44 : gp_I s_35 95 (1 : Int).toNat = 0 := by omega
          try rw [e_44]
          refine ⟨by omega, ?_⟩
          have f_45 := zr93 hs_37 ((0 : Int).toNat)
          have e_46 : gp_I s_35 93 (0 : Int).toNat = 0 := by omega
          try rw [e_46]
          refine ⟨fun h_47 => ?_, fun h_47 => ?_⟩
          · exfalso; omega
          · refine ⟨by omega, ?_⟩
            have f_48 := zr93 hs_37 ((0 : Int).toNat)
            have e_49 : gp_I s_35 93 (0 : Int).toNat = 0 := by omega
            try rw [e_49]
            refine s_3100_383 _ _ _ _ _ _ _ _ _ ?_
            refine ⟨by omega, ?_⟩
            intro s_50 e_51
            have hs_52 : zM z s_50 := by rw [e_51]; exact zw93 hs_37 _ _ (by omega)
            have q_53 : gp_I s_50 81 20 = 0 := by rw [e_51]; exact q_38
            have w_54 := gz_w (1 + 1)
            have e_55 : gp_wr (1 + 1) = 2 := by omega
            try rw [e_55]
            refine s_3100_275 _ _ _ _ _ _ _ ?_
            refine ⟨by omega, ?_⟩
            have f_56 := zr80 hs_52 v3.toNat
            have e_57 : gp_I s_50 80 v3.toNat = 0 := by omega
            try rw [e_57]
            have w_58 := gz_w (0 + 1)
            have e_59 : gp_wr (0 + 1) = 1 := by omega
            try rw [e_59]
            refine ⟨fun h_60 => ?_, fun h_60 => ?_⟩
            · exact k s_50 hs_52 (by omega)
            · exfalso; omega
    · have w_61 := gz_w (64 * 0)
      have e_62 : gp_wr (64 * 0) = 0 := by omega
      try rw [e_62]
      have w_63 := gz_w (0 + v4)
      refine zm3098_11 _ _ hs (by omega) (by omega) (⟨_, rfl, ?_⟩)
      refine ⟨by omega, ?_⟩
      intro s_64 e_65
      have hs_66 : zM z s_64 := by rw [e_65]; exact zw95 hs _ _ (by omega)
      have q_67 : gp_I s_64 81 20 = 0 := by rw [e_65]; exact i4
      refine zm3097_11 _ _ hs_66 (by omega) (by omega) (⟨_, rfl, ?_⟩)
      refine ⟨by omega, ?_⟩
      intro s_68 e_69
      have hs_70 : zM z s_68 := by rw [e_69]; exact zw96 hs_66 _ _ (by omega)
      have q_71 : gp_I s_68 81 20 = 0 := by rw [e_69]; exact q_67
      refine ⟨by omega, ?_⟩
      try rw [zr76 hs_70 v3.toNat]
      have e_72 : gp_cmp (0#64) (0#64) = 0 := by decide
      try rw [e_72]
      refine ⟨fun h_73 => ?_, fun h_73 => ?_⟩
      · refine ⟨fun h_74 => ?_, fun h_74 => ?_⟩
        · have w_75 := gz_w ((gp_wr (0 + v4)) - 1)
          refine ⟨by omega, ?_⟩
          have f_76 := zr95 hs_70 ((gp_wr ((gp_wr (0 + v4)) - 1)).toNat)
          have e_77 : gp_I s_68 95 (gp_wr ((gp_wr (0 + v4)) - 1)).toNat = 0 := by omega
          try rw [e_77]
          refine s_3100_110 _ _ _ _ _ _ _ _ ?_
          refine ⟨by omega, ?_⟩
          try rw [zr77 hs_70 v3.toNat]
          have e_78 : gp_cmp (0#64) (0#64) = 0 := by decide
          try rw [e_78]
          refine ⟨fun h_79 => ?_, fun h_79 => ?_⟩
          · refine ⟨fun h_80 => ?_, fun h_80 => ?_⟩
            · have w_81 := gz_w ((gp_wr (0 + v4)) - 1)
              refine ⟨by omega, ?_⟩
              have f_82 := zr96 hs_70 ((gp_wr ((gp_wr (0 + v4)) - 1)).toNat)
              have e_83 : gp_I s_68 96 (gp_wr ((gp_wr (0 + v4)) - 1)).toNat = 0 := by omega
              try rw [e_83]
              refine s_3100_154 _ _ _ _ _ _ _ _ ?_
              refine ⟨fun h_84 => ?_, fun h_84 => ?_⟩
              · have w_85 := gz_w ((gp_wr (0 + v4)) - 1)
                refine ⟨by omega, ?_⟩
                have f_86 := zr95 hs_70 ((gp_wr ((gp_wr (0 + v4)) - 1)).toNat)
                have e_87 : gp_I s_68 95 (gp_wr ((gp_wr (0 + v4)) - 1)).toNat = 0 := by omega
                try rw [e_87]
                refine ⟨fun h_88 => ?_, fun h_88 => ?_⟩
                · exfalso; omega
                · refine s_3100_193 _ _ _ _ _ _ _ _ ?_
                  refine s_3100_195 _ _ _ _ _ _ _ _ _ ?_
                  refine ⟨by omega, ?_⟩
                  intro s_89 e_90
                  have hs_91 : zM z s_89 := by rw [e_90]; exact zw94 hs_70 _ _ (by omega)
                  have q_92 : gp_I s_89 81 20 = 0 := by rw [e_90]; exact q_71
                  refine ⟨fun h_93 => ?_, fun h_93 => ?_⟩
                  · have w_94 := gz_w ((gp_wr (0 + v4)) - 1)
                    refine ⟨by omega, ?_⟩
                    have f_95 := zr96 hs_91 ((gp_wr ((gp_wr (0 + v4)) - 1)).toNat)
                    have e_96 : gp_I s_89 96 (gp_wr ((gp_wr (0 + v4)) - 1)).toNat = 0 := by omega
                    try rw [e_96]
                    refine ⟨fun h_97 => ?_, fun h_97 => ?_⟩
                    · exfalso; omega
                    · refine s_3100_233 _ _ _ _ _ _ _ _ ?_
                      refine s_3100_235 _ _ _ _ _ _ _ _ _ ?_
                      refine ⟨by omega, ?_⟩
                      intro s_98 e_99
                      have hs_100 : zM z s_98 := by rw [e_99]; exact zw97 hs_91 _ _ (by omega)
                      have q_101 : gp_I s_98 81 20 = 0 := by rw [e_99]; exact q_92
                      have w_102 := gz_w (v4 + 1)
                      exact ih _ _ _ _ _ _ _ s_98 hs_100 (by omega) (by omega) (by omega) (by omega) (by omega) (by omega)
                  · exfalso; omega
              · exfalso; omega
            · exfalso; omega
          · exfalso; omega
        · have e_103 : v4 = 0 := by omega
          subst e_103
          refine s_3100_96 _ _ _ _ _ _ _ ?_
          refine zm3097_7 _ hs_70 (by omega) (⟨_, rfl, ?_⟩)
          refine s_3100_110 _ _ _ _ _ _ _ _ ?_
          refine ⟨by omega, ?_⟩
          try rw [zr77 hs_70 v3.toNat]
          have e_104 : gp_cmp (0#64) (0#64) = 0 := by decide
          try rw [e_104]
          refine ⟨fun h_105 => ?_, fun h_105 => ?_⟩
          · refine ⟨fun h_106 => ?_, fun h_106 => ?_⟩
            · exfalso; omega
            · refine s_3100_140 _ _ _ _ _ _ _ ?_
              refine zm3098_7 _ hs_70 (by omega) (⟨_, rfl, ?_⟩)
              refine s_3100_154 _ _ _ _ _ _ _ _ ?_
              have e_107 : gp_wr (0 + 0) = 0 := by omega
              try rw [e_107]
              refine ⟨fun h_108 => ?_, fun h_108 => ?_⟩
              · exfalso; omega
              · refine s_3100_193 _ _ _ _ _ _ _ _ ?_
                refine s_3100_195 _ _ _ _ _ _ _ _ _ ?_
                refine ⟨by omega, ?_⟩
                intro s_109 e_110
                have hs_111 : zM z s_109 := by rw [e_110]; exact zw94 hs_70 _ _ (by omega)
                have q_112 : gp_I s_109 81 20 = 0 := by rw [e_110]; exact q_71
                refine ⟨fun h_113 => ?_, fun h_113 => ?_⟩
                · exfalso; omega
                · refine s_3100_233 _ _ _ _ _ _ _ _ ?_
                  refine s_3100_235 _ _ _ _ _ _ _ _ _ ?_
                  refine ⟨by omega, ?_⟩
                  intro s_114 e_115
                  have hs_116 : zM z s_114 := by rw [e_115]; exact zw97 hs_111 _ _ (by omega)
                  have q_117 : gp_I s_114 81 20 = 0 := by rw [e_115]; exact q_112
                  have w_118 := gz_w (0 + 1)
                  have e_119 : gp_wr (0 + 1) = 1 := by omega
                  try rw [e_119]
                  exact ih _ _ _ _ _ _ _ s_114 hs_116 (by omega) (by omega) (by omega) (by omega) (by omega) (by omega)
          · exfalso; omega
      · exfalso; omega
set_option maxRecDepth 100000 in
/-- GatheredPointsModel.bound [(0, 7), (0, 0)] -/
theorem zm3100_2 {z : gH} {L d : Nat} {K : Option gV → gH → Prop} {s : gH} (p0 : Int) (hs : zM z s) (h_p0 : 0 ≤ p0 ∧ p0 ≤ 7) (q0 : gp_I s 81 20 = 0) (k : ∀ (t : gH), zM z t → (gp_I t 81 20 = 0) → K none t) : gs_C L (d + 2) 3100 8 [gp_r (some 74), gp_i p0, gp_i 0] s K := by
  refine s_3100_e _ _ ?_
  have w_1 := gz_w (64 * p0)
  have w_2 := gz_w ((gp_wr (64 * p0)) + 0)
  exact zm3100_2_l10_0 p0 k _ _ _ _ _ _ _ _ s hs (Nat.lt_succ_self _) (by omega) (by omega) (by omega) (by omega) (by omega)
set_option maxRecDepth 100000 in
/-- GatheredPointsModel.bounds [(0, 7)] -/
theorem zm3101_0 {z : gH} {L d : Nat} {K : Option gV → gH → Prop} {s : gH} (p0 : Int) (hs : zM z s) (h_p0 : 0 ≤ p0 ∧ p0 ≤ 7) (q0 : gp_I s 81 20 = 0) (k : ∀ (t : gH), zM z t → (gp_I t 81 20 = 0) → K none t) : gs_C L (d + 3) 3101 3 [gp_r (some 74), gp_i p0] s K := by
  refine s_3101_e _ ?_
  refine s_3101_2 _ _ ?_
  refine ⟨by omega, ?_⟩
  have f_1 := zr81 hs p0.toNat
  have e_2 : gp_I s 81 p0.toNat = 1 := by omega
  try rw [e_2]
  refine ⟨fun h_3 => ?_, fun h_3 => ?_⟩
  · refine zm3100_2 _ hs (by omega) (by omega) (fun s_4 hs_5 q_6 => ⟨rfl, ?_⟩)
    have w_7 := gz_w (0 + 1)
    have e_8 : gp_wr (0 + 1) = 1 := by omega
    try rw [e_8]
    refine s_3101_2 _ _ ?_
    refine ⟨by omega, ?_⟩
    have f_9 := zr81 hs_5 p0.toNat
    have e_10 : gp_I s_4 81 p0.toNat = 1 := by omega
    try rw [e_10]
    refine ⟨fun h_11 => ?_, fun h_11 => ?_⟩
    · exfalso; omega
    · exact k s_4 hs_5 (by omega)
  · exfalso; omega
set_option maxRecDepth 100000 in
/-- GatheredPointsModel.compares, the loop at 96 -/
theorem zm3104_0_l96_0 {z : gH} {L d : Nat} {K : Option gV → gH → Prop} (p0 : Int) (p1 : Int)  (k : ∀ (t : gH), zM z t → (gp_I t 81 20 = 0) → K none t)  : ∀ (n : Nat) (v1 : Int) (v2 : Int) (v3 : Int) (s : gH), zM z s → (4097 - v3).toNat < n → (0 ≤ v1 ∧ v1 ≤ 7) → (0 ≤ v2 ∧ v2 ≤ 7) → (0 ≤ v3 ∧ v3 ≤ 4096) → (gp_I s 81 20 = 0) → gs_E L (d + 4) 3104 96 [gp_r (some 74), gp_i v1, gp_i v2, gp_i v3] [] s K := by
  intro n
  induction n with
  | zero => intro v1 v2 v3 s hs hm i0 i1 i2 i3; exact absurd hm (Nat.not_lt_zero _)
  | succ n ih =>
    intro v1 v2 v3 s hs hm i0 i1 i2 i3
    refine s_3104_96 _ _ _ ?_
    refine ⟨fun h_1 => ?_, fun h_1 => ?_⟩
    · refine ⟨by omega, ?_⟩
      intro s_2 e_3
      have hs_4 : zM z s_2 := by rw [e_3]; exact zw98 hs _ _ (by omega)
      have q_5 : gp_I s_2 81 20 = 0 := by rw [e_3]; exact i3
      refine ⟨by omega, ?_⟩
      intro s_6 e_7
      have hs_8 : zM z s_6 := by rw [e_7]; exact zw99 hs_4 _ _ (by omega)
      have q_9 : gp_I s_6 81 20 = 0 := by rw [e_7]; exact q_5
      have w_10 := gz_w (v3 + 1)
      exact ih _ _ _ s_6 hs_8 (by omega) (by omega) (by omega) (by omega) (by omega)
    · have e_11 : v3 = 4096 := by omega
      subst e_11
      exact k s hs (by omega)
set_option maxRecDepth 100000 in
/-- GatheredPointsModel.compares [(0, 7), (0, 7)] -/
theorem zm3104_0 {z : gH} {L d : Nat} {K : Option gV → gH → Prop} {s : gH} (p0 : Int) (p1 : Int) (hs : zM z s) (h_p0 : 0 ≤ p0 ∧ p0 ≤ 7) (h_p1 : 0 ≤ p1 ∧ p1 ≤ 7) (q0 : gp_I s 81 20 = 0) (k : ∀ (t : gH), zM z t → (gp_I t 81 20 = 0) → K none t) : gs_C L (d + 4) 3104 4 [gp_r (some 74), gp_i p0, gp_i p1] s K := by
  refine s_3104_e _ _ ?_
  refine zm3101_0 _ hs (by omega) (by omega) (fun s_1 hs_2 q_3 => ⟨rfl, ?_⟩)
  refine s_3104_7 _ _ _ ?_
  refine ⟨by omega, ?_⟩
  have f_4 := zr81 hs_2 p0.toNat
  have e_5 : gp_I s_1 81 p0.toNat = 1 := by omega
  try rw [e_5]
  refine ⟨fun h_6 => ?_, fun h_6 => ?_⟩
  · refine ⟨by omega, ?_⟩
    have f_7 := zr92 hs_2 ((0 : Int).toNat)
    have e_8 : gp_I s_1 92 (0 : Int).toNat = 0 := by omega
    try rw [e_8]
    refine ⟨by omega, ?_⟩
    intro s_9 e_10
    have hs_11 : zM z s_9 := by rw [e_10]; exact zw100 hs_2 _ _ (by omega)
    have q_12 : gp_I s_9 81 20 = 0 := by rw [e_10]; exact q_3
    refine ⟨by omega, ?_⟩
    have f_13 := zr93 hs_11 ((0 : Int).toNat)
    have e_14 : gp_I s_9 93 (0 : Int).toNat = 0 := by omega
    try rw [e_14]
    refine ⟨by omega, ?_⟩
    intro s_15 e_16
    have hs_17 : zM z s_15 := by rw [e_16]; exact zw101 hs_11 _ _ (by omega)
    have q_18 : gp_I s_15 81 20 = 0 := by rw [e_16]; exact q_12
    have w_19 := gz_w (0 + 1)
    have e_20 : gp_wr (0 + 1) = 1 := by omega
    try rw [e_20]
    refine s_3104_7 _ _ _ ?_
    refine ⟨by omega, ?_⟩
    have f_21 := zr81 hs_17 p0.toNat
    have e_22 : gp_I s_15 81 p0.toNat = 1 := by omega
    try rw [e_22]
    refine ⟨fun h_23 => ?_, fun h_23 => ?_⟩
    · exfalso; omega
    · refine zm3101_0 _ hs_17 (by omega) (by omega) (fun s_24 hs_25 q_26 => ⟨rfl, ?_⟩)
      refine s_3104_54 _ _ _ ?_
      refine ⟨by omega, ?_⟩
      have f_27 := zr81 hs_25 p1.toNat
      have e_28 : gp_I s_24 81 p1.toNat = 1 := by omega
      try rw [e_28]
      refine ⟨fun h_29 => ?_, fun h_29 => ?_⟩
      · refine ⟨by omega, ?_⟩
        have f_30 := zr92 hs_25 ((0 : Int).toNat)
        have e_31 : gp_I s_24 92 (0 : Int).toNat = 0 := by omega
        try rw [e_31]
        refine ⟨by omega, ?_⟩
        intro s_32 e_33
        have hs_34 : zM z s_32 := by rw [e_33]; exact zw102 hs_25 _ _ (by omega)
        have q_35 : gp_I s_32 81 20 = 0 := by rw [e_33]; exact q_26
        refine ⟨by omega, ?_⟩
        have f_36 := zr93 hs_34 ((0 : Int).toNat)
        have e_37 : gp_I s_32 93 (0 : Int).toNat = 0 := by omega
        try rw [e_37]
        refine ⟨by omega, ?_⟩
        intro s_38 e_39
        have hs_40 : zM z s_38 := by rw [e_39]; exact zw103 hs_34 _ _ (by omega)
        have q_41 : gp_I s_38 81 20 = 0 := by rw [e_39]; exact q_35
        have w_42 := gz_w (0 + 1)
        have e_43 : gp_wr (0 + 1) = 1 := by omega
        try rw [e_43]
        refine s_3104_54 _ _ _ ?_
        refine ⟨by omega, ?_⟩
        have f_44 := zr81 hs_40 p1.toNat
        have e_45 : gp_I s_38 81 p1.toNat = 1 := by omega
        try rw [e_45]
        refine ⟨fun h_46 => ?_, fun h_46 => ?_⟩
        · exfalso; omega
        · exact zm3104_0_l96_0 p0 p1 k _ _ _ _ s_38 hs_40 (Nat.lt_succ_self _) (by omega) (by omega) (by omega) (by omega)
      · exfalso; omega
  · exfalso; omega
set_option maxRecDepth 100000 in
/-- GatheredPointsModel.isAtLeast [(0, 7), (0, 0), (0, 7), (0, 0), (0, 0)] -/
theorem zm3106_0 {z : gH} {L d : Nat} {K : Option gV → gH → Prop} {s : gH} (p0 : Int) (p2 : Int) (hs : zM z s) (h_p0 : 0 ≤ p0 ∧ p0 ≤ 7) (h_p2 : 0 ≤ p2 ∧ p2 ≤ 7) (q0 : gp_I s 81 20 = 0) (q1 : gp_I s 98 0 = 0) (k : K (some (gp_i 1)) s) : gs_C L (d + 1) 3106 9 [gp_r (some 74), gp_i p0, gp_i 0, gp_i p2, gp_i 0, gp_i 0] s K := by
  refine s_3106_e _ _ _ _ _ ?_
  refine ⟨fun h_1 => ?_, fun h_1 => ?_⟩
  · refine ⟨by omega, ?_⟩
    have f_2 := zr100 hs ((0 : Int).toNat)
    have e_3 : gp_I s 100 (0 : Int).toNat = 0 := by omega
    try rw [e_3]
    refine ⟨by omega, ?_⟩
    have f_4 := zr102 hs ((0 : Int).toNat)
    have e_5 : gp_I s 102 (0 : Int).toNat = 0 := by omega
    try rw [e_5]
    refine ⟨fun h_6 => ?_, fun h_6 => ?_⟩
    · exfalso; omega
    · refine s_3106_50 _ _ _ _ _ _ _ _ _ ?_
      refine ⟨fun h_7 => ?_, fun h_7 => ?_⟩
      · refine ⟨by omega, ?_⟩
        have f_8 := zr101 hs ((0 : Int).toNat)
        have e_9 : gp_I s 101 (0 : Int).toNat = 0 := by omega
        try rw [e_9]
        refine ⟨by omega, ?_⟩
        have f_10 := zr103 hs ((0 : Int).toNat)
        have e_11 : gp_I s 103 (0 : Int).toNat = 0 := by omega
        try rw [e_11]
        refine ⟨fun h_12 => ?_, fun h_12 => ?_⟩
        · exfalso; omega
        · refine s_3106_102 _ _ _ _ _ _ _ _ _ ?_
          refine ⟨fun h_13 => ?_, fun h_13 => ?_⟩
          · refine ⟨fun h_14 => ?_, fun h_14 => ?_⟩
            · refine s_3106_119 _ _ _ _ _ _ _ _ ?_
              refine ⟨fun h_15 => ?_, fun h_15 => ?_⟩
              · exfalso; omega
              · refine s_3106_171 _ _ _ _ _ _ _ _ ?_
                refine ⟨fun h_16 => ?_, fun h_16 => ?_⟩
                · exfalso; omega
                · exact k
            · exfalso; omega
          · exfalso; omega
      · exfalso; omega
  · exfalso; omega
set_option maxRecDepth 100000 in
/-- GatheredPointsModel.atLeast [(0, 7), (0, 0), (0, 7), (0, 0), (0, 0)] -/
theorem zm3105_0 {z : gH} {L d : Nat} {K : Option gV → gH → Prop} {s : gH} (p0 : Int) (p2 : Int) (hs : zM z s) (h_p0 : 0 ≤ p0 ∧ p0 ≤ 7) (h_p2 : 0 ≤ p2 ∧ p2 ≤ 7) (q0 : gp_I s 81 20 = 0) (k : ∀ (t : gH), zM z t → (gp_I t 81 20 = 0) → (gp_I t 98 0 = 1) → K (some (gp_i 1)) t) : gs_C L (d + 2) 3105 7 [gp_r (some 74), gp_i p0, gp_i 0, gp_i p2, gp_i 0, gp_i 0] s K := by
  refine s_3105_e _ _ _ _ _ ?_
  refine ⟨fun h_1 => ?_, fun h_1 => ?_⟩
  · refine s_3105_16 _ _ _ _ _ _ _ ?_
    have w_3 := gz_w (64 * 0)
    have e_4 : gp_wr (64 * 0) = 0 := by omega
    try rw [e_4]
    have w_5 := gz_w (0 + 0)
    have e_6 : gp_wr (0 + 0) = 0 := by omega
    try rw [e_6]
    refine ⟨98, rfl, ?_⟩
    refine ⟨⟨rfl, by show 0 ≤ 0 ∧ 0 < 4096; omega⟩, ?_⟩
    have f_7 := zr98 hs ((0 : Int).toNat)
    refine ⟨fun h_8 => ?_, fun h_8 => ?_⟩
    · have q_10 : gp_I s 98 (0 : Int).toNat = 0 := by omega
      have q_9 : gp_I s 98 0 = 0 := q_10
      have e_11 : gp_I s 98 (0 : Int).toNat = 0 := by omega
      try rw [e_11]
      have w_12 := gz_w (64 * 0)
      have e_13 : gp_wr (64 * 0) = 0 := by omega
      try rw [e_13]
      have w_14 := gz_w (0 + 0)
      have e_15 : gp_wr (0 + 0) = 0 := by omega
      try rw [e_15]
      refine zm3106_0 _ _ hs (by omega) (by omega) (by omega) (by omega) (⟨_, rfl, ?_⟩)
      refine ⟨fun h_16 => ?_, fun h_16 => ?_⟩
      · exfalso; omega
      · refine s_3105_59 _ _ _ _ _ _ _ _ _ ?_
        refine ⟨98, rfl, ?_⟩
        refine ⟨⟨rfl, by show 0 ≤ 0 ∧ 0 < 4096; omega⟩, ?_⟩
        intro s_19 e_20
        have hs_21 : zM z s_19 := by rw [e_20]; exact zw98 hs _ _ (by omega)
        have q_22 : gp_I s_19 81 20 = 0 := by rw [e_20]; exact q0
        have q_23 : gp_I s_19 98 0 = 1 := by rw [e_20]; rfl
        refine s_3105_60 _ _ _ _ _ _ ?_
        have w_26 := gz_w (64 * 0)
        have e_27 : gp_wr (64 * 0) = 0 := by omega
        try rw [e_27]
        have w_28 := gz_w (0 + 0)
        have e_29 : gp_wr (0 + 0) = 0 := by omega
        try rw [e_29]
        refine ⟨98, rfl, ?_⟩
        refine ⟨⟨rfl, by show 0 ≤ 0 ∧ 0 < 4096; omega⟩, ?_⟩
        try rw [show gp_I s_19 98 (0 : Int).toNat = 1 from q_23]
        refine ⟨fun h_30 => ?_, fun h_30 => ?_⟩
        · refine s_3105_79 _ _ _ _ _ _ _ ?_
          refine ⟨by omega, ?_⟩
          exact k s_19 hs_21 (by omega) (by omega)
        · exfalso; omega
    · have q_33 : gp_I s 98 (0 : Int).toNat = 1 := by omega
      have q_32 : gp_I s 98 0 = 1 := q_33
      have e_34 : gp_I s 98 (0 : Int).toNat = 1 := by omega
      try rw [e_34]
      refine s_3105_60 _ _ _ _ _ _ ?_
      have w_36 := gz_w (64 * 0)
      have e_37 : gp_wr (64 * 0) = 0 := by omega
      try rw [e_37]
      have w_38 := gz_w (0 + 0)
      have e_39 : gp_wr (0 + 0) = 0 := by omega
      try rw [e_39]
      refine ⟨98, rfl, ?_⟩
      refine ⟨⟨rfl, by show 0 ≤ 0 ∧ 0 < 4096; omega⟩, ?_⟩
      try rw [show gp_I s 98 (0 : Int).toNat = 1 from q_32]
      refine ⟨fun h_40 => ?_, fun h_40 => ?_⟩
      · refine s_3105_79 _ _ _ _ _ _ _ ?_
        refine ⟨by omega, ?_⟩
        exact k s hs (by omega) (by omega)
      · exfalso; omega
  · exfalso; omega
set_option maxRecDepth 100000 in
/-- GatheredPointsModel.isAtLeast [(0, 7), (0, 0), (0, 7), (0, 0), (1, 1)] -/
theorem zm3106_1 {z : gH} {L d : Nat} {K : Option gV → gH → Prop} {s : gH} (p0 : Int) (p2 : Int) (hs : zM z s) (h_p0 : 0 ≤ p0 ∧ p0 ≤ 7) (h_p2 : 0 ≤ p2 ∧ p2 ≤ 7) (q0 : gp_I s 81 20 = 0) (q1 : gp_I s 98 0 = 1) (q2 : gp_I s 99 0 = 0) (k : K (some (gp_i 1)) s) : gs_C L (d + 1) 3106 9 [gp_r (some 74), gp_i p0, gp_i 0, gp_i p2, gp_i 0, gp_i 1] s K := by
  refine s_3106_e _ _ _ _ _ ?_
  refine ⟨fun h_1 => ?_, fun h_1 => ?_⟩
  · exfalso; omega
  · refine ⟨by omega, ?_⟩
    have f_2 := zr102 hs ((0 : Int).toNat)
    have e_3 : gp_I s 102 (0 : Int).toNat = 0 := by omega
    try rw [e_3]
    refine ⟨by omega, ?_⟩
    have f_4 := zr100 hs ((0 : Int).toNat)
    have e_5 : gp_I s 100 (0 : Int).toNat = 0 := by omega
    try rw [e_5]
    refine ⟨fun h_6 => ?_, fun h_6 => ?_⟩
    · exfalso; omega
    · refine s_3106_50 _ _ _ _ _ _ _ _ _ ?_
      refine ⟨fun h_7 => ?_, fun h_7 => ?_⟩
      · exfalso; omega
      · refine ⟨by omega, ?_⟩
        have f_8 := zr103 hs ((0 : Int).toNat)
        have e_9 : gp_I s 103 (0 : Int).toNat = 0 := by omega
        try rw [e_9]
        refine ⟨by omega, ?_⟩
        have f_10 := zr101 hs ((0 : Int).toNat)
        have e_11 : gp_I s 101 (0 : Int).toNat = 0 := by omega
        try rw [e_11]
        refine ⟨fun h_12 => ?_, fun h_12 => ?_⟩
        · exfalso; omega
        · refine s_3106_102 _ _ _ _ _ _ _ _ _ ?_
          refine ⟨fun h_13 => ?_, fun h_13 => ?_⟩
          · refine ⟨fun h_14 => ?_, fun h_14 => ?_⟩
            · refine s_3106_119 _ _ _ _ _ _ _ _ ?_
              refine ⟨fun h_15 => ?_, fun h_15 => ?_⟩
              · exfalso; omega
              · refine s_3106_171 _ _ _ _ _ _ _ _ ?_
                refine ⟨fun h_16 => ?_, fun h_16 => ?_⟩
                · exfalso; omega
                · exact k
            · exfalso; omega
          · exfalso; omega
set_option maxRecDepth 100000 in
/-- GatheredPointsModel.atLeast [(0, 7), (0, 0), (0, 7), (0, 0), (1, 1)] -/
theorem zm3105_1 {z : gH} {L d : Nat} {K : Option gV → gH → Prop} {s : gH} (p0 : Int) (p2 : Int) (hs : zM z s) (h_p0 : 0 ≤ p0 ∧ p0 ≤ 7) (h_p2 : 0 ≤ p2 ∧ p2 ≤ 7) (q0 : gp_I s 81 20 = 0) (q1 : gp_I s 98 0 = 1) (k : ∀ (t : gH), zM z t → (gp_I t 81 20 = 0) → (gp_I t 98 0 = 1) → (gp_I t 99 0 = 1) → K (some (gp_i 1)) t) : gs_C L (d + 2) 3105 7 [gp_r (some 74), gp_i p0, gp_i 0, gp_i p2, gp_i 0, gp_i 1] s K := by
  refine s_3105_e _ _ _ _ _ ?_
  refine ⟨fun h_1 => ?_, fun h_1 => ?_⟩
  · exfalso; omega
  · refine s_3105_16 _ _ _ _ _ _ _ ?_
    have w_3 := gz_w (64 * 0)
    have e_4 : gp_wr (64 * 0) = 0 := by omega
    try rw [e_4]
    have w_5 := gz_w (0 + 0)
    have e_6 : gp_wr (0 + 0) = 0 := by omega
    try rw [e_6]
    refine ⟨99, rfl, ?_⟩
    refine ⟨⟨rfl, by show 0 ≤ 0 ∧ 0 < 4096; omega⟩, ?_⟩
    have f_7 := zr99 hs ((0 : Int).toNat)
    refine ⟨fun h_8 => ?_, fun h_8 => ?_⟩
    · have q_10 : gp_I s 99 (0 : Int).toNat = 0 := by omega
      have q_9 : gp_I s 99 0 = 0 := q_10
      have e_11 : gp_I s 99 (0 : Int).toNat = 0 := by omega
      try rw [e_11]
      have w_12 := gz_w (64 * 0)
      have e_13 : gp_wr (64 * 0) = 0 := by omega
      try rw [e_13]
      have w_14 := gz_w (0 + 0)
      have e_15 : gp_wr (0 + 0) = 0 := by omega
      try rw [e_15]
      refine zm3106_1 _ _ hs (by omega) (by omega) (by omega) (by omega) (by omega) (⟨_, rfl, ?_⟩)
      refine ⟨fun h_16 => ?_, fun h_16 => ?_⟩
      · exfalso; omega
      · refine s_3105_59 _ _ _ _ _ _ _ _ _ ?_
        refine ⟨99, rfl, ?_⟩
        refine ⟨⟨rfl, by show 0 ≤ 0 ∧ 0 < 4096; omega⟩, ?_⟩
        intro s_19 e_20
        have hs_21 : zM z s_19 := by rw [e_20]; exact zw99 hs _ _ (by omega)
        have q_22 : gp_I s_19 81 20 = 0 := by rw [e_20]; exact q0
        have q_23 : gp_I s_19 98 0 = 1 := by rw [e_20]; exact q1
        have q_24 : gp_I s_19 99 0 = 1 := by rw [e_20]; rfl
        refine s_3105_60 _ _ _ _ _ _ ?_
        have w_27 := gz_w (64 * 0)
        have e_28 : gp_wr (64 * 0) = 0 := by omega
        try rw [e_28]
        have w_29 := gz_w (0 + 0)
        have e_30 : gp_wr (0 + 0) = 0 := by omega
        try rw [e_30]
        refine ⟨99, rfl, ?_⟩
        refine ⟨⟨rfl, by show 0 ≤ 0 ∧ 0 < 4096; omega⟩, ?_⟩
        try rw [show gp_I s_19 99 (0 : Int).toNat = 1 from q_24]
        refine ⟨fun h_31 => ?_, fun h_31 => ?_⟩
        · refine s_3105_79 _ _ _ _ _ _ _ ?_
          refine ⟨by omega, ?_⟩
          exact k s_19 hs_21 (by omega) (by omega) (by omega)
        · exfalso; omega
    · have q_34 : gp_I s 99 (0 : Int).toNat = 1 := by omega
      have q_33 : gp_I s 99 0 = 1 := q_34
      have e_35 : gp_I s 99 (0 : Int).toNat = 1 := by omega
      try rw [e_35]
      refine s_3105_60 _ _ _ _ _ _ ?_
      have w_37 := gz_w (64 * 0)
      have e_38 : gp_wr (64 * 0) = 0 := by omega
      try rw [e_38]
      have w_39 := gz_w (0 + 0)
      have e_40 : gp_wr (0 + 0) = 0 := by omega
      try rw [e_40]
      refine ⟨99, rfl, ?_⟩
      refine ⟨⟨rfl, by show 0 ≤ 0 ∧ 0 < 4096; omega⟩, ?_⟩
      try rw [show gp_I s 99 (0 : Int).toNat = 1 from q_33]
      refine ⟨fun h_41 => ?_, fun h_41 => ?_⟩
      · refine s_3105_79 _ _ _ _ _ _ _ ?_
        refine ⟨by omega, ?_⟩
        exact k s hs (by omega) (by omega) (by omega)
      · exfalso; omega
set_option maxRecDepth 100000 in
/-- GatheredPointsModel.compare [(0, 7), (0, 7)] -/
theorem zm3152_4 {z : gH} {L d : Nat} {K : Option gV → gH → Prop} {s : gH} (p0 : Int) (p1 : Int) (hs : zM z s) (h_p0 : 0 ≤ p0 ∧ p0 ≤ 7) (h_p1 : 0 ≤ p1 ∧ p1 ≤ 7) (q0 : gp_I s 81 20 = 0) (k : ∀ (t : gH), zM z t → (gp_I t 81 20 = 0) → (gp_I t 98 0 = 1) → (gp_I t 99 0 = 1) → K (some (gp_i 3)) t) : gs_C L (d + 5) 3152 4 [gp_r (some 74), gp_i p0, gp_i p1] s K := by
  refine s_3152_e _ _ ?_
  refine zm3075_2 _ hs (by omega) (⟨_, rfl, ?_⟩)
  refine ⟨fun h_1 => ?_, fun h_1 => ?_⟩
  · exfalso; omega
  · refine zm3075_2 _ hs (by omega) (⟨_, rfl, ?_⟩)
    refine ⟨fun h_2 => ?_, fun h_2 => ?_⟩
    · exfalso; omega
    · refine zm3103_0 _ hs (by omega) (by omega) (⟨_, rfl, ?_⟩)
      refine ⟨fun h_3 => ?_, fun h_3 => ?_⟩
      · exfalso; omega
      · refine zm3103_0 _ hs (by omega) (by omega) (⟨_, rfl, ?_⟩)
        refine ⟨fun h_4 => ?_, fun h_4 => ?_⟩
        · exfalso; omega
        · refine zm3104_0 _ _ hs (by omega) (by omega) (by omega) (fun s_5 hs_6 q_7 => ⟨rfl, ?_⟩)
          refine zm3081_0 _ hs_6 (by omega) (by omega) (⟨_, rfl, ?_⟩)
          refine zm3081_0 _ hs_6 (by omega) (by omega) (⟨_, rfl, ?_⟩)
          refine zm3105_0 _ _ hs_6 (by omega) (by omega) (by omega) (fun s_8 hs_9 q_10 q_11 => ⟨_, rfl, ?_⟩)
          refine ⟨fun h_12 => ?_, fun h_12 => ?_⟩
          · exfalso; omega
          · refine s_3152_73 _ _ _ _ ?_
            refine zm3081_0 _ hs_9 (by omega) (by omega) (⟨_, rfl, ?_⟩)
            refine zm3081_0 _ hs_9 (by omega) (by omega) (⟨_, rfl, ?_⟩)
            refine zm3105_1 _ _ hs_9 (by omega) (by omega) (by omega) (by omega) (fun s_13 hs_14 q_15 q_16 q_17 => ⟨_, rfl, ?_⟩)
            refine ⟨fun h_18 => ?_, fun h_18 => ?_⟩
            · exfalso; omega
            · refine s_3152_100 _ _ _ _ _ ?_
              have w_19 := gz_w (1 + 2)
              have e_20 : gp_wr (1 + 2) = 3 := by omega
              try rw [e_20]
              exact k s_13 hs_14 (by omega) (by omega) (by omega)
set_option maxRecDepth 100000 in
/-- GatheredPointsModel.board [(-2147483648, -1), (-2147483648, 2147483647)] -/
theorem zm3177_0 {z : gH} {L d : Nat} {K : Option gV → gH → Prop} {s : gH} (p0 : Int) (p1 : Int) (hs : zM z s) (h_p0 : (-2147483648) ≤ p0 ∧ p0 ≤ (-1)) (h_p1 : (-2147483648) ≤ p1 ∧ p1 ≤ 2147483647) (q0 : gp_I s 74 11 = 0) (q1 : gp_I s 74 43 = 0) (q2 : gp_I s 74 57 = 0) (q3 : gp_I s 74 58 = 0) (q4 : gp_I s 74 7 = 1) (q5 : gp_I s 74 9 = 0) (q6 : gp_I s 81 20 = 0) (k : ∀ (t : gH), zM z t → (gp_I t 74 11 = 0) → (gp_I t 74 43 = 0) → (gp_I t 74 57 = 0) → (gp_I t 74 58 = 0) → (gp_I t 74 7 = 1) → (gp_I t 74 9 = 0) → ((-2147483648) ≤ gp_I t 75 1 ∧ gp_I t 75 1 ≤ 2147483647) → (gp_I t 81 20 = 0) → K (some (gp_i (-1000000001))) t) : gs_C L (d + 1) 3177 4 [gp_r (some 74), gp_i p0, gp_i p1] s K := by
  refine s_3177_e _ _ ?_
  refine zm3075_0 _ hs (by omega) (⟨_, rfl, ?_⟩)
  refine ⟨fun h_1 => ?_, fun h_1 => ?_⟩
  · refine s_3177_14 _ _ _ ?_
    refine zm3074_1 hs (by omega) (by omega) (by omega) (by omega) (by omega) (by omega) (by omega) (fun s_2 hs_3 q_4 q_5 q_6 q_7 q_8 q_9 q_10 q_11 => ⟨_, rfl, ?_⟩)
    exact k s_2 hs_3 (by omega) (by omega) (by omega) (by omega) (by omega) (by omega) (by omega) (by omega)
  · exfalso; omega
set_option maxRecDepth 100000 in
/-- GatheredPointsModel.board [(8, 2147483647), (-2147483648, 2147483647)] -/
theorem zm3177_1 {z : gH} {L d : Nat} {K : Option gV → gH → Prop} {s : gH} (p0 : Int) (p1 : Int) (hs : zM z s) (h_p0 : 8 ≤ p0 ∧ p0 ≤ 2147483647) (h_p1 : (-2147483648) ≤ p1 ∧ p1 ≤ 2147483647) (q0 : gp_I s 74 11 = 0) (q1 : gp_I s 74 43 = 0) (q2 : gp_I s 74 57 = 0) (q3 : gp_I s 74 58 = 0) (q4 : gp_I s 74 7 = 1) (q5 : gp_I s 74 9 = 0) (q6 : gp_I s 81 20 = 0) (k : ∀ (t : gH), zM z t → (gp_I t 74 11 = 0) → (gp_I t 74 43 = 0) → (gp_I t 74 57 = 0) → (gp_I t 74 58 = 0) → (gp_I t 74 7 = 1) → (gp_I t 74 9 = 0) → ((-2147483648) ≤ gp_I t 75 1 ∧ gp_I t 75 1 ≤ 2147483647) → (gp_I t 81 20 = 0) → K (some (gp_i (-1000000001))) t) : gs_C L (d + 1) 3177 4 [gp_r (some 74), gp_i p0, gp_i p1] s K := by
  refine s_3177_e _ _ ?_
  refine zm3075_1 _ hs (by omega) (⟨_, rfl, ?_⟩)
  refine ⟨fun h_1 => ?_, fun h_1 => ?_⟩
  · refine s_3177_14 _ _ _ ?_
    refine zm3074_1 hs (by omega) (by omega) (by omega) (by omega) (by omega) (by omega) (by omega) (fun s_2 hs_3 q_4 q_5 q_6 q_7 q_8 q_9 q_10 q_11 => ⟨_, rfl, ?_⟩)
    exact k s_2 hs_3 (by omega) (by omega) (by omega) (by omega) (by omega) (by omega) (by omega) (by omega)
  · exfalso; omega
set_option maxRecDepth 100000 in
/-- GatheredPointsModel.board [(0, 7), (-2147483648, -1)] -/
theorem zm3177_2 {z : gH} {L d : Nat} {K : Option gV → gH → Prop} {s : gH} (p0 : Int) (p1 : Int) (hs : zM z s) (h_p0 : 0 ≤ p0 ∧ p0 ≤ 7) (h_p1 : (-2147483648) ≤ p1 ∧ p1 ≤ (-1)) (q0 : gp_I s 74 11 = 0) (q1 : gp_I s 74 43 = 0) (q2 : gp_I s 74 57 = 0) (q3 : gp_I s 74 58 = 0) (q4 : gp_I s 74 7 = 1) (q5 : gp_I s 74 9 = 0) (q6 : gp_I s 81 20 = 0) (k : ∀ (t : gH), zM z t → (gp_I t 74 11 = 0) → (gp_I t 74 43 = 0) → (gp_I t 74 57 = 0) → (gp_I t 74 58 = 0) → (gp_I t 74 7 = 1) → (gp_I t 74 9 = 0) → ((-2147483648) ≤ gp_I t 75 1 ∧ gp_I t 75 1 ≤ 2147483647) → (gp_I t 81 20 = 0) → K (some (gp_i (-1000000001))) t) : gs_C L (d + 1) 3177 4 [gp_r (some 74), gp_i p0, gp_i p1] s K := by
  refine s_3177_e _ _ ?_
  refine zm3075_2 _ hs (by omega) (⟨_, rfl, ?_⟩)
  refine ⟨fun h_1 => ?_, fun h_1 => ?_⟩
  · exfalso; omega
  · refine zm3075_0 _ hs (by omega) (⟨_, rfl, ?_⟩)
    refine ⟨fun h_2 => ?_, fun h_2 => ?_⟩
    · refine s_3177_14 _ _ _ ?_
      refine zm3074_1 hs (by omega) (by omega) (by omega) (by omega) (by omega) (by omega) (by omega) (fun s_3 hs_4 q_5 q_6 q_7 q_8 q_9 q_10 q_11 q_12 => ⟨_, rfl, ?_⟩)
      exact k s_3 hs_4 (by omega) (by omega) (by omega) (by omega) (by omega) (by omega) (by omega) (by omega)
    · exfalso; omega
set_option maxRecDepth 100000 in
/-- GatheredPointsModel.board [(0, 7), (8, 2147483647)] -/
theorem zm3177_3 {z : gH} {L d : Nat} {K : Option gV → gH → Prop} {s : gH} (p0 : Int) (p1 : Int) (hs : zM z s) (h_p0 : 0 ≤ p0 ∧ p0 ≤ 7) (h_p1 : 8 ≤ p1 ∧ p1 ≤ 2147483647) (q0 : gp_I s 74 11 = 0) (q1 : gp_I s 74 43 = 0) (q2 : gp_I s 74 57 = 0) (q3 : gp_I s 74 58 = 0) (q4 : gp_I s 74 7 = 1) (q5 : gp_I s 74 9 = 0) (q6 : gp_I s 81 20 = 0) (k : ∀ (t : gH), zM z t → (gp_I t 74 11 = 0) → (gp_I t 74 43 = 0) → (gp_I t 74 57 = 0) → (gp_I t 74 58 = 0) → (gp_I t 74 7 = 1) → (gp_I t 74 9 = 0) → ((-2147483648) ≤ gp_I t 75 1 ∧ gp_I t 75 1 ≤ 2147483647) → (gp_I t 81 20 = 0) → K (some (gp_i (-1000000001))) t) : gs_C L (d + 1) 3177 4 [gp_r (some 74), gp_i p0, gp_i p1] s K := by
  refine s_3177_e _ _ ?_
  refine zm3075_2 _ hs (by omega) (⟨_, rfl, ?_⟩)
  refine ⟨fun h_1 => ?_, fun h_1 => ?_⟩
  · exfalso; omega
  · refine zm3075_1 _ hs (by omega) (⟨_, rfl, ?_⟩)
    refine ⟨fun h_2 => ?_, fun h_2 => ?_⟩
    · refine s_3177_14 _ _ _ ?_
      refine zm3074_1 hs (by omega) (by omega) (by omega) (by omega) (by omega) (by omega) (by omega) (fun s_3 hs_4 q_5 q_6 q_7 q_8 q_9 q_10 q_11 q_12 => ⟨_, rfl, ?_⟩)
      exact k s_3 hs_4 (by omega) (by omega) (by omega) (by omega) (by omega) (by omega) (by omega) (by omega)
    · exfalso; omega
set_option maxRecDepth 100000 in
/-- GatheredPointsModel.finds [(2, 2)] -/
theorem zm3074_5 {z : gH} {L d : Nat} {K : Option gV → gH → Prop} {s : gH}  (hs : zM z s)  (q0 : gp_I s 74 11 = 0) (q1 : gp_I s 74 43 = 0) (q2 : gp_I s 74 57 = 0) (q3 : gp_I s 74 58 = 0) (q4 : gp_I s 74 7 = 1) (q5 : gp_I s 74 9 = 0) (q6 : gp_I s 81 20 = 0) (k : ∀ (t : gH), zM z t → (gp_I t 74 11 = 0) → (gp_I t 74 43 = 0) → (gp_I t 74 57 = 0) → (gp_I t 74 58 = 0) → (gp_I t 74 7 = 1) → (gp_I t 74 9 = 0) → ((-2147483648) ≤ gp_I t 75 2 ∧ gp_I t 75 2 ≤ 2147483647) → (gp_I t 81 20 = 0) → K (some (gp_i (-1000000002))) t) : gs_C L d 3074 2 [gp_r (some 74), gp_i 2] s K := by
  refine s_3074_e _ ?_
  refine ⟨by omega, ?_⟩
  have w_1 := gz_w ((gp_I s 75 (2 : Int).toNat) + 1)
  refine ⟨by omega, ?_⟩
  intro s_2 e_3
  have hs_4 : zM z s_2 := by rw [e_3]; exact zw75 hs _ _
  have q_5 : gp_I s_2 74 11 = 0 := by rw [e_3]; exact q0
  have q_6 : gp_I s_2 74 43 = 0 := by rw [e_3]; exact q1
  have q_7 : gp_I s_2 74 57 = 0 := by rw [e_3]; exact q2
  have q_8 : gp_I s_2 74 58 = 0 := by rw [e_3]; exact q3
  have q_9 : gp_I s_2 74 7 = 1 := by rw [e_3]; exact q4
  have q_10 : gp_I s_2 74 9 = 0 := by rw [e_3]; exact q5
  have q_11 : gp_I s_2 81 20 = 0 := by rw [e_3]; exact q6
  have q_12 : (-2147483648) ≤ gp_I s_2 75 2 ∧ gp_I s_2 75 2 ≤ 2147483647 := by have x_13 : gp_I s_2 75 2 = gp_wr ((gp_I s 75 (2 : Int).toNat) + 1) := (by rw [e_3]; rfl); omega
  have w_14 := gz_w ((-1000000000) - 2)
  have e_15 : gp_wr ((-1000000000) - 2) = (-1000000002) := by omega
  try rw [e_15]
  exact k s_2 hs_4 (by omega) (by omega) (by omega) (by omega) (by omega) (by omega) (by omega) (by omega)
set_option maxRecDepth 100000 in
/-- GatheredPointsModel.board [(0, 7), (0, 7)] -/
theorem zm3177_4 {z : gH} {L d : Nat} {K : Option gV → gH → Prop} {s : gH} (p0 : Int) (p1 : Int) (hs : zM z s) (h_p0 : 0 ≤ p0 ∧ p0 ≤ 7) (h_p1 : 0 ≤ p1 ∧ p1 ≤ 7) (q0 : gp_I s 74 11 = 0) (q1 : gp_I s 74 43 = 0) (q2 : gp_I s 74 57 = 0) (q3 : gp_I s 74 58 = 0) (q4 : gp_I s 74 7 = 1) (q5 : gp_I s 74 9 = 0) (q6 : gp_I s 81 20 = 0) (k : ∀ (t : gH), zM z t → (gp_I t 74 11 = 0) → (gp_I t 74 43 = 0) → (gp_I t 74 57 = 0) → (gp_I t 74 58 = 0) → (gp_I t 74 7 = 1) → (gp_I t 74 9 = 0) → ((-2147483648) ≤ gp_I t 75 2 ∧ gp_I t 75 2 ≤ 2147483647) → (gp_I t 81 20 = 0) → K (some (gp_i (-1000000002))) t) : gs_C L (d + 1) 3177 4 [gp_r (some 74), gp_i p0, gp_i p1] s K := by
  refine s_3177_e _ _ ?_
  refine zm3075_2 _ hs (by omega) (⟨_, rfl, ?_⟩)
  refine ⟨fun h_1 => ?_, fun h_1 => ?_⟩
  · exfalso; omega
  · refine zm3075_2 _ hs (by omega) (⟨_, rfl, ?_⟩)
    refine ⟨fun h_2 => ?_, fun h_2 => ?_⟩
    · exfalso; omega
    · try rw [show gp_I s 74 58 = 0 from q3]
      refine ⟨fun h_3 => ?_, fun h_3 => ?_⟩
      · refine s_3177_36 _ _ _ _ ?_
        refine ⟨fun h_4 => ?_, fun h_4 => ?_⟩
        · refine zm3074_5 hs (by omega) (by omega) (by omega) (by omega) (by omega) (by omega) (by omega) (fun s_5 hs_6 q_7 q_8 q_9 q_10 q_11 q_12 q_13 q_14 => ⟨_, rfl, ?_⟩)
          refine s_3177_64 _ _ _ _ ?_
          exact k s_5 hs_6 (by omega) (by omega) (by omega) (by omega) (by omega) (by omega) (by omega) (by omega)
        · exfalso; omega
      · exfalso; omega
set_option maxRecDepth 100000 in
/-- GatheredPointsModel.option [(-2147483648, -1), (-2147483648, 2147483647), (-2147483648, 2147483647), (-2147483648, 2147483647)] -/
theorem zm3149_0 {z : gH} {L d : Nat} {K : Option gV → gH → Prop} {s : gH} (p0 : Int) (p1 : Int) (p2 : Int) (p3 : Int) (hs : zM z s) (h_p0 : (-2147483648) ≤ p0 ∧ p0 ≤ (-1)) (h_p1 : (-2147483648) ≤ p1 ∧ p1 ≤ 2147483647) (h_p2 : (-2147483648) ≤ p2 ∧ p2 ≤ 2147483647) (h_p3 : (-2147483648) ≤ p3 ∧ p3 ≤ 2147483647) (q0 : gp_I s 74 11 = 0) (q1 : gp_I s 74 43 = 0) (q2 : gp_I s 74 57 = 0) (q3 : gp_I s 74 58 = 0) (q4 : gp_I s 74 7 = 1) (q5 : gp_I s 74 9 = 0) (q6 : gp_I s 81 20 = 0) (k : ∀ (t : gH), zM z t → (gp_I t 74 11 = 0) → (gp_I t 74 43 = 0) → (gp_I t 74 57 = 0) → (gp_I t 74 58 = 0) → (gp_I t 74 7 = 1) → (gp_I t 74 9 = 0) → ((-2147483648) ≤ gp_I t 75 1 ∧ gp_I t 75 1 ≤ 2147483647) → (gp_I t 81 20 = 0) → K (some (gp_i (-1000000001))) t) : gs_C L (d + 1) 3149 6 [gp_r (some 74), gp_i p0, gp_i p1, gp_i p2, gp_i p3] s K := by
  refine s_3149_e _ _ _ _ ?_
  refine zm3075_0 _ hs (by omega) (⟨_, rfl, ?_⟩)
  refine ⟨fun h_1 => ?_, fun h_1 => ?_⟩
  · refine s_3149_22 _ _ _ _ _ ?_
    refine zm3074_1 hs (by omega) (by omega) (by omega) (by omega) (by omega) (by omega) (by omega) (fun s_2 hs_3 q_4 q_5 q_6 q_7 q_8 q_9 q_10 q_11 => ⟨_, rfl, ?_⟩)
    exact k s_2 hs_3 (by omega) (by omega) (by omega) (by omega) (by omega) (by omega) (by omega) (by omega)
  · exfalso; omega
set_option maxRecDepth 100000 in
/-- GatheredPointsModel.option [(8, 2147483647), (-2147483648, 2147483647), (-2147483648, 2147483647), (-2147483648, 2147483647)] -/
theorem zm3149_1 {z : gH} {L d : Nat} {K : Option gV → gH → Prop} {s : gH} (p0 : Int) (p1 : Int) (p2 : Int) (p3 : Int) (hs : zM z s) (h_p0 : 8 ≤ p0 ∧ p0 ≤ 2147483647) (h_p1 : (-2147483648) ≤ p1 ∧ p1 ≤ 2147483647) (h_p2 : (-2147483648) ≤ p2 ∧ p2 ≤ 2147483647) (h_p3 : (-2147483648) ≤ p3 ∧ p3 ≤ 2147483647) (q0 : gp_I s 74 11 = 0) (q1 : gp_I s 74 43 = 0) (q2 : gp_I s 74 57 = 0) (q3 : gp_I s 74 58 = 0) (q4 : gp_I s 74 7 = 1) (q5 : gp_I s 74 9 = 0) (q6 : gp_I s 81 20 = 0) (k : ∀ (t : gH), zM z t → (gp_I t 74 11 = 0) → (gp_I t 74 43 = 0) → (gp_I t 74 57 = 0) → (gp_I t 74 58 = 0) → (gp_I t 74 7 = 1) → (gp_I t 74 9 = 0) → ((-2147483648) ≤ gp_I t 75 1 ∧ gp_I t 75 1 ≤ 2147483647) → (gp_I t 81 20 = 0) → K (some (gp_i (-1000000001))) t) : gs_C L (d + 1) 3149 6 [gp_r (some 74), gp_i p0, gp_i p1, gp_i p2, gp_i p3] s K := by
  refine s_3149_e _ _ _ _ ?_
  refine zm3075_1 _ hs (by omega) (⟨_, rfl, ?_⟩)
  refine ⟨fun h_1 => ?_, fun h_1 => ?_⟩
  · refine s_3149_22 _ _ _ _ _ ?_
    refine zm3074_1 hs (by omega) (by omega) (by omega) (by omega) (by omega) (by omega) (by omega) (fun s_2 hs_3 q_4 q_5 q_6 q_7 q_8 q_9 q_10 q_11 => ⟨_, rfl, ?_⟩)
    exact k s_2 hs_3 (by omega) (by omega) (by omega) (by omega) (by omega) (by omega) (by omega) (by omega)
  · exfalso; omega
set_option maxRecDepth 100000 in
/-- GatheredPointsModel.isSide [(-2147483648, -1)] -/
theorem zm3077_0 {z : gH} {L d : Nat} {K : Option gV → gH → Prop} {s : gH} (p0 : Int) (hs : zM z s) (h_p0 : (-2147483648) ≤ p0 ∧ p0 ≤ (-1))  (k : K (some (gp_i 0)) s) : gs_C L d 3077 1 [gp_i p0] s K := by
  refine s_3077_e _ ?_
  refine ⟨fun h_1 => ?_, fun h_1 => ?_⟩
  · exfalso; omega
  · refine ⟨fun h_2 => ?_, fun h_2 => ?_⟩
    · exfalso; omega
    · refine s_3077_14 _ _ ?_
      refine ⟨by omega, ?_⟩
      exact k
set_option maxRecDepth 100000 in
/-- GatheredPointsModel.option [(0, 7), (-2147483648, -1), (-2147483648, 2147483647), (-2147483648, 2147483647)] -/
theorem zm3149_2 {z : gH} {L d : Nat} {K : Option gV → gH → Prop} {s : gH} (p0 : Int) (p1 : Int) (p2 : Int) (p3 : Int) (hs : zM z s) (h_p0 : 0 ≤ p0 ∧ p0 ≤ 7) (h_p1 : (-2147483648) ≤ p1 ∧ p1 ≤ (-1)) (h_p2 : (-2147483648) ≤ p2 ∧ p2 ≤ 2147483647) (h_p3 : (-2147483648) ≤ p3 ∧ p3 ≤ 2147483647) (q0 : gp_I s 74 11 = 0) (q1 : gp_I s 74 43 = 0) (q2 : gp_I s 74 57 = 0) (q3 : gp_I s 74 58 = 0) (q4 : gp_I s 74 7 = 1) (q5 : gp_I s 74 9 = 0) (q6 : gp_I s 81 20 = 0) (k : ∀ (t : gH), zM z t → (gp_I t 74 11 = 0) → (gp_I t 74 43 = 0) → (gp_I t 74 57 = 0) → (gp_I t 74 58 = 0) → (gp_I t 74 7 = 1) → (gp_I t 74 9 = 0) → ((-2147483648) ≤ gp_I t 75 1 ∧ gp_I t 75 1 ≤ 2147483647) → (gp_I t 81 20 = 0) → K (some (gp_i (-1000000001))) t) : gs_C L (d + 1) 3149 6 [gp_r (some 74), gp_i p0, gp_i p1, gp_i p2, gp_i p3] s K := by
  refine s_3149_e _ _ _ _ ?_
  refine zm3075_2 _ hs (by omega) (⟨_, rfl, ?_⟩)
  refine ⟨fun h_1 => ?_, fun h_1 => ?_⟩
  · exfalso; omega
  · refine zm3077_0 _ hs (by omega) (⟨_, rfl, ?_⟩)
    refine ⟨fun h_2 => ?_, fun h_2 => ?_⟩
    · refine s_3149_22 _ _ _ _ _ ?_
      refine zm3074_1 hs (by omega) (by omega) (by omega) (by omega) (by omega) (by omega) (by omega) (fun s_3 hs_4 q_5 q_6 q_7 q_8 q_9 q_10 q_11 q_12 => ⟨_, rfl, ?_⟩)
      exact k s_3 hs_4 (by omega) (by omega) (by omega) (by omega) (by omega) (by omega) (by omega) (by omega)
    · exfalso; omega
set_option maxRecDepth 100000 in
/-- GatheredPointsModel.isSide [(2, 2147483647)] -/
theorem zm3077_1 {z : gH} {L d : Nat} {K : Option gV → gH → Prop} {s : gH} (p0 : Int) (hs : zM z s) (h_p0 : 2 ≤ p0 ∧ p0 ≤ 2147483647)  (k : K (some (gp_i 0)) s) : gs_C L d 3077 1 [gp_i p0] s K := by
  refine s_3077_e _ ?_
  refine ⟨fun h_1 => ?_, fun h_1 => ?_⟩
  · exfalso; omega
  · refine ⟨fun h_2 => ?_, fun h_2 => ?_⟩
    · exfalso; omega
    · refine s_3077_14 _ _ ?_
      refine ⟨by omega, ?_⟩
      exact k
set_option maxRecDepth 100000 in
/-- GatheredPointsModel.option [(0, 7), (2, 2147483647), (-2147483648, 2147483647), (-2147483648, 2147483647)] -/
theorem zm3149_3 {z : gH} {L d : Nat} {K : Option gV → gH → Prop} {s : gH} (p0 : Int) (p1 : Int) (p2 : Int) (p3 : Int) (hs : zM z s) (h_p0 : 0 ≤ p0 ∧ p0 ≤ 7) (h_p1 : 2 ≤ p1 ∧ p1 ≤ 2147483647) (h_p2 : (-2147483648) ≤ p2 ∧ p2 ≤ 2147483647) (h_p3 : (-2147483648) ≤ p3 ∧ p3 ≤ 2147483647) (q0 : gp_I s 74 11 = 0) (q1 : gp_I s 74 43 = 0) (q2 : gp_I s 74 57 = 0) (q3 : gp_I s 74 58 = 0) (q4 : gp_I s 74 7 = 1) (q5 : gp_I s 74 9 = 0) (q6 : gp_I s 81 20 = 0) (k : ∀ (t : gH), zM z t → (gp_I t 74 11 = 0) → (gp_I t 74 43 = 0) → (gp_I t 74 57 = 0) → (gp_I t 74 58 = 0) → (gp_I t 74 7 = 1) → (gp_I t 74 9 = 0) → ((-2147483648) ≤ gp_I t 75 1 ∧ gp_I t 75 1 ≤ 2147483647) → (gp_I t 81 20 = 0) → K (some (gp_i (-1000000001))) t) : gs_C L (d + 1) 3149 6 [gp_r (some 74), gp_i p0, gp_i p1, gp_i p2, gp_i p3] s K := by
  refine s_3149_e _ _ _ _ ?_
  refine zm3075_2 _ hs (by omega) (⟨_, rfl, ?_⟩)
  refine ⟨fun h_1 => ?_, fun h_1 => ?_⟩
  · exfalso; omega
  · refine zm3077_1 _ hs (by omega) (⟨_, rfl, ?_⟩)
    refine ⟨fun h_2 => ?_, fun h_2 => ?_⟩
    · refine s_3149_22 _ _ _ _ _ ?_
      refine zm3074_1 hs (by omega) (by omega) (by omega) (by omega) (by omega) (by omega) (by omega) (fun s_3 hs_4 q_5 q_6 q_7 q_8 q_9 q_10 q_11 q_12 => ⟨_, rfl, ?_⟩)
      exact k s_3 hs_4 (by omega) (by omega) (by omega) (by omega) (by omega) (by omega) (by omega) (by omega)
    · exfalso; omega
set_option maxRecDepth 100000 in
/-- GatheredPointsModel.isSide [(0, 0)] -/
theorem zm3077_2 {z : gH} {L d : Nat} {K : Option gV → gH → Prop} {s : gH}  (hs : zM z s)   (k : K (some (gp_i 1)) s) : gs_C L d 3077 1 [gp_i 0] s K := by
  refine s_3077_e _ ?_
  refine ⟨fun h_1 => ?_, fun h_1 => ?_⟩
  · refine s_3077_9 _ ?_
    refine s_3077_14 _ _ ?_
    refine ⟨by omega, ?_⟩
    exact k
  · exfalso; omega
set_option maxRecDepth 100000 in
/-- GatheredPointsModel.option [(0, 7), (0, 0), (-2147483648, 2147483647), (-2147483648, -1)] -/
theorem zm3149_4 {z : gH} {L d : Nat} {K : Option gV → gH → Prop} {s : gH} (p0 : Int) (p2 : Int) (p3 : Int) (hs : zM z s) (h_p0 : 0 ≤ p0 ∧ p0 ≤ 7) (h_p2 : (-2147483648) ≤ p2 ∧ p2 ≤ 2147483647) (h_p3 : (-2147483648) ≤ p3 ∧ p3 ≤ (-1)) (q0 : gp_I s 74 11 = 0) (q1 : gp_I s 74 43 = 0) (q2 : gp_I s 74 57 = 0) (q3 : gp_I s 74 58 = 0) (q4 : gp_I s 74 7 = 1) (q5 : gp_I s 74 9 = 0) (q6 : gp_I s 81 20 = 0) (k : ∀ (t : gH), zM z t → (gp_I t 74 11 = 0) → (gp_I t 74 43 = 0) → (gp_I t 74 57 = 0) → (gp_I t 74 58 = 0) → (gp_I t 74 7 = 1) → (gp_I t 74 9 = 0) → ((-2147483648) ≤ gp_I t 75 1 ∧ gp_I t 75 1 ≤ 2147483647) → (gp_I t 81 20 = 0) → K (some (gp_i (-1000000001))) t) : gs_C L (d + 1) 3149 6 [gp_r (some 74), gp_i p0, gp_i 0, gp_i p2, gp_i p3] s K := by
  refine s_3149_e _ _ _ _ ?_
  refine zm3075_2 _ hs (by omega) (⟨_, rfl, ?_⟩)
  refine ⟨fun h_1 => ?_, fun h_1 => ?_⟩
  · exfalso; omega
  · refine zm3077_2 hs (⟨_, rfl, ?_⟩)
    refine ⟨fun h_2 => ?_, fun h_2 => ?_⟩
    · exfalso; omega
    · refine zm3075_0 _ hs (by omega) (⟨_, rfl, ?_⟩)
      refine ⟨fun h_3 => ?_, fun h_3 => ?_⟩
      · refine s_3149_22 _ _ _ _ _ ?_
        refine zm3074_1 hs (by omega) (by omega) (by omega) (by omega) (by omega) (by omega) (by omega) (fun s_4 hs_5 q_6 q_7 q_8 q_9 q_10 q_11 q_12 q_13 => ⟨_, rfl, ?_⟩)
        exact k s_4 hs_5 (by omega) (by omega) (by omega) (by omega) (by omega) (by omega) (by omega) (by omega)
      · exfalso; omega
set_option maxRecDepth 100000 in
/-- GatheredPointsModel.option [(0, 7), (0, 0), (-2147483648, 2147483647), (8, 2147483647)] -/
theorem zm3149_5 {z : gH} {L d : Nat} {K : Option gV → gH → Prop} {s : gH} (p0 : Int) (p2 : Int) (p3 : Int) (hs : zM z s) (h_p0 : 0 ≤ p0 ∧ p0 ≤ 7) (h_p2 : (-2147483648) ≤ p2 ∧ p2 ≤ 2147483647) (h_p3 : 8 ≤ p3 ∧ p3 ≤ 2147483647) (q0 : gp_I s 74 11 = 0) (q1 : gp_I s 74 43 = 0) (q2 : gp_I s 74 57 = 0) (q3 : gp_I s 74 58 = 0) (q4 : gp_I s 74 7 = 1) (q5 : gp_I s 74 9 = 0) (q6 : gp_I s 81 20 = 0) (k : ∀ (t : gH), zM z t → (gp_I t 74 11 = 0) → (gp_I t 74 43 = 0) → (gp_I t 74 57 = 0) → (gp_I t 74 58 = 0) → (gp_I t 74 7 = 1) → (gp_I t 74 9 = 0) → ((-2147483648) ≤ gp_I t 75 1 ∧ gp_I t 75 1 ≤ 2147483647) → (gp_I t 81 20 = 0) → K (some (gp_i (-1000000001))) t) : gs_C L (d + 1) 3149 6 [gp_r (some 74), gp_i p0, gp_i 0, gp_i p2, gp_i p3] s K := by
  refine s_3149_e _ _ _ _ ?_
  refine zm3075_2 _ hs (by omega) (⟨_, rfl, ?_⟩)
  refine ⟨fun h_1 => ?_, fun h_1 => ?_⟩
  · exfalso; omega
  · refine zm3077_2 hs (⟨_, rfl, ?_⟩)
    refine ⟨fun h_2 => ?_, fun h_2 => ?_⟩
    · exfalso; omega
    · refine zm3075_1 _ hs (by omega) (⟨_, rfl, ?_⟩)
      refine ⟨fun h_3 => ?_, fun h_3 => ?_⟩
      · refine s_3149_22 _ _ _ _ _ ?_
        refine zm3074_1 hs (by omega) (by omega) (by omega) (by omega) (by omega) (by omega) (by omega) (fun s_4 hs_5 q_6 q_7 q_8 q_9 q_10 q_11 q_12 q_13 => ⟨_, rfl, ?_⟩)
        exact k s_4 hs_5 (by omega) (by omega) (by omega) (by omega) (by omega) (by omega) (by omega) (by omega)
      · exfalso; omega
set_option maxRecDepth 100000 in
/-- GatheredPointsModel.isSide [(1, 1)] -/
theorem zm3077_3 {z : gH} {L d : Nat} {K : Option gV → gH → Prop} {s : gH}  (hs : zM z s)   (k : K (some (gp_i 1)) s) : gs_C L d 3077 1 [gp_i 1] s K := by
  refine s_3077_e _ ?_
  refine ⟨fun h_1 => ?_, fun h_1 => ?_⟩
  · exfalso; omega
  · refine ⟨fun h_2 => ?_, fun h_2 => ?_⟩
    · refine s_3077_9 _ ?_
      refine s_3077_14 _ _ ?_
      refine ⟨by omega, ?_⟩
      exact k
    · exfalso; omega
set_option maxRecDepth 100000 in
/-- GatheredPointsModel.option [(0, 7), (1, 1), (-2147483648, 2147483647), (-2147483648, -1)] -/
theorem zm3149_6 {z : gH} {L d : Nat} {K : Option gV → gH → Prop} {s : gH} (p0 : Int) (p2 : Int) (p3 : Int) (hs : zM z s) (h_p0 : 0 ≤ p0 ∧ p0 ≤ 7) (h_p2 : (-2147483648) ≤ p2 ∧ p2 ≤ 2147483647) (h_p3 : (-2147483648) ≤ p3 ∧ p3 ≤ (-1)) (q0 : gp_I s 74 11 = 0) (q1 : gp_I s 74 43 = 0) (q2 : gp_I s 74 57 = 0) (q3 : gp_I s 74 58 = 0) (q4 : gp_I s 74 7 = 1) (q5 : gp_I s 74 9 = 0) (q6 : gp_I s 81 20 = 0) (k : ∀ (t : gH), zM z t → (gp_I t 74 11 = 0) → (gp_I t 74 43 = 0) → (gp_I t 74 57 = 0) → (gp_I t 74 58 = 0) → (gp_I t 74 7 = 1) → (gp_I t 74 9 = 0) → ((-2147483648) ≤ gp_I t 75 1 ∧ gp_I t 75 1 ≤ 2147483647) → (gp_I t 81 20 = 0) → K (some (gp_i (-1000000001))) t) : gs_C L (d + 1) 3149 6 [gp_r (some 74), gp_i p0, gp_i 1, gp_i p2, gp_i p3] s K := by
  refine s_3149_e _ _ _ _ ?_
  refine zm3075_2 _ hs (by omega) (⟨_, rfl, ?_⟩)
  refine ⟨fun h_1 => ?_, fun h_1 => ?_⟩
  · exfalso; omega
  · refine zm3077_3 hs (⟨_, rfl, ?_⟩)
    refine ⟨fun h_2 => ?_, fun h_2 => ?_⟩
    · exfalso; omega
    · refine zm3075_0 _ hs (by omega) (⟨_, rfl, ?_⟩)
      refine ⟨fun h_3 => ?_, fun h_3 => ?_⟩
      · refine s_3149_22 _ _ _ _ _ ?_
        refine zm3074_1 hs (by omega) (by omega) (by omega) (by omega) (by omega) (by omega) (by omega) (fun s_4 hs_5 q_6 q_7 q_8 q_9 q_10 q_11 q_12 q_13 => ⟨_, rfl, ?_⟩)
        exact k s_4 hs_5 (by omega) (by omega) (by omega) (by omega) (by omega) (by omega) (by omega) (by omega)
      · exfalso; omega
set_option maxRecDepth 100000 in
/-- GatheredPointsModel.option [(0, 7), (1, 1), (-2147483648, 2147483647), (8, 2147483647)] -/
theorem zm3149_7 {z : gH} {L d : Nat} {K : Option gV → gH → Prop} {s : gH} (p0 : Int) (p2 : Int) (p3 : Int) (hs : zM z s) (h_p0 : 0 ≤ p0 ∧ p0 ≤ 7) (h_p2 : (-2147483648) ≤ p2 ∧ p2 ≤ 2147483647) (h_p3 : 8 ≤ p3 ∧ p3 ≤ 2147483647) (q0 : gp_I s 74 11 = 0) (q1 : gp_I s 74 43 = 0) (q2 : gp_I s 74 57 = 0) (q3 : gp_I s 74 58 = 0) (q4 : gp_I s 74 7 = 1) (q5 : gp_I s 74 9 = 0) (q6 : gp_I s 81 20 = 0) (k : ∀ (t : gH), zM z t → (gp_I t 74 11 = 0) → (gp_I t 74 43 = 0) → (gp_I t 74 57 = 0) → (gp_I t 74 58 = 0) → (gp_I t 74 7 = 1) → (gp_I t 74 9 = 0) → ((-2147483648) ≤ gp_I t 75 1 ∧ gp_I t 75 1 ≤ 2147483647) → (gp_I t 81 20 = 0) → K (some (gp_i (-1000000001))) t) : gs_C L (d + 1) 3149 6 [gp_r (some 74), gp_i p0, gp_i 1, gp_i p2, gp_i p3] s K := by
  refine s_3149_e _ _ _ _ ?_
  refine zm3075_2 _ hs (by omega) (⟨_, rfl, ?_⟩)
  refine ⟨fun h_1 => ?_, fun h_1 => ?_⟩
  · exfalso; omega
  · refine zm3077_3 hs (⟨_, rfl, ?_⟩)
    refine ⟨fun h_2 => ?_, fun h_2 => ?_⟩
    · exfalso; omega
    · refine zm3075_1 _ hs (by omega) (⟨_, rfl, ?_⟩)
      refine ⟨fun h_3 => ?_, fun h_3 => ?_⟩
      · refine s_3149_22 _ _ _ _ _ ?_
        refine zm3074_1 hs (by omega) (by omega) (by omega) (by omega) (by omega) (by omega) (by omega) (fun s_4 hs_5 q_6 q_7 q_8 q_9 q_10 q_11 q_12 q_13 => ⟨_, rfl, ?_⟩)
        exact k s_4 hs_5 (by omega) (by omega) (by omega) (by omega) (by omega) (by omega) (by omega) (by omega)
      · exfalso; omega
set_option maxRecDepth 100000 in
/-- GatheredPointsModel.option [(0, 7), (0, 0), (-2147483648, -1), (0, 7)] -/
theorem zm3149_8 {z : gH} {L d : Nat} {K : Option gV → gH → Prop} {s : gH} (p0 : Int) (p2 : Int) (p3 : Int) (hs : zM z s) (h_p0 : 0 ≤ p0 ∧ p0 ≤ 7) (h_p2 : (-2147483648) ≤ p2 ∧ p2 ≤ (-1)) (h_p3 : 0 ≤ p3 ∧ p3 ≤ 7) (q0 : gp_I s 74 11 = 0) (q1 : gp_I s 74 43 = 0) (q2 : gp_I s 74 57 = 0) (q3 : gp_I s 74 58 = 0) (q4 : gp_I s 74 7 = 1) (q5 : gp_I s 74 9 = 0) (q6 : gp_I s 81 20 = 0) (k : ∀ (t : gH), zM z t → (gp_I t 74 11 = 0) → (gp_I t 74 43 = 0) → (gp_I t 74 57 = 0) → (gp_I t 74 58 = 0) → (gp_I t 74 7 = 1) → (gp_I t 74 9 = 0) → ((-2147483648) ≤ gp_I t 75 2 ∧ gp_I t 75 2 ≤ 2147483647) → (gp_I t 81 20 = 0) → K (some (gp_i (-1000000002))) t) : gs_C L (d + 1) 3149 6 [gp_r (some 74), gp_i p0, gp_i 0, gp_i p2, gp_i p3] s K := by
  refine s_3149_e _ _ _ _ ?_
  refine zm3075_2 _ hs (by omega) (⟨_, rfl, ?_⟩)
  refine ⟨fun h_1 => ?_, fun h_1 => ?_⟩
  · exfalso; omega
  · refine zm3077_2 hs (⟨_, rfl, ?_⟩)
    refine ⟨fun h_2 => ?_, fun h_2 => ?_⟩
    · exfalso; omega
    · refine zm3075_2 _ hs (by omega) (⟨_, rfl, ?_⟩)
      refine ⟨fun h_3 => ?_, fun h_3 => ?_⟩
      · exfalso; omega
      · refine ⟨fun h_4 => ?_, fun h_4 => ?_⟩
        · refine s_3149_51 _ _ _ _ _ _ ?_
          refine ⟨fun h_5 => ?_, fun h_5 => ?_⟩
          · refine zm3074_5 hs (by omega) (by omega) (by omega) (by omega) (by omega) (by omega) (by omega) (fun s_6 hs_7 q_8 q_9 q_10 q_11 q_12 q_13 q_14 q_15 => ⟨_, rfl, ?_⟩)
            refine s_3149_75 _ _ _ _ _ _ ?_
            exact k s_6 hs_7 (by omega) (by omega) (by omega) (by omega) (by omega) (by omega) (by omega) (by omega)
          · exfalso; omega
        · exfalso; omega
set_option maxRecDepth 100000 in
/-- GatheredPointsModel.inSet, the loop at 5 -/
theorem zm3080_0_l5_0 {z : gH} {L d : Nat} {K : Option gV → gH → Prop} (p1 : Int) {s : gH} (hs : zM z s)  (k : K (some (gp_i (-1))) s)  : ∀ (n : Nat) (v0 : BitVec 64) (v2 : Int) (v3 : Int) (v4 : Int), (65 - v4).toNat < n → (v0 = 0#64) → (0 ≤ v2 ∧ v2 ≤ 2147483647) → (v3 = 0) → (0 ≤ v4 ∧ v4 ≤ 64) → gs_E L (d + 1) 3080 5 [gp_l v0, gp_n, gp_i v2, gp_i v3, gp_i v4] [] s K := by
  intro n
  induction n with
  | zero => intro v0 v2 v3 v4 hm i0 i1 i2 i3; exact absurd hm (Nat.not_lt_zero _)
  | succ n ih =>
    intro v0 v2 v3 v4 hm i0 i1 i2 i3
    subst i0
    subst i2
    refine s_3080_5 _ _ _ _ ?_
    refine ⟨fun h_1 => ?_, fun h_1 => ?_⟩
    · refine zm3078_4 _ hs (by omega) (⟨_, rfl, ?_⟩)
      refine ⟨fun h_2 => ?_, fun h_2 => ?_⟩
      · refine s_3080_32 _ _ _ _ ?_
        have w_3 := gz_w (v4 + 1)
        exact ih _ _ _ _ (by omega) rfl (by omega) (by omega) (by omega)
      · exfalso; omega
    · have e_4 : v4 = 64 := by omega
      subst e_4
      exact k
set_option maxRecDepth 100000 in
/-- GatheredPointsModel.inSet [0, (0, 2147483647)] -/
theorem zm3080_0 {z : gH} {L d : Nat} {K : Option gV → gH → Prop} {s : gH} (p1 : Int) (hs : zM z s) (h_p1 : 0 ≤ p1 ∧ p1 ≤ 2147483647)  (k : K (some (gp_i (-1))) s) : gs_C L (d + 1) 3080 5 [gp_l (0#64), gp_i p1] s K := by
  refine s_3080_e _ _ ?_
  exact zm3080_0_l5_0 p1 hs k _ _ _ _ _ (Nat.lt_succ_self _) rfl (by omega) (by omega) (by omega)
set_option maxRecDepth 100000 in
/-- GatheredPointsModel.option [(0, 7), (0, 0), (0, 2147483647), (0, 7)] -/
theorem zm3149_9 {z : gH} {L d : Nat} {K : Option gV → gH → Prop} {s : gH} (p0 : Int) (p2 : Int) (p3 : Int) (hs : zM z s) (h_p0 : 0 ≤ p0 ∧ p0 ≤ 7) (h_p2 : 0 ≤ p2 ∧ p2 ≤ 2147483647) (h_p3 : 0 ≤ p3 ∧ p3 ≤ 7) (q0 : gp_I s 74 11 = 0) (q1 : gp_I s 74 43 = 0) (q2 : gp_I s 74 57 = 0) (q3 : gp_I s 74 58 = 0) (q4 : gp_I s 74 7 = 1) (q5 : gp_I s 74 9 = 0) (q6 : gp_I s 81 20 = 0) (k : ∀ (t : gH), zM z t → (gp_I t 74 11 = 0) → (gp_I t 74 43 = 0) → (gp_I t 74 57 = 0) → (gp_I t 74 58 = 0) → (gp_I t 74 7 = 1) → (gp_I t 74 9 = 0) → ((-2147483648) ≤ gp_I t 75 2 ∧ gp_I t 75 2 ≤ 2147483647) → (gp_I t 81 20 = 0) → K (some (gp_i (-1000000002))) t) : gs_C L (d + 2) 3149 6 [gp_r (some 74), gp_i p0, gp_i 0, gp_i p2, gp_i p3] s K := by
  refine s_3149_e _ _ _ _ ?_
  refine zm3075_2 _ hs (by omega) (⟨_, rfl, ?_⟩)
  refine ⟨fun h_1 => ?_, fun h_1 => ?_⟩
  · exfalso; omega
  · refine zm3077_2 hs (⟨_, rfl, ?_⟩)
    refine ⟨fun h_2 => ?_, fun h_2 => ?_⟩
    · exfalso; omega
    · refine zm3075_2 _ hs (by omega) (⟨_, rfl, ?_⟩)
      refine ⟨fun h_3 => ?_, fun h_3 => ?_⟩
      · exfalso; omega
      · refine ⟨fun h_4 => ?_, fun h_4 => ?_⟩
        · exfalso; omega
        · refine zm3081_0 _ hs (by omega) (by omega) (⟨_, rfl, ?_⟩)
          refine zm3082_0 _ hs (by omega) (⟨_, rfl, ?_⟩)
          refine zm3080_0 _ hs (by omega) (⟨_, rfl, ?_⟩)
          refine s_3149_51 _ _ _ _ _ _ ?_
          refine ⟨fun h_5 => ?_, fun h_5 => ?_⟩
          · refine zm3074_5 hs (by omega) (by omega) (by omega) (by omega) (by omega) (by omega) (by omega) (fun s_6 hs_7 q_8 q_9 q_10 q_11 q_12 q_13 q_14 q_15 => ⟨_, rfl, ?_⟩)
            refine s_3149_75 _ _ _ _ _ _ ?_
            exact k s_6 hs_7 (by omega) (by omega) (by omega) (by omega) (by omega) (by omega) (by omega) (by omega)
          · exfalso; omega
set_option maxRecDepth 100000 in
/-- GatheredPointsModel.option [(0, 7), (1, 1), (-2147483648, -1), (0, 7)] -/
theorem zm3149_10 {z : gH} {L d : Nat} {K : Option gV → gH → Prop} {s : gH} (p0 : Int) (p2 : Int) (p3 : Int) (hs : zM z s) (h_p0 : 0 ≤ p0 ∧ p0 ≤ 7) (h_p2 : (-2147483648) ≤ p2 ∧ p2 ≤ (-1)) (h_p3 : 0 ≤ p3 ∧ p3 ≤ 7) (q0 : gp_I s 74 11 = 0) (q1 : gp_I s 74 43 = 0) (q2 : gp_I s 74 57 = 0) (q3 : gp_I s 74 58 = 0) (q4 : gp_I s 74 7 = 1) (q5 : gp_I s 74 9 = 0) (q6 : gp_I s 81 20 = 0) (k : ∀ (t : gH), zM z t → (gp_I t 74 11 = 0) → (gp_I t 74 43 = 0) → (gp_I t 74 57 = 0) → (gp_I t 74 58 = 0) → (gp_I t 74 7 = 1) → (gp_I t 74 9 = 0) → ((-2147483648) ≤ gp_I t 75 2 ∧ gp_I t 75 2 ≤ 2147483647) → (gp_I t 81 20 = 0) → K (some (gp_i (-1000000002))) t) : gs_C L (d + 1) 3149 6 [gp_r (some 74), gp_i p0, gp_i 1, gp_i p2, gp_i p3] s K := by
  refine s_3149_e _ _ _ _ ?_
  refine zm3075_2 _ hs (by omega) (⟨_, rfl, ?_⟩)
  refine ⟨fun h_1 => ?_, fun h_1 => ?_⟩
  · exfalso; omega
  · refine zm3077_3 hs (⟨_, rfl, ?_⟩)
    refine ⟨fun h_2 => ?_, fun h_2 => ?_⟩
    · exfalso; omega
    · refine zm3075_2 _ hs (by omega) (⟨_, rfl, ?_⟩)
      refine ⟨fun h_3 => ?_, fun h_3 => ?_⟩
      · exfalso; omega
      · refine ⟨fun h_4 => ?_, fun h_4 => ?_⟩
        · refine s_3149_51 _ _ _ _ _ _ ?_
          refine ⟨fun h_5 => ?_, fun h_5 => ?_⟩
          · refine zm3074_5 hs (by omega) (by omega) (by omega) (by omega) (by omega) (by omega) (by omega) (fun s_6 hs_7 q_8 q_9 q_10 q_11 q_12 q_13 q_14 q_15 => ⟨_, rfl, ?_⟩)
            refine s_3149_75 _ _ _ _ _ _ ?_
            exact k s_6 hs_7 (by omega) (by omega) (by omega) (by omega) (by omega) (by omega) (by omega) (by omega)
          · exfalso; omega
        · exfalso; omega
set_option maxRecDepth 100000 in
/-- GatheredPointsModel.option [(0, 7), (1, 1), (0, 2147483647), (0, 7)] -/
theorem zm3149_11 {z : gH} {L d : Nat} {K : Option gV → gH → Prop} {s : gH} (p0 : Int) (p2 : Int) (p3 : Int) (hs : zM z s) (h_p0 : 0 ≤ p0 ∧ p0 ≤ 7) (h_p2 : 0 ≤ p2 ∧ p2 ≤ 2147483647) (h_p3 : 0 ≤ p3 ∧ p3 ≤ 7) (q0 : gp_I s 74 11 = 0) (q1 : gp_I s 74 43 = 0) (q2 : gp_I s 74 57 = 0) (q3 : gp_I s 74 58 = 0) (q4 : gp_I s 74 7 = 1) (q5 : gp_I s 74 9 = 0) (q6 : gp_I s 81 20 = 0) (k : ∀ (t : gH), zM z t → (gp_I t 74 11 = 0) → (gp_I t 74 43 = 0) → (gp_I t 74 57 = 0) → (gp_I t 74 58 = 0) → (gp_I t 74 7 = 1) → (gp_I t 74 9 = 0) → ((-2147483648) ≤ gp_I t 75 2 ∧ gp_I t 75 2 ≤ 2147483647) → (gp_I t 81 20 = 0) → K (some (gp_i (-1000000002))) t) : gs_C L (d + 2) 3149 6 [gp_r (some 74), gp_i p0, gp_i 1, gp_i p2, gp_i p3] s K := by
  refine s_3149_e _ _ _ _ ?_
  refine zm3075_2 _ hs (by omega) (⟨_, rfl, ?_⟩)
  refine ⟨fun h_1 => ?_, fun h_1 => ?_⟩
  · exfalso; omega
  · refine zm3077_3 hs (⟨_, rfl, ?_⟩)
    refine ⟨fun h_2 => ?_, fun h_2 => ?_⟩
    · exfalso; omega
    · refine zm3075_2 _ hs (by omega) (⟨_, rfl, ?_⟩)
      refine ⟨fun h_3 => ?_, fun h_3 => ?_⟩
      · exfalso; omega
      · refine ⟨fun h_4 => ?_, fun h_4 => ?_⟩
        · exfalso; omega
        · refine zm3081_0 _ hs (by omega) (by omega) (⟨_, rfl, ?_⟩)
          refine zm3082_1 _ hs (by omega) (⟨_, rfl, ?_⟩)
          refine zm3080_0 _ hs (by omega) (⟨_, rfl, ?_⟩)
          refine s_3149_51 _ _ _ _ _ _ ?_
          refine ⟨fun h_5 => ?_, fun h_5 => ?_⟩
          · refine zm3074_5 hs (by omega) (by omega) (by omega) (by omega) (by omega) (by omega) (by omega) (fun s_6 hs_7 q_8 q_9 q_10 q_11 q_12 q_13 q_14 q_15 => ⟨_, rfl, ?_⟩)
            refine s_3149_75 _ _ _ _ _ _ ?_
            exact k s_6 hs_7 (by omega) (by omega) (by omega) (by omega) (by omega) (by omega) (by omega) (by omega)
          · exfalso; omega
set_option maxRecDepth 100000 in
/-- GatheredPointsModel.answer [(-2147483648, -1), (-2147483648, 2147483647), (-2147483648, 2147483647), (-2147483648, 2147483647)] -/
theorem zm3153_0 {z : gH} {L d : Nat} {K : Option gV → gH → Prop} {s : gH} (p0 : Int) (p1 : Int) (p2 : Int) (p3 : Int) (hs : zM z s) (h_p0 : (-2147483648) ≤ p0 ∧ p0 ≤ (-1)) (h_p1 : (-2147483648) ≤ p1 ∧ p1 ≤ 2147483647) (h_p2 : (-2147483648) ≤ p2 ∧ p2 ≤ 2147483647) (h_p3 : (-2147483648) ≤ p3 ∧ p3 ≤ 2147483647) (q0 : gp_I s 81 20 = 0) (k : ∀ (t : gH), zM z t → ((-2147483648) ≤ gp_I t 75 1 ∧ gp_I t 75 1 ≤ 2147483647) → (gp_I t 81 20 = 0) → K (some (gp_i (-1000000001))) t) : gs_C L (d + 1) 3153 8 [gp_r (some 74), gp_i p0, gp_i p1, gp_i p2, gp_i p3] s K := by
  refine s_3153_e _ _ _ _ ?_
  refine zm3075_0 _ hs (by omega) (⟨_, rfl, ?_⟩)
  refine ⟨fun h_1 => ?_, fun h_1 => ?_⟩
  · refine s_3153_21 _ _ _ _ _ _ _ ?_
    refine zm3074_4 hs (by omega) (fun s_2 hs_3 q_4 q_5 => ⟨_, rfl, ?_⟩)
    exact k s_2 hs_3 (by omega) (by omega)
  · exfalso; omega
set_option maxRecDepth 100000 in
/-- GatheredPointsModel.answer [(8, 2147483647), (-2147483648, 2147483647), (-2147483648, 2147483647), (-2147483648, 2147483647)] -/
theorem zm3153_1 {z : gH} {L d : Nat} {K : Option gV → gH → Prop} {s : gH} (p0 : Int) (p1 : Int) (p2 : Int) (p3 : Int) (hs : zM z s) (h_p0 : 8 ≤ p0 ∧ p0 ≤ 2147483647) (h_p1 : (-2147483648) ≤ p1 ∧ p1 ≤ 2147483647) (h_p2 : (-2147483648) ≤ p2 ∧ p2 ≤ 2147483647) (h_p3 : (-2147483648) ≤ p3 ∧ p3 ≤ 2147483647) (q0 : gp_I s 81 20 = 0) (k : ∀ (t : gH), zM z t → ((-2147483648) ≤ gp_I t 75 1 ∧ gp_I t 75 1 ≤ 2147483647) → (gp_I t 81 20 = 0) → K (some (gp_i (-1000000001))) t) : gs_C L (d + 1) 3153 8 [gp_r (some 74), gp_i p0, gp_i p1, gp_i p2, gp_i p3] s K := by
  refine s_3153_e _ _ _ _ ?_
  refine zm3075_1 _ hs (by omega) (⟨_, rfl, ?_⟩)
  refine ⟨fun h_1 => ?_, fun h_1 => ?_⟩
  · refine s_3153_21 _ _ _ _ _ _ _ ?_
    refine zm3074_4 hs (by omega) (fun s_2 hs_3 q_4 q_5 => ⟨_, rfl, ?_⟩)
    exact k s_2 hs_3 (by omega) (by omega)
  · exfalso; omega
set_option maxRecDepth 100000 in
/-- GatheredPointsModel.answer [(0, 7), (-2147483648, -1), (-2147483648, 2147483647), (-2147483648, 2147483647)] -/
theorem zm3153_2 {z : gH} {L d : Nat} {K : Option gV → gH → Prop} {s : gH} (p0 : Int) (p1 : Int) (p2 : Int) (p3 : Int) (hs : zM z s) (h_p0 : 0 ≤ p0 ∧ p0 ≤ 7) (h_p1 : (-2147483648) ≤ p1 ∧ p1 ≤ (-1)) (h_p2 : (-2147483648) ≤ p2 ∧ p2 ≤ 2147483647) (h_p3 : (-2147483648) ≤ p3 ∧ p3 ≤ 2147483647) (q0 : gp_I s 81 20 = 0) (k : ∀ (t : gH), zM z t → ((-2147483648) ≤ gp_I t 75 1 ∧ gp_I t 75 1 ≤ 2147483647) → (gp_I t 81 20 = 0) → K (some (gp_i (-1000000001))) t) : gs_C L (d + 1) 3153 8 [gp_r (some 74), gp_i p0, gp_i p1, gp_i p2, gp_i p3] s K := by
  refine s_3153_e _ _ _ _ ?_
  refine zm3075_2 _ hs (by omega) (⟨_, rfl, ?_⟩)
  refine ⟨fun h_1 => ?_, fun h_1 => ?_⟩
  · exfalso; omega
  · refine zm3075_0 _ hs (by omega) (⟨_, rfl, ?_⟩)
    refine ⟨fun h_2 => ?_, fun h_2 => ?_⟩
    · refine s_3153_21 _ _ _ _ _ _ _ ?_
      refine zm3074_4 hs (by omega) (fun s_3 hs_4 q_5 q_6 => ⟨_, rfl, ?_⟩)
      exact k s_3 hs_4 (by omega) (by omega)
    · exfalso; omega
set_option maxRecDepth 100000 in
/-- GatheredPointsModel.answer [(0, 7), (8, 2147483647), (-2147483648, 2147483647), (-2147483648, 2147483647)] -/
theorem zm3153_3 {z : gH} {L d : Nat} {K : Option gV → gH → Prop} {s : gH} (p0 : Int) (p1 : Int) (p2 : Int) (p3 : Int) (hs : zM z s) (h_p0 : 0 ≤ p0 ∧ p0 ≤ 7) (h_p1 : 8 ≤ p1 ∧ p1 ≤ 2147483647) (h_p2 : (-2147483648) ≤ p2 ∧ p2 ≤ 2147483647) (h_p3 : (-2147483648) ≤ p3 ∧ p3 ≤ 2147483647) (q0 : gp_I s 81 20 = 0) (k : ∀ (t : gH), zM z t → ((-2147483648) ≤ gp_I t 75 1 ∧ gp_I t 75 1 ≤ 2147483647) → (gp_I t 81 20 = 0) → K (some (gp_i (-1000000001))) t) : gs_C L (d + 1) 3153 8 [gp_r (some 74), gp_i p0, gp_i p1, gp_i p2, gp_i p3] s K := by
  refine s_3153_e _ _ _ _ ?_
  refine zm3075_2 _ hs (by omega) (⟨_, rfl, ?_⟩)
  refine ⟨fun h_1 => ?_, fun h_1 => ?_⟩
  · exfalso; omega
  · refine zm3075_1 _ hs (by omega) (⟨_, rfl, ?_⟩)
    refine ⟨fun h_2 => ?_, fun h_2 => ?_⟩
    · refine s_3153_21 _ _ _ _ _ _ _ ?_
      refine zm3074_4 hs (by omega) (fun s_3 hs_4 q_5 q_6 => ⟨_, rfl, ?_⟩)
      exact k s_3 hs_4 (by omega) (by omega)
    · exfalso; omega
set_option maxRecDepth 100000 in
/-- GatheredPointsModel.answer [(0, 7), (0, 7), (-2147483648, -1), (-2147483648, 2147483647)] -/
theorem zm3153_4 {z : gH} {L d : Nat} {K : Option gV → gH → Prop} {s : gH} (p0 : Int) (p1 : Int) (p2 : Int) (p3 : Int) (hs : zM z s) (h_p0 : 0 ≤ p0 ∧ p0 ≤ 7) (h_p1 : 0 ≤ p1 ∧ p1 ≤ 7) (h_p2 : (-2147483648) ≤ p2 ∧ p2 ≤ (-1)) (h_p3 : (-2147483648) ≤ p3 ∧ p3 ≤ 2147483647) (q0 : gp_I s 81 20 = 0) (k : ∀ (t : gH), zM z t → ((-2147483648) ≤ gp_I t 75 1 ∧ gp_I t 75 1 ≤ 2147483647) → (gp_I t 81 20 = 0) → K (some (gp_i (-1000000001))) t) : gs_C L (d + 1) 3153 8 [gp_r (some 74), gp_i p0, gp_i p1, gp_i p2, gp_i p3] s K := by
  refine s_3153_e _ _ _ _ ?_
  refine zm3075_2 _ hs (by omega) (⟨_, rfl, ?_⟩)
  refine ⟨fun h_1 => ?_, fun h_1 => ?_⟩
  · exfalso; omega
  · refine zm3075_2 _ hs (by omega) (⟨_, rfl, ?_⟩)
    refine ⟨fun h_2 => ?_, fun h_2 => ?_⟩
    · exfalso; omega
    · refine zm3077_0 _ hs (by omega) (⟨_, rfl, ?_⟩)
      refine ⟨fun h_3 => ?_, fun h_3 => ?_⟩
      · refine s_3153_21 _ _ _ _ _ _ _ ?_
        refine zm3074_4 hs (by omega) (fun s_4 hs_5 q_6 q_7 => ⟨_, rfl, ?_⟩)
        exact k s_4 hs_5 (by omega) (by omega)
      · exfalso; omega
set_option maxRecDepth 100000 in
/-- GatheredPointsModel.answer [(0, 7), (0, 7), (2, 2147483647), (-2147483648, 2147483647)] -/
theorem zm3153_5 {z : gH} {L d : Nat} {K : Option gV → gH → Prop} {s : gH} (p0 : Int) (p1 : Int) (p2 : Int) (p3 : Int) (hs : zM z s) (h_p0 : 0 ≤ p0 ∧ p0 ≤ 7) (h_p1 : 0 ≤ p1 ∧ p1 ≤ 7) (h_p2 : 2 ≤ p2 ∧ p2 ≤ 2147483647) (h_p3 : (-2147483648) ≤ p3 ∧ p3 ≤ 2147483647) (q0 : gp_I s 81 20 = 0) (k : ∀ (t : gH), zM z t → ((-2147483648) ≤ gp_I t 75 1 ∧ gp_I t 75 1 ≤ 2147483647) → (gp_I t 81 20 = 0) → K (some (gp_i (-1000000001))) t) : gs_C L (d + 1) 3153 8 [gp_r (some 74), gp_i p0, gp_i p1, gp_i p2, gp_i p3] s K := by
  refine s_3153_e _ _ _ _ ?_
  refine zm3075_2 _ hs (by omega) (⟨_, rfl, ?_⟩)
  refine ⟨fun h_1 => ?_, fun h_1 => ?_⟩
  · exfalso; omega
  · refine zm3075_2 _ hs (by omega) (⟨_, rfl, ?_⟩)
    refine ⟨fun h_2 => ?_, fun h_2 => ?_⟩
    · exfalso; omega
    · refine zm3077_1 _ hs (by omega) (⟨_, rfl, ?_⟩)
      refine ⟨fun h_3 => ?_, fun h_3 => ?_⟩
      · refine s_3153_21 _ _ _ _ _ _ _ ?_
        refine zm3074_4 hs (by omega) (fun s_4 hs_5 q_6 q_7 => ⟨_, rfl, ?_⟩)
        exact k s_4 hs_5 (by omega) (by omega)
      · exfalso; omega
set_option maxRecDepth 100000 in
/-- GatheredPointsModel.finds [(2, 2)] -/
theorem zm3074_6 {z : gH} {L d : Nat} {K : Option gV → gH → Prop} {s : gH}  (hs : zM z s)  (q0 : gp_I s 81 20 = 0) (q1 : gp_I s 98 0 = 1) (k : ∀ (t : gH), zM z t → ((-2147483648) ≤ gp_I t 75 2 ∧ gp_I t 75 2 ≤ 2147483647) → (gp_I t 81 20 = 0) → (gp_I t 98 0 = 1) → K (some (gp_i (-1000000002))) t) : gs_C L d 3074 2 [gp_r (some 74), gp_i 2] s K := by
  refine s_3074_e _ ?_
  refine ⟨by omega, ?_⟩
  have w_1 := gz_w ((gp_I s 75 (2 : Int).toNat) + 1)
  refine ⟨by omega, ?_⟩
  intro s_2 e_3
  have hs_4 : zM z s_2 := by rw [e_3]; exact zw75 hs _ _
  have q_5 : gp_I s_2 81 20 = 0 := by rw [e_3]; exact q0
  have q_6 : gp_I s_2 98 0 = 1 := by rw [e_3]; exact q1
  have q_7 : (-2147483648) ≤ gp_I s_2 75 2 ∧ gp_I s_2 75 2 ≤ 2147483647 := by have x_8 : gp_I s_2 75 2 = gp_wr ((gp_I s 75 (2 : Int).toNat) + 1) := (by rw [e_3]; rfl); omega
  have w_9 := gz_w ((-1000000000) - 2)
  have e_10 : gp_wr ((-1000000000) - 2) = (-1000000002) := by omega
  try rw [e_10]
  exact k s_2 hs_4 (by omega) (by omega) (by omega)
set_option maxRecDepth 100000 in
/-- GatheredPointsModel.answer [(0, 7), (0, 7), (0, 0), (-2147483648, -1)] -/
theorem zm3153_6 {z : gH} {L d : Nat} {K : Option gV → gH → Prop} {s : gH} (p0 : Int) (p1 : Int) (p3 : Int) (hs : zM z s) (h_p0 : 0 ≤ p0 ∧ p0 ≤ 7) (h_p1 : 0 ≤ p1 ∧ p1 ≤ 7) (h_p3 : (-2147483648) ≤ p3 ∧ p3 ≤ (-1)) (q0 : gp_I s 81 20 = 0) (k : ∀ (t : gH), zM z t → ((-2147483648) ≤ gp_I t 75 2 ∧ gp_I t 75 2 ≤ 2147483647) → (gp_I t 81 20 = 0) → (gp_I t 98 0 = 1) → K (some (gp_i (-1000000002))) t) : gs_C L (d + 5) 3153 8 [gp_r (some 74), gp_i p0, gp_i p1, gp_i 0, gp_i p3] s K := by
  refine s_3153_e _ _ _ _ ?_
  refine zm3075_2 _ hs (by omega) (⟨_, rfl, ?_⟩)
  refine ⟨fun h_1 => ?_, fun h_1 => ?_⟩
  · exfalso; omega
  · refine zm3075_2 _ hs (by omega) (⟨_, rfl, ?_⟩)
    refine ⟨fun h_2 => ?_, fun h_2 => ?_⟩
    · exfalso; omega
    · refine zm3077_2 hs (⟨_, rfl, ?_⟩)
      refine ⟨fun h_3 => ?_, fun h_3 => ?_⟩
      · exfalso; omega
      · refine zm3103_0 _ hs (by omega) (by omega) (⟨_, rfl, ?_⟩)
        refine ⟨fun h_4 => ?_, fun h_4 => ?_⟩
        · exfalso; omega
        · refine zm3103_0 _ hs (by omega) (by omega) (⟨_, rfl, ?_⟩)
          refine ⟨fun h_5 => ?_, fun h_5 => ?_⟩
          · exfalso; omega
          · refine zm3104_0 _ _ hs (by omega) (by omega) (by omega) (fun s_6 hs_7 q_8 => ⟨rfl, ?_⟩)
            refine zm3081_0 _ hs_7 (by omega) (by omega) (⟨_, rfl, ?_⟩)
            refine zm3081_0 _ hs_7 (by omega) (by omega) (⟨_, rfl, ?_⟩)
            refine zm3105_0 _ _ hs_7 (by omega) (by omega) (by omega) (fun s_9 hs_10 q_11 q_12 => ⟨_, rfl, ?_⟩)
            refine ⟨fun h_13 => ?_, fun h_13 => ?_⟩
            · exfalso; omega
            · refine ⟨fun h_14 => ?_, fun h_14 => ?_⟩
              · refine s_3153_134 _ _ _ _ _ _ _ _ ?_
                refine ⟨fun h_15 => ?_, fun h_15 => ?_⟩
                · refine zm3074_6 hs_10 (by omega) (by omega) (fun s_16 hs_17 q_18 q_19 q_20 => ⟨_, rfl, ?_⟩)
                  exact k s_16 hs_17 (by omega) (by omega) (by omega)
                · exfalso; omega
              · exfalso; omega
set_option maxRecDepth 100000 in
/-- GatheredPointsModel.answer [(0, 7), (0, 7), (0, 0), (0, 2147483647)] -/
theorem zm3153_7 {z : gH} {L d : Nat} {K : Option gV → gH → Prop} {s : gH} (p0 : Int) (p1 : Int) (p3 : Int) (hs : zM z s) (h_p0 : 0 ≤ p0 ∧ p0 ≤ 7) (h_p1 : 0 ≤ p1 ∧ p1 ≤ 7) (h_p3 : 0 ≤ p3 ∧ p3 ≤ 2147483647) (q0 : gp_I s 81 20 = 0) (k : ∀ (t : gH), zM z t → ((-2147483648) ≤ gp_I t 75 2 ∧ gp_I t 75 2 ≤ 2147483647) → (gp_I t 81 20 = 0) → (gp_I t 98 0 = 1) → K (some (gp_i (-1000000002))) t) : gs_C L (d + 5) 3153 8 [gp_r (some 74), gp_i p0, gp_i p1, gp_i 0, gp_i p3] s K := by
  refine s_3153_e _ _ _ _ ?_
  refine zm3075_2 _ hs (by omega) (⟨_, rfl, ?_⟩)
  refine ⟨fun h_1 => ?_, fun h_1 => ?_⟩
  · exfalso; omega
  · refine zm3075_2 _ hs (by omega) (⟨_, rfl, ?_⟩)
    refine ⟨fun h_2 => ?_, fun h_2 => ?_⟩
    · exfalso; omega
    · refine zm3077_2 hs (⟨_, rfl, ?_⟩)
      refine ⟨fun h_3 => ?_, fun h_3 => ?_⟩
      · exfalso; omega
      · refine zm3103_0 _ hs (by omega) (by omega) (⟨_, rfl, ?_⟩)
        refine ⟨fun h_4 => ?_, fun h_4 => ?_⟩
        · exfalso; omega
        · refine zm3103_0 _ hs (by omega) (by omega) (⟨_, rfl, ?_⟩)
          refine ⟨fun h_5 => ?_, fun h_5 => ?_⟩
          · exfalso; omega
          · refine zm3104_0 _ _ hs (by omega) (by omega) (by omega) (fun s_6 hs_7 q_8 => ⟨rfl, ?_⟩)
            refine zm3081_0 _ hs_7 (by omega) (by omega) (⟨_, rfl, ?_⟩)
            refine zm3081_0 _ hs_7 (by omega) (by omega) (⟨_, rfl, ?_⟩)
            refine zm3105_0 _ _ hs_7 (by omega) (by omega) (by omega) (fun s_9 hs_10 q_11 q_12 => ⟨_, rfl, ?_⟩)
            refine ⟨fun h_13 => ?_, fun h_13 => ?_⟩
            · exfalso; omega
            · refine ⟨fun h_14 => ?_, fun h_14 => ?_⟩
              · exfalso; omega
              · refine ⟨fun h_15 => ?_, fun h_15 => ?_⟩
                · have w_16 := gz_w (64 * p1)
                  have w_17 := gz_w ((gp_wr (64 * p1)) + 0)
                  refine ⟨by omega, ?_⟩
                  try rw [zr76 hs_10 ((gp_wr ((gp_wr (64 * p1)) + 0)).toNat)]
                  refine s_3153_129 _ _ _ _ _ _ _ _ ?_
                  refine zm3080_0 _ hs_10 (by omega) (⟨_, rfl, ?_⟩)
                  refine s_3153_134 _ _ _ _ _ _ _ _ ?_
                  refine ⟨fun h_18 => ?_, fun h_18 => ?_⟩
                  · refine zm3074_6 hs_10 (by omega) (by omega) (fun s_19 hs_20 q_21 q_22 q_23 => ⟨_, rfl, ?_⟩)
                    exact k s_19 hs_20 (by omega) (by omega) (by omega)
                  · exfalso; omega
                · exfalso; omega
set_option maxRecDepth 100000 in
/-- GatheredPointsModel.answer [(0, 7), (0, 7), (1, 1), (-2147483648, -1)] -/
theorem zm3153_8 {z : gH} {L d : Nat} {K : Option gV → gH → Prop} {s : gH} (p0 : Int) (p1 : Int) (p3 : Int) (hs : zM z s) (h_p0 : 0 ≤ p0 ∧ p0 ≤ 7) (h_p1 : 0 ≤ p1 ∧ p1 ≤ 7) (h_p3 : (-2147483648) ≤ p3 ∧ p3 ≤ (-1)) (q0 : gp_I s 81 20 = 0) (k : ∀ (t : gH), zM z t → ((-2147483648) ≤ gp_I t 75 2 ∧ gp_I t 75 2 ≤ 2147483647) → (gp_I t 81 20 = 0) → (gp_I t 98 0 = 1) → K (some (gp_i (-1000000002))) t) : gs_C L (d + 5) 3153 8 [gp_r (some 74), gp_i p0, gp_i p1, gp_i 1, gp_i p3] s K := by
  refine s_3153_e _ _ _ _ ?_
  refine zm3075_2 _ hs (by omega) (⟨_, rfl, ?_⟩)
  refine ⟨fun h_1 => ?_, fun h_1 => ?_⟩
  · exfalso; omega
  · refine zm3075_2 _ hs (by omega) (⟨_, rfl, ?_⟩)
    refine ⟨fun h_2 => ?_, fun h_2 => ?_⟩
    · exfalso; omega
    · refine zm3077_3 hs (⟨_, rfl, ?_⟩)
      refine ⟨fun h_3 => ?_, fun h_3 => ?_⟩
      · exfalso; omega
      · refine zm3103_0 _ hs (by omega) (by omega) (⟨_, rfl, ?_⟩)
        refine ⟨fun h_4 => ?_, fun h_4 => ?_⟩
        · exfalso; omega
        · refine zm3103_0 _ hs (by omega) (by omega) (⟨_, rfl, ?_⟩)
          refine ⟨fun h_5 => ?_, fun h_5 => ?_⟩
          · exfalso; omega
          · refine zm3104_0 _ _ hs (by omega) (by omega) (by omega) (fun s_6 hs_7 q_8 => ⟨rfl, ?_⟩)
            refine zm3081_0 _ hs_7 (by omega) (by omega) (⟨_, rfl, ?_⟩)
            refine zm3081_0 _ hs_7 (by omega) (by omega) (⟨_, rfl, ?_⟩)
            refine zm3105_0 _ _ hs_7 (by omega) (by omega) (by omega) (fun s_9 hs_10 q_11 q_12 => ⟨_, rfl, ?_⟩)
            refine ⟨fun h_13 => ?_, fun h_13 => ?_⟩
            · exfalso; omega
            · refine ⟨fun h_14 => ?_, fun h_14 => ?_⟩
              · refine s_3153_134 _ _ _ _ _ _ _ _ ?_
                refine ⟨fun h_15 => ?_, fun h_15 => ?_⟩
                · refine zm3074_6 hs_10 (by omega) (by omega) (fun s_16 hs_17 q_18 q_19 q_20 => ⟨_, rfl, ?_⟩)
                  exact k s_16 hs_17 (by omega) (by omega) (by omega)
                · exfalso; omega
              · exfalso; omega
set_option maxRecDepth 100000 in
/-- GatheredPointsModel.answer [(0, 7), (0, 7), (1, 1), (0, 2147483647)] -/
theorem zm3153_9 {z : gH} {L d : Nat} {K : Option gV → gH → Prop} {s : gH} (p0 : Int) (p1 : Int) (p3 : Int) (hs : zM z s) (h_p0 : 0 ≤ p0 ∧ p0 ≤ 7) (h_p1 : 0 ≤ p1 ∧ p1 ≤ 7) (h_p3 : 0 ≤ p3 ∧ p3 ≤ 2147483647) (q0 : gp_I s 81 20 = 0) (k : ∀ (t : gH), zM z t → ((-2147483648) ≤ gp_I t 75 2 ∧ gp_I t 75 2 ≤ 2147483647) → (gp_I t 81 20 = 0) → (gp_I t 98 0 = 1) → K (some (gp_i (-1000000002))) t) : gs_C L (d + 5) 3153 8 [gp_r (some 74), gp_i p0, gp_i p1, gp_i 1, gp_i p3] s K := by
  refine s_3153_e _ _ _ _ ?_
  refine zm3075_2 _ hs (by omega) (⟨_, rfl, ?_⟩)
  refine ⟨fun h_1 => ?_, fun h_1 => ?_⟩
  · exfalso; omega
  · refine zm3075_2 _ hs (by omega) (⟨_, rfl, ?_⟩)
    refine ⟨fun h_2 => ?_, fun h_2 => ?_⟩
    · exfalso; omega
    · refine zm3077_3 hs (⟨_, rfl, ?_⟩)
      refine ⟨fun h_3 => ?_, fun h_3 => ?_⟩
      · exfalso; omega
      · refine zm3103_0 _ hs (by omega) (by omega) (⟨_, rfl, ?_⟩)
        refine ⟨fun h_4 => ?_, fun h_4 => ?_⟩
        · exfalso; omega
        · refine zm3103_0 _ hs (by omega) (by omega) (⟨_, rfl, ?_⟩)
          refine ⟨fun h_5 => ?_, fun h_5 => ?_⟩
          · exfalso; omega
          · refine zm3104_0 _ _ hs (by omega) (by omega) (by omega) (fun s_6 hs_7 q_8 => ⟨rfl, ?_⟩)
            refine zm3081_0 _ hs_7 (by omega) (by omega) (⟨_, rfl, ?_⟩)
            refine zm3081_0 _ hs_7 (by omega) (by omega) (⟨_, rfl, ?_⟩)
            refine zm3105_0 _ _ hs_7 (by omega) (by omega) (by omega) (fun s_9 hs_10 q_11 q_12 => ⟨_, rfl, ?_⟩)
            refine ⟨fun h_13 => ?_, fun h_13 => ?_⟩
            · exfalso; omega
            · refine ⟨fun h_14 => ?_, fun h_14 => ?_⟩
              · exfalso; omega
              · refine ⟨fun h_15 => ?_, fun h_15 => ?_⟩
                · exfalso; omega
                · have w_16 := gz_w (64 * p0)
                  have w_17 := gz_w ((gp_wr (64 * p0)) + 0)
                  refine ⟨by omega, ?_⟩
                  try rw [zr77 hs_10 ((gp_wr ((gp_wr (64 * p0)) + 0)).toNat)]
                  refine s_3153_129 _ _ _ _ _ _ _ _ ?_
                  refine zm3080_0 _ hs_10 (by omega) (⟨_, rfl, ?_⟩)
                  refine s_3153_134 _ _ _ _ _ _ _ _ ?_
                  refine ⟨fun h_18 => ?_, fun h_18 => ?_⟩
                  · refine zm3074_6 hs_10 (by omega) (by omega) (fun s_19 hs_20 q_21 q_22 q_23 => ⟨_, rfl, ?_⟩)
                    exact k s_19 hs_20 (by omega) (by omega) (by omega)
                  · exfalso; omega
set_option maxRecDepth 100000 in
/-- GatheredPointsModel.gameOf [(-2147483648, -1), (-2147483648, 2147483647)] -/
theorem zm3150_0 {z : gH} {L d : Nat} {K : Option gV → gH → Prop} {s : gH} (p0 : Int) (p1 : Int) (hs : zM z s) (h_p0 : (-2147483648) ≤ p0 ∧ p0 ≤ (-1)) (h_p1 : (-2147483648) ≤ p1 ∧ p1 ≤ 2147483647) (q0 : gp_I s 81 20 = 0) (k : ∀ (t : gH), zM z t → ((-2147483648) ≤ gp_I t 75 1 ∧ gp_I t 75 1 ≤ 2147483647) → (gp_I t 81 20 = 0) → K (some (gp_i (-1000000001))) t) : gs_C L (d + 1) 3150 4 [gp_r (some 74), gp_i p0, gp_i p1] s K := by
  refine s_3150_e _ _ ?_
  refine zm3075_0 _ hs (by omega) (⟨_, rfl, ?_⟩)
  refine ⟨fun h_1 => ?_, fun h_1 => ?_⟩
  · refine s_3150_19 _ _ _ ?_
    refine zm3074_4 hs (by omega) (fun s_2 hs_3 q_4 q_5 => ⟨_, rfl, ?_⟩)
    exact k s_2 hs_3 (by omega) (by omega)
  · exfalso; omega
set_option maxRecDepth 100000 in
/-- GatheredPointsModel.gameOf [(8, 2147483647), (-2147483648, 2147483647)] -/
theorem zm3150_1 {z : gH} {L d : Nat} {K : Option gV → gH → Prop} {s : gH} (p0 : Int) (p1 : Int) (hs : zM z s) (h_p0 : 8 ≤ p0 ∧ p0 ≤ 2147483647) (h_p1 : (-2147483648) ≤ p1 ∧ p1 ≤ 2147483647) (q0 : gp_I s 81 20 = 0) (k : ∀ (t : gH), zM z t → ((-2147483648) ≤ gp_I t 75 1 ∧ gp_I t 75 1 ≤ 2147483647) → (gp_I t 81 20 = 0) → K (some (gp_i (-1000000001))) t) : gs_C L (d + 1) 3150 4 [gp_r (some 74), gp_i p0, gp_i p1] s K := by
  refine s_3150_e _ _ ?_
  refine zm3075_1 _ hs (by omega) (⟨_, rfl, ?_⟩)
  refine ⟨fun h_1 => ?_, fun h_1 => ?_⟩
  · refine s_3150_19 _ _ _ ?_
    refine zm3074_4 hs (by omega) (fun s_2 hs_3 q_4 q_5 => ⟨_, rfl, ?_⟩)
    exact k s_2 hs_3 (by omega) (by omega)
  · exfalso; omega
set_option maxRecDepth 100000 in
/-- GatheredPointsModel.isIn [('r', -2147483648, -1), 0, 12] -/
theorem zm3073_13 {z : gH} {L d : Nat} {K : Option gV → gH → Prop} {s : gH} (p0 : BitVec 64) (hs : zM z s) (h_p0 : (-2147483648) ≤ p0.toInt ∧ p0.toInt ≤ (-1))  (k : K (some (gp_i 0)) s) : gs_C L d 3073 6 [gp_l p0, gp_l (0#64), gp_l (12#64)] s K := by
  refine s_3073_e _ _ _ ?_
  have w_1 : (0#64).toInt = 0 := by decide
  have w_2 := gz_cmp p0 (0#64)
  have e_3 : gp_cmp p0 (0#64) = (-1) := by omega
  try rw [e_3]
  refine ⟨fun h_4 => ?_, fun h_4 => ?_⟩
  · refine s_3073_17 _ _ _ ?_
    refine s_3073_18 _ _ _ _ ?_
    refine ⟨by omega, ?_⟩
    exact k
  · exfalso; omega
set_option maxRecDepth 100000 in
/-- GatheredPointsModel.gameOf [(0, 7), (-2147483648, -1)] -/
theorem zm3150_2 {z : gH} {L d : Nat} {K : Option gV → gH → Prop} {s : gH} (p0 : Int) (p1 : Int) (hs : zM z s) (h_p0 : 0 ≤ p0 ∧ p0 ≤ 7) (h_p1 : (-2147483648) ≤ p1 ∧ p1 ≤ (-1)) (q0 : gp_I s 81 20 = 0) (k : ∀ (t : gH), zM z t → ((-2147483648) ≤ gp_I t 75 1 ∧ gp_I t 75 1 ≤ 2147483647) → (gp_I t 81 20 = 0) → K (some (gp_i (-1000000001))) t) : gs_C L (d + 1) 3150 4 [gp_r (some 74), gp_i p0, gp_i p1] s K := by
  refine s_3150_e _ _ ?_
  refine zm3075_2 _ hs (by omega) (⟨_, rfl, ?_⟩)
  refine ⟨fun h_1 => ?_, fun h_1 => ?_⟩
  · exfalso; omega
  · have w_2 := gz_oi (p1) (by omega)
    have e_3 : BitVec.ofInt 64 12 = 12#64 := by decide
    try rw [e_3]
    refine zm3073_13 _ hs (by omega) (⟨_, rfl, ?_⟩)
    refine ⟨fun h_4 => ?_, fun h_4 => ?_⟩
    · refine s_3150_19 _ _ _ ?_
      refine zm3074_4 hs (by omega) (fun s_5 hs_6 q_7 q_8 => ⟨_, rfl, ?_⟩)
      exact k s_5 hs_6 (by omega) (by omega)
    · exfalso; omega
set_option maxRecDepth 100000 in
/-- GatheredPointsModel.isIn [('r', 13, 2147483647), 0, 12] -/
theorem zm3073_14 {z : gH} {L d : Nat} {K : Option gV → gH → Prop} {s : gH} (p0 : BitVec 64) (hs : zM z s) (h_p0 : 13 ≤ p0.toInt ∧ p0.toInt ≤ 2147483647)  (k : K (some (gp_i 0)) s) : gs_C L d 3073 6 [gp_l p0, gp_l (0#64), gp_l (12#64)] s K := by
  refine s_3073_e _ _ _ ?_
  have w_1 : (0#64).toInt = 0 := by decide
  have w_2 := gz_cmp p0 (0#64)
  have e_3 : gp_cmp p0 (0#64) = 1 := by omega
  try rw [e_3]
  refine ⟨fun h_4 => ?_, fun h_4 => ?_⟩
  · exfalso; omega
  · have w_5 : (12#64).toInt = 12 := by decide
    have w_6 := gz_cmp p0 (12#64)
    have e_7 : gp_cmp p0 (12#64) = 1 := by omega
    try rw [e_7]
    refine ⟨fun h_8 => ?_, fun h_8 => ?_⟩
    · refine s_3073_17 _ _ _ ?_
      refine s_3073_18 _ _ _ _ ?_
      refine ⟨by omega, ?_⟩
      exact k
    · exfalso; omega
set_option maxRecDepth 100000 in
/-- GatheredPointsModel.gameOf [(0, 7), (13, 2147483647)] -/
theorem zm3150_3 {z : gH} {L d : Nat} {K : Option gV → gH → Prop} {s : gH} (p0 : Int) (p1 : Int) (hs : zM z s) (h_p0 : 0 ≤ p0 ∧ p0 ≤ 7) (h_p1 : 13 ≤ p1 ∧ p1 ≤ 2147483647) (q0 : gp_I s 81 20 = 0) (k : ∀ (t : gH), zM z t → ((-2147483648) ≤ gp_I t 75 1 ∧ gp_I t 75 1 ≤ 2147483647) → (gp_I t 81 20 = 0) → K (some (gp_i (-1000000001))) t) : gs_C L (d + 1) 3150 4 [gp_r (some 74), gp_i p0, gp_i p1] s K := by
  refine s_3150_e _ _ ?_
  refine zm3075_2 _ hs (by omega) (⟨_, rfl, ?_⟩)
  refine ⟨fun h_1 => ?_, fun h_1 => ?_⟩
  · exfalso; omega
  · have w_2 := gz_oi (p1) (by omega)
    have e_3 : BitVec.ofInt 64 12 = 12#64 := by decide
    try rw [e_3]
    refine zm3073_14 _ hs (by omega) (⟨_, rfl, ?_⟩)
    refine ⟨fun h_4 => ?_, fun h_4 => ?_⟩
    · refine s_3150_19 _ _ _ ?_
      refine zm3074_4 hs (by omega) (fun s_5 hs_6 q_7 q_8 => ⟨_, rfl, ?_⟩)
      exact k s_5 hs_6 (by omega) (by omega)
    · exfalso; omega
set_option maxRecDepth 100000 in
/-- GatheredPointsModel.isIn [0, 0, 12] -/
theorem zm3073_15 {z : gH} {L d : Nat} {K : Option gV → gH → Prop} {s : gH}  (hs : zM z s)   (k : K (some (gp_i 1)) s) : gs_C L d 3073 6 [gp_l (0#64), gp_l (0#64), gp_l (12#64)] s K := by
  refine s_3073_e _ _ _ ?_
  have e_1 : gp_cmp (0#64) (0#64) = 0 := by decide
  try rw [e_1]
  refine ⟨fun h_2 => ?_, fun h_2 => ?_⟩
  · exfalso; omega
  · have e_3 : gp_cmp (0#64) (12#64) = (-1) := by decide
    try rw [e_3]
    refine ⟨fun h_4 => ?_, fun h_4 => ?_⟩
    · exfalso; omega
    · refine s_3073_18 _ _ _ _ ?_
      refine ⟨by omega, ?_⟩
      exact k
set_option maxRecDepth 100000 in
/-- GatheredPointsModel.gameOf [(0, 7), (0, 0)] -/
theorem zm3150_4 {z : gH} {L d : Nat} {K : Option gV → gH → Prop} {s : gH} (p0 : Int) (hs : zM z s) (h_p0 : 0 ≤ p0 ∧ p0 ≤ 7) (q0 : gp_I s 81 20 = 0) (k : K (some (gp_i 1)) s) : gs_C L (d + 1) 3150 4 [gp_r (some 74), gp_i p0, gp_i 0] s K := by
  refine s_3150_e _ _ ?_
  refine zm3075_2 _ hs (by omega) (⟨_, rfl, ?_⟩)
  refine ⟨fun h_1 => ?_, fun h_1 => ?_⟩
  · exfalso; omega
  · have e_2 : BitVec.ofInt 64 0 = 0#64 := by decide
    try rw [e_2]
    have e_3 : BitVec.ofInt 64 12 = 12#64 := by decide
    try rw [e_3]
    refine zm3073_15 hs (⟨_, rfl, ?_⟩)
    refine ⟨fun h_4 => ?_, fun h_4 => ?_⟩
    · exfalso; omega
    · refine zm3081_0 _ hs (by omega) (by omega) (⟨_, rfl, ?_⟩)
      refine ⟨fun h_5 => ?_, fun h_5 => ?_, fun h_5 => ?_, fun h_5 => ?_, fun h_5 => ?_, fun h_5 => ?_, fun h_5 => ?_, fun h_5 => ?_, fun h_5 => ?_, fun h_5 => ?_, fun h_5 => ?_, fun h_5 => ?_, fun h_5 => ?_, fun h_5 => ?_⟩
      · refine ⟨by omega, ?_⟩
        have f_6 := zr81 hs p0.toNat
        have e_7 : gp_I s 81 p0.toNat = 1 := by omega
        try rw [e_7]
        exact k
      · exfalso; omega
      · exfalso; omega
      · exfalso; omega
      · exfalso; omega
      · exfalso; omega
      · exfalso; omega
      · exfalso; omega
      · exfalso; omega
      · exfalso; omega
      · exfalso; omega
      · exfalso; omega
      · exfalso; omega
      · exfalso; omega
set_option maxRecDepth 100000 in
/-- GatheredPointsModel.isIn [1, 0, 12] -/
theorem zm3073_16 {z : gH} {L d : Nat} {K : Option gV → gH → Prop} {s : gH}  (hs : zM z s)   (k : K (some (gp_i 1)) s) : gs_C L d 3073 6 [gp_l (1#64), gp_l (0#64), gp_l (12#64)] s K := by
  refine s_3073_e _ _ _ ?_
  have e_1 : gp_cmp (1#64) (0#64) = 1 := by decide
  try rw [e_1]
  refine ⟨fun h_2 => ?_, fun h_2 => ?_⟩
  · exfalso; omega
  · have e_3 : gp_cmp (1#64) (12#64) = (-1) := by decide
    try rw [e_3]
    refine ⟨fun h_4 => ?_, fun h_4 => ?_⟩
    · exfalso; omega
    · refine s_3073_18 _ _ _ _ ?_
      refine ⟨by omega, ?_⟩
      exact k
set_option maxRecDepth 100000 in
/-- GatheredPointsModel.gameOf [(0, 7), (1, 1)] -/
theorem zm3150_5 {z : gH} {L d : Nat} {K : Option gV → gH → Prop} {s : gH} (p0 : Int) (hs : zM z s) (h_p0 : 0 ≤ p0 ∧ p0 ≤ 7) (q0 : gp_I s 81 20 = 0) (k : K (some (gp_i 0)) s) : gs_C L (d + 1) 3150 4 [gp_r (some 74), gp_i p0, gp_i 1] s K := by
  refine s_3150_e _ _ ?_
  refine zm3075_2 _ hs (by omega) (⟨_, rfl, ?_⟩)
  refine ⟨fun h_1 => ?_, fun h_1 => ?_⟩
  · exfalso; omega
  · have e_2 : BitVec.ofInt 64 1 = 1#64 := by decide
    try rw [e_2]
    have e_3 : BitVec.ofInt 64 12 = 12#64 := by decide
    try rw [e_3]
    refine zm3073_16 hs (⟨_, rfl, ?_⟩)
    refine ⟨fun h_4 => ?_, fun h_4 => ?_⟩
    · exfalso; omega
    · refine zm3081_0 _ hs (by omega) (by omega) (⟨_, rfl, ?_⟩)
      refine ⟨fun h_5 => ?_, fun h_5 => ?_, fun h_5 => ?_, fun h_5 => ?_, fun h_5 => ?_, fun h_5 => ?_, fun h_5 => ?_, fun h_5 => ?_, fun h_5 => ?_, fun h_5 => ?_, fun h_5 => ?_, fun h_5 => ?_, fun h_5 => ?_, fun h_5 => ?_⟩
      · exfalso; omega
      · have w_6 := gz_w (64 * p0)
        have w_7 := gz_w ((gp_wr (64 * p0)) + 0)
        refine ⟨by omega, ?_⟩
        have f_8 := zr80 hs ((gp_wr ((gp_wr (64 * p0)) + 0)).toNat)
        have e_9 : gp_I s 80 (gp_wr ((gp_wr (64 * p0)) + 0)).toNat = 0 := by omega
        try rw [e_9]
        exact k
      · exfalso; omega
      · exfalso; omega
      · exfalso; omega
      · exfalso; omega
      · exfalso; omega
      · exfalso; omega
      · exfalso; omega
      · exfalso; omega
      · exfalso; omega
      · exfalso; omega
      · exfalso; omega
      · exfalso; omega
set_option maxRecDepth 100000 in
/-- GatheredPointsModel.isIn [2, 0, 12] -/
theorem zm3073_17 {z : gH} {L d : Nat} {K : Option gV → gH → Prop} {s : gH}  (hs : zM z s)   (k : K (some (gp_i 1)) s) : gs_C L d 3073 6 [gp_l (2#64), gp_l (0#64), gp_l (12#64)] s K := by
  refine s_3073_e _ _ _ ?_
  have e_1 : gp_cmp (2#64) (0#64) = 1 := by decide
  try rw [e_1]
  refine ⟨fun h_2 => ?_, fun h_2 => ?_⟩
  · exfalso; omega
  · have e_3 : gp_cmp (2#64) (12#64) = (-1) := by decide
    try rw [e_3]
    refine ⟨fun h_4 => ?_, fun h_4 => ?_⟩
    · exfalso; omega
    · refine s_3073_18 _ _ _ _ ?_
      refine ⟨by omega, ?_⟩
      exact k
set_option maxRecDepth 100000 in
/-- GatheredPointsModel.gameOf [(0, 7), (2, 2)] -/
theorem zm3150_6 {z : gH} {L d : Nat} {K : Option gV → gH → Prop} {s : gH} (p0 : Int) (hs : zM z s) (h_p0 : 0 ≤ p0 ∧ p0 ≤ 7) (q0 : gp_I s 81 20 = 0) (k : K (some (gp_i 0)) s) : gs_C L (d + 2) 3150 4 [gp_r (some 74), gp_i p0, gp_i 2] s K := by
  refine s_3150_e _ _ ?_
  refine zm3075_2 _ hs (by omega) (⟨_, rfl, ?_⟩)
  refine ⟨fun h_1 => ?_, fun h_1 => ?_⟩
  · exfalso; omega
  · have e_2 : BitVec.ofInt 64 2 = 2#64 := by decide
    try rw [e_2]
    have e_3 : BitVec.ofInt 64 12 = 12#64 := by decide
    try rw [e_3]
    refine zm3073_17 hs (⟨_, rfl, ?_⟩)
    refine ⟨fun h_4 => ?_, fun h_4 => ?_⟩
    · exfalso; omega
    · refine zm3081_0 _ hs (by omega) (by omega) (⟨_, rfl, ?_⟩)
      refine ⟨fun h_5 => ?_, fun h_5 => ?_, fun h_5 => ?_, fun h_5 => ?_, fun h_5 => ?_, fun h_5 => ?_, fun h_5 => ?_, fun h_5 => ?_, fun h_5 => ?_, fun h_5 => ?_, fun h_5 => ?_, fun h_5 => ?_, fun h_5 => ?_, fun h_5 => ?_⟩
      · exfalso; omega
      · exfalso; omega
      · have w_6 := gz_w (2 - 2)
        have e_7 : gp_wr (2 - 2) = 0 := by omega
        try rw [e_7]
        refine zm3082_0 _ hs (by omega) (⟨_, rfl, ?_⟩)
        refine zm3079_1 hs (⟨_, rfl, ?_⟩)
        exact k
      · exfalso; omega
      · exfalso; omega
      · exfalso; omega
      · exfalso; omega
      · exfalso; omega
      · exfalso; omega
      · exfalso; omega
      · exfalso; omega
      · exfalso; omega
      · exfalso; omega
      · exfalso; omega
set_option maxRecDepth 100000 in
/-- GatheredPointsModel.isIn [3, 0, 12] -/
theorem zm3073_18 {z : gH} {L d : Nat} {K : Option gV → gH → Prop} {s : gH}  (hs : zM z s)   (k : K (some (gp_i 1)) s) : gs_C L d 3073 6 [gp_l (3#64), gp_l (0#64), gp_l (12#64)] s K := by
  refine s_3073_e _ _ _ ?_
  have e_1 : gp_cmp (3#64) (0#64) = 1 := by decide
  try rw [e_1]
  refine ⟨fun h_2 => ?_, fun h_2 => ?_⟩
  · exfalso; omega
  · have e_3 : gp_cmp (3#64) (12#64) = (-1) := by decide
    try rw [e_3]
    refine ⟨fun h_4 => ?_, fun h_4 => ?_⟩
    · exfalso; omega
    · refine s_3073_18 _ _ _ _ ?_
      refine ⟨by omega, ?_⟩
      exact k
set_option maxRecDepth 100000 in
/-- GatheredPointsModel.gameOf [(0, 7), (3, 3)] -/
theorem zm3150_7 {z : gH} {L d : Nat} {K : Option gV → gH → Prop} {s : gH} (p0 : Int) (hs : zM z s) (h_p0 : 0 ≤ p0 ∧ p0 ≤ 7) (q0 : gp_I s 81 20 = 0) (k : K (some (gp_i 0)) s) : gs_C L (d + 2) 3150 4 [gp_r (some 74), gp_i p0, gp_i 3] s K := by
  refine s_3150_e _ _ ?_
  refine zm3075_2 _ hs (by omega) (⟨_, rfl, ?_⟩)
  refine ⟨fun h_1 => ?_, fun h_1 => ?_⟩
  · exfalso; omega
  · have e_2 : BitVec.ofInt 64 3 = 3#64 := by decide
    try rw [e_2]
    have e_3 : BitVec.ofInt 64 12 = 12#64 := by decide
    try rw [e_3]
    refine zm3073_18 hs (⟨_, rfl, ?_⟩)
    refine ⟨fun h_4 => ?_, fun h_4 => ?_⟩
    · exfalso; omega
    · refine zm3081_0 _ hs (by omega) (by omega) (⟨_, rfl, ?_⟩)
      refine ⟨fun h_5 => ?_, fun h_5 => ?_, fun h_5 => ?_, fun h_5 => ?_, fun h_5 => ?_, fun h_5 => ?_, fun h_5 => ?_, fun h_5 => ?_, fun h_5 => ?_, fun h_5 => ?_, fun h_5 => ?_, fun h_5 => ?_, fun h_5 => ?_, fun h_5 => ?_⟩
      · exfalso; omega
      · exfalso; omega
      · exfalso; omega
      · have w_6 := gz_w (3 - 2)
        have e_7 : gp_wr (3 - 2) = 1 := by omega
        try rw [e_7]
        refine zm3082_1 _ hs (by omega) (⟨_, rfl, ?_⟩)
        refine zm3079_1 hs (⟨_, rfl, ?_⟩)
        exact k
      · exfalso; omega
      · exfalso; omega
      · exfalso; omega
      · exfalso; omega
      · exfalso; omega
      · exfalso; omega
      · exfalso; omega
      · exfalso; omega
      · exfalso; omega
      · exfalso; omega
set_option maxRecDepth 100000 in
/-- GatheredPointsModel.isIn [4, 0, 12] -/
theorem zm3073_19 {z : gH} {L d : Nat} {K : Option gV → gH → Prop} {s : gH}  (hs : zM z s)   (k : K (some (gp_i 1)) s) : gs_C L d 3073 6 [gp_l (4#64), gp_l (0#64), gp_l (12#64)] s K := by
  refine s_3073_e _ _ _ ?_
  have e_1 : gp_cmp (4#64) (0#64) = 1 := by decide
  try rw [e_1]
  refine ⟨fun h_2 => ?_, fun h_2 => ?_⟩
  · exfalso; omega
  · have e_3 : gp_cmp (4#64) (12#64) = (-1) := by decide
    try rw [e_3]
    refine ⟨fun h_4 => ?_, fun h_4 => ?_⟩
    · exfalso; omega
    · refine s_3073_18 _ _ _ _ ?_
      refine ⟨by omega, ?_⟩
      exact k
set_option maxRecDepth 100000 in
/-- GatheredPointsModel.gameOf [(0, 7), (4, 4)] -/
theorem zm3150_8 {z : gH} {L d : Nat} {K : Option gV → gH → Prop} {s : gH} (p0 : Int) (hs : zM z s) (h_p0 : 0 ≤ p0 ∧ p0 ≤ 7) (q0 : gp_I s 81 20 = 0) (k : K (some (gp_i 0)) s) : gs_C L (d + 1) 3150 4 [gp_r (some 74), gp_i p0, gp_i 4] s K := by
  refine s_3150_e _ _ ?_
  refine zm3075_2 _ hs (by omega) (⟨_, rfl, ?_⟩)
  refine ⟨fun h_1 => ?_, fun h_1 => ?_⟩
  · exfalso; omega
  · have e_2 : BitVec.ofInt 64 4 = 4#64 := by decide
    try rw [e_2]
    have e_3 : BitVec.ofInt 64 12 = 12#64 := by decide
    try rw [e_3]
    refine zm3073_19 hs (⟨_, rfl, ?_⟩)
    refine ⟨fun h_4 => ?_, fun h_4 => ?_⟩
    · exfalso; omega
    · refine zm3081_0 _ hs (by omega) (by omega) (⟨_, rfl, ?_⟩)
      refine ⟨fun h_5 => ?_, fun h_5 => ?_, fun h_5 => ?_, fun h_5 => ?_, fun h_5 => ?_, fun h_5 => ?_, fun h_5 => ?_, fun h_5 => ?_, fun h_5 => ?_, fun h_5 => ?_, fun h_5 => ?_, fun h_5 => ?_, fun h_5 => ?_, fun h_5 => ?_⟩
      · exfalso; omega
      · exfalso; omega
      · exfalso; omega
      · exfalso; omega
      · have w_6 := gz_w (4 - 4)
        have e_7 : gp_wr (4 - 4) = 0 := by omega
        try rw [e_7]
        refine zm3082_0 _ hs (by omega) (⟨_, rfl, ?_⟩)
        have e_8 : gp_cmp (0#64) (0#64) = 0 := by decide
        try rw [e_8]
        refine ⟨fun h_9 => ?_, fun h_9 => ?_⟩
        · have w_10 := gz_w (4 - 4)
          have e_11 : gp_wr (4 - 4) = 0 := by omega
          try rw [e_11]
          refine zm3083_0 _ hs (by omega) (⟨_, rfl, ?_⟩)
          refine s_3150_163 _ _ _ _ ?_
          exact k
        · exfalso; omega
      · exfalso; omega
      · exfalso; omega
      · exfalso; omega
      · exfalso; omega
      · exfalso; omega
      · exfalso; omega
      · exfalso; omega
      · exfalso; omega
      · exfalso; omega
set_option maxRecDepth 100000 in
/-- GatheredPointsModel.isIn [5, 0, 12] -/
theorem zm3073_20 {z : gH} {L d : Nat} {K : Option gV → gH → Prop} {s : gH}  (hs : zM z s)   (k : K (some (gp_i 1)) s) : gs_C L d 3073 6 [gp_l (5#64), gp_l (0#64), gp_l (12#64)] s K := by
  refine s_3073_e _ _ _ ?_
  have e_1 : gp_cmp (5#64) (0#64) = 1 := by decide
  try rw [e_1]
  refine ⟨fun h_2 => ?_, fun h_2 => ?_⟩
  · exfalso; omega
  · have e_3 : gp_cmp (5#64) (12#64) = (-1) := by decide
    try rw [e_3]
    refine ⟨fun h_4 => ?_, fun h_4 => ?_⟩
    · exfalso; omega
    · refine s_3073_18 _ _ _ _ ?_
      refine ⟨by omega, ?_⟩
      exact k
set_option maxRecDepth 100000 in
/-- GatheredPointsModel.gameOf [(0, 7), (5, 5)] -/
theorem zm3150_9 {z : gH} {L d : Nat} {K : Option gV → gH → Prop} {s : gH} (p0 : Int) (hs : zM z s) (h_p0 : 0 ≤ p0 ∧ p0 ≤ 7) (q0 : gp_I s 81 20 = 0) (k : K (some (gp_i 0)) s) : gs_C L (d + 1) 3150 4 [gp_r (some 74), gp_i p0, gp_i 5] s K := by
  refine s_3150_e _ _ ?_
  refine zm3075_2 _ hs (by omega) (⟨_, rfl, ?_⟩)
  refine ⟨fun h_1 => ?_, fun h_1 => ?_⟩
  · exfalso; omega
  · have e_2 : BitVec.ofInt 64 5 = 5#64 := by decide
    try rw [e_2]
    have e_3 : BitVec.ofInt 64 12 = 12#64 := by decide
    try rw [e_3]
    refine zm3073_20 hs (⟨_, rfl, ?_⟩)
    refine ⟨fun h_4 => ?_, fun h_4 => ?_⟩
    · exfalso; omega
    · refine zm3081_0 _ hs (by omega) (by omega) (⟨_, rfl, ?_⟩)
      refine ⟨fun h_5 => ?_, fun h_5 => ?_, fun h_5 => ?_, fun h_5 => ?_, fun h_5 => ?_, fun h_5 => ?_, fun h_5 => ?_, fun h_5 => ?_, fun h_5 => ?_, fun h_5 => ?_, fun h_5 => ?_, fun h_5 => ?_, fun h_5 => ?_, fun h_5 => ?_⟩
      · exfalso; omega
      · exfalso; omega
      · exfalso; omega
      · exfalso; omega
      · exfalso; omega
      · have w_6 := gz_w (5 - 4)
        have e_7 : gp_wr (5 - 4) = 1 := by omega
        try rw [e_7]
        refine zm3082_1 _ hs (by omega) (⟨_, rfl, ?_⟩)
        have e_8 : gp_cmp (0#64) (0#64) = 0 := by decide
        try rw [e_8]
        refine ⟨fun h_9 => ?_, fun h_9 => ?_⟩
        · have w_10 := gz_w (5 - 4)
          have e_11 : gp_wr (5 - 4) = 1 := by omega
          try rw [e_11]
          refine zm3083_1 _ hs (by omega) (⟨_, rfl, ?_⟩)
          refine s_3150_163 _ _ _ _ ?_
          exact k
        · exfalso; omega
      · exfalso; omega
      · exfalso; omega
      · exfalso; omega
      · exfalso; omega
      · exfalso; omega
      · exfalso; omega
      · exfalso; omega
      · exfalso; omega
set_option maxRecDepth 100000 in
/-- GatheredPointsModel.isIn [6, 0, 12] -/
theorem zm3073_21 {z : gH} {L d : Nat} {K : Option gV → gH → Prop} {s : gH}  (hs : zM z s)   (k : K (some (gp_i 1)) s) : gs_C L d 3073 6 [gp_l (6#64), gp_l (0#64), gp_l (12#64)] s K := by
  refine s_3073_e _ _ _ ?_
  have e_1 : gp_cmp (6#64) (0#64) = 1 := by decide
  try rw [e_1]
  refine ⟨fun h_2 => ?_, fun h_2 => ?_⟩
  · exfalso; omega
  · have e_3 : gp_cmp (6#64) (12#64) = (-1) := by decide
    try rw [e_3]
    refine ⟨fun h_4 => ?_, fun h_4 => ?_⟩
    · exfalso; omega
    · refine s_3073_18 _ _ _ _ ?_
      refine ⟨by omega, ?_⟩
      exact k
set_option maxRecDepth 100000 in
/-- GatheredPointsModel.best [(0, 7), (0, 0), 91, (1, 1), (0, 0)] -/
theorem zm3097_12 {z : gH} {L d : Nat} {K : Option gV → gH → Prop} {s : gH} (p0 : Int) (hs : zM z s) (h_p0 : 0 ≤ p0 ∧ p0 ≤ 7)  (k : K (some (gp_i 0)) s) : gs_C L (d + 1) 3097 9 [gp_r (some 74), gp_i p0, gp_i 0, gp_r (some 91), gp_i 1, gp_i 0] s K := by
  refine s_3097_e _ _ _ _ _ ?_
  have w_1 := gz_w (64 * p0)
  have w_2 := gz_w ((gp_wr (64 * p0)) + 0)
  refine ⟨by omega, ?_⟩
  try rw [zr76 hs ((gp_wr ((gp_wr (64 * p0)) + 0)).toNat)]
  have e_3 : gp_cmp (0#64) (0#64) = 0 := by decide
  try rw [e_3]
  refine ⟨fun h_4 => ?_, fun h_4 => ?_⟩
  · refine ⟨by omega, ?_⟩
    have f_5 := zr78 hs ((gp_wr ((gp_wr (64 * p0)) + 0)).toNat)
    have e_6 : gp_I s 78 (gp_wr ((gp_wr (64 * p0)) + 0)).toNat = 0 := by omega
    try rw [e_6]
    refine s_3097_32 _ _ _ _ _ _ _ _ _ ?_
    refine s_3097_37 _ _ _ _ _ _ _ _ ?_
    refine ⟨fun h_9 => ?_, fun h_9 => ?_⟩
    · exfalso; omega
    · exact k
  · exfalso; omega
set_option maxRecDepth 100000 in
/-- GatheredPointsModel.worst [(0, 7), (0, 0), 90, (1, 1), (0, 0)] -/
theorem zm3098_12 {z : gH} {L d : Nat} {K : Option gV → gH → Prop} {s : gH} (p0 : Int) (hs : zM z s) (h_p0 : 0 ≤ p0 ∧ p0 ≤ 7)  (k : K (some (gp_i 0)) s) : gs_C L (d + 1) 3098 9 [gp_r (some 74), gp_i p0, gp_i 0, gp_r (some 90), gp_i 1, gp_i 0] s K := by
  refine s_3098_e _ _ _ _ _ ?_
  have w_1 := gz_w (64 * p0)
  have w_2 := gz_w ((gp_wr (64 * p0)) + 0)
  refine ⟨by omega, ?_⟩
  try rw [zr77 hs ((gp_wr ((gp_wr (64 * p0)) + 0)).toNat)]
  have e_3 : gp_cmp (0#64) (0#64) = 0 := by decide
  try rw [e_3]
  refine ⟨fun h_4 => ?_, fun h_4 => ?_⟩
  · refine ⟨by omega, ?_⟩
    have f_5 := zr79 hs ((gp_wr ((gp_wr (64 * p0)) + 0)).toNat)
    have e_6 : gp_I s 79 (gp_wr ((gp_wr (64 * p0)) + 0)).toNat = 0 := by omega
    try rw [e_6]
    refine s_3098_32 _ _ _ _ _ _ _ _ _ ?_
    refine s_3098_37 _ _ _ _ _ _ _ _ ?_
    refine ⟨fun h_9 => ?_, fun h_9 => ?_⟩
    · exfalso; omega
    · exact k
  · exfalso; omega
set_option maxRecDepth 100000 in
/-- GatheredPointsModel.scores [(0, 7)] -/
theorem zm3099_0 {z : gH} {L d : Nat} {K : Option gV → gH → Prop} {s : gH} (p0 : Int) (hs : zM z s) (h_p0 : 0 ≤ p0 ∧ p0 ≤ 7) (q0 : gp_I s 81 20 = 0) (k : ∀ (t : gH), zM z t → (gp_I t 81 20 = 0) → K none t) : gs_C L (d + 2) 3099 3 [gp_r (some 74), gp_i p0] s K := by
  refine s_3099_e _ ?_
  refine s_3099_2 _ _ ?_
  refine ⟨by omega, ?_⟩
  have f_1 := zr81 hs p0.toNat
  have e_2 : gp_I s 81 p0.toNat = 1 := by omega
  try rw [e_2]
  refine ⟨fun h_3 => ?_, fun h_3 => ?_⟩
  · refine zm3097_12 _ hs (by omega) (⟨_, rfl, ?_⟩)
    refine ⟨by omega, ?_⟩
    intro s_4 e_5
    have hs_6 : zM z s_4 := by rw [e_5]; exact zw90 hs _ _ (by omega)
    have q_7 : gp_I s_4 81 20 = 0 := by rw [e_5]; exact q0
    refine zm3098_12 _ hs_6 (by omega) (⟨_, rfl, ?_⟩)
    refine ⟨by omega, ?_⟩
    intro s_8 e_9
    have hs_10 : zM z s_8 := by rw [e_9]; exact zw91 hs_6 _ _ (by omega)
    have q_11 : gp_I s_8 81 20 = 0 := by rw [e_9]; exact q_7
    have w_12 := gz_w (0 + 1)
    have e_13 : gp_wr (0 + 1) = 1 := by omega
    try rw [e_13]
    refine s_3099_2 _ _ ?_
    refine ⟨by omega, ?_⟩
    have f_14 := zr81 hs_10 p0.toNat
    have e_15 : gp_I s_8 81 p0.toNat = 1 := by omega
    try rw [e_15]
    refine ⟨fun h_16 => ?_, fun h_16 => ?_⟩
    · exfalso; omega
    · exact k s_8 hs_10 (by omega)
  · exfalso; omega
set_option maxRecDepth 100000 in
/-- GatheredPointsModel.gameOf [(0, 7), (6, 6)] -/
theorem zm3150_10 {z : gH} {L d : Nat} {K : Option gV → gH → Prop} {s : gH} (p0 : Int) (hs : zM z s) (h_p0 : 0 ≤ p0 ∧ p0 ≤ 7) (q0 : gp_I s 81 20 = 0) (k : ∀ (t : gH), zM z t → (gp_I t 81 20 = 0) → K (some (gp_i 0)) t) : gs_C L (d + 3) 3150 4 [gp_r (some 74), gp_i p0, gp_i 6] s K := by
  refine s_3150_e _ _ ?_
  refine zm3075_2 _ hs (by omega) (⟨_, rfl, ?_⟩)
  refine ⟨fun h_1 => ?_, fun h_1 => ?_⟩
  · exfalso; omega
  · have e_2 : BitVec.ofInt 64 6 = 6#64 := by decide
    try rw [e_2]
    have e_3 : BitVec.ofInt 64 12 = 12#64 := by decide
    try rw [e_3]
    refine zm3073_21 hs (⟨_, rfl, ?_⟩)
    refine ⟨fun h_4 => ?_, fun h_4 => ?_⟩
    · exfalso; omega
    · refine zm3081_0 _ hs (by omega) (by omega) (⟨_, rfl, ?_⟩)
      refine ⟨fun h_5 => ?_, fun h_5 => ?_, fun h_5 => ?_, fun h_5 => ?_, fun h_5 => ?_, fun h_5 => ?_, fun h_5 => ?_, fun h_5 => ?_, fun h_5 => ?_, fun h_5 => ?_, fun h_5 => ?_, fun h_5 => ?_, fun h_5 => ?_, fun h_5 => ?_⟩
      · exfalso; omega
      · exfalso; omega
      · exfalso; omega
      · exfalso; omega
      · exfalso; omega
      · exfalso; omega
      · refine zm3099_0 _ hs (by omega) (by omega) (fun s_6 hs_7 q_8 => ⟨rfl, ?_⟩)
        refine ⟨fun h_9 => ?_, fun h_9 => ?_⟩
        · refine ⟨by omega, ?_⟩
          have f_10 := zr90 hs_7 ((0 : Int).toNat)
          have e_11 : gp_I s_6 90 (0 : Int).toNat = 0 := by omega
          try rw [e_11]
          refine s_3150_190 _ _ _ _ ?_
          exact k s_6 hs_7 (by omega)
        · exfalso; omega
      · exfalso; omega
      · exfalso; omega
      · exfalso; omega
      · exfalso; omega
      · exfalso; omega
      · exfalso; omega
      · exfalso; omega
set_option maxRecDepth 100000 in
/-- GatheredPointsModel.isIn [7, 0, 12] -/
theorem zm3073_22 {z : gH} {L d : Nat} {K : Option gV → gH → Prop} {s : gH}  (hs : zM z s)   (k : K (some (gp_i 1)) s) : gs_C L d 3073 6 [gp_l (7#64), gp_l (0#64), gp_l (12#64)] s K := by
  refine s_3073_e _ _ _ ?_
  have e_1 : gp_cmp (7#64) (0#64) = 1 := by decide
  try rw [e_1]
  refine ⟨fun h_2 => ?_, fun h_2 => ?_⟩
  · exfalso; omega
  · have e_3 : gp_cmp (7#64) (12#64) = (-1) := by decide
    try rw [e_3]
    refine ⟨fun h_4 => ?_, fun h_4 => ?_⟩
    · exfalso; omega
    · refine s_3073_18 _ _ _ _ ?_
      refine ⟨by omega, ?_⟩
      exact k
set_option maxRecDepth 100000 in
/-- GatheredPointsModel.gameOf [(0, 7), (7, 7)] -/
theorem zm3150_11 {z : gH} {L d : Nat} {K : Option gV → gH → Prop} {s : gH} (p0 : Int) (hs : zM z s) (h_p0 : 0 ≤ p0 ∧ p0 ≤ 7) (q0 : gp_I s 81 20 = 0) (k : ∀ (t : gH), zM z t → (gp_I t 81 20 = 0) → K (some (gp_i 0)) t) : gs_C L (d + 3) 3150 4 [gp_r (some 74), gp_i p0, gp_i 7] s K := by
  refine s_3150_e _ _ ?_
  refine zm3075_2 _ hs (by omega) (⟨_, rfl, ?_⟩)
  refine ⟨fun h_1 => ?_, fun h_1 => ?_⟩
  · exfalso; omega
  · have e_2 : BitVec.ofInt 64 7 = 7#64 := by decide
    try rw [e_2]
    have e_3 : BitVec.ofInt 64 12 = 12#64 := by decide
    try rw [e_3]
    refine zm3073_22 hs (⟨_, rfl, ?_⟩)
    refine ⟨fun h_4 => ?_, fun h_4 => ?_⟩
    · exfalso; omega
    · refine zm3081_0 _ hs (by omega) (by omega) (⟨_, rfl, ?_⟩)
      refine ⟨fun h_5 => ?_, fun h_5 => ?_, fun h_5 => ?_, fun h_5 => ?_, fun h_5 => ?_, fun h_5 => ?_, fun h_5 => ?_, fun h_5 => ?_, fun h_5 => ?_, fun h_5 => ?_, fun h_5 => ?_, fun h_5 => ?_, fun h_5 => ?_, fun h_5 => ?_⟩
      · exfalso; omega
      · exfalso; omega
      · exfalso; omega
      · exfalso; omega
      · exfalso; omega
      · exfalso; omega
      · exfalso; omega
      · refine zm3099_0 _ hs (by omega) (by omega) (fun s_6 hs_7 q_8 => ⟨rfl, ?_⟩)
        refine ⟨fun h_9 => ?_, fun h_9 => ?_⟩
        · exfalso; omega
        · refine ⟨by omega, ?_⟩
          have f_10 := zr91 hs_7 ((0 : Int).toNat)
          have e_11 : gp_I s_6 91 (0 : Int).toNat = 0 := by omega
          try rw [e_11]
          refine s_3150_190 _ _ _ _ ?_
          exact k s_6 hs_7 (by omega)
      · exfalso; omega
      · exfalso; omega
      · exfalso; omega
      · exfalso; omega
      · exfalso; omega
      · exfalso; omega
set_option maxRecDepth 100000 in
/-- GatheredPointsModel.isIn [8, 0, 12] -/
theorem zm3073_23 {z : gH} {L d : Nat} {K : Option gV → gH → Prop} {s : gH}  (hs : zM z s)   (k : K (some (gp_i 1)) s) : gs_C L d 3073 6 [gp_l (8#64), gp_l (0#64), gp_l (12#64)] s K := by
  refine s_3073_e _ _ _ ?_
  have e_1 : gp_cmp (8#64) (0#64) = 1 := by decide
  try rw [e_1]
  refine ⟨fun h_2 => ?_, fun h_2 => ?_⟩
  · exfalso; omega
  · have e_3 : gp_cmp (8#64) (12#64) = (-1) := by decide
    try rw [e_3]
    refine ⟨fun h_4 => ?_, fun h_4 => ?_⟩
    · exfalso; omega
    · refine s_3073_18 _ _ _ _ ?_
      refine ⟨by omega, ?_⟩
      exact k
set_option maxRecDepth 100000 in
/-- GatheredPointsModel.gameOf [(0, 7), (8, 8)] -/
theorem zm3150_12 {z : gH} {L d : Nat} {K : Option gV → gH → Prop} {s : gH} (p0 : Int) (hs : zM z s) (h_p0 : 0 ≤ p0 ∧ p0 ≤ 7) (q0 : gp_I s 81 20 = 0) (k : ∀ (t : gH), zM z t → (gp_I t 81 20 = 0) → K (some (gp_i 0)) t) : gs_C L (d + 4) 3150 4 [gp_r (some 74), gp_i p0, gp_i 8] s K := by
  refine s_3150_e _ _ ?_
  refine zm3075_2 _ hs (by omega) (⟨_, rfl, ?_⟩)
  refine ⟨fun h_1 => ?_, fun h_1 => ?_⟩
  · exfalso; omega
  · have e_2 : BitVec.ofInt 64 8 = 8#64 := by decide
    try rw [e_2]
    have e_3 : BitVec.ofInt 64 12 = 12#64 := by decide
    try rw [e_3]
    refine zm3073_23 hs (⟨_, rfl, ?_⟩)
    refine ⟨fun h_4 => ?_, fun h_4 => ?_⟩
    · exfalso; omega
    · refine zm3081_0 _ hs (by omega) (by omega) (⟨_, rfl, ?_⟩)
      refine ⟨fun h_5 => ?_, fun h_5 => ?_, fun h_5 => ?_, fun h_5 => ?_, fun h_5 => ?_, fun h_5 => ?_, fun h_5 => ?_, fun h_5 => ?_, fun h_5 => ?_, fun h_5 => ?_, fun h_5 => ?_, fun h_5 => ?_, fun h_5 => ?_, fun h_5 => ?_⟩
      · exfalso; omega
      · exfalso; omega
      · exfalso; omega
      · exfalso; omega
      · exfalso; omega
      · exfalso; omega
      · exfalso; omega
      · exfalso; omega
      · refine zm3101_0 _ hs (by omega) (by omega) (fun s_6 hs_7 q_8 => ⟨rfl, ?_⟩)
        refine ⟨fun h_9 => ?_, fun h_9 => ?_⟩
        · refine ⟨by omega, ?_⟩
          have f_10 := zr92 hs_7 ((0 : Int).toNat)
          have e_11 : gp_I s_6 92 (0 : Int).toNat = 0 := by omega
          try rw [e_11]
          refine s_3150_249 _ _ _ _ ?_
          exact k s_6 hs_7 (by omega)
        · exfalso; omega
      · exfalso; omega
      · exfalso; omega
      · exfalso; omega
      · exfalso; omega
      · exfalso; omega
set_option maxRecDepth 100000 in
/-- GatheredPointsModel.isIn [9, 0, 12] -/
theorem zm3073_24 {z : gH} {L d : Nat} {K : Option gV → gH → Prop} {s : gH}  (hs : zM z s)   (k : K (some (gp_i 1)) s) : gs_C L d 3073 6 [gp_l (9#64), gp_l (0#64), gp_l (12#64)] s K := by
  refine s_3073_e _ _ _ ?_
  have e_1 : gp_cmp (9#64) (0#64) = 1 := by decide
  try rw [e_1]
  refine ⟨fun h_2 => ?_, fun h_2 => ?_⟩
  · exfalso; omega
  · have e_3 : gp_cmp (9#64) (12#64) = (-1) := by decide
    try rw [e_3]
    refine ⟨fun h_4 => ?_, fun h_4 => ?_⟩
    · exfalso; omega
    · refine s_3073_18 _ _ _ _ ?_
      refine ⟨by omega, ?_⟩
      exact k
set_option maxRecDepth 100000 in
/-- GatheredPointsModel.gameOf [(0, 7), (9, 9)] -/
theorem zm3150_13 {z : gH} {L d : Nat} {K : Option gV → gH → Prop} {s : gH} (p0 : Int) (hs : zM z s) (h_p0 : 0 ≤ p0 ∧ p0 ≤ 7) (q0 : gp_I s 81 20 = 0) (k : ∀ (t : gH), zM z t → (gp_I t 81 20 = 0) → K (some (gp_i 0)) t) : gs_C L (d + 4) 3150 4 [gp_r (some 74), gp_i p0, gp_i 9] s K := by
  refine s_3150_e _ _ ?_
  refine zm3075_2 _ hs (by omega) (⟨_, rfl, ?_⟩)
  refine ⟨fun h_1 => ?_, fun h_1 => ?_⟩
  · exfalso; omega
  · have e_2 : BitVec.ofInt 64 9 = 9#64 := by decide
    try rw [e_2]
    have e_3 : BitVec.ofInt 64 12 = 12#64 := by decide
    try rw [e_3]
    refine zm3073_24 hs (⟨_, rfl, ?_⟩)
    refine ⟨fun h_4 => ?_, fun h_4 => ?_⟩
    · exfalso; omega
    · refine zm3081_0 _ hs (by omega) (by omega) (⟨_, rfl, ?_⟩)
      refine ⟨fun h_5 => ?_, fun h_5 => ?_, fun h_5 => ?_, fun h_5 => ?_, fun h_5 => ?_, fun h_5 => ?_, fun h_5 => ?_, fun h_5 => ?_, fun h_5 => ?_, fun h_5 => ?_, fun h_5 => ?_, fun h_5 => ?_, fun h_5 => ?_, fun h_5 => ?_⟩
      · exfalso; omega
      · exfalso; omega
      · exfalso; omega
      · exfalso; omega
      · exfalso; omega
      · exfalso; omega
      · exfalso; omega
      · exfalso; omega
      · exfalso; omega
      · refine zm3101_0 _ hs (by omega) (by omega) (fun s_6 hs_7 q_8 => ⟨rfl, ?_⟩)
        refine ⟨fun h_9 => ?_, fun h_9 => ?_⟩
        · exfalso; omega
        · refine ⟨fun h_10 => ?_, fun h_10 => ?_⟩
          · refine ⟨by omega, ?_⟩
            have f_11 := zr93 hs_7 ((0 : Int).toNat)
            have e_12 : gp_I s_6 93 (0 : Int).toNat = 0 := by omega
            try rw [e_12]
            refine s_3150_249 _ _ _ _ ?_
            exact k s_6 hs_7 (by omega)
          · exfalso; omega
      · exfalso; omega
      · exfalso; omega
      · exfalso; omega
      · exfalso; omega
set_option maxRecDepth 100000 in
/-- GatheredPointsModel.isIn [10, 0, 12] -/
theorem zm3073_25 {z : gH} {L d : Nat} {K : Option gV → gH → Prop} {s : gH}  (hs : zM z s)   (k : K (some (gp_i 1)) s) : gs_C L d 3073 6 [gp_l (10#64), gp_l (0#64), gp_l (12#64)] s K := by
  refine s_3073_e _ _ _ ?_
  have e_1 : gp_cmp (10#64) (0#64) = 1 := by decide
  try rw [e_1]
  refine ⟨fun h_2 => ?_, fun h_2 => ?_⟩
  · exfalso; omega
  · have e_3 : gp_cmp (10#64) (12#64) = (-1) := by decide
    try rw [e_3]
    refine ⟨fun h_4 => ?_, fun h_4 => ?_⟩
    · exfalso; omega
    · refine s_3073_18 _ _ _ _ ?_
      refine ⟨by omega, ?_⟩
      exact k
set_option maxRecDepth 100000 in
/-- GatheredPointsModel.price [(0, 0), (0, 0)] -/
theorem zm3102_0 {z : gH} {L d : Nat} {K : Option gV → gH → Prop} {s : gH}  (hs : zM z s)   (k : K (some (gp_i 0)) s) : gs_C L d 3102 4 [gp_r (some 74), gp_i 0, gp_i 0] s K := by
  refine s_3102_e _ _ ?_
  refine s_3102_2 _ _ _ ?_
  refine ⟨fun h_1 => ?_, fun h_1 => ?_⟩
  · have w_2 := gz_w (64 * 0)
    have e_3 : gp_wr (64 * 0) = 0 := by omega
    try rw [e_3]
    have w_4 := gz_w (0 + 0)
    have e_5 : gp_wr (0 + 0) = 0 := by omega
    try rw [e_5]
    refine ⟨by omega, ?_⟩
    have f_6 := zr95 hs ((0 : Int).toNat)
    have e_7 : gp_I s 95 (0 : Int).toNat = 0 := by omega
    try rw [e_7]
    refine ⟨by omega, ?_⟩
    have f_8 := zr93 hs ((0 : Int).toNat)
    have e_9 : gp_I s 93 (0 : Int).toNat = 0 := by omega
    try rw [e_9]
    refine ⟨fun h_10 => ?_, fun h_10 => ?_⟩
    · refine s_3102_55 _ _ _ ?_
      exact k
    · exfalso; omega
  · exfalso; omega
set_option maxRecDepth 100000 in
/-- GatheredPointsModel.gameOf [(0, 7), (10, 10)] -/
theorem zm3150_14 {z : gH} {L d : Nat} {K : Option gV → gH → Prop} {s : gH} (p0 : Int) (hs : zM z s) (h_p0 : 0 ≤ p0 ∧ p0 ≤ 7) (q0 : gp_I s 81 20 = 0) (k : ∀ (t : gH), zM z t → (gp_I t 81 20 = 0) → K (some (gp_i 0)) t) : gs_C L (d + 4) 3150 4 [gp_r (some 74), gp_i p0, gp_i 10] s K := by
  refine s_3150_e _ _ ?_
  refine zm3075_2 _ hs (by omega) (⟨_, rfl, ?_⟩)
  refine ⟨fun h_1 => ?_, fun h_1 => ?_⟩
  · exfalso; omega
  · have e_2 : BitVec.ofInt 64 10 = 10#64 := by decide
    try rw [e_2]
    have e_3 : BitVec.ofInt 64 12 = 12#64 := by decide
    try rw [e_3]
    refine zm3073_25 hs (⟨_, rfl, ?_⟩)
    refine ⟨fun h_4 => ?_, fun h_4 => ?_⟩
    · exfalso; omega
    · refine zm3081_0 _ hs (by omega) (by omega) (⟨_, rfl, ?_⟩)
      refine ⟨fun h_5 => ?_, fun h_5 => ?_, fun h_5 => ?_, fun h_5 => ?_, fun h_5 => ?_, fun h_5 => ?_, fun h_5 => ?_, fun h_5 => ?_, fun h_5 => ?_, fun h_5 => ?_, fun h_5 => ?_, fun h_5 => ?_, fun h_5 => ?_, fun h_5 => ?_⟩
      · exfalso; omega
      · exfalso; omega
      · exfalso; omega
      · exfalso; omega
      · exfalso; omega
      · exfalso; omega
      · exfalso; omega
      · exfalso; omega
      · exfalso; omega
      · exfalso; omega
      · refine zm3101_0 _ hs (by omega) (by omega) (fun s_6 hs_7 q_8 => ⟨rfl, ?_⟩)
        refine ⟨fun h_9 => ?_, fun h_9 => ?_⟩
        · exfalso; omega
        · refine ⟨fun h_10 => ?_, fun h_10 => ?_⟩
          · exfalso; omega
          · have w_11 := gz_w (10 - 10)
            have e_12 : gp_wr (10 - 10) = 0 := by omega
            try rw [e_12]
            refine zm3102_0 hs_7 (⟨_, rfl, ?_⟩)
            refine s_3150_249 _ _ _ _ ?_
            exact k s_6 hs_7 (by omega)
      · exfalso; omega
      · exfalso; omega
      · exfalso; omega
set_option maxRecDepth 100000 in
/-- GatheredPointsModel.isIn [11, 0, 12] -/
theorem zm3073_26 {z : gH} {L d : Nat} {K : Option gV → gH → Prop} {s : gH}  (hs : zM z s)   (k : K (some (gp_i 1)) s) : gs_C L d 3073 6 [gp_l (11#64), gp_l (0#64), gp_l (12#64)] s K := by
  refine s_3073_e _ _ _ ?_
  have e_1 : gp_cmp (11#64) (0#64) = 1 := by decide
  try rw [e_1]
  refine ⟨fun h_2 => ?_, fun h_2 => ?_⟩
  · exfalso; omega
  · have e_3 : gp_cmp (11#64) (12#64) = (-1) := by decide
    try rw [e_3]
    refine ⟨fun h_4 => ?_, fun h_4 => ?_⟩
    · exfalso; omega
    · refine s_3073_18 _ _ _ _ ?_
      refine ⟨by omega, ?_⟩
      exact k
set_option maxRecDepth 100000 in
/-- GatheredPointsModel.price [(0, 0), (1, 1)] -/
theorem zm3102_1 {z : gH} {L d : Nat} {K : Option gV → gH → Prop} {s : gH}  (hs : zM z s)   (k : K (some (gp_i 0)) s) : gs_C L d 3102 4 [gp_r (some 74), gp_i 0, gp_i 1] s K := by
  refine s_3102_e _ _ ?_
  refine s_3102_2 _ _ _ ?_
  refine ⟨fun h_1 => ?_, fun h_1 => ?_⟩
  · exfalso; omega
  · have w_2 := gz_w (64 * 0)
    have e_3 : gp_wr (64 * 0) = 0 := by omega
    try rw [e_3]
    have w_4 := gz_w (0 + 0)
    have e_5 : gp_wr (0 + 0) = 0 := by omega
    try rw [e_5]
    refine ⟨by omega, ?_⟩
    have f_6 := zr96 hs ((0 : Int).toNat)
    have e_7 : gp_I s 96 (0 : Int).toNat = 0 := by omega
    try rw [e_7]
    refine ⟨by omega, ?_⟩
    have f_8 := zr92 hs ((0 : Int).toNat)
    have e_9 : gp_I s 92 (0 : Int).toNat = 0 := by omega
    try rw [e_9]
    refine ⟨fun h_10 => ?_, fun h_10 => ?_⟩
    · refine s_3102_55 _ _ _ ?_
      exact k
    · exfalso; omega
set_option maxRecDepth 100000 in
/-- GatheredPointsModel.gameOf [(0, 7), (11, 11)] -/
theorem zm3150_15 {z : gH} {L d : Nat} {K : Option gV → gH → Prop} {s : gH} (p0 : Int) (hs : zM z s) (h_p0 : 0 ≤ p0 ∧ p0 ≤ 7) (q0 : gp_I s 81 20 = 0) (k : ∀ (t : gH), zM z t → (gp_I t 81 20 = 0) → K (some (gp_i 0)) t) : gs_C L (d + 4) 3150 4 [gp_r (some 74), gp_i p0, gp_i 11] s K := by
  refine s_3150_e _ _ ?_
  refine zm3075_2 _ hs (by omega) (⟨_, rfl, ?_⟩)
  refine ⟨fun h_1 => ?_, fun h_1 => ?_⟩
  · exfalso; omega
  · have e_2 : BitVec.ofInt 64 11 = 11#64 := by decide
    try rw [e_2]
    have e_3 : BitVec.ofInt 64 12 = 12#64 := by decide
    try rw [e_3]
    refine zm3073_26 hs (⟨_, rfl, ?_⟩)
    refine ⟨fun h_4 => ?_, fun h_4 => ?_⟩
    · exfalso; omega
    · refine zm3081_0 _ hs (by omega) (by omega) (⟨_, rfl, ?_⟩)
      refine ⟨fun h_5 => ?_, fun h_5 => ?_, fun h_5 => ?_, fun h_5 => ?_, fun h_5 => ?_, fun h_5 => ?_, fun h_5 => ?_, fun h_5 => ?_, fun h_5 => ?_, fun h_5 => ?_, fun h_5 => ?_, fun h_5 => ?_, fun h_5 => ?_, fun h_5 => ?_⟩
      · exfalso; omega
      · exfalso; omega
      · exfalso; omega
      · exfalso; omega
      · exfalso; omega
      · exfalso; omega
      · exfalso; omega
      · exfalso; omega
      · exfalso; omega
      · exfalso; omega
      · exfalso; omega
      · refine zm3101_0 _ hs (by omega) (by omega) (fun s_6 hs_7 q_8 => ⟨rfl, ?_⟩)
        refine ⟨fun h_9 => ?_, fun h_9 => ?_⟩
        · exfalso; omega
        · refine ⟨fun h_10 => ?_, fun h_10 => ?_⟩
          · exfalso; omega
          · have w_11 := gz_w (11 - 10)
            have e_12 : gp_wr (11 - 10) = 1 := by omega
            try rw [e_12]
            refine zm3102_1 hs_7 (⟨_, rfl, ?_⟩)
            refine s_3150_249 _ _ _ _ ?_
            exact k s_6 hs_7 (by omega)
      · exfalso; omega
      · exfalso; omega
set_option maxRecDepth 100000 in
/-- GatheredPointsModel.isIn [12, 0, 12] -/
theorem zm3073_27 {z : gH} {L d : Nat} {K : Option gV → gH → Prop} {s : gH}  (hs : zM z s)   (k : K (some (gp_i 1)) s) : gs_C L d 3073 6 [gp_l (12#64), gp_l (0#64), gp_l (12#64)] s K := by
  refine s_3073_e _ _ _ ?_
  have e_1 : gp_cmp (12#64) (0#64) = 1 := by decide
  try rw [e_1]
  refine ⟨fun h_2 => ?_, fun h_2 => ?_⟩
  · exfalso; omega
  · have e_3 : gp_cmp (12#64) (12#64) = 0 := by decide
    try rw [e_3]
    refine ⟨fun h_4 => ?_, fun h_4 => ?_⟩
    · exfalso; omega
    · refine s_3073_18 _ _ _ _ ?_
      refine ⟨by omega, ?_⟩
      exact k
set_option maxRecDepth 100000 in
/-- GatheredPointsModel.gameOf [(0, 7), (12, 12)] -/
theorem zm3150_16 {z : gH} {L d : Nat} {K : Option gV → gH → Prop} {s : gH} (p0 : Int) (hs : zM z s) (h_p0 : 0 ≤ p0 ∧ p0 ≤ 7) (q0 : gp_I s 81 20 = 0) (k : K (some (gp_i 1)) s) : gs_C L (d + 2) 3150 4 [gp_r (some 74), gp_i p0, gp_i 12] s K := by
  refine s_3150_e _ _ ?_
  refine zm3075_2 _ hs (by omega) (⟨_, rfl, ?_⟩)
  refine ⟨fun h_1 => ?_, fun h_1 => ?_⟩
  · exfalso; omega
  · have e_2 : BitVec.ofInt 64 12 = 12#64 := by decide
    try rw [e_2]
    have e_3 : BitVec.ofInt 64 12 = 12#64 := by decide
    try rw [e_3]
    refine zm3073_27 hs (⟨_, rfl, ?_⟩)
    refine ⟨fun h_4 => ?_, fun h_4 => ?_⟩
    · exfalso; omega
    · refine zm3081_0 _ hs (by omega) (by omega) (⟨_, rfl, ?_⟩)
      refine ⟨fun h_5 => ?_, fun h_5 => ?_, fun h_5 => ?_, fun h_5 => ?_, fun h_5 => ?_, fun h_5 => ?_, fun h_5 => ?_, fun h_5 => ?_, fun h_5 => ?_, fun h_5 => ?_, fun h_5 => ?_, fun h_5 => ?_, fun h_5 => ?_, fun h_5 => ?_⟩
      · exfalso; omega
      · exfalso; omega
      · exfalso; omega
      · exfalso; omega
      · exfalso; omega
      · exfalso; omega
      · exfalso; omega
      · exfalso; omega
      · exfalso; omega
      · exfalso; omega
      · exfalso; omega
      · exfalso; omega
      · refine zm3103_0 _ hs (by omega) (by omega) (⟨_, rfl, ?_⟩)
        refine ⟨fun h_6 => ?_, fun h_6 => ?_⟩
        · exfalso; omega
        · refine s_3150_204 _ _ _ _ ?_
          exact k
      · exfalso; omega
set_option maxRecDepth 100000 in
/-- GatheredPointsModel.finds [(2, 2)] -/
theorem zm3074_7 {z : gH} {L d : Nat} {K : Option gV → gH → Prop} {s : gH}  (hs : zM z s)  (q0 : gp_I s 74 11 = 0) (q1 : gp_I s 74 43 = 0) (q2 : gp_I s 74 57 = 0) (q3 : gp_I s 74 58 = 0) (q4 : gp_I s 74 7 = 1) (q5 : gp_I s 74 9 = 0) (k : ∀ (t : gH), zM z t → (gp_I t 74 11 = 0) → (gp_I t 74 43 = 0) → (gp_I t 74 57 = 0) → (gp_I t 74 58 = 0) → (gp_I t 74 7 = 1) → (gp_I t 74 9 = 0) → ((-2147483648) ≤ gp_I t 75 2 ∧ gp_I t 75 2 ≤ 2147483647) → K (some (gp_i (-1000000002))) t) : gs_C L d 3074 2 [gp_r (some 74), gp_i 2] s K := by
  refine s_3074_e _ ?_
  refine ⟨by omega, ?_⟩
  have w_1 := gz_w ((gp_I s 75 (2 : Int).toNat) + 1)
  refine ⟨by omega, ?_⟩
  intro s_2 e_3
  have hs_4 : zM z s_2 := by rw [e_3]; exact zw75 hs _ _
  have q_5 : gp_I s_2 74 11 = 0 := by rw [e_3]; exact q0
  have q_6 : gp_I s_2 74 43 = 0 := by rw [e_3]; exact q1
  have q_7 : gp_I s_2 74 57 = 0 := by rw [e_3]; exact q2
  have q_8 : gp_I s_2 74 58 = 0 := by rw [e_3]; exact q3
  have q_9 : gp_I s_2 74 7 = 1 := by rw [e_3]; exact q4
  have q_10 : gp_I s_2 74 9 = 0 := by rw [e_3]; exact q5
  have q_11 : (-2147483648) ≤ gp_I s_2 75 2 ∧ gp_I s_2 75 2 ≤ 2147483647 := by have x_12 : gp_I s_2 75 2 = gp_wr ((gp_I s 75 (2 : Int).toNat) + 1) := (by rw [e_3]; rfl); omega
  have w_13 := gz_w ((-1000000000) - 2)
  have e_14 : gp_wr ((-1000000000) - 2) = (-1000000002) := by omega
  try rw [e_14]
  exact k s_2 hs_4 (by omega) (by omega) (by omega) (by omega) (by omega) (by omega) (by omega)
