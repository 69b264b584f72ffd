set_option maxRecDepth 100000 in
/-- GatheredPointsModel.isIn [('r', -2147483648, 0), 1, 255] -/
theorem zm3073_43 {z : gH} {L d : Nat} {K : Option gV → gH → Prop} {s : gH} (p0 : BitVec 64) (hs : zM z s) (h_p0 : (-2147483648) ≤ p0.toInt ∧ p0.toInt ≤ 0)  (k : K (some (gp_i 0)) s) : gs_C L d 3073 6 [gp_l p0, gp_l (1#64), gp_l (255#64)] s K := by
  refine s_3073_e _ _ _ ?_
  have w_1 : (1#64).toInt = 1 := by decide
  have w_2 := gz_cmp p0 (1#64)
  have e_3 : gp_cmp p0 (1#64) = (-1) := by omega
  try rw [e_3]
  refine ⟨fun h_4 => ?_, fun h_4 => ?_⟩
  · refine s_3073_17 _ _ _ ?_
    refine s_3073_18 _ _ _ _ ?_
    refine ⟨by omega, ?_⟩
    exact k
  · exfalso; omega
set_option maxRecDepth 100000 in
/-- GatheredPointsModel.isSetOfThree [(-2147483648, 0)] -/
theorem zm3155_0 {z : gH} {L d : Nat} {K : Option gV → gH → Prop} {s : gH} (p0 : Int) (hs : zM z s) (h_p0 : (-2147483648) ≤ p0 ∧ p0 ≤ 0)  (k : K (some (gp_i 0)) s) : gs_C L (d + 1) 3155 1 [gp_i p0] s K := by
  refine s_3155_e _ ?_
  have w_1 := gz_oi (p0) (by omega)
  have e_2 : BitVec.ofInt 64 255 = 255#64 := by decide
  try rw [e_2]
  refine zm3073_43 _ hs (by omega) (⟨_, rfl, ?_⟩)
  refine ⟨fun h_3 => ?_, fun h_3 => ?_⟩
  · refine s_3155_25 _ ?_
    refine s_3155_26 _ _ ?_
    refine ⟨by omega, ?_⟩
    exact k
  · exfalso; omega
set_option maxRecDepth 100000 in
/-- GatheredPointsModel.score [(-2147483648, 0), (-2147483648, 2147483647)] -/
theorem zm3162_0 {z : gH} {L d : Nat} {K : Option gV → gH → Prop} {s : gH} (p0 : Int) (p1 : Int) (hs : zM z s) (h_p0 : (-2147483648) ≤ p0 ∧ p0 ≤ 0) (h_p1 : (-2147483648) ≤ p1 ∧ p1 ≤ 2147483647) (q0 : gp_I s 74 11 = 0) (q1 : gp_I s 74 43 = 0) (q2 : gp_I s 74 57 = 0) (q3 : gp_I s 74 58 = 0) (q4 : gp_I s 74 7 = 1) (q5 : gp_I s 74 9 = 0) (q6 : gp_I s 81 20 = 0) (k : ∀ (t : gH), zM z t → (gp_I t 74 11 = 0) → (gp_I t 74 43 = 0) → (gp_I t 74 57 = 0) → (gp_I t 74 58 = 0) → (gp_I t 74 7 = 1) → (gp_I t 74 9 = 0) → ((-2147483648) ≤ gp_I t 75 1 ∧ gp_I t 75 1 ≤ 2147483647) → (gp_I t 81 20 = 0) → K (some (gp_i (-1000000001))) t) : gs_C L (d + 2) 3162 3 [gp_r (some 74), gp_i p0, gp_i p1] s K := by
  refine s_3162_e _ _ ?_
  refine zm3155_0 _ hs (by omega) (⟨_, rfl, ?_⟩)
  refine ⟨fun h_1 => ?_, fun h_1 => ?_⟩
  · refine s_3162_14 _ _ ?_
    refine zm3074_1 hs (by omega) (by omega) (by omega) (by omega) (by omega) (by omega) (by omega) (fun s_2 hs_3 q_4 q_5 q_6 q_7 q_8 q_9 q_10 q_11 => ⟨_, rfl, ?_⟩)
    exact k s_2 hs_3 (by omega) (by omega) (by omega) (by omega) (by omega) (by omega) (by omega) (by omega)
  · exfalso; omega
set_option maxRecDepth 100000 in
/-- GatheredPointsModel.isIn [('r', 256, 2147483647), 1, 255] -/
theorem zm3073_44 {z : gH} {L d : Nat} {K : Option gV → gH → Prop} {s : gH} (p0 : BitVec 64) (hs : zM z s) (h_p0 : 256 ≤ p0.toInt ∧ p0.toInt ≤ 2147483647)  (k : K (some (gp_i 0)) s) : gs_C L d 3073 6 [gp_l p0, gp_l (1#64), gp_l (255#64)] s K := by
  refine s_3073_e _ _ _ ?_
  have w_1 : (1#64).toInt = 1 := by decide
  have w_2 := gz_cmp p0 (1#64)
  have e_3 : gp_cmp p0 (1#64) = 1 := by omega
  try rw [e_3]
  refine ⟨fun h_4 => ?_, fun h_4 => ?_⟩
  · exfalso; omega
  · have w_5 : (255#64).toInt = 255 := by decide
    have w_6 := gz_cmp p0 (255#64)
    have e_7 : gp_cmp p0 (255#64) = 1 := by omega
    try rw [e_7]
    refine ⟨fun h_8 => ?_, fun h_8 => ?_⟩
    · refine s_3073_17 _ _ _ ?_
      refine s_3073_18 _ _ _ _ ?_
      refine ⟨by omega, ?_⟩
      exact k
    · exfalso; omega
set_option maxRecDepth 100000 in
/-- GatheredPointsModel.isSetOfThree [(256, 2147483647)] -/
theorem zm3155_1 {z : gH} {L d : Nat} {K : Option gV → gH → Prop} {s : gH} (p0 : Int) (hs : zM z s) (h_p0 : 256 ≤ p0 ∧ p0 ≤ 2147483647)  (k : K (some (gp_i 0)) s) : gs_C L (d + 1) 3155 1 [gp_i p0] s K := by
  refine s_3155_e _ ?_
  have w_1 := gz_oi (p0) (by omega)
  have e_2 : BitVec.ofInt 64 255 = 255#64 := by decide
  try rw [e_2]
  refine zm3073_44 _ hs (by omega) (⟨_, rfl, ?_⟩)
  refine ⟨fun h_3 => ?_, fun h_3 => ?_⟩
  · refine s_3155_25 _ ?_
    refine s_3155_26 _ _ ?_
    refine ⟨by omega, ?_⟩
    exact k
  · exfalso; omega
set_option maxRecDepth 100000 in
/-- GatheredPointsModel.score [(256, 2147483647), (-2147483648, 2147483647)] -/
theorem zm3162_1 {z : gH} {L d : Nat} {K : Option gV → gH → Prop} {s : gH} (p0 : Int) (p1 : Int) (hs : zM z s) (h_p0 : 256 ≤ p0 ∧ p0 ≤ 2147483647) (h_p1 : (-2147483648) ≤ p1 ∧ p1 ≤ 2147483647) (q0 : gp_I s 74 11 = 0) (q1 : gp_I s 74 43 = 0) (q2 : gp_I s 74 57 = 0) (q3 : gp_I s 74 58 = 0) (q4 : gp_I s 74 7 = 1) (q5 : gp_I s 74 9 = 0) (q6 : gp_I s 81 20 = 0) (k : ∀ (t : gH), zM z t → (gp_I t 74 11 = 0) → (gp_I t 74 43 = 0) → (gp_I t 74 57 = 0) → (gp_I t 74 58 = 0) → (gp_I t 74 7 = 1) → (gp_I t 74 9 = 0) → ((-2147483648) ≤ gp_I t 75 1 ∧ gp_I t 75 1 ≤ 2147483647) → (gp_I t 81 20 = 0) → K (some (gp_i (-1000000001))) t) : gs_C L (d + 2) 3162 3 [gp_r (some 74), gp_i p0, gp_i p1] s K := by
  refine s_3162_e _ _ ?_
  refine zm3155_1 _ hs (by omega) (⟨_, rfl, ?_⟩)
  refine ⟨fun h_1 => ?_, fun h_1 => ?_⟩
  · refine s_3162_14 _ _ ?_
    refine zm3074_1 hs (by omega) (by omega) (by omega) (by omega) (by omega) (by omega) (by omega) (fun s_2 hs_3 q_4 q_5 q_6 q_7 q_8 q_9 q_10 q_11 => ⟨_, rfl, ?_⟩)
    exact k s_2 hs_3 (by omega) (by omega) (by omega) (by omega) (by omega) (by omega) (by omega) (by omega)
  · exfalso; omega
set_option maxRecDepth 100000 in
/-- GatheredPointsModel.score [(1, 255, 'S4'), (-2147483648, 2147483647)] -/
theorem zm3162_2 {z : gH} {L d : Nat} {K : Option gV → gH → Prop} {s : gH} (p0 : Int) (p1 : Int) (hs : zM z s) (h_p0 : 1 ≤ p0 ∧ p0 ≤ 255) (h_p1 : (-2147483648) ≤ p1 ∧ p1 ≤ 2147483647) (g_p0 : gm_cnt (BitVec.ofInt 64 p0) 64 > 3) (q0 : gp_I s 74 11 = 0) (q1 : gp_I s 74 43 = 0) (q2 : gp_I s 74 57 = 0) (q3 : gp_I s 74 58 = 0) (q4 : gp_I s 74 7 = 1) (q5 : gp_I s 74 9 = 0) (q6 : gp_I s 81 20 = 0) (k : ∀ (t : gH), zM z t → (gp_I t 74 11 = 0) → (gp_I t 74 43 = 0) → (gp_I t 74 57 = 0) → (gp_I t 74 58 = 0) → (gp_I t 74 7 = 1) → (gp_I t 74 9 = 0) → ((-2147483648) ≤ gp_I t 75 1 ∧ gp_I t 75 1 ≤ 2147483647) → (gp_I t 81 20 = 0) → K (some (gp_i (-1000000001))) t) : gs_C L (d + 3) 3162 3 [gp_r (some 74), gp_i p0, gp_i p1] s K := by
  refine s_3162_e _ _ ?_
  refine zm_is4 _ hs (by omega) g_p0 (⟨_, rfl, ?_⟩)
  refine ⟨fun h_1 => ?_, fun h_1 => ?_⟩
  · refine s_3162_14 _ _ ?_
    refine zm3074_1 hs (by omega) (by omega) (by omega) (by omega) (by omega) (by omega) (by omega) (fun s_2 hs_3 q_4 q_5 q_6 q_7 q_8 q_9 q_10 q_11 => ⟨_, rfl, ?_⟩)
    exact k s_2 hs_3 (by omega) (by omega) (by omega) (by omega) (by omega) (by omega) (by omega) (by omega)
  · exfalso; omega
set_option maxRecDepth 100000 in
/-- GatheredPointsModel.score [(1, 255, 'S3'), (-2147483648, -1)] -/
theorem zm3162_3 {z : gH} {L d : Nat} {K : Option gV → gH → Prop} {s : gH} (p0 : Int) (p1 : Int) (hs : zM z s) (h_p0 : 1 ≤ p0 ∧ p0 ≤ 255) (h_p1 : (-2147483648) ≤ p1 ∧ p1 ≤ (-1)) (g_p0 : gm_cnt (BitVec.ofInt 64 p0) 64 ≤ 3) (q0 : gp_I s 74 11 = 0) (q1 : gp_I s 74 43 = 0) (q2 : gp_I s 74 57 = 0) (q3 : gp_I s 74 58 = 0) (q4 : gp_I s 74 7 = 1) (q5 : gp_I s 74 9 = 0) (q6 : gp_I s 81 20 = 0) (k : ∀ (t : gH), zM z t → (gp_I t 74 11 = 0) → (gp_I t 74 43 = 0) → (gp_I t 74 57 = 0) → (gp_I t 74 58 = 0) → (gp_I t 74 7 = 1) → (gp_I t 74 9 = 0) → ((-2147483648) ≤ gp_I t 75 1 ∧ gp_I t 75 1 ≤ 2147483647) → (gp_I t 81 20 = 0) → K (some (gp_i (-1000000001))) t) : gs_C L (d + 3) 3162 3 [gp_r (some 74), gp_i p0, gp_i p1] s K := by
  refine s_3162_e _ _ ?_
  refine zm_is3 _ hs (by omega) g_p0 (⟨_, rfl, ?_⟩)
  refine ⟨fun h_1 => ?_, fun h_1 => ?_⟩
  · exfalso; omega
  · refine zm3077_0 _ hs (by omega) (⟨_, rfl, ?_⟩)
    refine ⟨fun h_2 => ?_, fun h_2 => ?_⟩
    · refine s_3162_14 _ _ ?_
      refine zm3074_1 hs (by omega) (by omega) (by omega) (by omega) (by omega) (by omega) (by omega) (fun s_3 hs_4 q_5 q_6 q_7 q_8 q_9 q_10 q_11 q_12 => ⟨_, rfl, ?_⟩)
      exact k s_3 hs_4 (by omega) (by omega) (by omega) (by omega) (by omega) (by omega) (by omega) (by omega)
    · exfalso; omega
set_option maxRecDepth 100000 in
/-- GatheredPointsModel.score [(1, 255, 'S3'), (2, 2147483647)] -/
theorem zm3162_4 {z : gH} {L d : Nat} {K : Option gV → gH → Prop} {s : gH} (p0 : Int) (p1 : Int) (hs : zM z s) (h_p0 : 1 ≤ p0 ∧ p0 ≤ 255) (h_p1 : 2 ≤ p1 ∧ p1 ≤ 2147483647) (g_p0 : gm_cnt (BitVec.ofInt 64 p0) 64 ≤ 3) (q0 : gp_I s 74 11 = 0) (q1 : gp_I s 74 43 = 0) (q2 : gp_I s 74 57 = 0) (q3 : gp_I s 74 58 = 0) (q4 : gp_I s 74 7 = 1) (q5 : gp_I s 74 9 = 0) (q6 : gp_I s 81 20 = 0) (k : ∀ (t : gH), zM z t → (gp_I t 74 11 = 0) → (gp_I t 74 43 = 0) → (gp_I t 74 57 = 0) → (gp_I t 74 58 = 0) → (gp_I t 74 7 = 1) → (gp_I t 74 9 = 0) → ((-2147483648) ≤ gp_I t 75 1 ∧ gp_I t 75 1 ≤ 2147483647) → (gp_I t 81 20 = 0) → K (some (gp_i (-1000000001))) t) : gs_C L (d + 3) 3162 3 [gp_r (some 74), gp_i p0, gp_i p1] s K := by
  refine s_3162_e _ _ ?_
  refine zm_is3 _ hs (by omega) g_p0 (⟨_, rfl, ?_⟩)
  refine ⟨fun h_1 => ?_, fun h_1 => ?_⟩
  · exfalso; omega
  · refine zm3077_1 _ hs (by omega) (⟨_, rfl, ?_⟩)
    refine ⟨fun h_2 => ?_, fun h_2 => ?_⟩
    · refine s_3162_14 _ _ ?_
      refine zm3074_1 hs (by omega) (by omega) (by omega) (by omega) (by omega) (by omega) (by omega) (fun s_3 hs_4 q_5 q_6 q_7 q_8 q_9 q_10 q_11 q_12 => ⟨_, rfl, ?_⟩)
      exact k s_3 hs_4 (by omega) (by omega) (by omega) (by omega) (by omega) (by omega) (by omega) (by omega)
    · exfalso; omega
theorem zm_setsUp_w0 {z : gH} {L d : Nat} {K : Option gV → gH → Prop} {s : gH} (p0 : Int) (hs : zM z s) (_h_p0 : 1 ≤ p0 ∧ p0 ≤ 255) (g_p0 : gm_cnt (BitVec.ofInt 64 p0) 64 ≤ 3) (q0 : gp_I s 74 11 = 0) (q1 : gp_I s 74 43 = 0) (q2 : gp_I s 74 57 = 0) (q3 : gp_I s 74 58 = 0) (q4 : gp_I s 74 7 = 1) (q5 : gp_I s 74 9 = 0) (q6 : gp_I s 81 20 = 0) (k : ∀ (t : gH), zM z t → (gp_I t 74 11 = 0) → (gp_I t 74 43 = 0) → (gp_I t 74 57 = 0) → (gp_I t 74 58 = 0) → (gp_I t 74 7 = 1) → (gp_I t 74 9 = 0) → (gp_I t 81 20 = 0) → K none t) : gs_C L (d + 1) 3159 3 [gp_r (some 74), gp_i p0] s K :=
  zm_setsUp p0 hs g_p0 (fun t ht hf => k t ht (by rw [hf _ _ (by decide) (by decide) (by decide)]; exact q0) (by rw [hf _ _ (by decide) (by decide) (by decide)]; exact q1) (by rw [hf _ _ (by decide) (by decide) (by decide)]; exact q2) (by rw [hf _ _ (by decide) (by decide) (by decide)]; exact q3) (by rw [hf _ _ (by decide) (by decide) (by decide)]; exact q4) (by rw [hf _ _ (by decide) (by decide) (by decide)]; exact q5) (by rw [hf _ _ (by decide) (by decide) (by decide)]; exact q6))
set_option maxRecDepth 100000 in
/-- GatheredPointsModel.code [(0, 0), (0, 0), (0, 0)] -/
theorem zm3157_0 {z : gH} {L d : Nat} {K : Option gV → gH → Prop} {s : gH}  (hs : zM z s)   (k : K (some (gp_i 0)) s) : gs_C L d 3157 3 [gp_i 0, gp_i 0, gp_i 0] s K := by
  refine s_3157_e _ _ _ ?_
  have w_1 := gz_w (4096 * 0)
  have e_2 : gp_wr (4096 * 0) = 0 := by omega
  try rw [e_2]
  have w_3 := gz_w (64 * 0)
  have e_4 : gp_wr (64 * 0) = 0 := by omega
  try rw [e_4]
  have w_5 := gz_w (0 + 0)
  have e_6 : gp_wr (0 + 0) = 0 := by omega
  try rw [e_6]
  have w_7 := gz_w (0 + 0)
  have e_8 : gp_wr (0 + 0) = 0 := by omega
  try rw [e_8]
  exact k
set_option maxRecDepth 100000 in
/-- GatheredPointsModel.worksAt [(0, 0), (0, 0), (0, 0)] -/
theorem zm3158_0 {z : gH} {L d : Nat} {K : Option gV → gH → Prop} {s : gH}  (hs : zM z s)  (q0 : gp_I s 74 11 = 0) (q1 : gp_I s 74 43 = 0) (q2 : gp_I s 74 57 = 0) (q3 : gp_I s 74 58 = 0) (q4 : gp_I s 74 7 = 1) (q5 : gp_I s 74 9 = 0) (q6 : gp_I s 81 20 = 0) (k : ∀ (t : gH), zM z t → (gp_I t 74 11 = 0) → (gp_I t 74 43 = 0) → (gp_I t 74 57 = 0) → (gp_I t 74 58 = 0) → (gp_I t 74 7 = 1) → (gp_I t 74 9 = 0) → (gp_I t 81 20 = 0) → K none t) : gs_C L (d + 1) 3158 17 [gp_r (some 74), gp_i 0, gp_i 0, gp_i 0] s K := by
  refine s_3158_e _ _ _ ?_
  intro s_1 e_2
  have hs_3 : zM z s_1 := by rw [e_2]; exact zw110 hs _ _ (by omega)
  have q_4 : gp_I s_1 74 11 = 0 := by rw [e_2]; exact q0
  have q_5 : gp_I s_1 74 43 = 0 := by rw [e_2]; exact q1
  have q_6 : gp_I s_1 74 57 = 0 := by rw [e_2]; exact q2
  have q_7 : gp_I s_1 74 58 = 0 := by rw [e_2]; exact q3
  have q_8 : gp_I s_1 74 7 = 1 := by rw [e_2]; exact q4
  have q_9 : gp_I s_1 74 9 = 0 := by rw [e_2]; exact q5
  have q_10 : gp_I s_1 81 20 = 0 := by rw [e_2]; exact q6
  intro s_11 e_12
  have hs_13 : zM z s_11 := by rw [e_12]; exact zw110 hs_3 _ _ (by omega)
  have q_14 : gp_I s_11 74 11 = 0 := by rw [e_12]; exact q_4
  have q_15 : gp_I s_11 74 43 = 0 := by rw [e_12]; exact q_5
  have q_16 : gp_I s_11 74 57 = 0 := by rw [e_12]; exact q_6
  have q_17 : gp_I s_11 74 58 = 0 := by rw [e_12]; exact q_7
  have q_18 : gp_I s_11 74 7 = 1 := by rw [e_12]; exact q_8
  have q_19 : gp_I s_11 74 9 = 0 := by rw [e_12]; exact q_9
  have q_20 : gp_I s_11 81 20 = 0 := by rw [e_12]; exact q_10
  intro s_21 e_22
  have hs_23 : zM z s_21 := by rw [e_22]; exact zw110 hs_13 _ _ (by omega)
  have q_24 : gp_I s_21 74 11 = 0 := by rw [e_22]; exact q_14
  have q_25 : gp_I s_21 74 43 = 0 := by rw [e_22]; exact q_15
  have q_26 : gp_I s_21 74 57 = 0 := by rw [e_22]; exact q_16
  have q_27 : gp_I s_21 74 58 = 0 := by rw [e_22]; exact q_17
  have q_28 : gp_I s_21 74 7 = 1 := by rw [e_22]; exact q_18
  have q_29 : gp_I s_21 74 9 = 0 := by rw [e_22]; exact q_19
  have q_30 : gp_I s_21 81 20 = 0 := by rw [e_22]; exact q_20
  refine zm3157_0 hs_23 (⟨_, rfl, ?_⟩)
  refine s_3158_32 _ _ _ _ _ _ _ _ _ _ _ _ _ _ _ _ ?_
  refine ⟨fun h_31 => ?_, fun h_31 => ?_⟩
  · refine s_3158_50 _ _ _ _ _ _ _ _ _ _ _ _ _ _ _ _ ?_
    have f_32 := zr74_49 hs_23 49
    refine ⟨fun h_33 => ?_, fun h_33 => ?_⟩
    · refine ⟨by omega, ?_⟩
      have f_34 := zr106 hs_23 ((0 : Int).toNat)
      refine ⟨by omega, ?_⟩
      have f_35 := zr110 hs_23 ((0 : Int).toNat)
      have e_36 : gp_I s_21 110 (0 : Int).toNat = 0 := by omega
      try rw [e_36]
      refine zm3082_0 _ hs_23 (by omega) (⟨_, rfl, ?_⟩)
      have e_37 : gp_cmp (0#64) (0#64) = 0 := by decide
      try rw [e_37]
      refine ⟨fun h_38 => ?_, fun h_38 => ?_⟩
      · refine ⟨by omega, ?_⟩
        have f_39 := zr106 hs_23 ((0 : Int).toNat)
        refine ⟨by omega, ?_⟩
        have f_40 := zr110 hs_23 ((0 : Int).toNat)
        have e_41 : gp_I s_21 110 (0 : Int).toNat = 0 := by omega
        try rw [e_41]
        refine zm3083_0 _ hs_23 (by omega) (⟨_, rfl, ?_⟩)
        refine s_3158_114 _ _ _ _ _ _ _ _ _ _ _ _ _ _ _ _ _ ?_
        have w_42 := gz_w (0 + 0)
        have e_43 : gp_wr (0 + 0) = 0 := by omega
        try rw [e_43]
        refine ⟨fun h_44 => ?_, fun h_44 => ?_⟩
        · refine s_3158_140 _ _ _ _ _ _ _ _ _ _ _ _ _ _ _ _ ?_
          refine s_3158_146 _ _ _ _ _ _ _ _ _ _ _ _ _ _ ?_
          have e_45 : gp_cmp (0#64) (0#64) = 0 := by decide
          try rw [e_45]
          refine ⟨fun h_46 => ?_, fun h_46 => ?_⟩
          · have w_47 := gz_w (0 + 1)
            have e_48 : gp_wr (0 + 1) = 1 := by omega
            try rw [e_48]
            refine s_3158_50 _ _ _ _ _ _ _ _ _ _ _ _ _ _ _ _ ?_
            have f_49 := zr74_49 hs_23 49
            refine ⟨fun h_50 => ?_, fun h_50 => ?_⟩
            · refine ⟨by omega, ?_⟩
              have f_51 := zr106 hs_23 ((1 : Int).toNat)
              refine ⟨by omega, ?_⟩
              have f_52 := zr110 hs_23 ((1 : Int).toNat)
              have e_53 : gp_I s_21 110 (1 : Int).toNat = 0 := by omega
              try rw [e_53]
              refine zm3082_0 _ hs_23 (by omega) (⟨_, rfl, ?_⟩)
              have e_54 : gp_cmp (0#64) (0#64) = 0 := by decide
              try rw [e_54]
              refine ⟨fun h_55 => ?_, fun h_55 => ?_⟩
              · refine ⟨by omega, ?_⟩
                have f_56 := zr106 hs_23 ((1 : Int).toNat)
                refine ⟨by omega, ?_⟩
                have f_57 := zr110 hs_23 ((1 : Int).toNat)
                have e_58 : gp_I s_21 110 (1 : Int).toNat = 0 := by omega
                try rw [e_58]
                refine zm3083_0 _ hs_23 (by omega) (⟨_, rfl, ?_⟩)
                refine s_3158_114 _ _ _ _ _ _ _ _ _ _ _ _ _ _ _ _ _ ?_
                have w_59 := gz_w (0 + 0)
                have e_60 : gp_wr (0 + 0) = 0 := by omega
                try rw [e_60]
                refine ⟨fun h_61 => ?_, fun h_61 => ?_⟩
                · exfalso; omega
                · refine ⟨fun h_62 => ?_, fun h_62 => ?_⟩
                  · refine s_3158_140 _ _ _ _ _ _ _ _ _ _ _ _ _ _ _ _ ?_
                    refine s_3158_146 _ _ _ _ _ _ _ _ _ _ _ _ _ _ ?_
                    have e_63 : gp_cmp (0#64) (0#64) = 0 := by decide
                    try rw [e_63]
                    refine ⟨fun h_64 => ?_, fun h_64 => ?_⟩
                    · have w_65 := gz_w (1 + 1)
                      have e_66 : gp_wr (1 + 1) = 2 := by omega
                      try rw [e_66]
                      refine s_3158_50 _ _ _ _ _ _ _ _ _ _ _ _ _ _ _ _ ?_
                      have f_67 := zr74_49 hs_23 49
                      refine ⟨fun h_68 => ?_, fun h_68 => ?_⟩
                      · have e_69 : gp_I s_21 74 49 = 3 := by omega
                        try rw [e_69]
                        refine ⟨by omega, ?_⟩
                        have f_70 := zr106 hs_23 ((2 : Int).toNat)
                        refine ⟨by omega, ?_⟩
                        have f_71 := zr110 hs_23 ((2 : Int).toNat)
                        have e_72 : gp_I s_21 110 (2 : Int).toNat = 0 := by omega
                        try rw [e_72]
                        refine zm3082_0 _ hs_23 (by omega) (⟨_, rfl, ?_⟩)
                        have e_73 : gp_cmp (0#64) (0#64) = 0 := by decide
                        try rw [e_73]
                        refine ⟨fun h_74 => ?_, fun h_74 => ?_⟩
                        · refine ⟨by omega, ?_⟩
                          have f_75 := zr106 hs_23 ((2 : Int).toNat)
                          refine ⟨by omega, ?_⟩
                          have f_76 := zr110 hs_23 ((2 : Int).toNat)
                          have e_77 : gp_I s_21 110 (2 : Int).toNat = 0 := by omega
                          try rw [e_77]
                          refine zm3083_0 _ hs_23 (by omega) (⟨_, rfl, ?_⟩)
                          refine s_3158_114 _ _ _ _ _ _ _ _ _ _ _ _ _ _ _ _ _ ?_
                          have w_78 := gz_w (0 + 0)
                          have e_79 : gp_wr (0 + 0) = 0 := by omega
                          try rw [e_79]
                          refine ⟨fun h_80 => ?_, fun h_80 => ?_⟩
                          · exfalso; omega
                          · refine ⟨fun h_81 => ?_, fun h_81 => ?_⟩
                            · exfalso; omega
                            · refine s_3158_140 _ _ _ _ _ _ _ _ _ _ _ _ _ _ _ _ ?_
                              refine s_3158_146 _ _ _ _ _ _ _ _ _ _ _ _ _ _ ?_
                              have e_82 : gp_cmp (0#64) (0#64) = 0 := by decide
                              try rw [e_82]
                              refine ⟨fun h_83 => ?_, fun h_83 => ?_⟩
                              · have w_84 := gz_w (2 + 1)
                                have e_85 : gp_wr (2 + 1) = 3 := by omega
                                try rw [e_85]
                                refine s_3158_50 _ _ _ _ _ _ _ _ _ _ _ _ _ _ _ _ ?_
                                have f_86 := zr74_49 hs_23 49
                                have e_87 : gp_I s_21 74 49 = 3 := by omega
                                try rw [e_87]
                                refine ⟨fun h_88 => ?_, fun h_88 => ?_⟩
                                · exfalso; omega
                                · refine ⟨fun h_89 => ?_, fun h_89 => ?_⟩
                                  · refine ⟨fun h_90 => ?_, fun h_90 => ?_⟩
                                    · refine s_3158_278 _ _ _ _ _ _ _ _ _ _ _ _ _ _ _ _ _ _ ?_
                                      refine ⟨by omega, ?_⟩
                                      intro s_91 e_92
                                      have hs_93 : zM z s_91 := by rw [e_92]; exact zw108 hs_23 _ _ (by omega)
                                      have q_94 : gp_I s_91 74 11 = 0 := by rw [e_92]; exact q_24
                                      have q_95 : gp_I s_91 74 43 = 0 := by rw [e_92]; exact q_25
                                      have q_96 : gp_I s_91 74 57 = 0 := by rw [e_92]; exact q_26
                                      have q_97 : gp_I s_91 74 58 = 0 := by rw [e_92]; exact q_27
                                      have q_98 : gp_I s_91 74 7 = 1 := by rw [e_92]; exact q_28
                                      have q_99 : gp_I s_91 74 9 = 0 := by rw [e_92]; exact q_29
                                      have q_100 : gp_I s_91 81 20 = 0 := by rw [e_92]; exact q_30
                                      refine s_3158_301 _ _ _ _ _ _ _ _ _ _ _ _ _ _ _ _ ?_
                                      have w_101 := gz_w (0 + 1)
                                      have e_102 : gp_wr (0 + 1) = 1 := by omega
                                      try rw [e_102]
                                      refine s_3158_32 _ _ _ _ _ _ _ _ _ _ _ _ _ _ _ _ ?_
                                      refine ⟨fun h_103 => ?_, fun h_103 => ?_⟩
                                      · refine s_3158_50 _ _ _ _ _ _ _ _ _ _ _ _ _ _ _ _ ?_
                                        have f_104 := zr74_49 hs_93 49
                                        refine ⟨fun h_105 => ?_, fun h_105 => ?_⟩
                                        · refine ⟨by omega, ?_⟩
                                          have f_106 := zr106 hs_93 ((0 : Int).toNat)
                                          refine ⟨by omega, ?_⟩
                                          have f_107 := zr110 hs_93 ((0 : Int).toNat)
                                          have e_108 : gp_I s_91 110 (0 : Int).toNat = 0 := by omega
                                          try rw [e_108]
                                          refine zm3082_1 _ hs_93 (by omega) (⟨_, rfl, ?_⟩)
                                          have e_109 : gp_cmp (0#64) (0#64) = 0 := by decide
                                          try rw [e_109]
                                          refine ⟨fun h_110 => ?_, fun h_110 => ?_⟩
                                          · refine ⟨by omega, ?_⟩
                                            have f_111 := zr106 hs_93 ((0 : Int).toNat)
                                            refine ⟨by omega, ?_⟩
                                            have f_112 := zr110 hs_93 ((0 : Int).toNat)
                                            have e_113 : gp_I s_91 110 (0 : Int).toNat = 0 := by omega
                                            try rw [e_113]
                                            refine zm3083_1 _ hs_93 (by omega) (⟨_, rfl, ?_⟩)
                                            refine s_3158_114 _ _ _ _ _ _ _ _ _ _ _ _ _ _ _ _ _ ?_
                                            have w_114 := gz_w (0 + 0)
                                            have e_115 : gp_wr (0 + 0) = 0 := by omega
                                            try rw [e_115]
                                            refine ⟨fun h_116 => ?_, fun h_116 => ?_⟩
                                            · refine s_3158_140 _ _ _ _ _ _ _ _ _ _ _ _ _ _ _ _ ?_
                                              refine s_3158_146 _ _ _ _ _ _ _ _ _ _ _ _ _ _ ?_
                                              have e_117 : gp_cmp (0#64) (0#64) = 0 := by decide
                                              try rw [e_117]
                                              refine ⟨fun h_118 => ?_, fun h_118 => ?_⟩
                                              · have w_119 := gz_w (0 + 1)
                                                have e_120 : gp_wr (0 + 1) = 1 := by omega
                                                try rw [e_120]
                                                refine s_3158_50 _ _ _ _ _ _ _ _ _ _ _ _ _ _ _ _ ?_
                                                have f_121 := zr74_49 hs_93 49
                                                refine ⟨fun h_122 => ?_, fun h_122 => ?_⟩
                                                · refine ⟨by omega, ?_⟩
                                                  have f_123 := zr106 hs_93 ((1 : Int).toNat)
                                                  refine ⟨by omega, ?_⟩
                                                  have f_124 := zr110 hs_93 ((1 : Int).toNat)
                                                  have e_125 : gp_I s_91 110 (1 : Int).toNat = 0 := by omega
                                                  try rw [e_125]
                                                  refine zm3082_1 _ hs_93 (by omega) (⟨_, rfl, ?_⟩)
                                                  have e_126 : gp_cmp (0#64) (0#64) = 0 := by decide
                                                  try rw [e_126]
                                                  refine ⟨fun h_127 => ?_, fun h_127 => ?_⟩
                                                  · refine ⟨by omega, ?_⟩
                                                    have f_128 := zr106 hs_93 ((1 : Int).toNat)
                                                    refine ⟨by omega, ?_⟩
                                                    have f_129 := zr110 hs_93 ((1 : Int).toNat)
                                                    have e_130 : gp_I s_91 110 (1 : Int).toNat = 0 := by omega
                                                    try rw [e_130]
                                                    refine zm3083_1 _ hs_93 (by omega) (⟨_, rfl, ?_⟩)
                                                    refine s_3158_114 _ _ _ _ _ _ _ _ _ _ _ _ _ _ _ _ _ ?_
                                                    have w_131 := gz_w (0 + 0)
                                                    have e_132 : gp_wr (0 + 0) = 0 := by omega
                                                    try rw [e_132]
                                                    refine ⟨fun h_133 => ?_, fun h_133 => ?_⟩
                                                    · exfalso; omega
                                                    · refine ⟨fun h_134 => ?_, fun h_134 => ?_⟩
                                                      · refine s_3158_140 _ _ _ _ _ _ _ _ _ _ _ _ _ _ _ _ ?_
                                                        refine s_3158_146 _ _ _ _ _ _ _ _ _ _ _ _ _ _ ?_
                                                        have e_135 : gp_cmp (0#64) (0#64) = 0 := by decide
                                                        try rw [e_135]
                                                        refine ⟨fun h_136 => ?_, fun h_136 => ?_⟩
                                                        · have w_137 := gz_w (1 + 1)
                                                          have e_138 : gp_wr (1 + 1) = 2 := by omega
                                                          try rw [e_138]
                                                          refine s_3158_50 _ _ _ _ _ _ _ _ _ _ _ _ _ _ _ _ ?_
                                                          have f_139 := zr74_49 hs_93 49
                                                          refine ⟨fun h_140 => ?_, fun h_140 => ?_⟩
                                                          · have e_141 : gp_I s_91 74 49 = 3 := by omega
                                                            try rw [e_141]
                                                            refine ⟨by omega, ?_⟩
                                                            have f_142 := zr106 hs_93 ((2 : Int).toNat)
                                                            refine ⟨by omega, ?_⟩
                                                            have f_143 := zr110 hs_93 ((2 : Int).toNat)
                                                            have e_144 : gp_I s_91 110 (2 : Int).toNat = 0 := by omega
                                                            try rw [e_144]
                                                            refine zm3082_1 _ hs_93 (by omega) (⟨_, rfl, ?_⟩)
                                                            have e_145 : gp_cmp (0#64) (0#64) = 0 := by decide
                                                            try rw [e_145]
                                                            refine ⟨fun h_146 => ?_, fun h_146 => ?_⟩
                                                            · refine ⟨by omega, ?_⟩
                                                              have f_147 := zr106 hs_93 ((2 : Int).toNat)
                                                              refine ⟨by omega, ?_⟩
                                                              have f_148 := zr110 hs_93 ((2 : Int).toNat)
                                                              have e_149 : gp_I s_91 110 (2 : Int).toNat = 0 := by omega
                                                              try rw [e_149]
                                                              refine zm3083_1 _ hs_93 (by omega) (⟨_, rfl, ?_⟩)
                                                              refine s_3158_114 _ _ _ _ _ _ _ _ _ _ _ _ _ _ _ _ _ ?_
                                                              have w_150 := gz_w (0 + 0)
                                                              have e_151 : gp_wr (0 + 0) = 0 := by omega
                                                              try rw [e_151]
                                                              refine ⟨fun h_152 => ?_, fun h_152 => ?_⟩
                                                              · exfalso; omega
                                                              · refine ⟨fun h_153 => ?_, fun h_153 => ?_⟩
                                                                · exfalso; omega
                                                                · refine s_3158_140 _ _ _ _ _ _ _ _ _ _ _ _ _ _ _ _ ?_
                                                                  refine s_3158_146 _ _ _ _ _ _ _ _ _ _ _ _ _ _ ?_
                                                                  have e_154 : gp_cmp (0#64) (0#64) = 0 := by decide
                                                                  try rw [e_154]
                                                                  refine ⟨fun h_155 => ?_, fun h_155 => ?_⟩
                                                                  · have w_156 := gz_w (2 + 1)
                                                                    have e_157 : gp_wr (2 + 1) = 3 := by omega
                                                                    try rw [e_157]
                                                                    refine s_3158_50 _ _ _ _ _ _ _ _ _ _ _ _ _ _ _ _ ?_
                                                                    have f_158 := zr74_49 hs_93 49
                                                                    have e_159 : gp_I s_91 74 49 = 3 := by omega
                                                                    try rw [e_159]
                                                                    refine ⟨fun h_160 => ?_, fun h_160 => ?_⟩
                                                                    · exfalso; omega
                                                                    · refine ⟨fun h_161 => ?_, fun h_161 => ?_⟩
                                                                      · exfalso; omega
                                                                      · refine ⟨fun h_162 => ?_, fun h_162 => ?_⟩
                                                                        · refine s_3158_300 _ _ _ _ _ _ _ _ _ _ _ _ _ _ _ _ _ _ ?_
                                                                          refine ⟨by omega, ?_⟩
                                                                          intro s_163 e_164
                                                                          have hs_165 : zM z s_163 := by rw [e_164]; exact zw109 hs_93 _ _ (by omega)
                                                                          have q_166 : gp_I s_163 74 11 = 0 := by rw [e_164]; exact q_94
                                                                          have q_167 : gp_I s_163 74 43 = 0 := by rw [e_164]; exact q_95
                                                                          have q_168 : gp_I s_163 74 57 = 0 := by rw [e_164]; exact q_96
                                                                          have q_169 : gp_I s_163 74 58 = 0 := by rw [e_164]; exact q_97
                                                                          have q_170 : gp_I s_163 74 7 = 1 := by rw [e_164]; exact q_98
                                                                          have q_171 : gp_I s_163 74 9 = 0 := by rw [e_164]; exact q_99
                                                                          have q_172 : gp_I s_163 81 20 = 0 := by rw [e_164]; exact q_100
                                                                          refine s_3158_301 _ _ _ _ _ _ _ _ _ _ _ _ _ _ _ _ ?_
                                                                          have w_173 := gz_w (1 + 1)
                                                                          have e_174 : gp_wr (1 + 1) = 2 := by omega
                                                                          try rw [e_174]
                                                                          refine s_3158_32 _ _ _ _ _ _ _ _ _ _ _ _ _ _ _ _ ?_
                                                                          refine ⟨fun h_175 => ?_, fun h_175 => ?_⟩
                                                                          · exfalso; omega
                                                                          · exact k s_163 hs_165 (by omega) (by omega) (by omega) (by omega) (by omega) (by omega) (by omega)
                                                                        · exfalso; omega
                                                                  · exfalso; omega
                                                            · exfalso; omega
                                                          · have e_176 : gp_I s_91 74 49 = 2 := by omega
                                                            try rw [e_176]
                                                            refine ⟨fun h_177 => ?_, fun h_177 => ?_⟩
                                                            · exfalso; omega
                                                            · refine ⟨fun h_178 => ?_, fun h_178 => ?_⟩
                                                              · refine s_3158_300 _ _ _ _ _ _ _ _ _ _ _ _ _ _ _ _ _ _ ?_
                                                                refine ⟨by omega, ?_⟩
                                                                intro s_179 e_180
                                                                have hs_181 : zM z s_179 := by rw [e_180]; exact zw109 hs_93 _ _ (by omega)
                                                                have q_182 : gp_I s_179 74 11 = 0 := by rw [e_180]; exact q_94
                                                                have q_183 : gp_I s_179 74 43 = 0 := by rw [e_180]; exact q_95
                                                                have q_184 : gp_I s_179 74 57 = 0 := by rw [e_180]; exact q_96
                                                                have q_185 : gp_I s_179 74 58 = 0 := by rw [e_180]; exact q_97
                                                                have q_186 : gp_I s_179 74 7 = 1 := by rw [e_180]; exact q_98
                                                                have q_187 : gp_I s_179 74 9 = 0 := by rw [e_180]; exact q_99
                                                                have q_188 : gp_I s_179 81 20 = 0 := by rw [e_180]; exact q_100
                                                                refine s_3158_301 _ _ _ _ _ _ _ _ _ _ _ _ _ _ _ _ ?_
                                                                have w_189 := gz_w (1 + 1)
                                                                have e_190 : gp_wr (1 + 1) = 2 := by omega
                                                                try rw [e_190]
                                                                refine s_3158_32 _ _ _ _ _ _ _ _ _ _ _ _ _ _ _ _ ?_
                                                                refine ⟨fun h_191 => ?_, fun h_191 => ?_⟩
                                                                · exfalso; omega
                                                                · exact k s_179 hs_181 (by omega) (by omega) (by omega) (by omega) (by omega) (by omega) (by omega)
                                                              · exfalso; omega
                                                        · exfalso; omega
                                                      · exfalso; omega
                                                  · exfalso; omega
                                                · have e_192 : gp_I s_91 74 49 = 1 := by omega
                                                  try rw [e_192]
                                                  refine ⟨fun h_193 => ?_, fun h_193 => ?_⟩
                                                  · exfalso; omega
                                                  · refine ⟨fun h_194 => ?_, fun h_194 => ?_⟩
                                                    · refine s_3158_300 _ _ _ _ _ _ _ _ _ _ _ _ _ _ _ _ _ _ ?_
                                                      refine ⟨by omega, ?_⟩
                                                      intro s_195 e_196
                                                      have hs_197 : zM z s_195 := by rw [e_196]; exact zw109 hs_93 _ _ (by omega)
                                                      have q_198 : gp_I s_195 74 11 = 0 := by rw [e_196]; exact q_94
                                                      have q_199 : gp_I s_195 74 43 = 0 := by rw [e_196]; exact q_95
                                                      have q_200 : gp_I s_195 74 57 = 0 := by rw [e_196]; exact q_96
                                                      have q_201 : gp_I s_195 74 58 = 0 := by rw [e_196]; exact q_97
                                                      have q_202 : gp_I s_195 74 7 = 1 := by rw [e_196]; exact q_98
                                                      have q_203 : gp_I s_195 74 9 = 0 := by rw [e_196]; exact q_99
                                                      have q_204 : gp_I s_195 81 20 = 0 := by rw [e_196]; exact q_100
                                                      refine s_3158_301 _ _ _ _ _ _ _ _ _ _ _ _ _ _ _ _ ?_
                                                      have w_205 := gz_w (1 + 1)
                                                      have e_206 : gp_wr (1 + 1) = 2 := by omega
                                                      try rw [e_206]
                                                      refine s_3158_32 _ _ _ _ _ _ _ _ _ _ _ _ _ _ _ _ ?_
                                                      refine ⟨fun h_207 => ?_, fun h_207 => ?_⟩
                                                      · exfalso; omega
                                                      · exact k s_195 hs_197 (by omega) (by omega) (by omega) (by omega) (by omega) (by omega) (by omega)
                                                    · exfalso; omega
                                              · exfalso; omega
                                            · exfalso; omega
                                          · exfalso; omega
                                        · have e_208 : gp_I s_91 74 49 = 0 := by omega
                                          try rw [e_208]
                                          refine ⟨fun h_209 => ?_, fun h_209 => ?_⟩
                                          · exfalso; omega
                                          · refine ⟨fun h_210 => ?_, fun h_210 => ?_⟩
                                            · refine s_3158_300 _ _ _ _ _ _ _ _ _ _ _ _ _ _ _ _ _ _ ?_
                                              refine ⟨by omega, ?_⟩
                                              intro s_211 e_212
                                              have hs_213 : zM z s_211 := by rw [e_212]; exact zw109 hs_93 _ _ (by omega)
                                              have q_214 : gp_I s_211 74 11 = 0 := by rw [e_212]; exact q_94
                                              have q_215 : gp_I s_211 74 43 = 0 := by rw [e_212]; exact q_95
                                              have q_216 : gp_I s_211 74 57 = 0 := by rw [e_212]; exact q_96
                                              have q_217 : gp_I s_211 74 58 = 0 := by rw [e_212]; exact q_97
                                              have q_218 : gp_I s_211 74 7 = 1 := by rw [e_212]; exact q_98
                                              have q_219 : gp_I s_211 74 9 = 0 := by rw [e_212]; exact q_99
                                              have q_220 : gp_I s_211 81 20 = 0 := by rw [e_212]; exact q_100
                                              refine s_3158_301 _ _ _ _ _ _ _ _ _ _ _ _ _ _ _ _ ?_
                                              have w_221 := gz_w (1 + 1)
                                              have e_222 : gp_wr (1 + 1) = 2 := by omega
                                              try rw [e_222]
                                              refine s_3158_32 _ _ _ _ _ _ _ _ _ _ _ _ _ _ _ _ ?_
                                              refine ⟨fun h_223 => ?_, fun h_223 => ?_⟩
                                              · exfalso; omega
                                              · exact k s_211 hs_213 (by omega) (by omega) (by omega) (by omega) (by omega) (by omega) (by omega)
                                            · exfalso; omega
                                      · exfalso; omega
                                    · exfalso; omega
                                  · exfalso; omega
                              · exfalso; omega
                        · exfalso; omega
                      · have e_224 : gp_I s_21 74 49 = 2 := by omega
                        try rw [e_224]
                        refine ⟨fun h_225 => ?_, fun h_225 => ?_⟩
                        · refine ⟨fun h_226 => ?_, fun h_226 => ?_⟩
                          · refine s_3158_278 _ _ _ _ _ _ _ _ _ _ _ _ _ _ _ _ _ _ ?_
                            refine ⟨by omega, ?_⟩
                            intro s_227 e_228
                            have hs_229 : zM z s_227 := by rw [e_228]; exact zw108 hs_23 _ _ (by omega)
                            have q_230 : gp_I s_227 74 11 = 0 := by rw [e_228]; exact q_24
                            have q_231 : gp_I s_227 74 43 = 0 := by rw [e_228]; exact q_25
                            have q_232 : gp_I s_227 74 57 = 0 := by rw [e_228]; exact q_26
                            have q_233 : gp_I s_227 74 58 = 0 := by rw [e_228]; exact q_27
                            have q_234 : gp_I s_227 74 7 = 1 := by rw [e_228]; exact q_28
                            have q_235 : gp_I s_227 74 9 = 0 := by rw [e_228]; exact q_29
                            have q_236 : gp_I s_227 81 20 = 0 := by rw [e_228]; exact q_30
                            refine s_3158_301 _ _ _ _ _ _ _ _ _ _ _ _ _ _ _ _ ?_
                            have w_237 := gz_w (0 + 1)
                            have e_238 : gp_wr (0 + 1) = 1 := by omega
                            try rw [e_238]
                            refine s_3158_32 _ _ _ _ _ _ _ _ _ _ _ _ _ _ _ _ ?_
                            refine ⟨fun h_239 => ?_, fun h_239 => ?_⟩
                            · refine s_3158_50 _ _ _ _ _ _ _ _ _ _ _ _ _ _ _ _ ?_
                              have f_240 := zr74_49 hs_229 49
                              refine ⟨fun h_241 => ?_, fun h_241 => ?_⟩
                              · refine ⟨by omega, ?_⟩
                                have f_242 := zr106 hs_229 ((0 : Int).toNat)
                                refine ⟨by omega, ?_⟩
                                have f_243 := zr110 hs_229 ((0 : Int).toNat)
                                have e_244 : gp_I s_227 110 (0 : Int).toNat = 0 := by omega
                                try rw [e_244]
                                refine zm3082_1 _ hs_229 (by omega) (⟨_, rfl, ?_⟩)
                                have e_245 : gp_cmp (0#64) (0#64) = 0 := by decide
                                try rw [e_245]
                                refine ⟨fun h_246 => ?_, fun h_246 => ?_⟩
                                · refine ⟨by omega, ?_⟩
                                  have f_247 := zr106 hs_229 ((0 : Int).toNat)
                                  refine ⟨by omega, ?_⟩
                                  have f_248 := zr110 hs_229 ((0 : Int).toNat)
                                  have e_249 : gp_I s_227 110 (0 : Int).toNat = 0 := by omega
                                  try rw [e_249]
                                  refine zm3083_1 _ hs_229 (by omega) (⟨_, rfl, ?_⟩)
                                  refine s_3158_114 _ _ _ _ _ _ _ _ _ _ _ _ _ _ _ _ _ ?_
                                  have w_250 := gz_w (0 + 0)
                                  have e_251 : gp_wr (0 + 0) = 0 := by omega
                                  try rw [e_251]
                                  refine ⟨fun h_252 => ?_, fun h_252 => ?_⟩
                                  · refine s_3158_140 _ _ _ _ _ _ _ _ _ _ _ _ _ _ _ _ ?_
                                    refine s_3158_146 _ _ _ _ _ _ _ _ _ _ _ _ _ _ ?_
                                    have e_253 : gp_cmp (0#64) (0#64) = 0 := by decide
                                    try rw [e_253]
                                    refine ⟨fun h_254 => ?_, fun h_254 => ?_⟩
                                    · have w_255 := gz_w (0 + 1)
                                      have e_256 : gp_wr (0 + 1) = 1 := by omega
                                      try rw [e_256]
                                      refine s_3158_50 _ _ _ _ _ _ _ _ _ _ _ _ _ _ _ _ ?_
                                      have f_257 := zr74_49 hs_229 49
                                      refine ⟨fun h_258 => ?_, fun h_258 => ?_⟩
                                      · refine ⟨by omega, ?_⟩
                                        have f_259 := zr106 hs_229 ((1 : Int).toNat)
                                        refine ⟨by omega, ?_⟩
                                        have f_260 := zr110 hs_229 ((1 : Int).toNat)
                                        have e_261 : gp_I s_227 110 (1 : Int).toNat = 0 := by omega
                                        try rw [e_261]
                                        refine zm3082_1 _ hs_229 (by omega) (⟨_, rfl, ?_⟩)
                                        have e_262 : gp_cmp (0#64) (0#64) = 0 := by decide
                                        try rw [e_262]
                                        refine ⟨fun h_263 => ?_, fun h_263 => ?_⟩
                                        · refine ⟨by omega, ?_⟩
                                          have f_264 := zr106 hs_229 ((1 : Int).toNat)
                                          refine ⟨by omega, ?_⟩
                                          have f_265 := zr110 hs_229 ((1 : Int).toNat)
                                          have e_266 : gp_I s_227 110 (1 : Int).toNat = 0 := by omega
                                          try rw [e_266]
                                          refine zm3083_1 _ hs_229 (by omega) (⟨_, rfl, ?_⟩)
                                          refine s_3158_114 _ _ _ _ _ _ _ _ _ _ _ _ _ _ _ _ _ ?_
                                          have w_267 := gz_w (0 + 0)
                                          have e_268 : gp_wr (0 + 0) = 0 := by omega
                                          try rw [e_268]
                                          refine ⟨fun h_269 => ?_, fun h_269 => ?_⟩
                                          · exfalso; omega
                                          · refine ⟨fun h_270 => ?_, fun h_270 => ?_⟩
                                            · refine s_3158_140 _ _ _ _ _ _ _ _ _ _ _ _ _ _ _ _ ?_
                                              refine s_3158_146 _ _ _ _ _ _ _ _ _ _ _ _ _ _ ?_
                                              have e_271 : gp_cmp (0#64) (0#64) = 0 := by decide
                                              try rw [e_271]
                                              refine ⟨fun h_272 => ?_, fun h_272 => ?_⟩
                                              · have w_273 := gz_w (1 + 1)
                                                have e_274 : gp_wr (1 + 1) = 2 := by omega
                                                try rw [e_274]
                                                refine s_3158_50 _ _ _ _ _ _ _ _ _ _ _ _ _ _ _ _ ?_
                                                have f_275 := zr74_49 hs_229 49
                                                refine ⟨fun h_276 => ?_, fun h_276 => ?_⟩
                                                · have e_277 : gp_I s_227 74 49 = 3 := by omega
                                                  try rw [e_277]
                                                  refine ⟨by omega, ?_⟩
                                                  have f_278 := zr106 hs_229 ((2 : Int).toNat)
                                                  refine ⟨by omega, ?_⟩
                                                  have f_279 := zr110 hs_229 ((2 : Int).toNat)
                                                  have e_280 : gp_I s_227 110 (2 : Int).toNat = 0 := by omega
                                                  try rw [e_280]
                                                  refine zm3082_1 _ hs_229 (by omega) (⟨_, rfl, ?_⟩)
                                                  have e_281 : gp_cmp (0#64) (0#64) = 0 := by decide
                                                  try rw [e_281]
                                                  refine ⟨fun h_282 => ?_, fun h_282 => ?_⟩
                                                  · refine ⟨by omega, ?_⟩
                                                    have f_283 := zr106 hs_229 ((2 : Int).toNat)
                                                    refine ⟨by omega, ?_⟩
                                                    have f_284 := zr110 hs_229 ((2 : Int).toNat)
                                                    have e_285 : gp_I s_227 110 (2 : Int).toNat = 0 := by omega
                                                    try rw [e_285]
                                                    refine zm3083_1 _ hs_229 (by omega) (⟨_, rfl, ?_⟩)
                                                    refine s_3158_114 _ _ _ _ _ _ _ _ _ _ _ _ _ _ _ _ _ ?_
                                                    have w_286 := gz_w (0 + 0)
                                                    have e_287 : gp_wr (0 + 0) = 0 := by omega
                                                    try rw [e_287]
                                                    refine ⟨fun h_288 => ?_, fun h_288 => ?_⟩
                                                    · exfalso; omega
                                                    · refine ⟨fun h_289 => ?_, fun h_289 => ?_⟩
                                                      · exfalso; omega
                                                      · refine s_3158_140 _ _ _ _ _ _ _ _ _ _ _ _ _ _ _ _ ?_
                                                        refine s_3158_146 _ _ _ _ _ _ _ _ _ _ _ _ _ _ ?_
                                                        have e_290 : gp_cmp (0#64) (0#64) = 0 := by decide
                                                        try rw [e_290]
                                                        refine ⟨fun h_291 => ?_, fun h_291 => ?_⟩
                                                        · have w_292 := gz_w (2 + 1)
                                                          have e_293 : gp_wr (2 + 1) = 3 := by omega
                                                          try rw [e_293]
                                                          refine s_3158_50 _ _ _ _ _ _ _ _ _ _ _ _ _ _ _ _ ?_
                                                          have f_294 := zr74_49 hs_229 49
                                                          have e_295 : gp_I s_227 74 49 = 3 := by omega
                                                          try rw [e_295]
                                                          refine ⟨fun h_296 => ?_, fun h_296 => ?_⟩
                                                          · exfalso; omega
                                                          · refine ⟨fun h_297 => ?_, fun h_297 => ?_⟩
                                                            · exfalso; omega
                                                            · refine ⟨fun h_298 => ?_, fun h_298 => ?_⟩
                                                              · refine s_3158_300 _ _ _ _ _ _ _ _ _ _ _ _ _ _ _ _ _ _ ?_
                                                                refine ⟨by omega, ?_⟩
                                                                intro s_299 e_300
                                                                have hs_301 : zM z s_299 := by rw [e_300]; exact zw109 hs_229 _ _ (by omega)
                                                                have q_302 : gp_I s_299 74 11 = 0 := by rw [e_300]; exact q_230
                                                                have q_303 : gp_I s_299 74 43 = 0 := by rw [e_300]; exact q_231
                                                                have q_304 : gp_I s_299 74 57 = 0 := by rw [e_300]; exact q_232
                                                                have q_305 : gp_I s_299 74 58 = 0 := by rw [e_300]; exact q_233
                                                                have q_306 : gp_I s_299 74 7 = 1 := by rw [e_300]; exact q_234
                                                                have q_307 : gp_I s_299 74 9 = 0 := by rw [e_300]; exact q_235
                                                                have q_308 : gp_I s_299 81 20 = 0 := by rw [e_300]; exact q_236
                                                                refine s_3158_301 _ _ _ _ _ _ _ _ _ _ _ _ _ _ _ _ ?_
                                                                have w_309 := gz_w (1 + 1)
                                                                have e_310 : gp_wr (1 + 1) = 2 := by omega
                                                                try rw [e_310]
                                                                refine s_3158_32 _ _ _ _ _ _ _ _ _ _ _ _ _ _ _ _ ?_
                                                                refine ⟨fun h_311 => ?_, fun h_311 => ?_⟩
                                                                · exfalso; omega
                                                                · exact k s_299 hs_301 (by omega) (by omega) (by omega) (by omega) (by omega) (by omega) (by omega)
                                                              · exfalso; omega
                                                        · exfalso; omega
                                                  · exfalso; omega
                                                · have e_312 : gp_I s_227 74 49 = 2 := by omega
                                                  try rw [e_312]
                                                  refine ⟨fun h_313 => ?_, fun h_313 => ?_⟩
                                                  · exfalso; omega
                                                  · refine ⟨fun h_314 => ?_, fun h_314 => ?_⟩
                                                    · refine s_3158_300 _ _ _ _ _ _ _ _ _ _ _ _ _ _ _ _ _ _ ?_
                                                      refine ⟨by omega, ?_⟩
                                                      intro s_315 e_316
                                                      have hs_317 : zM z s_315 := by rw [e_316]; exact zw109 hs_229 _ _ (by omega)
                                                      have q_318 : gp_I s_315 74 11 = 0 := by rw [e_316]; exact q_230
                                                      have q_319 : gp_I s_315 74 43 = 0 := by rw [e_316]; exact q_231
                                                      have q_320 : gp_I s_315 74 57 = 0 := by rw [e_316]; exact q_232
                                                      have q_321 : gp_I s_315 74 58 = 0 := by rw [e_316]; exact q_233
                                                      have q_322 : gp_I s_315 74 7 = 1 := by rw [e_316]; exact q_234
                                                      have q_323 : gp_I s_315 74 9 = 0 := by rw [e_316]; exact q_235
                                                      have q_324 : gp_I s_315 81 20 = 0 := by rw [e_316]; exact q_236
                                                      refine s_3158_301 _ _ _ _ _ _ _ _ _ _ _ _ _ _ _ _ ?_
                                                      have w_325 := gz_w (1 + 1)
                                                      have e_326 : gp_wr (1 + 1) = 2 := by omega
                                                      try rw [e_326]
                                                      refine s_3158_32 _ _ _ _ _ _ _ _ _ _ _ _ _ _ _ _ ?_
                                                      refine ⟨fun h_327 => ?_, fun h_327 => ?_⟩
                                                      · exfalso; omega
                                                      · exact k s_315 hs_317 (by omega) (by omega) (by omega) (by omega) (by omega) (by omega) (by omega)
                                                    · exfalso; omega
                                              · exfalso; omega
                                            · exfalso; omega
                                        · exfalso; omega
                                      · have e_328 : gp_I s_227 74 49 = 1 := by omega
                                        try rw [e_328]
                                        refine ⟨fun h_329 => ?_, fun h_329 => ?_⟩
                                        · exfalso; omega
                                        · refine ⟨fun h_330 => ?_, fun h_330 => ?_⟩
                                          · refine s_3158_300 _ _ _ _ _ _ _ _ _ _ _ _ _ _ _ _ _ _ ?_
                                            refine ⟨by omega, ?_⟩
                                            intro s_331 e_332
                                            have hs_333 : zM z s_331 := by rw [e_332]; exact zw109 hs_229 _ _ (by omega)
                                            have q_334 : gp_I s_331 74 11 = 0 := by rw [e_332]; exact q_230
                                            have q_335 : gp_I s_331 74 43 = 0 := by rw [e_332]; exact q_231
                                            have q_336 : gp_I s_331 74 57 = 0 := by rw [e_332]; exact q_232
                                            have q_337 : gp_I s_331 74 58 = 0 := by rw [e_332]; exact q_233
                                            have q_338 : gp_I s_331 74 7 = 1 := by rw [e_332]; exact q_234
                                            have q_339 : gp_I s_331 74 9 = 0 := by rw [e_332]; exact q_235
                                            have q_340 : gp_I s_331 81 20 = 0 := by rw [e_332]; exact q_236
                                            refine s_3158_301 _ _ _ _ _ _ _ _ _ _ _ _ _ _ _ _ ?_
                                            have w_341 := gz_w (1 + 1)
                                            have e_342 : gp_wr (1 + 1) = 2 := by omega
                                            try rw [e_342]
                                            refine s_3158_32 _ _ _ _ _ _ _ _ _ _ _ _ _ _ _ _ ?_
                                            refine ⟨fun h_343 => ?_, fun h_343 => ?_⟩
                                            · exfalso; omega
                                            · exact k s_331 hs_333 (by omega) (by omega) (by omega) (by omega) (by omega) (by omega) (by omega)
                                          · exfalso; omega
                                    · exfalso; omega
                                  · exfalso; omega
                                · exfalso; omega
                              · have e_344 : gp_I s_227 74 49 = 0 := by omega
                                try rw [e_344]
                                refine ⟨fun h_345 => ?_, fun h_345 => ?_⟩
                                · exfalso; omega
                                · refine ⟨fun h_346 => ?_, fun h_346 => ?_⟩
                                  · refine s_3158_300 _ _ _ _ _ _ _ _ _ _ _ _ _ _ _ _ _ _ ?_
                                    refine ⟨by omega, ?_⟩
                                    intro s_347 e_348
                                    have hs_349 : zM z s_347 := by rw [e_348]; exact zw109 hs_229 _ _ (by omega)
                                    have q_350 : gp_I s_347 74 11 = 0 := by rw [e_348]; exact q_230
                                    have q_351 : gp_I s_347 74 43 = 0 := by rw [e_348]; exact q_231
                                    have q_352 : gp_I s_347 74 57 = 0 := by rw [e_348]; exact q_232
                                    have q_353 : gp_I s_347 74 58 = 0 := by rw [e_348]; exact q_233
                                    have q_354 : gp_I s_347 74 7 = 1 := by rw [e_348]; exact q_234
                                    have q_355 : gp_I s_347 74 9 = 0 := by rw [e_348]; exact q_235
                                    have q_356 : gp_I s_347 81 20 = 0 := by rw [e_348]; exact q_236
                                    refine s_3158_301 _ _ _ _ _ _ _ _ _ _ _ _ _ _ _ _ ?_
                                    have w_357 := gz_w (1 + 1)
                                    have e_358 : gp_wr (1 + 1) = 2 := by omega
                                    try rw [e_358]
                                    refine s_3158_32 _ _ _ _ _ _ _ _ _ _ _ _ _ _ _ _ ?_
                                    refine ⟨fun h_359 => ?_, fun h_359 => ?_⟩
                                    · exfalso; omega
                                    · exact k s_347 hs_349 (by omega) (by omega) (by omega) (by omega) (by omega) (by omega) (by omega)
                                  · exfalso; omega
                            · exfalso; omega
                          · exfalso; omega
                        · exfalso; omega
                    · exfalso; omega
                  · exfalso; omega
              · exfalso; omega
            · have e_360 : gp_I s_21 74 49 = 1 := by omega
              try rw [e_360]
              refine ⟨fun h_361 => ?_, fun h_361 => ?_⟩
              · refine ⟨fun h_362 => ?_, fun h_362 => ?_⟩
                · refine s_3158_278 _ _ _ _ _ _ _ _ _ _ _ _ _ _ _ _ _ _ ?_
                  refine ⟨by omega, ?_⟩
                  intro s_363 e_364
                  have hs_365 : zM z s_363 := by rw [e_364]; exact zw108 hs_23 _ _ (by omega)
                  have q_366 : gp_I s_363 74 11 = 0 := by rw [e_364]; exact q_24
                  have q_367 : gp_I s_363 74 43 = 0 := by rw [e_364]; exact q_25
                  have q_368 : gp_I s_363 74 57 = 0 := by rw [e_364]; exact q_26
                  have q_369 : gp_I s_363 74 58 = 0 := by rw [e_364]; exact q_27
                  have q_370 : gp_I s_363 74 7 = 1 := by rw [e_364]; exact q_28
                  have q_371 : gp_I s_363 74 9 = 0 := by rw [e_364]; exact q_29
                  have q_372 : gp_I s_363 81 20 = 0 := by rw [e_364]; exact q_30
                  refine s_3158_301 _ _ _ _ _ _ _ _ _ _ _ _ _ _ _ _ ?_
                  have w_373 := gz_w (0 + 1)
                  have e_374 : gp_wr (0 + 1) = 1 := by omega
                  try rw [e_374]
                  refine s_3158_32 _ _ _ _ _ _ _ _ _ _ _ _ _ _ _ _ ?_
                  refine ⟨fun h_375 => ?_, fun h_375 => ?_⟩
                  · refine s_3158_50 _ _ _ _ _ _ _ _ _ _ _ _ _ _ _ _ ?_
                    have f_376 := zr74_49 hs_365 49
                    refine ⟨fun h_377 => ?_, fun h_377 => ?_⟩
                    · refine ⟨by omega, ?_⟩
                      have f_378 := zr106 hs_365 ((0 : Int).toNat)
                      refine ⟨by omega, ?_⟩
                      have f_379 := zr110 hs_365 ((0 : Int).toNat)
                      have e_380 : gp_I s_363 110 (0 : Int).toNat = 0 := by omega
                      try rw [e_380]
                      refine zm3082_1 _ hs_365 (by omega) (⟨_, rfl, ?_⟩)
                      have e_381 : gp_cmp (0#64) (0#64) = 0 := by decide
                      try rw [e_381]
                      refine ⟨fun h_382 => ?_, fun h_382 => ?_⟩
                      · refine ⟨by omega, ?_⟩
                        have f_383 := zr106 hs_365 ((0 : Int).toNat)
                        refine ⟨by omega, ?_⟩
                        have f_384 := zr110 hs_365 ((0 : Int).toNat)
                        have e_385 : gp_I s_363 110 (0 : Int).toNat = 0 := by omega
                        try rw [e_385]
                        refine zm3083_1 _ hs_365 (by omega) (⟨_, rfl, ?_⟩)
                        refine s_3158_114 _ _ _ _ _ _ _ _ _ _ _ _ _ _ _ _ _ ?_
                        have w_386 := gz_w (0 + 0)
                        have e_387 : gp_wr (0 + 0) = 0 := by omega
                        try rw [e_387]
                        refine ⟨fun h_388 => ?_, fun h_388 => ?_⟩
                        · refine s_3158_140 _ _ _ _ _ _ _ _ _ _ _ _ _ _ _ _ ?_
                          refine s_3158_146 _ _ _ _ _ _ _ _ _ _ _ _ _ _ ?_
                          have e_389 : gp_cmp (0#64) (0#64) = 0 := by decide
                          try rw [e_389]
                          refine ⟨fun h_390 => ?_, fun h_390 => ?_⟩
                          · have w_391 := gz_w (0 + 1)
                            have e_392 : gp_wr (0 + 1) = 1 := by omega
                            try rw [e_392]
                            refine s_3158_50 _ _ _ _ _ _ _ _ _ _ _ _ _ _ _ _ ?_
                            have f_393 := zr74_49 hs_365 49
                            refine ⟨fun h_394 => ?_, fun h_394 => ?_⟩
                            · refine ⟨by omega, ?_⟩
                              have f_395 := zr106 hs_365 ((1 : Int).toNat)
                              refine ⟨by omega, ?_⟩
                              have f_396 := zr110 hs_365 ((1 : Int).toNat)
                              have e_397 : gp_I s_363 110 (1 : Int).toNat = 0 := by omega
                              try rw [e_397]
                              refine zm3082_1 _ hs_365 (by omega) (⟨_, rfl, ?_⟩)
                              have e_398 : gp_cmp (0#64) (0#64) = 0 := by decide
                              try rw [e_398]
                              refine ⟨fun h_399 => ?_, fun h_399 => ?_⟩
                              · refine ⟨by omega, ?_⟩
                                have f_400 := zr106 hs_365 ((1 : Int).toNat)
                                refine ⟨by omega, ?_⟩
                                have f_401 := zr110 hs_365 ((1 : Int).toNat)
                                have e_402 : gp_I s_363 110 (1 : Int).toNat = 0 := by omega
                                try rw [e_402]
                                refine zm3083_1 _ hs_365 (by omega) (⟨_, rfl, ?_⟩)
                                refine s_3158_114 _ _ _ _ _ _ _ _ _ _ _ _ _ _ _ _ _ ?_
                                have w_403 := gz_w (0 + 0)
                                have e_404 : gp_wr (0 + 0) = 0 := by omega
                                try rw [e_404]
                                refine ⟨fun h_405 => ?_, fun h_405 => ?_⟩
                                · exfalso; omega
                                · refine ⟨fun h_406 => ?_, fun h_406 => ?_⟩
                                  · refine s_3158_140 _ _ _ _ _ _ _ _ _ _ _ _ _ _ _ _ ?_
                                    refine s_3158_146 _ _ _ _ _ _ _ _ _ _ _ _ _ _ ?_
                                    have e_407 : gp_cmp (0#64) (0#64) = 0 := by decide
                                    try rw [e_407]
                                    refine ⟨fun h_408 => ?_, fun h_408 => ?_⟩
                                    · have w_409 := gz_w (1 + 1)
                                      have e_410 : gp_wr (1 + 1) = 2 := by omega
                                      try rw [e_410]
                                      refine s_3158_50 _ _ _ _ _ _ _ _ _ _ _ _ _ _ _ _ ?_
                                      have f_411 := zr74_49 hs_365 49
                                      refine ⟨fun h_412 => ?_, fun h_412 => ?_⟩
                                      · have e_413 : gp_I s_363 74 49 = 3 := by omega
                                        try rw [e_413]
                                        refine ⟨by omega, ?_⟩
                                        have f_414 := zr106 hs_365 ((2 : Int).toNat)
                                        refine ⟨by omega, ?_⟩
                                        have f_415 := zr110 hs_365 ((2 : Int).toNat)
                                        have e_416 : gp_I s_363 110 (2 : Int).toNat = 0 := by omega
                                        try rw [e_416]
                                        refine zm3082_1 _ hs_365 (by omega) (⟨_, rfl, ?_⟩)
                                        have e_417 : gp_cmp (0#64) (0#64) = 0 := by decide
                                        try rw [e_417]
                                        refine ⟨fun h_418 => ?_, fun h_418 => ?_⟩
                                        · refine ⟨by omega, ?_⟩
                                          have f_419 := zr106 hs_365 ((2 : Int).toNat)
                                          refine ⟨by omega, ?_⟩
                                          have f_420 := zr110 hs_365 ((2 : Int).toNat)
                                          have e_421 : gp_I s_363 110 (2 : Int).toNat = 0 := by omega
                                          try rw [e_421]
                                          refine zm3083_1 _ hs_365 (by omega) (⟨_, rfl, ?_⟩)
                                          refine s_3158_114 _ _ _ _ _ _ _ _ _ _ _ _ _ _ _ _ _ ?_
                                          have w_422 := gz_w (0 + 0)
                                          have e_423 : gp_wr (0 + 0) = 0 := by omega
                                          try rw [e_423]
                                          refine ⟨fun h_424 => ?_, fun h_424 => ?_⟩
                                          · exfalso; omega
                                          · refine ⟨fun h_425 => ?_, fun h_425 => ?_⟩
                                            · exfalso; omega
                                            · refine s_3158_140 _ _ _ _ _ _ _ _ _ _ _ _ _ _ _ _ ?_
                                              refine s_3158_146 _ _ _ _ _ _ _ _ _ _ _ _ _ _ ?_
                                              have e_426 : gp_cmp (0#64) (0#64) = 0 := by decide
                                              try rw [e_426]
                                              refine ⟨fun h_427 => ?_, fun h_427 => ?_⟩
                                              · have w_428 := gz_w (2 + 1)
                                                have e_429 : gp_wr (2 + 1) = 3 := by omega
                                                try rw [e_429]
                                                refine s_3158_50 _ _ _ _ _ _ _ _ _ _ _ _ _ _ _ _ ?_
                                                have f_430 := zr74_49 hs_365 49
                                                have e_431 : gp_I s_363 74 49 = 3 := by omega
                                                try rw [e_431]
                                                refine ⟨fun h_432 => ?_, fun h_432 => ?_⟩
                                                · exfalso; omega
                                                · refine ⟨fun h_433 => ?_, fun h_433 => ?_⟩
                                                  · exfalso; omega
                                                  · refine ⟨fun h_434 => ?_, fun h_434 => ?_⟩
                                                    · refine s_3158_300 _ _ _ _ _ _ _ _ _ _ _ _ _ _ _ _ _ _ ?_
                                                      refine ⟨by omega, ?_⟩
                                                      intro s_435 e_436
                                                      have hs_437 : zM z s_435 := by rw [e_436]; exact zw109 hs_365 _ _ (by omega)
                                                      have q_438 : gp_I s_435 74 11 = 0 := by rw [e_436]; exact q_366
                                                      have q_439 : gp_I s_435 74 43 = 0 := by rw [e_436]; exact q_367
                                                      have q_440 : gp_I s_435 74 57 = 0 := by rw [e_436]; exact q_368
                                                      have q_441 : gp_I s_435 74 58 = 0 := by rw [e_436]; exact q_369
                                                      have q_442 : gp_I s_435 74 7 = 1 := by rw [e_436]; exact q_370
                                                      have q_443 : gp_I s_435 74 9 = 0 := by rw [e_436]; exact q_371
                                                      have q_444 : gp_I s_435 81 20 = 0 := by rw [e_436]; exact q_372
                                                      refine s_3158_301 _ _ _ _ _ _ _ _ _ _ _ _ _ _ _ _ ?_
                                                      have w_445 := gz_w (1 + 1)
                                                      have e_446 : gp_wr (1 + 1) = 2 := by omega
                                                      try rw [e_446]
                                                      refine s_3158_32 _ _ _ _ _ _ _ _ _ _ _ _ _ _ _ _ ?_
                                                      refine ⟨fun h_447 => ?_, fun h_447 => ?_⟩
                                                      · exfalso; omega
                                                      · exact k s_435 hs_437 (by omega) (by omega) (by omega) (by omega) (by omega) (by omega) (by omega)
                                                    · exfalso; omega
                                              · exfalso; omega
                                        · exfalso; omega
                                      · have e_448 : gp_I s_363 74 49 = 2 := by omega
                                        try rw [e_448]
                                        refine ⟨fun h_449 => ?_, fun h_449 => ?_⟩
                                        · exfalso; omega
                                        · refine ⟨fun h_450 => ?_, fun h_450 => ?_⟩
                                          · refine s_3158_300 _ _ _ _ _ _ _ _ _ _ _ _ _ _ _ _ _ _ ?_
                                            refine ⟨by omega, ?_⟩
                                            intro s_451 e_452
                                            have hs_453 : zM z s_451 := by rw [e_452]; exact zw109 hs_365 _ _ (by omega)
                                            have q_454 : gp_I s_451 74 11 = 0 := by rw [e_452]; exact q_366
                                            have q_455 : gp_I s_451 74 43 = 0 := by rw [e_452]; exact q_367
                                            have q_456 : gp_I s_451 74 57 = 0 := by rw [e_452]; exact q_368
                                            have q_457 : gp_I s_451 74 58 = 0 := by rw [e_452]; exact q_369
                                            have q_458 : gp_I s_451 74 7 = 1 := by rw [e_452]; exact q_370
                                            have q_459 : gp_I s_451 74 9 = 0 := by rw [e_452]; exact q_371
                                            have q_460 : gp_I s_451 81 20 = 0 := by rw [e_452]; exact q_372
                                            refine s_3158_301 _ _ _ _ _ _ _ _ _ _ _ _ _ _ _ _ ?_
                                            have w_461 := gz_w (1 + 1)
                                            have e_462 : gp_wr (1 + 1) = 2 := by omega
                                            try rw [e_462]
                                            refine s_3158_32 _ _ _ _ _ _ _ _ _ _ _ _ _ _ _ _ ?_
                                            refine ⟨fun h_463 => ?_, fun h_463 => ?_⟩
                                            · exfalso; omega
                                            · exact k s_451 hs_453 (by omega) (by omega) (by omega) (by omega) (by omega) (by omega) (by omega)
                                          · exfalso; omega
                                    · exfalso; omega
                                  · exfalso; omega
                              · exfalso; omega
                            · have e_464 : gp_I s_363 74 49 = 1 := by omega
                              try rw [e_464]
                              refine ⟨fun h_465 => ?_, fun h_465 => ?_⟩
                              · exfalso; omega
                              · refine ⟨fun h_466 => ?_, fun h_466 => ?_⟩
                                · refine s_3158_300 _ _ _ _ _ _ _ _ _ _ _ _ _ _ _ _ _ _ ?_
                                  refine ⟨by omega, ?_⟩
                                  intro s_467 e_468
                                  have hs_469 : zM z s_467 := by rw [e_468]; exact zw109 hs_365 _ _ (by omega)
                                  have q_470 : gp_I s_467 74 11 = 0 := by rw [e_468]; exact q_366
                                  have q_471 : gp_I s_467 74 43 = 0 := by rw [e_468]; exact q_367
                                  have q_472 : gp_I s_467 74 57 = 0 := by rw [e_468]; exact q_368
                                  have q_473 : gp_I s_467 74 58 = 0 := by rw [e_468]; exact q_369
                                  have q_474 : gp_I s_467 74 7 = 1 := by rw [e_468]; exact q_370
                                  have q_475 : gp_I s_467 74 9 = 0 := by rw [e_468]; exact q_371
                                  have q_476 : gp_I s_467 81 20 = 0 := by rw [e_468]; exact q_372
                                  refine s_3158_301 _ _ _ _ _ _ _ _ _ _ _ _ _ _ _ _ ?_
                                  have w_477 := gz_w (1 + 1)
                                  have e_478 : gp_wr (1 + 1) = 2 := by omega
                                  try rw [e_478]
                                  refine s_3158_32 _ _ _ _ _ _ _ _ _ _ _ _ _ _ _ _ ?_
                                  refine ⟨fun h_479 => ?_, fun h_479 => ?_⟩
                                  · exfalso; omega
                                  · exact k s_467 hs_469 (by omega) (by omega) (by omega) (by omega) (by omega) (by omega) (by omega)
                                · exfalso; omega
                          · exfalso; omega
                        · exfalso; omega
                      · exfalso; omega
                    · have e_480 : gp_I s_363 74 49 = 0 := by omega
                      try rw [e_480]
                      refine ⟨fun h_481 => ?_, fun h_481 => ?_⟩
                      · exfalso; omega
                      · refine ⟨fun h_482 => ?_, fun h_482 => ?_⟩
                        · refine s_3158_300 _ _ _ _ _ _ _ _ _ _ _ _ _ _ _ _ _ _ ?_
                          refine ⟨by omega, ?_⟩
                          intro s_483 e_484
                          have hs_485 : zM z s_483 := by rw [e_484]; exact zw109 hs_365 _ _ (by omega)
                          have q_486 : gp_I s_483 74 11 = 0 := by rw [e_484]; exact q_366
                          have q_487 : gp_I s_483 74 43 = 0 := by rw [e_484]; exact q_367
                          have q_488 : gp_I s_483 74 57 = 0 := by rw [e_484]; exact q_368
                          have q_489 : gp_I s_483 74 58 = 0 := by rw [e_484]; exact q_369
                          have q_490 : gp_I s_483 74 7 = 1 := by rw [e_484]; exact q_370
                          have q_491 : gp_I s_483 74 9 = 0 := by rw [e_484]; exact q_371
                          have q_492 : gp_I s_483 81 20 = 0 := by rw [e_484]; exact q_372
                          refine s_3158_301 _ _ _ _ _ _ _ _ _ _ _ _ _ _ _ _ ?_
                          have w_493 := gz_w (1 + 1)
                          have e_494 : gp_wr (1 + 1) = 2 := by omega
                          try rw [e_494]
                          refine s_3158_32 _ _ _ _ _ _ _ _ _ _ _ _ _ _ _ _ ?_
                          refine ⟨fun h_495 => ?_, fun h_495 => ?_⟩
                          · exfalso; omega
                          · exact k s_483 hs_485 (by omega) (by omega) (by omega) (by omega) (by omega) (by omega) (by omega)
                        · exfalso; omega
                  · exfalso; omega
                · exfalso; omega
              · exfalso; omega
          · exfalso; omega
        · exfalso; omega
      · exfalso; omega
    · have e_496 : gp_I s_21 74 49 = 0 := by omega
      try rw [e_496]
      refine ⟨fun h_497 => ?_, fun h_497 => ?_⟩
      · refine ⟨fun h_498 => ?_, fun h_498 => ?_⟩
        · refine s_3158_278 _ _ _ _ _ _ _ _ _ _ _ _ _ _ _ _ _ _ ?_
          refine ⟨by omega, ?_⟩
          intro s_499 e_500
          have hs_501 : zM z s_499 := by rw [e_500]; exact zw108 hs_23 _ _ (by omega)
          have q_502 : gp_I s_499 74 11 = 0 := by rw [e_500]; exact q_24
          have q_503 : gp_I s_499 74 43 = 0 := by rw [e_500]; exact q_25
          have q_504 : gp_I s_499 74 57 = 0 := by rw [e_500]; exact q_26
          have q_505 : gp_I s_499 74 58 = 0 := by rw [e_500]; exact q_27
          have q_506 : gp_I s_499 74 7 = 1 := by rw [e_500]; exact q_28
          have q_507 : gp_I s_499 74 9 = 0 := by rw [e_500]; exact q_29
          have q_508 : gp_I s_499 81 20 = 0 := by rw [e_500]; exact q_30
          refine s_3158_301 _ _ _ _ _ _ _ _ _ _ _ _ _ _ _ _ ?_
          have w_509 := gz_w (0 + 1)
          have e_510 : gp_wr (0 + 1) = 1 := by omega
          try rw [e_510]
          refine s_3158_32 _ _ _ _ _ _ _ _ _ _ _ _ _ _ _ _ ?_
          refine ⟨fun h_511 => ?_, fun h_511 => ?_⟩
          · refine s_3158_50 _ _ _ _ _ _ _ _ _ _ _ _ _ _ _ _ ?_
            have f_512 := zr74_49 hs_501 49
            refine ⟨fun h_513 => ?_, fun h_513 => ?_⟩
            · refine ⟨by omega, ?_⟩
              have f_514 := zr106 hs_501 ((0 : Int).toNat)
              refine ⟨by omega, ?_⟩
              have f_515 := zr110 hs_501 ((0 : Int).toNat)
              have e_516 : gp_I s_499 110 (0 : Int).toNat = 0 := by omega
              try rw [e_516]
              refine zm3082_1 _ hs_501 (by omega) (⟨_, rfl, ?_⟩)
              have e_517 : gp_cmp (0#64) (0#64) = 0 := by decide
              try rw [e_517]
              refine ⟨fun h_518 => ?_, fun h_518 => ?_⟩
              · refine ⟨by omega, ?_⟩
                have f_519 := zr106 hs_501 ((0 : Int).toNat)
                refine ⟨by omega, ?_⟩
                have f_520 := zr110 hs_501 ((0 : Int).toNat)
                have e_521 : gp_I s_499 110 (0 : Int).toNat = 0 := by omega
                try rw [e_521]
                refine zm3083_1 _ hs_501 (by omega) (⟨_, rfl, ?_⟩)
                refine s_3158_114 _ _ _ _ _ _ _ _ _ _ _ _ _ _ _ _ _ ?_
                have w_522 := gz_w (0 + 0)
                have e_523 : gp_wr (0 + 0) = 0 := by omega
                try rw [e_523]
                refine ⟨fun h_524 => ?_, fun h_524 => ?_⟩
                · refine s_3158_140 _ _ _ _ _ _ _ _ _ _ _ _ _ _ _ _ ?_
                  refine s_3158_146 _ _ _ _ _ _ _ _ _ _ _ _ _ _ ?_
                  have e_525 : gp_cmp (0#64) (0#64) = 0 := by decide
                  try rw [e_525]
                  refine ⟨fun h_526 => ?_, fun h_526 => ?_⟩
                  · have w_527 := gz_w (0 + 1)
                    have e_528 : gp_wr (0 + 1) = 1 := by omega
                    try rw [e_528]
                    refine s_3158_50 _ _ _ _ _ _ _ _ _ _ _ _ _ _ _ _ ?_
                    have f_529 := zr74_49 hs_501 49
                    refine ⟨fun h_530 => ?_, fun h_530 => ?_⟩
                    · refine ⟨by omega, ?_⟩
                      have f_531 := zr106 hs_501 ((1 : Int).toNat)
                      refine ⟨by omega, ?_⟩
                      have f_532 := zr110 hs_501 ((1 : Int).toNat)
                      have e_533 : gp_I s_499 110 (1 : Int).toNat = 0 := by omega
                      try rw [e_533]
                      refine zm3082_1 _ hs_501 (by omega) (⟨_, rfl, ?_⟩)
                      have e_534 : gp_cmp (0#64) (0#64) = 0 := by decide
                      try rw [e_534]
                      refine ⟨fun h_535 => ?_, fun h_535 => ?_⟩
                      · refine ⟨by omega, ?_⟩
                        have f_536 := zr106 hs_501 ((1 : Int).toNat)
                        refine ⟨by omega, ?_⟩
                        have f_537 := zr110 hs_501 ((1 : Int).toNat)
                        have e_538 : gp_I s_499 110 (1 : Int).toNat = 0 := by omega
                        try rw [e_538]
                        refine zm3083_1 _ hs_501 (by omega) (⟨_, rfl, ?_⟩)
                        refine s_3158_114 _ _ _ _ _ _ _ _ _ _ _ _ _ _ _ _ _ ?_
                        have w_539 := gz_w (0 + 0)
                        have e_540 : gp_wr (0 + 0) = 0 := by omega
                        try rw [e_540]
                        refine ⟨fun h_541 => ?_, fun h_541 => ?_⟩
                        · exfalso; omega
                        · refine ⟨fun h_542 => ?_, fun h_542 => ?_⟩
                          · refine s_3158_140 _ _ _ _ _ _ _ _ _ _ _ _ _ _ _ _ ?_
                            refine s_3158_146 _ _ _ _ _ _ _ _ _ _ _ _ _ _ ?_
                            have e_543 : gp_cmp (0#64) (0#64) = 0 := by decide
                            try rw [e_543]
                            refine ⟨fun h_544 => ?_, fun h_544 => ?_⟩
                            · have w_545 := gz_w (1 + 1)
                              have e_546 : gp_wr (1 + 1) = 2 := by omega
                              try rw [e_546]
                              refine s_3158_50 _ _ _ _ _ _ _ _ _ _ _ _ _ _ _ _ ?_
                              have f_547 := zr74_49 hs_501 49
                              refine ⟨fun h_548 => ?_, fun h_548 => ?_⟩
                              · have e_549 : gp_I s_499 74 49 = 3 := by omega
                                try rw [e_549]
                                refine ⟨by omega, ?_⟩
                                have f_550 := zr106 hs_501 ((2 : Int).toNat)
                                refine ⟨by omega, ?_⟩
                                have f_551 := zr110 hs_501 ((2 : Int).toNat)
                                have e_552 : gp_I s_499 110 (2 : Int).toNat = 0 := by omega
                                try rw [e_552]
                                refine zm3082_1 _ hs_501 (by omega) (⟨_, rfl, ?_⟩)
                                have e_553 : gp_cmp (0#64) (0#64) = 0 := by decide
                                try rw [e_553]
                                refine ⟨fun h_554 => ?_, fun h_554 => ?_⟩
                                · refine ⟨by omega, ?_⟩
                                  have f_555 := zr106 hs_501 ((2 : Int).toNat)
                                  refine ⟨by omega, ?_⟩
                                  have f_556 := zr110 hs_501 ((2 : Int).toNat)
                                  have e_557 : gp_I s_499 110 (2 : Int).toNat = 0 := by omega
                                  try rw [e_557]
                                  refine zm3083_1 _ hs_501 (by omega) (⟨_, rfl, ?_⟩)
                                  refine s_3158_114 _ _ _ _ _ _ _ _ _ _ _ _ _ _ _ _ _ ?_
                                  have w_558 := gz_w (0 + 0)
                                  have e_559 : gp_wr (0 + 0) = 0 := by omega
                                  try rw [e_559]
                                  refine ⟨fun h_560 => ?_, fun h_560 => ?_⟩
                                  · exfalso; omega
                                  · refine ⟨fun h_561 => ?_, fun h_561 => ?_⟩
                                    · exfalso; omega
                                    · refine s_3158_140 _ _ _ _ _ _ _ _ _ _ _ _ _ _ _ _ ?_
                                      refine s_3158_146 _ _ _ _ _ _ _ _ _ _ _ _ _ _ ?_
                                      have e_562 : gp_cmp (0#64) (0#64) = 0 := by decide
                                      try rw [e_562]
                                      refine ⟨fun h_563 => ?_, fun h_563 => ?_⟩
                                      · have w_564 := gz_w (2 + 1)
                                        have e_565 : gp_wr (2 + 1) = 3 := by omega
                                        try rw [e_565]
                                        refine s_3158_50 _ _ _ _ _ _ _ _ _ _ _ _ _ _ _ _ ?_
                                        have f_566 := zr74_49 hs_501 49
                                        have e_567 : gp_I s_499 74 49 = 3 := by omega
                                        try rw [e_567]
                                        refine ⟨fun h_568 => ?_, fun h_568 => ?_⟩
                                        · exfalso; omega
                                        · refine ⟨fun h_569 => ?_, fun h_569 => ?_⟩
                                          · exfalso; omega
                                          · refine ⟨fun h_570 => ?_, fun h_570 => ?_⟩
                                            · refine s_3158_300 _ _ _ _ _ _ _ _ _ _ _ _ _ _ _ _ _ _ ?_
                                              refine ⟨by omega, ?_⟩
                                              intro s_571 e_572
                                              have hs_573 : zM z s_571 := by rw [e_572]; exact zw109 hs_501 _ _ (by omega)
                                              have q_574 : gp_I s_571 74 11 = 0 := by rw [e_572]; exact q_502
                                              have q_575 : gp_I s_571 74 43 = 0 := by rw [e_572]; exact q_503
                                              have q_576 : gp_I s_571 74 57 = 0 := by rw [e_572]; exact q_504
                                              have q_577 : gp_I s_571 74 58 = 0 := by rw [e_572]; exact q_505
                                              have q_578 : gp_I s_571 74 7 = 1 := by rw [e_572]; exact q_506
                                              have q_579 : gp_I s_571 74 9 = 0 := by rw [e_572]; exact q_507
                                              have q_580 : gp_I s_571 81 20 = 0 := by rw [e_572]; exact q_508
                                              refine s_3158_301 _ _ _ _ _ _ _ _ _ _ _ _ _ _ _ _ ?_
                                              have w_581 := gz_w (1 + 1)
                                              have e_582 : gp_wr (1 + 1) = 2 := by omega
                                              try rw [e_582]
                                              refine s_3158_32 _ _ _ _ _ _ _ _ _ _ _ _ _ _ _ _ ?_
                                              refine ⟨fun h_583 => ?_, fun h_583 => ?_⟩
                                              · exfalso; omega
                                              · exact k s_571 hs_573 (by omega) (by omega) (by omega) (by omega) (by omega) (by omega) (by omega)
                                            · exfalso; omega
                                      · exfalso; omega
                                · exfalso; omega
                              · have e_584 : gp_I s_499 74 49 = 2 := by omega
                                try rw [e_584]
                                refine ⟨fun h_585 => ?_, fun h_585 => ?_⟩
                                · exfalso; omega
                                · refine ⟨fun h_586 => ?_, fun h_586 => ?_⟩
                                  · refine s_3158_300 _ _ _ _ _ _ _ _ _ _ _ _ _ _ _ _ _ _ ?_
                                    refine ⟨by omega, ?_⟩
                                    intro s_587 e_588
                                    have hs_589 : zM z s_587 := by rw [e_588]; exact zw109 hs_501 _ _ (by omega)
                                    have q_590 : gp_I s_587 74 11 = 0 := by rw [e_588]; exact q_502
                                    have q_591 : gp_I s_587 74 43 = 0 := by rw [e_588]; exact q_503
                                    have q_592 : gp_I s_587 74 57 = 0 := by rw [e_588]; exact q_504
                                    have q_593 : gp_I s_587 74 58 = 0 := by rw [e_588]; exact q_505
                                    have q_594 : gp_I s_587 74 7 = 1 := by rw [e_588]; exact q_506
                                    have q_595 : gp_I s_587 74 9 = 0 := by rw [e_588]; exact q_507
                                    have q_596 : gp_I s_587 81 20 = 0 := by rw [e_588]; exact q_508
                                    refine s_3158_301 _ _ _ _ _ _ _ _ _ _ _ _ _ _ _ _ ?_
                                    have w_597 := gz_w (1 + 1)
                                    have e_598 : gp_wr (1 + 1) = 2 := by omega
                                    try rw [e_598]
                                    refine s_3158_32 _ _ _ _ _ _ _ _ _ _ _ _ _ _ _ _ ?_
                                    refine ⟨fun h_599 => ?_, fun h_599 => ?_⟩
                                    · exfalso; omega
                                    · exact k s_587 hs_589 (by omega) (by omega) (by omega) (by omega) (by omega) (by omega) (by omega)
                                  · exfalso; omega
                            · exfalso; omega
                          · exfalso; omega
                      · exfalso; omega
                    · have e_600 : gp_I s_499 74 49 = 1 := by omega
                      try rw [e_600]
                      refine ⟨fun h_601 => ?_, fun h_601 => ?_⟩
                      · exfalso; omega
                      · refine ⟨fun h_602 => ?_, fun h_602 => ?_⟩
                        · refine s_3158_300 _ _ _ _ _ _ _ _ _ _ _ _ _ _ _ _ _ _ ?_
                          refine ⟨by omega, ?_⟩
                          intro s_603 e_604
                          have hs_605 : zM z s_603 := by rw [e_604]; exact zw109 hs_501 _ _ (by omega)
                          have q_606 : gp_I s_603 74 11 = 0 := by rw [e_604]; exact q_502
                          have q_607 : gp_I s_603 74 43 = 0 := by rw [e_604]; exact q_503
                          have q_608 : gp_I s_603 74 57 = 0 := by rw [e_604]; exact q_504
                          have q_609 : gp_I s_603 74 58 = 0 := by rw [e_604]; exact q_505
                          have q_610 : gp_I s_603 74 7 = 1 := by rw [e_604]; exact q_506
                          have q_611 : gp_I s_603 74 9 = 0 := by rw [e_604]; exact q_507
                          have q_612 : gp_I s_603 81 20 = 0 := by rw [e_604]; exact q_508
                          refine s_3158_301 _ _ _ _ _ _ _ _ _ _ _ _ _ _ _ _ ?_
                          have w_613 := gz_w (1 + 1)
                          have e_614 : gp_wr (1 + 1) = 2 := by omega
                          try rw [e_614]
                          refine s_3158_32 _ _ _ _ _ _ _ _ _ _ _ _ _ _ _ _ ?_
                          refine ⟨fun h_615 => ?_, fun h_615 => ?_⟩
                          · exfalso; omega
                          · exact k s_603 hs_605 (by omega) (by omega) (by omega) (by omega) (by omega) (by omega) (by omega)
                        · exfalso; omega
                  · exfalso; omega
                · exfalso; omega
              · exfalso; omega
            · have e_616 : gp_I s_499 74 49 = 0 := by omega
              try rw [e_616]
              refine ⟨fun h_617 => ?_, fun h_617 => ?_⟩
              · exfalso; omega
              · refine ⟨fun h_618 => ?_, fun h_618 => ?_⟩
                · refine s_3158_300 _ _ _ _ _ _ _ _ _ _ _ _ _ _ _ _ _ _ ?_
                  refine ⟨by omega, ?_⟩
                  intro s_619 e_620
                  have hs_621 : zM z s_619 := by rw [e_620]; exact zw109 hs_501 _ _ (by omega)
                  have q_622 : gp_I s_619 74 11 = 0 := by rw [e_620]; exact q_502
                  have q_623 : gp_I s_619 74 43 = 0 := by rw [e_620]; exact q_503
                  have q_624 : gp_I s_619 74 57 = 0 := by rw [e_620]; exact q_504
                  have q_625 : gp_I s_619 74 58 = 0 := by rw [e_620]; exact q_505
                  have q_626 : gp_I s_619 74 7 = 1 := by rw [e_620]; exact q_506
                  have q_627 : gp_I s_619 74 9 = 0 := by rw [e_620]; exact q_507
                  have q_628 : gp_I s_619 81 20 = 0 := by rw [e_620]; exact q_508
                  refine s_3158_301 _ _ _ _ _ _ _ _ _ _ _ _ _ _ _ _ ?_
                  have w_629 := gz_w (1 + 1)
                  have e_630 : gp_wr (1 + 1) = 2 := by omega
                  try rw [e_630]
                  refine s_3158_32 _ _ _ _ _ _ _ _ _ _ _ _ _ _ _ _ ?_
                  refine ⟨fun h_631 => ?_, fun h_631 => ?_⟩
                  · exfalso; omega
                  · exact k s_619 hs_621 (by omega) (by omega) (by omega) (by omega) (by omega) (by omega) (by omega)
                · exfalso; omega
          · exfalso; omega
        · exfalso; omega
      · exfalso; omega
  · exfalso; omega
set_option maxRecDepth 100000 in
/-- GatheredPointsModel.works [] -/
theorem zm3156_0 {z : gH} {L d : Nat} {K : Option gV → gH → Prop} {s : gH}  (hs : zM z s)  (q0 : gp_I s 74 11 = 0) (q1 : gp_I s 74 43 = 0) (q2 : gp_I s 74 57 = 0) (q3 : gp_I s 74 58 = 0) (q4 : gp_I s 74 7 = 1) (q5 : gp_I s 74 9 = 0) (q6 : gp_I s 81 20 = 0) (k : ∀ (t : gH), zM z t → (gp_I t 74 11 = 0) → (gp_I t 74 43 = 0) → (gp_I t 74 57 = 0) → (gp_I t 74 58 = 0) → (gp_I t 74 7 = 1) → (gp_I t 74 9 = 0) → (gp_I t 81 20 = 0) → K none t) : gs_C L (d + 2) 3156 7 [gp_r (some 74)] s K := by
  refine s_3156_e ?_
  have f_1 := zr106 hs 0
  refine ⟨by omega, ?_⟩
  have f_2 := zr81 hs ((gp_I s 106 0).toNat)
  have e_3 : gp_I s 81 (gp_I s 106 0).toNat = 1 := by omega
  try rw [e_3]
  have f_4 := zr74_49 hs 49
  refine ⟨fun h_5 => ?_, fun h_5 => ?_⟩
  · have f_6 := zr106 hs 1
    refine ⟨by omega, ?_⟩
    have f_7 := zr81 hs ((gp_I s 106 1).toNat)
    have e_8 : gp_I s 81 (gp_I s 106 1).toNat = 1 := by omega
    try rw [e_8]
    refine s_3156_35 _ _ _ _ _ _ _ ?_
    have f_9 := zr74_49 hs 49
    refine ⟨fun h_10 => ?_, fun h_10 => ?_⟩
    · have e_11 : gp_I s 74 49 = 3 := by omega
      try rw [e_11]
      have f_12 := zr106 hs 2
      refine ⟨by omega, ?_⟩
      have f_13 := zr81 hs ((gp_I s 106 2).toNat)
      have e_14 : gp_I s 81 (gp_I s 106 2).toNat = 1 := by omega
      try rw [e_14]
      refine s_3156_59 _ _ _ _ _ _ _ ?_
      refine s_3156_63 _ _ _ _ _ _ ?_
      refine ⟨fun h_15 => ?_, fun h_15 => ?_⟩
      · refine s_3156_72 _ _ _ _ _ _ ?_
        refine ⟨fun h_16 => ?_, fun h_16 => ?_⟩
        · refine s_3156_81 _ _ _ _ _ _ ?_
          refine ⟨fun h_17 => ?_, fun h_17 => ?_⟩
          · refine zm3158_0 hs (by omega) (by omega) (by omega) (by omega) (by omega) (by omega) (by omega) (fun s_18 hs_19 q_20 q_21 q_22 q_23 q_24 q_25 q_26 => ⟨rfl, ?_⟩)
            have w_27 := gz_w (0 + 1)
            have e_28 : gp_wr (0 + 1) = 1 := by omega
            try rw [e_28]
            refine s_3156_81 _ _ _ _ _ _ ?_
            refine ⟨fun h_29 => ?_, fun h_29 => ?_⟩
            · exfalso; omega
            · have w_30 := gz_w (0 + 1)
              have e_31 : gp_wr (0 + 1) = 1 := by omega
              try rw [e_31]
              refine s_3156_72 _ _ _ _ _ _ ?_
              refine ⟨fun h_32 => ?_, fun h_32 => ?_⟩
              · exfalso; omega
              · have w_33 := gz_w (0 + 1)
                have e_34 : gp_wr (0 + 1) = 1 := by omega
                try rw [e_34]
                refine s_3156_63 _ _ _ _ _ _ ?_
                refine ⟨fun h_35 => ?_, fun h_35 => ?_⟩
                · exfalso; omega
                · exact k s_18 hs_19 (by omega) (by omega) (by omega) (by omega) (by omega) (by omega) (by omega)
          · exfalso; omega
        · exfalso; omega
      · exfalso; omega
    · have e_36 : gp_I s 74 49 = 2 := by omega
      try rw [e_36]
      refine s_3156_59 _ _ _ _ _ _ _ ?_
      refine s_3156_63 _ _ _ _ _ _ ?_
      refine ⟨fun h_37 => ?_, fun h_37 => ?_⟩
      · refine s_3156_72 _ _ _ _ _ _ ?_
        refine ⟨fun h_38 => ?_, fun h_38 => ?_⟩
        · refine s_3156_81 _ _ _ _ _ _ ?_
          refine ⟨fun h_39 => ?_, fun h_39 => ?_⟩
          · refine zm3158_0 hs (by omega) (by omega) (by omega) (by omega) (by omega) (by omega) (by omega) (fun s_40 hs_41 q_42 q_43 q_44 q_45 q_46 q_47 q_48 => ⟨rfl, ?_⟩)
            have w_49 := gz_w (0 + 1)
            have e_50 : gp_wr (0 + 1) = 1 := by omega
            try rw [e_50]
            refine s_3156_81 _ _ _ _ _ _ ?_
            refine ⟨fun h_51 => ?_, fun h_51 => ?_⟩
            · exfalso; omega
            · have w_52 := gz_w (0 + 1)
              have e_53 : gp_wr (0 + 1) = 1 := by omega
              try rw [e_53]
              refine s_3156_72 _ _ _ _ _ _ ?_
              refine ⟨fun h_54 => ?_, fun h_54 => ?_⟩
              · exfalso; omega
              · have w_55 := gz_w (0 + 1)
                have e_56 : gp_wr (0 + 1) = 1 := by omega
                try rw [e_56]
                refine s_3156_63 _ _ _ _ _ _ ?_
                refine ⟨fun h_57 => ?_, fun h_57 => ?_⟩
                · exfalso; omega
                · exact k s_40 hs_41 (by omega) (by omega) (by omega) (by omega) (by omega) (by omega) (by omega)
          · exfalso; omega
        · exfalso; omega
      · exfalso; omega
  · refine s_3156_35 _ _ _ _ _ _ _ ?_
    have f_58 := zr74_49 hs 49
    refine ⟨fun h_59 => ?_, fun h_59 => ?_⟩
    · exfalso; omega
    · refine s_3156_59 _ _ _ _ _ _ _ ?_
      refine s_3156_63 _ _ _ _ _ _ ?_
      refine ⟨fun h_60 => ?_, fun h_60 => ?_⟩
      · refine s_3156_72 _ _ _ _ _ _ ?_
        refine ⟨fun h_61 => ?_, fun h_61 => ?_⟩
        · refine s_3156_81 _ _ _ _ _ _ ?_
          refine ⟨fun h_62 => ?_, fun h_62 => ?_⟩
          · refine zm3158_0 hs (by omega) (by omega) (by omega) (by omega) (by omega) (by omega) (by omega) (fun s_63 hs_64 q_65 q_66 q_67 q_68 q_69 q_70 q_71 => ⟨rfl, ?_⟩)
            have w_72 := gz_w (0 + 1)
            have e_73 : gp_wr (0 + 1) = 1 := by omega
            try rw [e_73]
            refine s_3156_81 _ _ _ _ _ _ ?_
            refine ⟨fun h_74 => ?_, fun h_74 => ?_⟩
            · exfalso; omega
            · have w_75 := gz_w (0 + 1)
              have e_76 : gp_wr (0 + 1) = 1 := by omega
              try rw [e_76]
              refine s_3156_72 _ _ _ _ _ _ ?_
              refine ⟨fun h_77 => ?_, fun h_77 => ?_⟩
              · exfalso; omega
              · have w_78 := gz_w (0 + 1)
                have e_79 : gp_wr (0 + 1) = 1 := by omega
                try rw [e_79]
                refine s_3156_63 _ _ _ _ _ _ ?_
                refine ⟨fun h_80 => ?_, fun h_80 => ?_⟩
                · exfalso; omega
                · exact k s_63 hs_64 (by omega) (by omega) (by omega) (by omega) (by omega) (by omega) (by omega)
          · exfalso; omega
        · exfalso; omega
      · exfalso; omega
set_option maxRecDepth 100000 in
/-- GatheredPointsModel.scoreNow [(0, 0)] -/
theorem zm3160_0 {z : gH} {L d : Nat} {K : Option gV → gH → Prop} {s : gH}  (hs : zM z s)  (q0 : gp_I s 74 11 = 0) (q1 : gp_I s 74 43 = 0) (q2 : gp_I s 74 57 = 0) (q3 : gp_I s 74 58 = 0) (q4 : gp_I s 74 7 = 1) (q5 : gp_I s 74 9 = 0) (k : K (some (gp_i 0)) s) : gs_C L (d + 1) 3160 3 [gp_r (some 74), gp_i 0] s K := by
  refine s_3160_e _ ?_
  have f_1 := zr107 hs 0
  have e_2 : gp_I s 107 0 = 0 := by omega
  try rw [e_2]
  have f_3 := zr74_49 hs 49
  refine ⟨fun h_4 => ?_, fun h_4 => ?_⟩
  · have f_5 := zr107 hs 1
    have e_6 : gp_I s 107 1 = 0 := by omega
    try rw [e_6]
    refine s_3160_24 _ _ _ _ ?_
    have f_7 := zr74_49 hs 49
    refine ⟨fun h_8 => ?_, fun h_8 => ?_⟩
    · have e_9 : gp_I s 74 49 = 3 := by omega
      try rw [e_9]
      have f_10 := zr107 hs 2
      have e_11 : gp_I s 107 2 = 0 := by omega
      try rw [e_11]
      refine s_3160_42 _ _ _ _ _ ?_
      refine zm3157_0 hs (⟨_, rfl, ?_⟩)
      refine ⟨fun h_12 => ?_, fun h_12 => ?_⟩
      · refine ⟨by omega, ?_⟩
        have f_13 := zr108 hs ((0 : Int).toNat)
        have e_14 : gp_I s 108 (0 : Int).toNat = 0 := by omega
        try rw [e_14]
        refine s_3160_65 _ _ _ ?_
        exact k
      · exfalso; omega
    · have e_15 : gp_I s 74 49 = 2 := by omega
      try rw [e_15]
      refine s_3160_42 _ _ _ _ _ ?_
      refine zm3157_0 hs (⟨_, rfl, ?_⟩)
      refine ⟨fun h_16 => ?_, fun h_16 => ?_⟩
      · refine ⟨by omega, ?_⟩
        have f_17 := zr108 hs ((0 : Int).toNat)
        have e_18 : gp_I s 108 (0 : Int).toNat = 0 := by omega
        try rw [e_18]
        refine s_3160_65 _ _ _ ?_
        exact k
      · exfalso; omega
  · refine s_3160_24 _ _ _ _ ?_
    have f_19 := zr74_49 hs 49
    refine ⟨fun h_20 => ?_, fun h_20 => ?_⟩
    · exfalso; omega
    · refine s_3160_42 _ _ _ _ _ ?_
      refine zm3157_0 hs (⟨_, rfl, ?_⟩)
      refine ⟨fun h_21 => ?_, fun h_21 => ?_⟩
      · refine ⟨by omega, ?_⟩
        have f_22 := zr108 hs ((0 : Int).toNat)
        have e_23 : gp_I s 108 (0 : Int).toNat = 0 := by omega
        try rw [e_23]
        refine s_3160_65 _ _ _ ?_
        exact k
      · exfalso; omega
set_option maxRecDepth 100000 in
/-- GatheredPointsModel.score [(1, 255, 'S3'), (0, 0)] -/
theorem zm3162_5 {z : gH} {L d : Nat} {K : Option gV → gH → Prop} {s : gH} (p0 : Int) (hs : zM z s) (h_p0 : 1 ≤ p0 ∧ p0 ≤ 255) (g_p0 : gm_cnt (BitVec.ofInt 64 p0) 64 ≤ 3) (q0 : gp_I s 74 11 = 0) (q1 : gp_I s 74 43 = 0) (q2 : gp_I s 74 57 = 0) (q3 : gp_I s 74 58 = 0) (q4 : gp_I s 74 7 = 1) (q5 : gp_I s 74 9 = 0) (q6 : gp_I s 81 20 = 0) (k : ∀ (t : gH), zM z t → (gp_I t 74 11 = 0) → (gp_I t 74 43 = 0) → (gp_I t 74 57 = 0) → (gp_I t 74 58 = 0) → (gp_I t 74 7 = 1) → (gp_I t 74 9 = 0) → (gp_I t 81 20 = 0) → K (some (gp_i 0)) t) : gs_C L (d + 3) 3162 3 [gp_r (some 74), gp_i p0, gp_i 0] s K := by
  refine s_3162_e _ _ ?_
  refine zm_is3 _ hs (by omega) g_p0 (⟨_, rfl, ?_⟩)
  refine ⟨fun h_1 => ?_, fun h_1 => ?_⟩
  · exfalso; omega
  · refine zm3077_2 hs (⟨_, rfl, ?_⟩)
    refine ⟨fun h_2 => ?_, fun h_2 => ?_⟩
    · exfalso; omega
    · refine zm_setsUp_w0 _ hs (by omega) g_p0 (by omega) (by omega) (by omega) (by omega) (by omega) (by omega) (by omega) (fun s_3 hs_4 q_5 q_6 q_7 q_8 q_9 q_10 q_11 => ⟨rfl, ?_⟩)
      refine zm3156_0 hs_4 (by omega) (by omega) (by omega) (by omega) (by omega) (by omega) (by omega) (fun s_12 hs_13 q_14 q_15 q_16 q_17 q_18 q_19 q_20 => ⟨rfl, ?_⟩)
      refine zm3160_0 hs_13 (by omega) (by omega) (by omega) (by omega) (by omega) (by omega) (⟨_, rfl, ?_⟩)
      exact k s_12 hs_13 (by omega) (by omega) (by omega) (by omega) (by omega) (by omega) (by omega)
set_option maxRecDepth 100000 in
/-- GatheredPointsModel.scoreNow [(1, 1)] -/
theorem zm3160_1 {z : gH} {L d : Nat} {K : Option gV → gH → Prop} {s : gH}  (hs : zM z s)  (q0 : gp_I s 74 11 = 0) (q1 : gp_I s 74 43 = 0) (q2 : gp_I s 74 57 = 0) (q3 : gp_I s 74 58 = 0) (q4 : gp_I s 74 7 = 1) (q5 : gp_I s 74 9 = 0) (k : K (some (gp_i 0)) s) : gs_C L (d + 1) 3160 3 [gp_r (some 74), gp_i 1] s K := by
  refine s_3160_e _ ?_
  have f_1 := zr107 hs 0
  have e_2 : gp_I s 107 0 = 0 := by omega
  try rw [e_2]
  have f_3 := zr74_49 hs 49
  refine ⟨fun h_4 => ?_, fun h_4 => ?_⟩
  · have f_5 := zr107 hs 1
    have e_6 : gp_I s 107 1 = 0 := by omega
    try rw [e_6]
    refine s_3160_24 _ _ _ _ ?_
    have f_7 := zr74_49 hs 49
    refine ⟨fun h_8 => ?_, fun h_8 => ?_⟩
    · have e_9 : gp_I s 74 49 = 3 := by omega
      try rw [e_9]
      have f_10 := zr107 hs 2
      have e_11 : gp_I s 107 2 = 0 := by omega
      try rw [e_11]
      refine s_3160_42 _ _ _ _ _ ?_
      refine zm3157_0 hs (⟨_, rfl, ?_⟩)
      refine ⟨fun h_12 => ?_, fun h_12 => ?_⟩
      · exfalso; omega
      · refine ⟨by omega, ?_⟩
        have f_13 := zr109 hs ((0 : Int).toNat)
        have e_14 : gp_I s 109 (0 : Int).toNat = 0 := by omega
        try rw [e_14]
        refine s_3160_65 _ _ _ ?_
        exact k
    · have e_15 : gp_I s 74 49 = 2 := by omega
      try rw [e_15]
      refine s_3160_42 _ _ _ _ _ ?_
      refine zm3157_0 hs (⟨_, rfl, ?_⟩)
      refine ⟨fun h_16 => ?_, fun h_16 => ?_⟩
      · exfalso; omega
      · refine ⟨by omega, ?_⟩
        have f_17 := zr109 hs ((0 : Int).toNat)
        have e_18 : gp_I s 109 (0 : Int).toNat = 0 := by omega
        try rw [e_18]
        refine s_3160_65 _ _ _ ?_
        exact k
  · refine s_3160_24 _ _ _ _ ?_
    have f_19 := zr74_49 hs 49
    refine ⟨fun h_20 => ?_, fun h_20 => ?_⟩
    · exfalso; omega
    · refine s_3160_42 _ _ _ _ _ ?_
      refine zm3157_0 hs (⟨_, rfl, ?_⟩)
      refine ⟨fun h_21 => ?_, fun h_21 => ?_⟩
      · exfalso; omega
      · refine ⟨by omega, ?_⟩
        have f_22 := zr109 hs ((0 : Int).toNat)
        have e_23 : gp_I s 109 (0 : Int).toNat = 0 := by omega
        try rw [e_23]
        refine s_3160_65 _ _ _ ?_
        exact k
set_option maxRecDepth 100000 in
/-- GatheredPointsModel.score [(1, 255, 'S3'), (1, 1)] -/
theorem zm3162_6 {z : gH} {L d : Nat} {K : Option gV → gH → Prop} {s : gH} (p0 : Int) (hs : zM z s) (h_p0 : 1 ≤ p0 ∧ p0 ≤ 255) (g_p0 : gm_cnt (BitVec.ofInt 64 p0) 64 ≤ 3) (q0 : gp_I s 74 11 = 0) (q1 : gp_I s 74 43 = 0) (q2 : gp_I s 74 57 = 0) (q3 : gp_I s 74 58 = 0) (q4 : gp_I s 74 7 = 1) (q5 : gp_I s 74 9 = 0) (q6 : gp_I s 81 20 = 0) (k : ∀ (t : gH), zM z t → (gp_I t 74 11 = 0) → (gp_I t 74 43 = 0) → (gp_I t 74 57 = 0) → (gp_I t 74 58 = 0) → (gp_I t 74 7 = 1) → (gp_I t 74 9 = 0) → (gp_I t 81 20 = 0) → K (some (gp_i 0)) t) : gs_C L (d + 3) 3162 3 [gp_r (some 74), gp_i p0, gp_i 1] s K := by
  refine s_3162_e _ _ ?_
  refine zm_is3 _ hs (by omega) g_p0 (⟨_, rfl, ?_⟩)
  refine ⟨fun h_1 => ?_, fun h_1 => ?_⟩
  · exfalso; omega
  · refine zm3077_3 hs (⟨_, rfl, ?_⟩)
    refine ⟨fun h_2 => ?_, fun h_2 => ?_⟩
    · exfalso; omega
    · refine zm_setsUp_w0 _ hs (by omega) g_p0 (by omega) (by omega) (by omega) (by omega) (by omega) (by omega) (by omega) (fun s_3 hs_4 q_5 q_6 q_7 q_8 q_9 q_10 q_11 => ⟨rfl, ?_⟩)
      refine zm3156_0 hs_4 (by omega) (by omega) (by omega) (by omega) (by omega) (by omega) (by omega) (fun s_12 hs_13 q_14 q_15 q_16 q_17 q_18 q_19 q_20 => ⟨rfl, ?_⟩)
      refine zm3160_1 hs_13 (by omega) (by omega) (by omega) (by omega) (by omega) (by omega) (⟨_, rfl, ?_⟩)
      exact k s_12 hs_13 (by omega) (by omega) (by omega) (by omega) (by omega) (by omega) (by omega)
set_option maxRecDepth 100000 in
/-- GatheredPointsModel.best [(-2147483648, 0), (-2147483648, 2147483647)] -/
theorem zm3163_0 {z : gH} {L d : Nat} {K : Option gV → gH → Prop} {s : gH} (p0 : Int) (p1 : Int) (hs : zM z s) (h_p0 : (-2147483648) ≤ p0 ∧ p0 ≤ 0) (h_p1 : (-2147483648) ≤ p1 ∧ p1 ≤ 2147483647) (q0 : gp_I s 74 11 = 0) (q1 : gp_I s 74 43 = 0) (q2 : gp_I s 74 57 = 0) (q3 : gp_I s 74 58 = 0) (q4 : gp_I s 74 7 = 1) (q5 : gp_I s 74 9 = 0) (q6 : gp_I s 81 20 = 0) (k : ∀ (t : gH), zM z t → (gp_I t 74 11 = 0) → (gp_I t 74 43 = 0) → (gp_I t 74 57 = 0) → (gp_I t 74 58 = 0) → (gp_I t 74 7 = 1) → (gp_I t 74 9 = 0) → ((-2147483648) ≤ gp_I t 75 1 ∧ gp_I t 75 1 ≤ 2147483647) → (gp_I t 81 20 = 0) → K (some (gp_i (-1000000001))) t) : gs_C L (d + 2) 3163 4 [gp_r (some 74), gp_i p0, gp_i p1] s K := by
  refine s_3163_e _ _ ?_
  refine zm3155_0 _ hs (by omega) (⟨_, rfl, ?_⟩)
  refine ⟨fun h_1 => ?_, fun h_1 => ?_⟩
  · refine s_3163_14 _ _ _ ?_
    refine zm3074_1 hs (by omega) (by omega) (by omega) (by omega) (by omega) (by omega) (by omega) (fun s_2 hs_3 q_4 q_5 q_6 q_7 q_8 q_9 q_10 q_11 => ⟨_, rfl, ?_⟩)
    exact k s_2 hs_3 (by omega) (by omega) (by omega) (by omega) (by omega) (by omega) (by omega) (by omega)
  · exfalso; omega
set_option maxRecDepth 100000 in
/-- GatheredPointsModel.best [(256, 2147483647), (-2147483648, 2147483647)] -/
theorem zm3163_1 {z : gH} {L d : Nat} {K : Option gV → gH → Prop} {s : gH} (p0 : Int) (p1 : Int) (hs : zM z s) (h_p0 : 256 ≤ p0 ∧ p0 ≤ 2147483647) (h_p1 : (-2147483648) ≤ p1 ∧ p1 ≤ 2147483647) (q0 : gp_I s 74 11 = 0) (q1 : gp_I s 74 43 = 0) (q2 : gp_I s 74 57 = 0) (q3 : gp_I s 74 58 = 0) (q4 : gp_I s 74 7 = 1) (q5 : gp_I s 74 9 = 0) (q6 : gp_I s 81 20 = 0) (k : ∀ (t : gH), zM z t → (gp_I t 74 11 = 0) → (gp_I t 74 43 = 0) → (gp_I t 74 57 = 0) → (gp_I t 74 58 = 0) → (gp_I t 74 7 = 1) → (gp_I t 74 9 = 0) → ((-2147483648) ≤ gp_I t 75 1 ∧ gp_I t 75 1 ≤ 2147483647) → (gp_I t 81 20 = 0) → K (some (gp_i (-1000000001))) t) : gs_C L (d + 2) 3163 4 [gp_r (some 74), gp_i p0, gp_i p1] s K := by
  refine s_3163_e _ _ ?_
  refine zm3155_1 _ hs (by omega) (⟨_, rfl, ?_⟩)
  refine ⟨fun h_1 => ?_, fun h_1 => ?_⟩
  · refine s_3163_14 _ _ _ ?_
    refine zm3074_1 hs (by omega) (by omega) (by omega) (by omega) (by omega) (by omega) (by omega) (fun s_2 hs_3 q_4 q_5 q_6 q_7 q_8 q_9 q_10 q_11 => ⟨_, rfl, ?_⟩)
    exact k s_2 hs_3 (by omega) (by omega) (by omega) (by omega) (by omega) (by omega) (by omega) (by omega)
  · exfalso; omega
set_option maxRecDepth 100000 in
/-- GatheredPointsModel.best [(1, 255, 'S4'), (-2147483648, 2147483647)] -/
theorem zm3163_2 {z : gH} {L d : Nat} {K : Option gV → gH → Prop} {s : gH} (p0 : Int) (p1 : Int) (hs : zM z s) (h_p0 : 1 ≤ p0 ∧ p0 ≤ 255) (h_p1 : (-2147483648) ≤ p1 ∧ p1 ≤ 2147483647) (g_p0 : gm_cnt (BitVec.ofInt 64 p0) 64 > 3) (q0 : gp_I s 74 11 = 0) (q1 : gp_I s 74 43 = 0) (q2 : gp_I s 74 57 = 0) (q3 : gp_I s 74 58 = 0) (q4 : gp_I s 74 7 = 1) (q5 : gp_I s 74 9 = 0) (q6 : gp_I s 81 20 = 0) (k : ∀ (t : gH), zM z t → (gp_I t 74 11 = 0) → (gp_I t 74 43 = 0) → (gp_I t 74 57 = 0) → (gp_I t 74 58 = 0) → (gp_I t 74 7 = 1) → (gp_I t 74 9 = 0) → ((-2147483648) ≤ gp_I t 75 1 ∧ gp_I t 75 1 ≤ 2147483647) → (gp_I t 81 20 = 0) → K (some (gp_i (-1000000001))) t) : gs_C L (d + 3) 3163 4 [gp_r (some 74), gp_i p0, gp_i p1] s K := by
  refine s_3163_e _ _ ?_
  refine zm_is4 _ hs (by omega) g_p0 (⟨_, rfl, ?_⟩)
  refine ⟨fun h_1 => ?_, fun h_1 => ?_⟩
  · refine s_3163_14 _ _ _ ?_
    refine zm3074_1 hs (by omega) (by omega) (by omega) (by omega) (by omega) (by omega) (by omega) (fun s_2 hs_3 q_4 q_5 q_6 q_7 q_8 q_9 q_10 q_11 => ⟨_, rfl, ?_⟩)
    exact k s_2 hs_3 (by omega) (by omega) (by omega) (by omega) (by omega) (by omega) (by omega) (by omega)
  · exfalso; omega
set_option maxRecDepth 100000 in
/-- GatheredPointsModel.best [(1, 255, 'S3'), (-2147483648, -1)] -/
theorem zm3163_3 {z : gH} {L d : Nat} {K : Option gV → gH → Prop} {s : gH} (p0 : Int) (p1 : Int) (hs : zM z s) (h_p0 : 1 ≤ p0 ∧ p0 ≤ 255) (h_p1 : (-2147483648) ≤ p1 ∧ p1 ≤ (-1)) (g_p0 : gm_cnt (BitVec.ofInt 64 p0) 64 ≤ 3) (q0 : gp_I s 74 11 = 0) (q1 : gp_I s 74 43 = 0) (q2 : gp_I s 74 57 = 0) (q3 : gp_I s 74 58 = 0) (q4 : gp_I s 74 7 = 1) (q5 : gp_I s 74 9 = 0) (q6 : gp_I s 81 20 = 0) (k : ∀ (t : gH), zM z t → (gp_I t 74 11 = 0) → (gp_I t 74 43 = 0) → (gp_I t 74 57 = 0) → (gp_I t 74 58 = 0) → (gp_I t 74 7 = 1) → (gp_I t 74 9 = 0) → ((-2147483648) ≤ gp_I t 75 1 ∧ gp_I t 75 1 ≤ 2147483647) → (gp_I t 81 20 = 0) → K (some (gp_i (-1000000001))) t) : gs_C L (d + 3) 3163 4 [gp_r (some 74), gp_i p0, gp_i p1] s K := by
  refine s_3163_e _ _ ?_
  refine zm_is3 _ hs (by omega) g_p0 (⟨_, rfl, ?_⟩)
  refine ⟨fun h_1 => ?_, fun h_1 => ?_⟩
  · exfalso; omega
  · refine zm3077_0 _ hs (by omega) (⟨_, rfl, ?_⟩)
    refine ⟨fun h_2 => ?_, fun h_2 => ?_⟩
    · refine s_3163_14 _ _ _ ?_
      refine zm3074_1 hs (by omega) (by omega) (by omega) (by omega) (by omega) (by omega) (by omega) (fun s_3 hs_4 q_5 q_6 q_7 q_8 q_9 q_10 q_11 q_12 => ⟨_, rfl, ?_⟩)
      exact k s_3 hs_4 (by omega) (by omega) (by omega) (by omega) (by omega) (by omega) (by omega) (by omega)
    · exfalso; omega
set_option maxRecDepth 100000 in
/-- GatheredPointsModel.best [(1, 255, 'S3'), (2, 2147483647)] -/
theorem zm3163_4 {z : gH} {L d : Nat} {K : Option gV → gH → Prop} {s : gH} (p0 : Int) (p1 : Int) (hs : zM z s) (h_p0 : 1 ≤ p0 ∧ p0 ≤ 255) (h_p1 : 2 ≤ p1 ∧ p1 ≤ 2147483647) (g_p0 : gm_cnt (BitVec.ofInt 64 p0) 64 ≤ 3) (q0 : gp_I s 74 11 = 0) (q1 : gp_I s 74 43 = 0) (q2 : gp_I s 74 57 = 0) (q3 : gp_I s 74 58 = 0) (q4 : gp_I s 74 7 = 1) (q5 : gp_I s 74 9 = 0) (q6 : gp_I s 81 20 = 0) (k : ∀ (t : gH), zM z t → (gp_I t 74 11 = 0) → (gp_I t 74 43 = 0) → (gp_I t 74 57 = 0) → (gp_I t 74 58 = 0) → (gp_I t 74 7 = 1) → (gp_I t 74 9 = 0) → ((-2147483648) ≤ gp_I t 75 1 ∧ gp_I t 75 1 ≤ 2147483647) → (gp_I t 81 20 = 0) → K (some (gp_i (-1000000001))) t) : gs_C L (d + 3) 3163 4 [gp_r (some 74), gp_i p0, gp_i p1] s K := by
  refine s_3163_e _ _ ?_
  refine zm_is3 _ hs (by omega) g_p0 (⟨_, rfl, ?_⟩)
  refine ⟨fun h_1 => ?_, fun h_1 => ?_⟩
  · exfalso; omega
  · refine zm3077_1 _ hs (by omega) (⟨_, rfl, ?_⟩)
    refine ⟨fun h_2 => ?_, fun h_2 => ?_⟩
    · refine s_3163_14 _ _ _ ?_
      refine zm3074_1 hs (by omega) (by omega) (by omega) (by omega) (by omega) (by omega) (by omega) (fun s_3 hs_4 q_5 q_6 q_7 q_8 q_9 q_10 q_11 q_12 => ⟨_, rfl, ?_⟩)
      exact k s_3 hs_4 (by omega) (by omega) (by omega) (by omega) (by omega) (by omega) (by omega) (by omega)
    · exfalso; omega
set_option maxRecDepth 100000 in
/-- GatheredPointsModel.bestMove [(0, 0)] -/
theorem zm3161_0 {z : gH} {L d : Nat} {K : Option gV → gH → Prop} {s : gH}  (hs : zM z s)  (q0 : gp_I s 74 11 = 0) (q1 : gp_I s 74 43 = 0) (q2 : gp_I s 74 57 = 0) (q3 : gp_I s 74 58 = 0) (q4 : gp_I s 74 7 = 1) (q5 : gp_I s 74 9 = 0) (k : K (some (gp_i (-1))) s) : gs_C L (d + 2) 3161 12 [gp_r (some 74), gp_i 0] s K := by
  refine s_3161_e _ ?_
  have f_1 := zr107 hs 0
  have e_2 : gp_I s 107 0 = 0 := by omega
  try rw [e_2]
  have f_3 := zr74_49 hs 49
  refine ⟨fun h_4 => ?_, fun h_4 => ?_⟩
  · have f_5 := zr107 hs 1
    have e_6 : gp_I s 107 1 = 0 := by omega
    try rw [e_6]
    refine s_3161_24 _ _ _ _ _ _ _ _ _ _ _ _ _ ?_
    have f_7 := zr74_49 hs 49
    refine ⟨fun h_8 => ?_, fun h_8 => ?_⟩
    · have e_9 : gp_I s 74 49 = 3 := by omega
      try rw [e_9]
      have f_10 := zr107 hs 2
      have e_11 : gp_I s 107 2 = 0 := by omega
      try rw [e_11]
      refine s_3161_42 _ _ _ _ _ _ _ _ _ _ _ _ _ _ ?_
      refine zm3157_0 hs (⟨_, rfl, ?_⟩)
      refine s_3161_54 _ _ _ _ _ _ _ _ _ _ _ ?_
      have f_12 := zr74_49 hs 49
      have e_13 : gp_I s 74 49 = 3 := by omega
      try rw [e_13]
      refine ⟨fun h_14 => ?_, fun h_14 => ?_⟩
      · refine ⟨by omega, ?_⟩
        have f_15 := zr106 hs ((0 : Int).toNat)
        refine ⟨by omega, ?_⟩
        have f_16 := zr107 hs ((0 : Int).toNat)
        have e_17 : gp_I s 107 (0 : Int).toNat = 0 := by omega
        try rw [e_17]
        refine zm3082_0 _ hs (by omega) (⟨_, rfl, ?_⟩)
        refine ⟨fun h_18 => ?_, fun h_18 => ?_⟩
        · refine s_3161_107 _ _ _ _ _ _ _ _ _ _ _ ?_
          refine s_3161_112 _ _ _ _ _ _ _ _ _ _ ?_
          refine zm3079_1 hs (⟨_, rfl, ?_⟩)
          refine ⟨fun h_19 => ?_, fun h_19 => ?_⟩
          · exfalso; omega
          · have w_20 := gz_w (0 + 1)
            have e_21 : gp_wr (0 + 1) = 1 := by omega
            try rw [e_21]
            refine s_3161_54 _ _ _ _ _ _ _ _ _ _ _ ?_
            have f_22 := zr74_49 hs 49
            have e_23 : gp_I s 74 49 = 3 := by omega
            try rw [e_23]
            refine ⟨fun h_24 => ?_, fun h_24 => ?_⟩
            · refine ⟨by omega, ?_⟩
              have f_25 := zr106 hs ((1 : Int).toNat)
              refine ⟨by omega, ?_⟩
              have f_26 := zr107 hs ((1 : Int).toNat)
              have e_27 : gp_I s 107 (1 : Int).toNat = 0 := by omega
              try rw [e_27]
              refine zm3082_0 _ hs (by omega) (⟨_, rfl, ?_⟩)
              refine ⟨fun h_28 => ?_, fun h_28 => ?_⟩
              · exfalso; omega
              · refine ⟨fun h_29 => ?_, fun h_29 => ?_⟩
                · refine s_3161_107 _ _ _ _ _ _ _ _ _ _ _ ?_
                  refine s_3161_112 _ _ _ _ _ _ _ _ _ _ ?_
                  refine zm3079_1 hs (⟨_, rfl, ?_⟩)
                  refine ⟨fun h_30 => ?_, fun h_30 => ?_⟩
                  · exfalso; omega
                  · have w_31 := gz_w (1 + 1)
                    have e_32 : gp_wr (1 + 1) = 2 := by omega
                    try rw [e_32]
                    refine s_3161_54 _ _ _ _ _ _ _ _ _ _ _ ?_
                    have f_33 := zr74_49 hs 49
                    have e_34 : gp_I s 74 49 = 3 := by omega
                    try rw [e_34]
                    refine ⟨fun h_35 => ?_, fun h_35 => ?_⟩
                    · refine ⟨by omega, ?_⟩
                      have f_36 := zr106 hs ((2 : Int).toNat)
                      refine ⟨by omega, ?_⟩
                      have f_37 := zr107 hs ((2 : Int).toNat)
                      have e_38 : gp_I s 107 (2 : Int).toNat = 0 := by omega
                      try rw [e_38]
                      refine zm3082_0 _ hs (by omega) (⟨_, rfl, ?_⟩)
                      refine ⟨fun h_39 => ?_, fun h_39 => ?_⟩
                      · exfalso; omega
                      · refine ⟨fun h_40 => ?_, fun h_40 => ?_⟩
                        · exfalso; omega
                        · refine s_3161_107 _ _ _ _ _ _ _ _ _ _ _ ?_
                          refine s_3161_112 _ _ _ _ _ _ _ _ _ _ ?_
                          refine zm3079_1 hs (⟨_, rfl, ?_⟩)
                          refine ⟨fun h_41 => ?_, fun h_41 => ?_⟩
                          · exfalso; omega
                          · have w_42 := gz_w (2 + 1)
                            have e_43 : gp_wr (2 + 1) = 3 := by omega
                            try rw [e_43]
                            refine s_3161_54 _ _ _ _ _ _ _ _ _ _ _ ?_
                            have f_44 := zr74_49 hs 49
                            have e_45 : gp_I s 74 49 = 3 := by omega
                            try rw [e_45]
                            refine ⟨fun h_46 => ?_, fun h_46 => ?_⟩
                            · exfalso; omega
                            · exact k
                    · exfalso; omega
                · exfalso; omega
            · exfalso; omega
        · exfalso; omega
      · exfalso; omega
    · have e_47 : gp_I s 74 49 = 2 := by omega
      try rw [e_47]
      refine s_3161_42 _ _ _ _ _ _ _ _ _ _ _ _ _ _ ?_
      refine zm3157_0 hs (⟨_, rfl, ?_⟩)
      refine s_3161_54 _ _ _ _ _ _ _ _ _ _ _ ?_
      have f_48 := zr74_49 hs 49
      have e_49 : gp_I s 74 49 = 2 := by omega
      try rw [e_49]
      refine ⟨fun h_50 => ?_, fun h_50 => ?_⟩
      · refine ⟨by omega, ?_⟩
        have f_51 := zr106 hs ((0 : Int).toNat)
        refine ⟨by omega, ?_⟩
        have f_52 := zr107 hs ((0 : Int).toNat)
        have e_53 : gp_I s 107 (0 : Int).toNat = 0 := by omega
        try rw [e_53]
        refine zm3082_0 _ hs (by omega) (⟨_, rfl, ?_⟩)
        refine ⟨fun h_54 => ?_, fun h_54 => ?_⟩
        · refine s_3161_107 _ _ _ _ _ _ _ _ _ _ _ ?_
          refine s_3161_112 _ _ _ _ _ _ _ _ _ _ ?_
          refine zm3079_1 hs (⟨_, rfl, ?_⟩)
          refine ⟨fun h_55 => ?_, fun h_55 => ?_⟩
          · exfalso; omega
          · have w_56 := gz_w (0 + 1)
            have e_57 : gp_wr (0 + 1) = 1 := by omega
            try rw [e_57]
            refine s_3161_54 _ _ _ _ _ _ _ _ _ _ _ ?_
            have f_58 := zr74_49 hs 49
            have e_59 : gp_I s 74 49 = 2 := by omega
            try rw [e_59]
            refine ⟨fun h_60 => ?_, fun h_60 => ?_⟩
            · refine ⟨by omega, ?_⟩
              have f_61 := zr106 hs ((1 : Int).toNat)
              refine ⟨by omega, ?_⟩
              have f_62 := zr107 hs ((1 : Int).toNat)
              have e_63 : gp_I s 107 (1 : Int).toNat = 0 := by omega
              try rw [e_63]
              refine zm3082_0 _ hs (by omega) (⟨_, rfl, ?_⟩)
              refine ⟨fun h_64 => ?_, fun h_64 => ?_⟩
              · exfalso; omega
              · refine ⟨fun h_65 => ?_, fun h_65 => ?_⟩
                · refine s_3161_107 _ _ _ _ _ _ _ _ _ _ _ ?_
                  refine s_3161_112 _ _ _ _ _ _ _ _ _ _ ?_
                  refine zm3079_1 hs (⟨_, rfl, ?_⟩)
                  refine ⟨fun h_66 => ?_, fun h_66 => ?_⟩
                  · exfalso; omega
                  · have w_67 := gz_w (1 + 1)
                    have e_68 : gp_wr (1 + 1) = 2 := by omega
                    try rw [e_68]
                    refine s_3161_54 _ _ _ _ _ _ _ _ _ _ _ ?_
                    have f_69 := zr74_49 hs 49
                    have e_70 : gp_I s 74 49 = 2 := by omega
                    try rw [e_70]
                    refine ⟨fun h_71 => ?_, fun h_71 => ?_⟩
                    · exfalso; omega
                    · exact k
                · exfalso; omega
            · exfalso; omega
        · exfalso; omega
      · exfalso; omega
  · refine s_3161_24 _ _ _ _ _ _ _ _ _ _ _ _ _ ?_
    have f_72 := zr74_49 hs 49
    refine ⟨fun h_73 => ?_, fun h_73 => ?_⟩
    · exfalso; omega
    · refine s_3161_42 _ _ _ _ _ _ _ _ _ _ _ _ _ _ ?_
      refine zm3157_0 hs (⟨_, rfl, ?_⟩)
      refine s_3161_54 _ _ _ _ _ _ _ _ _ _ _ ?_
      have f_74 := zr74_49 hs 49
      refine ⟨fun h_75 => ?_, fun h_75 => ?_⟩
      · have e_76 : gp_I s 74 49 = 1 := by omega
        try rw [e_76]
        refine ⟨by omega, ?_⟩
        have f_77 := zr106 hs ((0 : Int).toNat)
        refine ⟨by omega, ?_⟩
        have f_78 := zr107 hs ((0 : Int).toNat)
        have e_79 : gp_I s 107 (0 : Int).toNat = 0 := by omega
        try rw [e_79]
        refine zm3082_0 _ hs (by omega) (⟨_, rfl, ?_⟩)
        refine ⟨fun h_80 => ?_, fun h_80 => ?_⟩
        · refine s_3161_107 _ _ _ _ _ _ _ _ _ _ _ ?_
          refine s_3161_112 _ _ _ _ _ _ _ _ _ _ ?_
          refine zm3079_1 hs (⟨_, rfl, ?_⟩)
          refine ⟨fun h_81 => ?_, fun h_81 => ?_⟩
          · exfalso; omega
          · have w_82 := gz_w (0 + 1)
            have e_83 : gp_wr (0 + 1) = 1 := by omega
            try rw [e_83]
            refine s_3161_54 _ _ _ _ _ _ _ _ _ _ _ ?_
            have f_84 := zr74_49 hs 49
            have e_85 : gp_I s 74 49 = 1 := by omega
            try rw [e_85]
            refine ⟨fun h_86 => ?_, fun h_86 => ?_⟩
            · exfalso; omega
            · exact k
        · exfalso; omega
      · have e_87 : gp_I s 74 49 = 0 := by omega
        try rw [e_87]
        exact k
set_option maxRecDepth 100000 in
/-- GatheredPointsModel.best [(1, 255, 'S3'), (0, 0)] -/
theorem zm3163_5 {z : gH} {L d : Nat} {K : Option gV → gH → Prop} {s : gH} (p0 : Int) (hs : zM z s) (h_p0 : 1 ≤ p0 ∧ p0 ≤ 255) (g_p0 : gm_cnt (BitVec.ofInt 64 p0) 64 ≤ 3) (q0 : gp_I s 74 11 = 0) (q1 : gp_I s 74 43 = 0) (q2 : gp_I s 74 57 = 0) (q3 : gp_I s 74 58 = 0) (q4 : gp_I s 74 7 = 1) (q5 : gp_I s 74 9 = 0) (q6 : gp_I s 81 20 = 0) (k : ∀ (t : gH), zM z t → (gp_I t 74 11 = 0) → (gp_I t 74 43 = 0) → (gp_I t 74 57 = 0) → (gp_I t 74 58 = 0) → (gp_I t 74 7 = 1) → (gp_I t 74 9 = 0) → ((-2147483648) ≤ gp_I t 75 2 ∧ gp_I t 75 2 ≤ 2147483647) → (gp_I t 81 20 = 0) → K (some (gp_i (-1000000002))) t) : gs_C L (d + 3) 3163 4 [gp_r (some 74), gp_i p0, gp_i 0] s K := by
  refine s_3163_e _ _ ?_
  refine zm_is3 _ hs (by omega) g_p0 (⟨_, rfl, ?_⟩)
  refine ⟨fun h_1 => ?_, fun h_1 => ?_⟩
  · exfalso; omega
  · refine zm3077_2 hs (⟨_, rfl, ?_⟩)
    refine ⟨fun h_2 => ?_, fun h_2 => ?_⟩
    · exfalso; omega
    · refine zm_setsUp_w0 _ hs (by omega) g_p0 (by omega) (by omega) (by omega) (by omega) (by omega) (by omega) (by omega) (fun s_3 hs_4 q_5 q_6 q_7 q_8 q_9 q_10 q_11 => ⟨rfl, ?_⟩)
      refine zm3156_0 hs_4 (by omega) (by omega) (by omega) (by omega) (by omega) (by omega) (by omega) (fun s_12 hs_13 q_14 q_15 q_16 q_17 q_18 q_19 q_20 => ⟨rfl, ?_⟩)
      refine zm3161_0 hs_13 (by omega) (by omega) (by omega) (by omega) (by omega) (by omega) (⟨_, rfl, ?_⟩)
      refine ⟨fun h_21 => ?_, fun h_21 => ?_⟩
      · refine zm3074_5 hs_13 (by omega) (by omega) (by omega) (by omega) (by omega) (by omega) (by omega) (fun s_22 hs_23 q_24 q_25 q_26 q_27 q_28 q_29 q_30 q_31 => ⟨_, rfl, ?_⟩)
        refine s_3163_64 _ _ _ _ ?_
        exact k s_22 hs_23 (by omega) (by omega) (by omega) (by omega) (by omega) (by omega) (by omega) (by omega)
      · exfalso; omega
set_option maxRecDepth 100000 in
/-- GatheredPointsModel.bestMove [(1, 1)] -/
theorem zm3161_1 {z : gH} {L d : Nat} {K : Option gV → gH → Prop} {s : gH}  (hs : zM z s)  (q0 : gp_I s 74 11 = 0) (q1 : gp_I s 74 43 = 0) (q2 : gp_I s 74 57 = 0) (q3 : gp_I s 74 58 = 0) (q4 : gp_I s 74 7 = 1) (q5 : gp_I s 74 9 = 0) (k : K (some (gp_i (-1))) s) : gs_C L (d + 2) 3161 12 [gp_r (some 74), gp_i 1] s K := by
  refine s_3161_e _ ?_
  have f_1 := zr107 hs 0
  have e_2 : gp_I s 107 0 = 0 := by omega
  try rw [e_2]
  have f_3 := zr74_49 hs 49
  refine ⟨fun h_4 => ?_, fun h_4 => ?_⟩
  · have f_5 := zr107 hs 1
    have e_6 : gp_I s 107 1 = 0 := by omega
    try rw [e_6]
    refine s_3161_24 _ _ _ _ _ _ _ _ _ _ _ _ _ ?_
    have f_7 := zr74_49 hs 49
    refine ⟨fun h_8 => ?_, fun h_8 => ?_⟩
    · have e_9 : gp_I s 74 49 = 3 := by omega
      try rw [e_9]
      have f_10 := zr107 hs 2
      have e_11 : gp_I s 107 2 = 0 := by omega
      try rw [e_11]
      refine s_3161_42 _ _ _ _ _ _ _ _ _ _ _ _ _ _ ?_
      refine zm3157_0 hs (⟨_, rfl, ?_⟩)
      refine s_3161_54 _ _ _ _ _ _ _ _ _ _ _ ?_
      have f_12 := zr74_49 hs 49
      have e_13 : gp_I s 74 49 = 3 := by omega
      try rw [e_13]
      refine ⟨fun h_14 => ?_, fun h_14 => ?_⟩
      · refine ⟨by omega, ?_⟩
        have f_15 := zr106 hs ((0 : Int).toNat)
        refine ⟨by omega, ?_⟩
        have f_16 := zr107 hs ((0 : Int).toNat)
        have e_17 : gp_I s 107 (0 : Int).toNat = 0 := by omega
        try rw [e_17]
        refine zm3082_1 _ hs (by omega) (⟨_, rfl, ?_⟩)
        refine ⟨fun h_18 => ?_, fun h_18 => ?_⟩
        · refine s_3161_107 _ _ _ _ _ _ _ _ _ _ _ ?_
          refine s_3161_112 _ _ _ _ _ _ _ _ _ _ ?_
          refine zm3079_1 hs (⟨_, rfl, ?_⟩)
          refine ⟨fun h_19 => ?_, fun h_19 => ?_⟩
          · exfalso; omega
          · have w_20 := gz_w (0 + 1)
            have e_21 : gp_wr (0 + 1) = 1 := by omega
            try rw [e_21]
            refine s_3161_54 _ _ _ _ _ _ _ _ _ _ _ ?_
            have f_22 := zr74_49 hs 49
            have e_23 : gp_I s 74 49 = 3 := by omega
            try rw [e_23]
            refine ⟨fun h_24 => ?_, fun h_24 => ?_⟩
            · refine ⟨by omega, ?_⟩
              have f_25 := zr106 hs ((1 : Int).toNat)
              refine ⟨by omega, ?_⟩
              have f_26 := zr107 hs ((1 : Int).toNat)
              have e_27 : gp_I s 107 (1 : Int).toNat = 0 := by omega
              try rw [e_27]
              refine zm3082_1 _ hs (by omega) (⟨_, rfl, ?_⟩)
              refine ⟨fun h_28 => ?_, fun h_28 => ?_⟩
              · exfalso; omega
              · refine ⟨fun h_29 => ?_, fun h_29 => ?_⟩
                · refine s_3161_107 _ _ _ _ _ _ _ _ _ _ _ ?_
                  refine s_3161_112 _ _ _ _ _ _ _ _ _ _ ?_
                  refine zm3079_1 hs (⟨_, rfl, ?_⟩)
                  refine ⟨fun h_30 => ?_, fun h_30 => ?_⟩
                  · exfalso; omega
                  · have w_31 := gz_w (1 + 1)
                    have e_32 : gp_wr (1 + 1) = 2 := by omega
                    try rw [e_32]
                    refine s_3161_54 _ _ _ _ _ _ _ _ _ _ _ ?_
                    have f_33 := zr74_49 hs 49
                    have e_34 : gp_I s 74 49 = 3 := by omega
                    try rw [e_34]
                    refine ⟨fun h_35 => ?_, fun h_35 => ?_⟩
                    · refine ⟨by omega, ?_⟩
                      have f_36 := zr106 hs ((2 : Int).toNat)
                      refine ⟨by omega, ?_⟩
                      have f_37 := zr107 hs ((2 : Int).toNat)
                      have e_38 : gp_I s 107 (2 : Int).toNat = 0 := by omega
                      try rw [e_38]
                      refine zm3082_1 _ hs (by omega) (⟨_, rfl, ?_⟩)
                      refine ⟨fun h_39 => ?_, fun h_39 => ?_⟩
                      · exfalso; omega
                      · refine ⟨fun h_40 => ?_, fun h_40 => ?_⟩
                        · exfalso; omega
                        · refine s_3161_107 _ _ _ _ _ _ _ _ _ _ _ ?_
                          refine s_3161_112 _ _ _ _ _ _ _ _ _ _ ?_
                          refine zm3079_1 hs (⟨_, rfl, ?_⟩)
                          refine ⟨fun h_41 => ?_, fun h_41 => ?_⟩
                          · exfalso; omega
                          · have w_42 := gz_w (2 + 1)
                            have e_43 : gp_wr (2 + 1) = 3 := by omega
                            try rw [e_43]
                            refine s_3161_54 _ _ _ _ _ _ _ _ _ _ _ ?_
                            have f_44 := zr74_49 hs 49
                            have e_45 : gp_I s 74 49 = 3 := by omega
                            try rw [e_45]
                            refine ⟨fun h_46 => ?_, fun h_46 => ?_⟩
                            · exfalso; omega
                            · exact k
                    · exfalso; omega
                · exfalso; omega
            · exfalso; omega
        · exfalso; omega
      · exfalso; omega
    · have e_47 : gp_I s 74 49 = 2 := by omega
      try rw [e_47]
      refine s_3161_42 _ _ _ _ _ _ _ _ _ _ _ _ _ _ ?_
      refine zm3157_0 hs (⟨_, rfl, ?_⟩)
      refine s_3161_54 _ _ _ _ _ _ _ _ _ _ _ ?_
      have f_48 := zr74_49 hs 49
      have e_49 : gp_I s 74 49 = 2 := by omega
      try rw [e_49]
      refine ⟨fun h_50 => ?_, fun h_50 => ?_⟩
      · refine ⟨by omega, ?_⟩
        have f_51 := zr106 hs ((0 : Int).toNat)
        refine ⟨by omega, ?_⟩
        have f_52 := zr107 hs ((0 : Int).toNat)
        have e_53 : gp_I s 107 (0 : Int).toNat = 0 := by omega
        try rw [e_53]
        refine zm3082_1 _ hs (by omega) (⟨_, rfl, ?_⟩)
        refine ⟨fun h_54 => ?_, fun h_54 => ?_⟩
        · refine s_3161_107 _ _ _ _ _ _ _ _ _ _ _ ?_
          refine s_3161_112 _ _ _ _ _ _ _ _ _ _ ?_
          refine zm3079_1 hs (⟨_, rfl, ?_⟩)
          refine ⟨fun h_55 => ?_, fun h_55 => ?_⟩
          · exfalso; omega
          · have w_56 := gz_w (0 + 1)
            have e_57 : gp_wr (0 + 1) = 1 := by omega
            try rw [e_57]
            refine s_3161_54 _ _ _ _ _ _ _ _ _ _ _ ?_
            have f_58 := zr74_49 hs 49
            have e_59 : gp_I s 74 49 = 2 := by omega
            try rw [e_59]
            refine ⟨fun h_60 => ?_, fun h_60 => ?_⟩
            · refine ⟨by omega, ?_⟩
              have f_61 := zr106 hs ((1 : Int).toNat)
              refine ⟨by omega, ?_⟩
              have f_62 := zr107 hs ((1 : Int).toNat)
              have e_63 : gp_I s 107 (1 : Int).toNat = 0 := by omega
              try rw [e_63]
              refine zm3082_1 _ hs (by omega) (⟨_, rfl, ?_⟩)
              refine ⟨fun h_64 => ?_, fun h_64 => ?_⟩
              · exfalso; omega
              · refine ⟨fun h_65 => ?_, fun h_65 => ?_⟩
                · refine s_3161_107 _ _ _ _ _ _ _ _ _ _ _ ?_
                  refine s_3161_112 _ _ _ _ _ _ _ _ _ _ ?_
                  refine zm3079_1 hs (⟨_, rfl, ?_⟩)
                  refine ⟨fun h_66 => ?_, fun h_66 => ?_⟩
                  · exfalso; omega
                  · have w_67 := gz_w (1 + 1)
                    have e_68 : gp_wr (1 + 1) = 2 := by omega
                    try rw [e_68]
                    refine s_3161_54 _ _ _ _ _ _ _ _ _ _ _ ?_
                    have f_69 := zr74_49 hs 49
                    have e_70 : gp_I s 74 49 = 2 := by omega
                    try rw [e_70]
                    refine ⟨fun h_71 => ?_, fun h_71 => ?_⟩
                    · exfalso; omega
                    · exact k
                · exfalso; omega
            · exfalso; omega
        · exfalso; omega
      · exfalso; omega
  · refine s_3161_24 _ _ _ _ _ _ _ _ _ _ _ _ _ ?_
    have f_72 := zr74_49 hs 49
    refine ⟨fun h_73 => ?_, fun h_73 => ?_⟩
    · exfalso; omega
    · refine s_3161_42 _ _ _ _ _ _ _ _ _ _ _ _ _ _ ?_
      refine zm3157_0 hs (⟨_, rfl, ?_⟩)
      refine s_3161_54 _ _ _ _ _ _ _ _ _ _ _ ?_
      have f_74 := zr74_49 hs 49
      refine ⟨fun h_75 => ?_, fun h_75 => ?_⟩
      · have e_76 : gp_I s 74 49 = 1 := by omega
        try rw [e_76]
        refine ⟨by omega, ?_⟩
        have f_77 := zr106 hs ((0 : Int).toNat)
        refine ⟨by omega, ?_⟩
        have f_78 := zr107 hs ((0 : Int).toNat)
        have e_79 : gp_I s 107 (0 : Int).toNat = 0 := by omega
        try rw [e_79]
        refine zm3082_1 _ hs (by omega) (⟨_, rfl, ?_⟩)
        refine ⟨fun h_80 => ?_, fun h_80 => ?_⟩
        · refine s_3161_107 _ _ _ _ _ _ _ _ _ _ _ ?_
          refine s_3161_112 _ _ _ _ _ _ _ _ _ _ ?_
          refine zm3079_1 hs (⟨_, rfl, ?_⟩)
          refine ⟨fun h_81 => ?_, fun h_81 => ?_⟩
          · exfalso; omega
          · have w_82 := gz_w (0 + 1)
            have e_83 : gp_wr (0 + 1) = 1 := by omega
            try rw [e_83]
            refine s_3161_54 _ _ _ _ _ _ _ _ _ _ _ ?_
            have f_84 := zr74_49 hs 49
            have e_85 : gp_I s 74 49 = 1 := by omega
            try rw [e_85]
            refine ⟨fun h_86 => ?_, fun h_86 => ?_⟩
            · exfalso; omega
            · exact k
        · exfalso; omega
      · have e_87 : gp_I s 74 49 = 0 := by omega
        try rw [e_87]
        exact k
set_option maxRecDepth 100000 in
/-- GatheredPointsModel.best [(1, 255, 'S3'), (1, 1)] -/
theorem zm3163_6 {z : gH} {L d : Nat} {K : Option gV → gH → Prop} {s : gH} (p0 : Int) (hs : zM z s) (h_p0 : 1 ≤ p0 ∧ p0 ≤ 255) (g_p0 : gm_cnt (BitVec.ofInt 64 p0) 64 ≤ 3) (q0 : gp_I s 74 11 = 0) (q1 : gp_I s 74 43 = 0) (q2 : gp_I s 74 57 = 0) (q3 : gp_I s 74 58 = 0) (q4 : gp_I s 74 7 = 1) (q5 : gp_I s 74 9 = 0) (q6 : gp_I s 81 20 = 0) (k : ∀ (t : gH), zM z t → (gp_I t 74 11 = 0) → (gp_I t 74 43 = 0) → (gp_I t 74 57 = 0) → (gp_I t 74 58 = 0) → (gp_I t 74 7 = 1) → (gp_I t 74 9 = 0) → ((-2147483648) ≤ gp_I t 75 2 ∧ gp_I t 75 2 ≤ 2147483647) → (gp_I t 81 20 = 0) → K (some (gp_i (-1000000002))) t) : gs_C L (d + 3) 3163 4 [gp_r (some 74), gp_i p0, gp_i 1] s K := by
  refine s_3163_e _ _ ?_
  refine zm_is3 _ hs (by omega) g_p0 (⟨_, rfl, ?_⟩)
  refine ⟨fun h_1 => ?_, fun h_1 => ?_⟩
  · exfalso; omega
  · refine zm3077_3 hs (⟨_, rfl, ?_⟩)
    refine ⟨fun h_2 => ?_, fun h_2 => ?_⟩
    · exfalso; omega
    · refine zm_setsUp_w0 _ hs (by omega) g_p0 (by omega) (by omega) (by omega) (by omega) (by omega) (by omega) (by omega) (fun s_3 hs_4 q_5 q_6 q_7 q_8 q_9 q_10 q_11 => ⟨rfl, ?_⟩)
      refine zm3156_0 hs_4 (by omega) (by omega) (by omega) (by omega) (by omega) (by omega) (by omega) (fun s_12 hs_13 q_14 q_15 q_16 q_17 q_18 q_19 q_20 => ⟨rfl, ?_⟩)
      refine zm3161_1 hs_13 (by omega) (by omega) (by omega) (by omega) (by omega) (by omega) (⟨_, rfl, ?_⟩)
      refine ⟨fun h_21 => ?_, fun h_21 => ?_⟩
      · refine zm3074_5 hs_13 (by omega) (by omega) (by omega) (by omega) (by omega) (by omega) (by omega) (fun s_22 hs_23 q_24 q_25 q_26 q_27 q_28 q_29 q_30 q_31 => ⟨_, rfl, ?_⟩)
        refine s_3163_64 _ _ _ _ ?_
        exact k s_22 hs_23 (by omega) (by omega) (by omega) (by omega) (by omega) (by omega) (by omega) (by omega)
      · exfalso; omega
set_option maxRecDepth 100000 in
/-- GatheredPointsModel.begin [(-2147483648, 0), (-2147483648, 2147483647)] -/
theorem zm3168_0 {z : gH} {L d : Nat} {K : Option gV → gH → Prop} {s : gH} (p0 : Int) (p1 : Int) (hs : zM z s) (h_p0 : (-2147483648) ≤ p0 ∧ p0 ≤ 0) (h_p1 : (-2147483648) ≤ p1 ∧ p1 ≤ 2147483647) (q0 : gp_I s 74 11 = 0) (q1 : gp_I s 74 43 = 0) (q2 : gp_I s 74 57 = 0) (q3 : gp_I s 74 58 = 0) (q4 : gp_I s 74 7 = 1) (q5 : gp_I s 74 9 = 0) (q6 : gp_I s 81 20 = 0) (k : ∀ (t : gH), zM z t → (gp_I t 74 11 = 0) → (gp_I t 74 43 = 0) → (gp_I t 74 57 = 0) → (gp_I t 74 58 = 0) → (gp_I t 74 7 = 1) → (gp_I t 74 9 = 0) → ((-2147483648) ≤ gp_I t 75 1 ∧ gp_I t 75 1 ≤ 2147483647) → (gp_I t 81 20 = 0) → K (some (gp_i (-1000000001))) t) : gs_C L (d + 2) 3168 4 [gp_r (some 74), gp_i p0, gp_i p1] s K := by
  refine s_3168_e _ _ ?_
  refine zm3155_0 _ hs (by omega) (⟨_, rfl, ?_⟩)
  refine ⟨fun h_1 => ?_, fun h_1 => ?_⟩
  · refine s_3168_14 _ _ _ ?_
    refine zm3074_1 hs (by omega) (by omega) (by omega) (by omega) (by omega) (by omega) (by omega) (fun s_2 hs_3 q_4 q_5 q_6 q_7 q_8 q_9 q_10 q_11 => ⟨_, rfl, ?_⟩)
    exact k s_2 hs_3 (by omega) (by omega) (by omega) (by omega) (by omega) (by omega) (by omega) (by omega)
  · exfalso; omega
set_option maxRecDepth 100000 in
/-- GatheredPointsModel.begin [(256, 2147483647), (-2147483648, 2147483647)] -/
theorem zm3168_1 {z : gH} {L d : Nat} {K : Option gV → gH → Prop} {s : gH} (p0 : Int) (p1 : Int) (hs : zM z s) (h_p0 : 256 ≤ p0 ∧ p0 ≤ 2147483647) (h_p1 : (-2147483648) ≤ p1 ∧ p1 ≤ 2147483647) (q0 : gp_I s 74 11 = 0) (q1 : gp_I s 74 43 = 0) (q2 : gp_I s 74 57 = 0) (q3 : gp_I s 74 58 = 0) (q4 : gp_I s 74 7 = 1) (q5 : gp_I s 74 9 = 0) (q6 : gp_I s 81 20 = 0) (k : ∀ (t : gH), zM z t → (gp_I t 74 11 = 0) → (gp_I t 74 43 = 0) → (gp_I t 74 57 = 0) → (gp_I t 74 58 = 0) → (gp_I t 74 7 = 1) → (gp_I t 74 9 = 0) → ((-2147483648) ≤ gp_I t 75 1 ∧ gp_I t 75 1 ≤ 2147483647) → (gp_I t 81 20 = 0) → K (some (gp_i (-1000000001))) t) : gs_C L (d + 2) 3168 4 [gp_r (some 74), gp_i p0, gp_i p1] s K := by
  refine s_3168_e _ _ ?_
  refine zm3155_1 _ hs (by omega) (⟨_, rfl, ?_⟩)
  refine ⟨fun h_1 => ?_, fun h_1 => ?_⟩
  · refine s_3168_14 _ _ _ ?_
    refine zm3074_1 hs (by omega) (by omega) (by omega) (by omega) (by omega) (by omega) (by omega) (fun s_2 hs_3 q_4 q_5 q_6 q_7 q_8 q_9 q_10 q_11 => ⟨_, rfl, ?_⟩)
    exact k s_2 hs_3 (by omega) (by omega) (by omega) (by omega) (by omega) (by omega) (by omega) (by omega)
  · exfalso; omega
set_option maxRecDepth 100000 in
/-- GatheredPointsModel.begin [(1, 255, 'S4'), (-2147483648, 2147483647)] -/
theorem zm3168_2 {z : gH} {L d : Nat} {K : Option gV → gH → Prop} {s : gH} (p0 : Int) (p1 : Int) (hs : zM z s) (h_p0 : 1 ≤ p0 ∧ p0 ≤ 255) (h_p1 : (-2147483648) ≤ p1 ∧ p1 ≤ 2147483647) (g_p0 : gm_cnt (BitVec.ofInt 64 p0) 64 > 3) (q0 : gp_I s 74 11 = 0) (q1 : gp_I s 74 43 = 0) (q2 : gp_I s 74 57 = 0) (q3 : gp_I s 74 58 = 0) (q4 : gp_I s 74 7 = 1) (q5 : gp_I s 74 9 = 0) (q6 : gp_I s 81 20 = 0) (k : ∀ (t : gH), zM z t → (gp_I t 74 11 = 0) → (gp_I t 74 43 = 0) → (gp_I t 74 57 = 0) → (gp_I t 74 58 = 0) → (gp_I t 74 7 = 1) → (gp_I t 74 9 = 0) → ((-2147483648) ≤ gp_I t 75 1 ∧ gp_I t 75 1 ≤ 2147483647) → (gp_I t 81 20 = 0) → K (some (gp_i (-1000000001))) t) : gs_C L (d + 3) 3168 4 [gp_r (some 74), gp_i p0, gp_i p1] s K := by
  refine s_3168_e _ _ ?_
  refine zm_is4 _ hs (by omega) g_p0 (⟨_, rfl, ?_⟩)
  refine ⟨fun h_1 => ?_, fun h_1 => ?_⟩
  · refine s_3168_14 _ _ _ ?_
    refine zm3074_1 hs (by omega) (by omega) (by omega) (by omega) (by omega) (by omega) (by omega) (fun s_2 hs_3 q_4 q_5 q_6 q_7 q_8 q_9 q_10 q_11 => ⟨_, rfl, ?_⟩)
    exact k s_2 hs_3 (by omega) (by omega) (by omega) (by omega) (by omega) (by omega) (by omega) (by omega)
  · exfalso; omega
set_option maxRecDepth 100000 in
/-- GatheredPointsModel.begin [(1, 255, 'S3'), (-2147483648, -1)] -/
theorem zm3168_3 {z : gH} {L d : Nat} {K : Option gV → gH → Prop} {s : gH} (p0 : Int) (p1 : Int) (hs : zM z s) (h_p0 : 1 ≤ p0 ∧ p0 ≤ 255) (h_p1 : (-2147483648) ≤ p1 ∧ p1 ≤ (-1)) (g_p0 : gm_cnt (BitVec.ofInt 64 p0) 64 ≤ 3) (q0 : gp_I s 74 11 = 0) (q1 : gp_I s 74 43 = 0) (q2 : gp_I s 74 57 = 0) (q3 : gp_I s 74 58 = 0) (q4 : gp_I s 74 7 = 1) (q5 : gp_I s 74 9 = 0) (q6 : gp_I s 81 20 = 0) (k : ∀ (t : gH), zM z t → (gp_I t 74 11 = 0) → (gp_I t 74 43 = 0) → (gp_I t 74 57 = 0) → (gp_I t 74 58 = 0) → (gp_I t 74 7 = 1) → (gp_I t 74 9 = 0) → ((-2147483648) ≤ gp_I t 75 1 ∧ gp_I t 75 1 ≤ 2147483647) → (gp_I t 81 20 = 0) → K (some (gp_i (-1000000001))) t) : gs_C L (d + 3) 3168 4 [gp_r (some 74), gp_i p0, gp_i p1] s K := by
  refine s_3168_e _ _ ?_
  refine zm_is3 _ hs (by omega) g_p0 (⟨_, rfl, ?_⟩)
  refine ⟨fun h_1 => ?_, fun h_1 => ?_⟩
  · exfalso; omega
  · refine zm3077_0 _ hs (by omega) (⟨_, rfl, ?_⟩)
    refine ⟨fun h_2 => ?_, fun h_2 => ?_⟩
    · refine s_3168_14 _ _ _ ?_
      refine zm3074_1 hs (by omega) (by omega) (by omega) (by omega) (by omega) (by omega) (by omega) (fun s_3 hs_4 q_5 q_6 q_7 q_8 q_9 q_10 q_11 q_12 => ⟨_, rfl, ?_⟩)
      exact k s_3 hs_4 (by omega) (by omega) (by omega) (by omega) (by omega) (by omega) (by omega) (by omega)
    · exfalso; omega
set_option maxRecDepth 100000 in
/-- GatheredPointsModel.begin [(1, 255, 'S3'), (2, 2147483647)] -/
theorem zm3168_4 {z : gH} {L d : Nat} {K : Option gV → gH → Prop} {s : gH} (p0 : Int) (p1 : Int) (hs : zM z s) (h_p0 : 1 ≤ p0 ∧ p0 ≤ 255) (h_p1 : 2 ≤ p1 ∧ p1 ≤ 2147483647) (g_p0 : gm_cnt (BitVec.ofInt 64 p0) 64 ≤ 3) (q0 : gp_I s 74 11 = 0) (q1 : gp_I s 74 43 = 0) (q2 : gp_I s 74 57 = 0) (q3 : gp_I s 74 58 = 0) (q4 : gp_I s 74 7 = 1) (q5 : gp_I s 74 9 = 0) (q6 : gp_I s 81 20 = 0) (k : ∀ (t : gH), zM z t → (gp_I t 74 11 = 0) → (gp_I t 74 43 = 0) → (gp_I t 74 57 = 0) → (gp_I t 74 58 = 0) → (gp_I t 74 7 = 1) → (gp_I t 74 9 = 0) → ((-2147483648) ≤ gp_I t 75 1 ∧ gp_I t 75 1 ≤ 2147483647) → (gp_I t 81 20 = 0) → K (some (gp_i (-1000000001))) t) : gs_C L (d + 3) 3168 4 [gp_r (some 74), gp_i p0, gp_i p1] s K := by
  refine s_3168_e _ _ ?_
  refine zm_is3 _ hs (by omega) g_p0 (⟨_, rfl, ?_⟩)
  refine ⟨fun h_1 => ?_, fun h_1 => ?_⟩
  · exfalso; omega
  · refine zm3077_1 _ hs (by omega) (⟨_, rfl, ?_⟩)
    refine ⟨fun h_2 => ?_, fun h_2 => ?_⟩
    · refine s_3168_14 _ _ _ ?_
      refine zm3074_1 hs (by omega) (by omega) (by omega) (by omega) (by omega) (by omega) (by omega) (fun s_3 hs_4 q_5 q_6 q_7 q_8 q_9 q_10 q_11 q_12 => ⟨_, rfl, ?_⟩)
      exact k s_3 hs_4 (by omega) (by omega) (by omega) (by omega) (by omega) (by omega) (by omega) (by omega)
    · exfalso; omega
