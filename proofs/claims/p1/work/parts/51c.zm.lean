set_option maxRecDepth 100000 in
/-- GatheredPointsModel.go [(-2147483648, 2147483647), (-2147483648, 2147483647)] -/
theorem zm3171_0 {z : gH} {L d : Nat} {K : Option gV → gH → Prop} {s : gH} (p0 : Int) (p1 : Int) (hs : zM z s) (h_p0 : (-2147483648) ≤ p0 ∧ p0 ≤ 2147483647) (h_p1 : (-2147483648) ≤ p1 ∧ p1 ≤ 2147483647) (q0 : gp_I s 74 11 = 0) (q1 : gp_I s 74 43 = 0) (q2 : gp_I s 74 57 = 0) (q3 : gp_I s 74 58 = 0) (q4 : gp_I s 74 7 = 1) (q5 : gp_I s 74 9 = 0) (k : ∀ (t : gH), zM z t → (gp_I t 74 11 = 0) → (gp_I t 74 43 = 0) → (gp_I t 74 57 = 0) → (gp_I t 74 58 = 0) → (gp_I t 74 7 = 1) → (gp_I t 74 9 = 0) → ((-2147483648) ≤ gp_I t 75 2 ∧ gp_I t 75 2 ≤ 2147483647) → K (some (gp_i (-1000000002))) t) : gs_C L (d + 1) 3171 4 [gp_r (some 74), gp_i p0, gp_i p1] s K := by
  refine s_3171_e _ _ ?_
  try rw [show gp_I s 74 58 = 0 from q3]
  refine ⟨fun h_1 => ?_, fun h_1 => ?_⟩
  · refine zm3074_7 hs (by omega) (by omega) (by omega) (by omega) (by omega) (by omega) (fun s_2 hs_3 q_4 q_5 q_6 q_7 q_8 q_9 q_10 => ⟨_, rfl, ?_⟩)
    exact k s_2 hs_3 (by omega) (by omega) (by omega) (by omega) (by omega) (by omega) (by omega)
  · exfalso; omega
set_option maxRecDepth 100000 in
/-- GatheredPointsModel.isIn [('r', -2147483648, 0), 1, 20] -/
theorem zm3073_28 {z : gH} {L d : Nat} {K : Option gV → gH → Prop} {s : gH} (p0 : BitVec 64) (hs : zM z s) (h_p0 : (-2147483648) ≤ p0.toInt ∧ p0.toInt ≤ 0)  (k : K (some (gp_i 0)) s) : gs_C L d 3073 6 [gp_l p0, gp_l (1#64), gp_l (20#64)] s K := by
  refine s_3073_e _ _ _ ?_
  have w_1 : (1#64).toInt = 1 := by decide
  have w_2 := gz_cmp p0 (1#64)
  have e_3 : gp_cmp p0 (1#64) = (-1) := by omega
  try rw [e_3]
  refine ⟨fun h_4 => ?_, fun h_4 => ?_⟩
  · refine s_3073_17 _ _ _ ?_
    refine s_3073_18 _ _ _ _ ?_
    refine ⟨by omega, ?_⟩
    exact k
  · exfalso; omega
set_option maxRecDepth 100000 in
/-- GatheredPointsModel.play [(-2147483648, 0)] -/
theorem zm3172_0 {z : gH} {L d : Nat} {K : Option gV → gH → Prop} {s : gH} (p0 : Int) (hs : zM z s) (h_p0 : (-2147483648) ≤ p0 ∧ p0 ≤ 0) (q0 : gp_I s 74 11 = 0) (q1 : gp_I s 74 43 = 0) (q2 : gp_I s 74 57 = 0) (q3 : gp_I s 74 58 = 0) (q4 : gp_I s 74 7 = 1) (q5 : gp_I s 74 9 = 0) (q6 : gp_I s 81 20 = 0) (k : ∀ (t : gH), zM z t → (gp_I t 74 11 = 0) → (gp_I t 74 43 = 0) → (gp_I t 74 57 = 0) → (gp_I t 74 58 = 0) → (gp_I t 74 7 = 1) → (gp_I t 74 9 = 0) → ((-2147483648) ≤ gp_I t 75 1 ∧ gp_I t 75 1 ≤ 2147483647) → (gp_I t 81 20 = 0) → K (some (gp_i (-1000000001))) t) : gs_C L (d + 1) 3172 4 [gp_r (some 74), gp_i p0] s K := by
  refine s_3172_e _ ?_
  have w_1 := gz_oi (p0) (by omega)
  have e_2 : BitVec.ofInt 64 20 = 20#64 := by decide
  try rw [e_2]
  refine zm3073_28 _ hs (by omega) (⟨_, rfl, ?_⟩)
  refine ⟨fun h_3 => ?_, fun h_3 => ?_⟩
  · refine zm3074_1 hs (by omega) (by omega) (by omega) (by omega) (by omega) (by omega) (by omega) (fun s_4 hs_5 q_6 q_7 q_8 q_9 q_10 q_11 q_12 q_13 => ⟨_, rfl, ?_⟩)
    exact k s_4 hs_5 (by omega) (by omega) (by omega) (by omega) (by omega) (by omega) (by omega) (by omega)
  · exfalso; omega
set_option maxRecDepth 100000 in
/-- GatheredPointsModel.isIn [('r', 1, 20), 1, 20] -/
theorem zm3073_29 {z : gH} {L d : Nat} {K : Option gV → gH → Prop} {s : gH} (p0 : BitVec 64) (hs : zM z s) (h_p0 : 1 ≤ p0.toInt ∧ p0.toInt ≤ 20)  (k : K (some (gp_i 1)) s) : gs_C L d 3073 6 [gp_l p0, gp_l (1#64), gp_l (20#64)] s K := by
  refine s_3073_e _ _ _ ?_
  have w_1 : (1#64).toInt = 1 := by decide
  have w_2 := gz_cmp p0 (1#64)
  refine ⟨fun h_3 => ?_, fun h_3 => ?_⟩
  · exfalso; omega
  · have w_4 : (20#64).toInt = 20 := by decide
    have w_5 := gz_cmp p0 (20#64)
    refine ⟨fun h_6 => ?_, fun h_6 => ?_⟩
    · exfalso; omega
    · refine s_3073_18 _ _ _ _ ?_
      refine ⟨by omega, ?_⟩
      exact k
set_option maxRecDepth 100000 in
/-- GatheredPointsModel.play [(1, 20)] -/
theorem zm3172_1 {z : gH} {L d : Nat} {K : Option gV → gH → Prop} {s : gH} (p0 : Int) (hs : zM z s) (h_p0 : 1 ≤ p0 ∧ p0 ≤ 20) (q0 : gp_I s 74 11 = 0) (q1 : gp_I s 74 43 = 0) (q2 : gp_I s 74 57 = 0) (q3 : gp_I s 74 58 = 0) (q4 : gp_I s 74 7 = 1) (q5 : gp_I s 74 9 = 0) (q6 : gp_I s 81 20 = 0) (k : ∀ (t : gH), zM z t → (gp_I t 74 11 = 0) → (gp_I t 74 43 = 0) → (gp_I t 74 57 = 0) → (gp_I t 74 58 = 0) → (gp_I t 74 7 = 1) → (gp_I t 74 9 = 0) → ((-2147483648) ≤ gp_I t 75 2 ∧ gp_I t 75 2 ≤ 2147483647) → (gp_I t 81 20 = 0) → K (some (gp_i (-1000000002))) t) : gs_C L (d + 1) 3172 4 [gp_r (some 74), gp_i p0] s K := by
  refine s_3172_e _ ?_
  have w_1 := gz_oi (p0) (by omega)
  have e_2 : BitVec.ofInt 64 20 = 20#64 := by decide
  try rw [e_2]
  refine zm3073_29 _ hs (by omega) (⟨_, rfl, ?_⟩)
  refine ⟨fun h_3 => ?_, fun h_3 => ?_⟩
  · exfalso; omega
  · try rw [show gp_I s 74 58 = 0 from q3]
    refine ⟨fun h_4 => ?_, fun h_4 => ?_⟩
    · refine zm3074_5 hs (by omega) (by omega) (by omega) (by omega) (by omega) (by omega) (by omega) (fun s_5 hs_6 q_7 q_8 q_9 q_10 q_11 q_12 q_13 q_14 => ⟨_, rfl, ?_⟩)
      exact k s_5 hs_6 (by omega) (by omega) (by omega) (by omega) (by omega) (by omega) (by omega) (by omega)
    · exfalso; omega
set_option maxRecDepth 100000 in
/-- GatheredPointsModel.isIn [('r', 21, 2147483647), 1, 20] -/
theorem zm3073_30 {z : gH} {L d : Nat} {K : Option gV → gH → Prop} {s : gH} (p0 : BitVec 64) (hs : zM z s) (h_p0 : 21 ≤ p0.toInt ∧ p0.toInt ≤ 2147483647)  (k : K (some (gp_i 0)) s) : gs_C L d 3073 6 [gp_l p0, gp_l (1#64), gp_l (20#64)] s K := by
  refine s_3073_e _ _ _ ?_
  have w_1 : (1#64).toInt = 1 := by decide
  have w_2 := gz_cmp p0 (1#64)
  have e_3 : gp_cmp p0 (1#64) = 1 := by omega
  try rw [e_3]
  refine ⟨fun h_4 => ?_, fun h_4 => ?_⟩
  · exfalso; omega
  · have w_5 : (20#64).toInt = 20 := by decide
    have w_6 := gz_cmp p0 (20#64)
    have e_7 : gp_cmp p0 (20#64) = 1 := by omega
    try rw [e_7]
    refine ⟨fun h_8 => ?_, fun h_8 => ?_⟩
    · refine s_3073_17 _ _ _ ?_
      refine s_3073_18 _ _ _ _ ?_
      refine ⟨by omega, ?_⟩
      exact k
    · exfalso; omega
set_option maxRecDepth 100000 in
/-- GatheredPointsModel.play [(21, 2147483647)] -/
theorem zm3172_2 {z : gH} {L d : Nat} {K : Option gV → gH → Prop} {s : gH} (p0 : Int) (hs : zM z s) (h_p0 : 21 ≤ p0 ∧ p0 ≤ 2147483647) (q0 : gp_I s 74 11 = 0) (q1 : gp_I s 74 43 = 0) (q2 : gp_I s 74 57 = 0) (q3 : gp_I s 74 58 = 0) (q4 : gp_I s 74 7 = 1) (q5 : gp_I s 74 9 = 0) (q6 : gp_I s 81 20 = 0) (k : ∀ (t : gH), zM z t → (gp_I t 74 11 = 0) → (gp_I t 74 43 = 0) → (gp_I t 74 57 = 0) → (gp_I t 74 58 = 0) → (gp_I t 74 7 = 1) → (gp_I t 74 9 = 0) → ((-2147483648) ≤ gp_I t 75 1 ∧ gp_I t 75 1 ≤ 2147483647) → (gp_I t 81 20 = 0) → K (some (gp_i (-1000000001))) t) : gs_C L (d + 1) 3172 4 [gp_r (some 74), gp_i p0] s K := by
  refine s_3172_e _ ?_
  have w_1 := gz_oi (p0) (by omega)
  have e_2 : BitVec.ofInt 64 20 = 20#64 := by decide
  try rw [e_2]
  refine zm3073_30 _ hs (by omega) (⟨_, rfl, ?_⟩)
  refine ⟨fun h_3 => ?_, fun h_3 => ?_⟩
  · refine zm3074_1 hs (by omega) (by omega) (by omega) (by omega) (by omega) (by omega) (by omega) (fun s_4 hs_5 q_6 q_7 q_8 q_9 q_10 q_11 q_12 q_13 => ⟨_, rfl, ?_⟩)
    exact k s_4 hs_5 (by omega) (by omega) (by omega) (by omega) (by omega) (by omega) (by omega) (by omega)
  · exfalso; omega
set_option maxRecDepth 100000 in
/-- GatheredPointsModel.loose [(-2147483648, 0)] -/
theorem zm3173_0 {z : gH} {L d : Nat} {K : Option gV → gH → Prop} {s : gH} (p0 : Int) (hs : zM z s) (h_p0 : (-2147483648) ≤ p0 ∧ p0 ≤ 0) (q0 : gp_I s 74 11 = 0) (q1 : gp_I s 74 43 = 0) (q2 : gp_I s 74 57 = 0) (q3 : gp_I s 74 58 = 0) (q4 : gp_I s 74 7 = 1) (q5 : gp_I s 74 9 = 0) (k : ∀ (t : gH), zM z t → (gp_I t 74 11 = 0) → (gp_I t 74 43 = 0) → (gp_I t 74 57 = 0) → (gp_I t 74 58 = 0) → (gp_I t 74 7 = 1) → (gp_I t 74 9 = 0) → ((-2147483648) ≤ gp_I t 75 1 ∧ gp_I t 75 1 ≤ 2147483647) → K (some (gp_i (-1000000001))) t) : gs_C L (d + 1) 3173 5 [gp_r (some 74), gp_i p0] s K := by
  refine s_3173_e _ ?_
  have w_1 := gz_oi (p0) (by omega)
  have e_2 : BitVec.ofInt 64 20 = 20#64 := by decide
  try rw [e_2]
  refine zm3073_28 _ hs (by omega) (⟨_, rfl, ?_⟩)
  refine ⟨fun h_3 => ?_, fun h_3 => ?_⟩
  · refine zm3074_0 hs (by omega) (by omega) (by omega) (by omega) (by omega) (by omega) (fun s_4 hs_5 q_6 q_7 q_8 q_9 q_10 q_11 q_12 => ⟨_, rfl, ?_⟩)
    exact k s_4 hs_5 (by omega) (by omega) (by omega) (by omega) (by omega) (by omega) (by omega)
  · exfalso; omega
set_option maxRecDepth 100000 in
/-- GatheredPointsModel.loose [(1, 20)] -/
theorem zm3173_1 {z : gH} {L d : Nat} {K : Option gV → gH → Prop} {s : gH} (p0 : Int) (hs : zM z s) (h_p0 : 1 ≤ p0 ∧ p0 ≤ 20) (q0 : gp_I s 74 11 = 0) (q1 : gp_I s 74 43 = 0) (q2 : gp_I s 74 57 = 0) (q3 : gp_I s 74 58 = 0) (q4 : gp_I s 74 7 = 1) (q5 : gp_I s 74 9 = 0) (k : ∀ (t : gH), zM z t → (gp_I t 74 11 = 0) → (gp_I t 74 43 = 0) → (gp_I t 74 57 = 0) → (gp_I t 74 58 = 0) → (gp_I t 74 7 = 1) → (gp_I t 74 9 = 0) → ((-2147483648) ≤ gp_I t 75 2 ∧ gp_I t 75 2 ≤ 2147483647) → K (some (gp_i (-1000000002))) t) : gs_C L (d + 1) 3173 5 [gp_r (some 74), gp_i p0] s K := by
  refine s_3173_e _ ?_
  have w_1 := gz_oi (p0) (by omega)
  have e_2 : BitVec.ofInt 64 20 = 20#64 := by decide
  try rw [e_2]
  refine zm3073_29 _ hs (by omega) (⟨_, rfl, ?_⟩)
  refine ⟨fun h_3 => ?_, fun h_3 => ?_⟩
  · exfalso; omega
  · try rw [show gp_I s 74 58 = 0 from q3]
    refine ⟨fun h_4 => ?_, fun h_4 => ?_⟩
    · refine zm3074_7 hs (by omega) (by omega) (by omega) (by omega) (by omega) (by omega) (fun s_5 hs_6 q_7 q_8 q_9 q_10 q_11 q_12 q_13 => ⟨_, rfl, ?_⟩)
      exact k s_5 hs_6 (by omega) (by omega) (by omega) (by omega) (by omega) (by omega) (by omega)
    · exfalso; omega
set_option maxRecDepth 100000 in
/-- GatheredPointsModel.loose [(21, 2147483647)] -/
theorem zm3173_2 {z : gH} {L d : Nat} {K : Option gV → gH → Prop} {s : gH} (p0 : Int) (hs : zM z s) (h_p0 : 21 ≤ p0 ∧ p0 ≤ 2147483647) (q0 : gp_I s 74 11 = 0) (q1 : gp_I s 74 43 = 0) (q2 : gp_I s 74 57 = 0) (q3 : gp_I s 74 58 = 0) (q4 : gp_I s 74 7 = 1) (q5 : gp_I s 74 9 = 0) (k : ∀ (t : gH), zM z t → (gp_I t 74 11 = 0) → (gp_I t 74 43 = 0) → (gp_I t 74 57 = 0) → (gp_I t 74 58 = 0) → (gp_I t 74 7 = 1) → (gp_I t 74 9 = 0) → ((-2147483648) ≤ gp_I t 75 1 ∧ gp_I t 75 1 ≤ 2147483647) → K (some (gp_i (-1000000001))) t) : gs_C L (d + 1) 3173 5 [gp_r (some 74), gp_i p0] s K := by
  refine s_3173_e _ ?_
  have w_1 := gz_oi (p0) (by omega)
  have e_2 : BitVec.ofInt 64 20 = 20#64 := by decide
  try rw [e_2]
  refine zm3073_30 _ hs (by omega) (⟨_, rfl, ?_⟩)
  refine ⟨fun h_3 => ?_, fun h_3 => ?_⟩
  · refine zm3074_0 hs (by omega) (by omega) (by omega) (by omega) (by omega) (by omega) (fun s_4 hs_5 q_6 q_7 q_8 q_9 q_10 q_11 q_12 => ⟨_, rfl, ?_⟩)
    exact k s_4 hs_5 (by omega) (by omega) (by omega) (by omega) (by omega) (by omega) (by omega)
  · exfalso; omega
set_option maxRecDepth 100000 in
/-- GatheredPointsModel.back [] -/
theorem zm3174_0 {z : gH} {L d : Nat} {K : Option gV → gH → Prop} {s : gH}  (hs : zM z s)  (q0 : gp_I s 74 11 = 0) (q1 : gp_I s 74 43 = 0) (q2 : gp_I s 74 57 = 0) (q3 : gp_I s 74 58 = 0) (q4 : gp_I s 74 7 = 1) (q5 : gp_I s 74 9 = 0) (k : ∀ (t : gH), zM z t → (gp_I t 74 11 = 0) → (gp_I t 74 43 = 0) → (gp_I t 74 57 = 0) → (gp_I t 74 58 = 0) → (gp_I t 74 7 = 1) → (gp_I t 74 9 = 0) → ((-2147483648) ≤ gp_I t 75 2 ∧ gp_I t 75 2 ≤ 2147483647) → K (some (gp_i (-1000000002))) t) : gs_C L (d + 1) 3174 1 [gp_r (some 74)] s K := by
  refine s_3174_e ?_
  try rw [show gp_I s 74 58 = 0 from q3]
  refine ⟨fun h_1 => ?_, fun h_1 => ?_⟩
  · refine s_3174_14 ?_
    refine zm3074_7 hs (by omega) (by omega) (by omega) (by omega) (by omega) (by omega) (fun s_2 hs_3 q_4 q_5 q_6 q_7 q_8 q_9 q_10 => ⟨_, rfl, ?_⟩)
    exact k s_2 hs_3 (by omega) (by omega) (by omega) (by omega) (by omega) (by omega) (by omega)
  · exfalso; omega
set_option maxRecDepth 100000 in
/-- GatheredPointsModel.isIn [('r', -2147483648, -1), 0, 5] -/
theorem zm3073_31 {z : gH} {L d : Nat} {K : Option gV → gH → Prop} {s : gH} (p0 : BitVec 64) (hs : zM z s) (h_p0 : (-2147483648) ≤ p0.toInt ∧ p0.toInt ≤ (-1))  (k : K (some (gp_i 0)) s) : gs_C L d 3073 6 [gp_l p0, gp_l (0#64), gp_l (5#64)] s K := by
  refine s_3073_e _ _ _ ?_
  have w_1 : (0#64).toInt = 0 := by decide
  have w_2 := gz_cmp p0 (0#64)
  have e_3 : gp_cmp p0 (0#64) = (-1) := by omega
  try rw [e_3]
  refine ⟨fun h_4 => ?_, fun h_4 => ?_⟩
  · refine s_3073_17 _ _ _ ?_
    refine s_3073_18 _ _ _ _ ?_
    refine ⟨by omega, ?_⟩
    exact k
  · exfalso; omega
set_option maxRecDepth 100000 in
/-- GatheredPointsModel.matchOf [(-2147483648, -1)] -/
theorem zm3175_0 {z : gH} {L d : Nat} {K : Option gV → gH → Prop} {s : gH} (p0 : Int) (hs : zM z s) (h_p0 : (-2147483648) ≤ p0 ∧ p0 ≤ (-1)) (q0 : gp_I s 74 11 = 0) (q1 : gp_I s 74 43 = 0) (q2 : gp_I s 74 57 = 0) (q3 : gp_I s 74 58 = 0) (q4 : gp_I s 74 7 = 1) (q5 : gp_I s 74 9 = 0) (q6 : gp_I s 81 20 = 0) (k : ∀ (t : gH), zM z t → (gp_I t 74 11 = 0) → (gp_I t 74 43 = 0) → (gp_I t 74 57 = 0) → (gp_I t 74 58 = 0) → (gp_I t 74 7 = 1) → (gp_I t 74 9 = 0) → ((-2147483648) ≤ gp_I t 75 1 ∧ gp_I t 75 1 ≤ 2147483647) → (gp_I t 81 20 = 0) → K (some (gp_i (-1000000001))) t) : gs_C L (d + 1) 3175 4 [gp_r (some 74), gp_i p0] s K := by
  refine s_3175_e _ ?_
  have w_1 := gz_oi (p0) (by omega)
  have e_2 : BitVec.ofInt 64 5 = 5#64 := by decide
  try rw [e_2]
  refine zm3073_31 _ hs (by omega) (⟨_, rfl, ?_⟩)
  refine ⟨fun h_3 => ?_, fun h_3 => ?_⟩
  · refine zm3074_1 hs (by omega) (by omega) (by omega) (by omega) (by omega) (by omega) (by omega) (fun s_4 hs_5 q_6 q_7 q_8 q_9 q_10 q_11 q_12 q_13 => ⟨_, rfl, ?_⟩)
    exact k s_4 hs_5 (by omega) (by omega) (by omega) (by omega) (by omega) (by omega) (by omega) (by omega)
  · exfalso; omega
set_option maxRecDepth 100000 in
/-- GatheredPointsModel.isIn [('r', 0, 5), 0, 5] -/
theorem zm3073_32 {z : gH} {L d : Nat} {K : Option gV → gH → Prop} {s : gH} (p0 : BitVec 64) (hs : zM z s) (h_p0 : 0 ≤ p0.toInt ∧ p0.toInt ≤ 5)  (k : K (some (gp_i 1)) s) : gs_C L d 3073 6 [gp_l p0, gp_l (0#64), gp_l (5#64)] s K := by
  refine s_3073_e _ _ _ ?_
  have w_1 : (0#64).toInt = 0 := by decide
  have w_2 := gz_cmp p0 (0#64)
  refine ⟨fun h_3 => ?_, fun h_3 => ?_⟩
  · exfalso; omega
  · have w_4 : (5#64).toInt = 5 := by decide
    have w_5 := gz_cmp p0 (5#64)
    refine ⟨fun h_6 => ?_, fun h_6 => ?_⟩
    · exfalso; omega
    · refine s_3073_18 _ _ _ _ ?_
      refine ⟨by omega, ?_⟩
      exact k
set_option maxRecDepth 100000 in
/-- GatheredPointsModel.matchOf [(0, 5)] -/
theorem zm3175_1 {z : gH} {L d : Nat} {K : Option gV → gH → Prop} {s : gH} (p0 : Int) (hs : zM z s) (h_p0 : 0 ≤ p0 ∧ p0 ≤ 5) (q0 : gp_I s 74 11 = 0) (q1 : gp_I s 74 43 = 0) (q2 : gp_I s 74 57 = 0) (q3 : gp_I s 74 58 = 0) (q4 : gp_I s 74 7 = 1) (q5 : gp_I s 74 9 = 0) (q6 : gp_I s 81 20 = 0) (k : ∀ (t : gH), zM z t → (gp_I t 74 11 = 0) → (gp_I t 74 43 = 0) → (gp_I t 74 57 = 0) → (gp_I t 74 58 = 0) → (gp_I t 74 7 = 1) → (gp_I t 74 9 = 0) → ((-2147483648) ≤ gp_I t 75 2 ∧ gp_I t 75 2 ≤ 2147483647) → (gp_I t 81 20 = 0) → K (some (gp_i (-1000000002))) t) : gs_C L (d + 1) 3175 4 [gp_r (some 74), gp_i p0] s K := by
  refine s_3175_e _ ?_
  have w_1 := gz_oi (p0) (by omega)
  have e_2 : BitVec.ofInt 64 5 = 5#64 := by decide
  try rw [e_2]
  refine zm3073_32 _ hs (by omega) (⟨_, rfl, ?_⟩)
  refine ⟨fun h_3 => ?_, fun h_3 => ?_⟩
  · exfalso; omega
  · try rw [show gp_I s 74 58 = 0 from q3]
    refine ⟨fun h_4 => ?_, fun h_4 => ?_⟩
    · refine zm3074_5 hs (by omega) (by omega) (by omega) (by omega) (by omega) (by omega) (by omega) (fun s_5 hs_6 q_7 q_8 q_9 q_10 q_11 q_12 q_13 q_14 => ⟨_, rfl, ?_⟩)
      exact k s_5 hs_6 (by omega) (by omega) (by omega) (by omega) (by omega) (by omega) (by omega) (by omega)
    · exfalso; omega
set_option maxRecDepth 100000 in
/-- GatheredPointsModel.isIn [('r', 6, 2147483647), 0, 5] -/
theorem zm3073_33 {z : gH} {L d : Nat} {K : Option gV → gH → Prop} {s : gH} (p0 : BitVec 64) (hs : zM z s) (h_p0 : 6 ≤ p0.toInt ∧ p0.toInt ≤ 2147483647)  (k : K (some (gp_i 0)) s) : gs_C L d 3073 6 [gp_l p0, gp_l (0#64), gp_l (5#64)] s K := by
  refine s_3073_e _ _ _ ?_
  have w_1 : (0#64).toInt = 0 := by decide
  have w_2 := gz_cmp p0 (0#64)
  have e_3 : gp_cmp p0 (0#64) = 1 := by omega
  try rw [e_3]
  refine ⟨fun h_4 => ?_, fun h_4 => ?_⟩
  · exfalso; omega
  · have w_5 : (5#64).toInt = 5 := by decide
    have w_6 := gz_cmp p0 (5#64)
    have e_7 : gp_cmp p0 (5#64) = 1 := by omega
    try rw [e_7]
    refine ⟨fun h_8 => ?_, fun h_8 => ?_⟩
    · refine s_3073_17 _ _ _ ?_
      refine s_3073_18 _ _ _ _ ?_
      refine ⟨by omega, ?_⟩
      exact k
    · exfalso; omega
set_option maxRecDepth 100000 in
/-- GatheredPointsModel.matchOf [(6, 2147483647)] -/
theorem zm3175_2 {z : gH} {L d : Nat} {K : Option gV → gH → Prop} {s : gH} (p0 : Int) (hs : zM z s) (h_p0 : 6 ≤ p0 ∧ p0 ≤ 2147483647) (q0 : gp_I s 74 11 = 0) (q1 : gp_I s 74 43 = 0) (q2 : gp_I s 74 57 = 0) (q3 : gp_I s 74 58 = 0) (q4 : gp_I s 74 7 = 1) (q5 : gp_I s 74 9 = 0) (q6 : gp_I s 81 20 = 0) (k : ∀ (t : gH), zM z t → (gp_I t 74 11 = 0) → (gp_I t 74 43 = 0) → (gp_I t 74 57 = 0) → (gp_I t 74 58 = 0) → (gp_I t 74 7 = 1) → (gp_I t 74 9 = 0) → ((-2147483648) ≤ gp_I t 75 1 ∧ gp_I t 75 1 ≤ 2147483647) → (gp_I t 81 20 = 0) → K (some (gp_i (-1000000001))) t) : gs_C L (d + 1) 3175 4 [gp_r (some 74), gp_i p0] s K := by
  refine s_3175_e _ ?_
  have w_1 := gz_oi (p0) (by omega)
  have e_2 : BitVec.ofInt 64 5 = 5#64 := by decide
  try rw [e_2]
  refine zm3073_33 _ hs (by omega) (⟨_, rfl, ?_⟩)
  refine ⟨fun h_3 => ?_, fun h_3 => ?_⟩
  · refine zm3074_1 hs (by omega) (by omega) (by omega) (by omega) (by omega) (by omega) (by omega) (fun s_4 hs_5 q_6 q_7 q_8 q_9 q_10 q_11 q_12 q_13 => ⟨_, rfl, ?_⟩)
    exact k s_4 hs_5 (by omega) (by omega) (by omega) (by omega) (by omega) (by omega) (by omega) (by omega)
  · exfalso; omega
set_option maxRecDepth 100000 in
/-- GatheredPointsModel.moved [(-2147483648, 2147483647)] -/
theorem zm3176_0 {z : gH} {L d : Nat} {K : Option gV → gH → Prop} {s : gH} (p0 : Int) (hs : zM z s) (h_p0 : (-2147483648) ≤ p0 ∧ p0 ≤ 2147483647) (q0 : gp_I s 74 11 = 0) (q1 : gp_I s 74 43 = 0) (q2 : gp_I s 74 57 = 0) (q3 : gp_I s 74 58 = 0) (q4 : gp_I s 74 7 = 1) (q5 : gp_I s 74 9 = 0) (k : ∀ (t : gH), zM z t → (gp_I t 74 11 = 0) → (gp_I t 74 43 = 0) → (gp_I t 74 57 = 0) → (gp_I t 74 58 = 0) → (gp_I t 74 7 = 1) → (gp_I t 74 9 = 0) → ((-2147483648) ≤ gp_I t 75 2 ∧ gp_I t 75 2 ≤ 2147483647) → K (some (gp_i (-1000000002))) t) : gs_C L (d + 1) 3176 2 [gp_r (some 74), gp_i p0] s K := by
  refine s_3176_e _ ?_
  try rw [show gp_I s 74 58 = 0 from q3]
  refine ⟨fun h_1 => ?_, fun h_1 => ?_⟩
  · refine s_3176_23 _ ?_
    refine zm3074_7 hs (by omega) (by omega) (by omega) (by omega) (by omega) (by omega) (fun s_2 hs_3 q_4 q_5 q_6 q_7 q_8 q_9 q_10 => ⟨_, rfl, ?_⟩)
    exact k s_2 hs_3 (by omega) (by omega) (by omega) (by omega) (by omega) (by omega) (by omega)
  · exfalso; omega
set_option maxRecDepth 100000 in
/-- GatheredPointsModel.finds [(1, 1)] -/
theorem zm3074_8 {z : gH} {L d : Nat} {K : Option gV → gH → Prop} {s : gH}  (hs : zM z s)  (q0 : gp_I s 84 0 = 0) (q1 : gp_I s 84 1 = 0) (q2 : gp_I s 84 2 = 0) (q3 : gp_I s 84 3 = 0) (q4 : gp_I s 85 0 = 0) (q5 : gp_I s 85 1 = 0) (q6 : gp_I s 85 2 = 0) (q7 : gp_I s 85 3 = 0) (k : ∀ (t : gH), zM z t → ((-2147483648) ≤ gp_I t 75 1 ∧ gp_I t 75 1 ≤ 2147483647) → (gp_I t 84 0 = 0) → (gp_I t 84 1 = 0) → (gp_I t 84 2 = 0) → (gp_I t 84 3 = 0) → (gp_I t 85 0 = 0) → (gp_I t 85 1 = 0) → (gp_I t 85 2 = 0) → (gp_I t 85 3 = 0) → K (some (gp_i (-1000000001))) t) : gs_C L d 3074 2 [gp_r (some 74), gp_i 1] s K := by
  refine s_3074_e _ ?_
  refine ⟨by omega, ?_⟩
  have w_1 := gz_w ((gp_I s 75 (1 : Int).toNat) + 1)
  refine ⟨by omega, ?_⟩
  intro s_2 e_3
  have hs_4 : zM z s_2 := by rw [e_3]; exact zw75 hs _ _
  have q_5 : gp_I s_2 84 0 = 0 := by rw [e_3]; exact q0
  have q_6 : gp_I s_2 84 1 = 0 := by rw [e_3]; exact q1
  have q_7 : gp_I s_2 84 2 = 0 := by rw [e_3]; exact q2
  have q_8 : gp_I s_2 84 3 = 0 := by rw [e_3]; exact q3
  have q_9 : gp_I s_2 85 0 = 0 := by rw [e_3]; exact q4
  have q_10 : gp_I s_2 85 1 = 0 := by rw [e_3]; exact q5
  have q_11 : gp_I s_2 85 2 = 0 := by rw [e_3]; exact q6
  have q_12 : gp_I s_2 85 3 = 0 := by rw [e_3]; exact q7
  have q_13 : (-2147483648) ≤ gp_I s_2 75 1 ∧ gp_I s_2 75 1 ≤ 2147483647 := by have x_14 : gp_I s_2 75 1 = gp_wr ((gp_I s 75 (1 : Int).toNat) + 1) := (by rw [e_3]; rfl); omega
  have w_15 := gz_w ((-1000000000) - 1)
  have e_16 : gp_wr ((-1000000000) - 1) = (-1000000001) := by omega
  try rw [e_16]
  exact k s_2 hs_4 (by omega) (by omega) (by omega) (by omega) (by omega) (by omega) (by omega) (by omega) (by omega)
set_option maxRecDepth 100000 in
/-- GatheredPointsModel.sheet [(-2147483648, -1), (-2147483648, 2147483647), (-2147483648, 2147483647)] -/
theorem zm3178_0 {z : gH} {L d : Nat} {K : Option gV → gH → Prop} {s : gH} (p0 : Int) (p1 : Int) (p2 : Int) (hs : zM z s) (h_p0 : (-2147483648) ≤ p0 ∧ p0 ≤ (-1)) (h_p1 : (-2147483648) ≤ p1 ∧ p1 ≤ 2147483647) (h_p2 : (-2147483648) ≤ p2 ∧ p2 ≤ 2147483647) (q0 : gp_I s 84 0 = 0) (q1 : gp_I s 84 1 = 0) (q2 : gp_I s 84 2 = 0) (q3 : gp_I s 84 3 = 0) (q4 : gp_I s 85 0 = 0) (q5 : gp_I s 85 1 = 0) (q6 : gp_I s 85 2 = 0) (q7 : gp_I s 85 3 = 0) (k : ∀ (t : gH), zM z t → ((-2147483648) ≤ gp_I t 75 1 ∧ gp_I t 75 1 ≤ 2147483647) → (gp_I t 84 0 = 0) → (gp_I t 84 1 = 0) → (gp_I t 84 2 = 0) → (gp_I t 84 3 = 0) → (gp_I t 85 0 = 0) → (gp_I t 85 1 = 0) → (gp_I t 85 2 = 0) → (gp_I t 85 3 = 0) → K (some (gp_i (-1000000001))) t) : gs_C L (d + 1) 3178 5 [gp_r (some 74), gp_i p0, gp_i p1, gp_i p2] s K := by
  refine s_3178_e _ _ _ ?_
  refine zm3076_0 _ hs (by omega) (⟨_, rfl, ?_⟩)
  refine ⟨fun h_1 => ?_, fun h_1 => ?_⟩
  · refine s_3178_29 _ _ _ _ ?_
    refine zm3074_8 hs (by omega) (by omega) (by omega) (by omega) (by omega) (by omega) (by omega) (by omega) (fun s_2 hs_3 q_4 q_5 q_6 q_7 q_8 q_9 q_10 q_11 q_12 => ⟨_, rfl, ?_⟩)
    exact k s_2 hs_3 (by omega) (by omega) (by omega) (by omega) (by omega) (by omega) (by omega) (by omega) (by omega)
  · exfalso; omega
set_option maxRecDepth 100000 in
/-- GatheredPointsModel.sheet [(4, 2147483647), (-2147483648, 2147483647), (-2147483648, 2147483647)] -/
theorem zm3178_1 {z : gH} {L d : Nat} {K : Option gV → gH → Prop} {s : gH} (p0 : Int) (p1 : Int) (p2 : Int) (hs : zM z s) (h_p0 : 4 ≤ p0 ∧ p0 ≤ 2147483647) (h_p1 : (-2147483648) ≤ p1 ∧ p1 ≤ 2147483647) (h_p2 : (-2147483648) ≤ p2 ∧ p2 ≤ 2147483647) (q0 : gp_I s 84 0 = 0) (q1 : gp_I s 84 1 = 0) (q2 : gp_I s 84 2 = 0) (q3 : gp_I s 84 3 = 0) (q4 : gp_I s 85 0 = 0) (q5 : gp_I s 85 1 = 0) (q6 : gp_I s 85 2 = 0) (q7 : gp_I s 85 3 = 0) (k : ∀ (t : gH), zM z t → ((-2147483648) ≤ gp_I t 75 1 ∧ gp_I t 75 1 ≤ 2147483647) → (gp_I t 84 0 = 0) → (gp_I t 84 1 = 0) → (gp_I t 84 2 = 0) → (gp_I t 84 3 = 0) → (gp_I t 85 0 = 0) → (gp_I t 85 1 = 0) → (gp_I t 85 2 = 0) → (gp_I t 85 3 = 0) → K (some (gp_i (-1000000001))) t) : gs_C L (d + 1) 3178 5 [gp_r (some 74), gp_i p0, gp_i p1, gp_i p2] s K := by
  refine s_3178_e _ _ _ ?_
  refine zm3076_1 _ hs (by omega) (⟨_, rfl, ?_⟩)
  refine ⟨fun h_1 => ?_, fun h_1 => ?_⟩
  · refine s_3178_29 _ _ _ _ ?_
    refine zm3074_8 hs (by omega) (by omega) (by omega) (by omega) (by omega) (by omega) (by omega) (by omega) (fun s_2 hs_3 q_4 q_5 q_6 q_7 q_8 q_9 q_10 q_11 q_12 => ⟨_, rfl, ?_⟩)
    exact k s_2 hs_3 (by omega) (by omega) (by omega) (by omega) (by omega) (by omega) (by omega) (by omega) (by omega)
  · exfalso; omega
set_option maxRecDepth 100000 in
/-- GatheredPointsModel.sheet [(0, 0), (-2147483648, -1), (-2147483648, 2147483647)] -/
theorem zm3178_2 {z : gH} {L d : Nat} {K : Option gV → gH → Prop} {s : gH} (p1 : Int) (p2 : Int) (hs : zM z s) (h_p1 : (-2147483648) ≤ p1 ∧ p1 ≤ (-1)) (h_p2 : (-2147483648) ≤ p2 ∧ p2 ≤ 2147483647) (q0 : gp_I s 84 0 = 0) (q1 : gp_I s 84 1 = 0) (q2 : gp_I s 84 2 = 0) (q3 : gp_I s 84 3 = 0) (q4 : gp_I s 85 0 = 0) (q5 : gp_I s 85 1 = 0) (q6 : gp_I s 85 2 = 0) (q7 : gp_I s 85 3 = 0) (k : ∀ (t : gH), zM z t → ((-2147483648) ≤ gp_I t 75 1 ∧ gp_I t 75 1 ≤ 2147483647) → (gp_I t 84 0 = 0) → (gp_I t 84 1 = 0) → (gp_I t 84 2 = 0) → (gp_I t 84 3 = 0) → (gp_I t 85 0 = 0) → (gp_I t 85 1 = 0) → (gp_I t 85 2 = 0) → (gp_I t 85 3 = 0) → K (some (gp_i (-1000000001))) t) : gs_C L (d + 1) 3178 5 [gp_r (some 74), gp_i 0, gp_i p1, gp_i p2] s K := by
  refine s_3178_e _ _ _ ?_
  refine zm3076_2 hs (⟨_, rfl, ?_⟩)
  refine ⟨fun h_1 => ?_, fun h_1 => ?_⟩
  · exfalso; omega
  · refine ⟨fun h_2 => ?_, fun h_2 => ?_⟩
    · exfalso; omega
    · refine ⟨fun h_3 => ?_, fun h_3 => ?_⟩
      · exfalso; omega
      · refine ⟨fun h_4 => ?_, fun h_4 => ?_⟩
        · exfalso; omega
        · refine ⟨fun h_5 => ?_, fun h_5 => ?_⟩
          · exfalso; omega
          · refine s_3178_29 _ _ _ _ ?_
            refine zm3074_8 hs (by omega) (by omega) (by omega) (by omega) (by omega) (by omega) (by omega) (by omega) (fun s_6 hs_7 q_8 q_9 q_10 q_11 q_12 q_13 q_14 q_15 q_16 => ⟨_, rfl, ?_⟩)
            exact k s_6 hs_7 (by omega) (by omega) (by omega) (by omega) (by omega) (by omega) (by omega) (by omega) (by omega)
set_option maxRecDepth 100000 in
/-- GatheredPointsModel.sheet [(0, 0), (1, 7), (-2147483648, 2147483647)] -/
theorem zm3178_3 {z : gH} {L d : Nat} {K : Option gV → gH → Prop} {s : gH} (p1 : Int) (p2 : Int) (hs : zM z s) (h_p1 : 1 ≤ p1 ∧ p1 ≤ 7) (h_p2 : (-2147483648) ≤ p2 ∧ p2 ≤ 2147483647) (q0 : gp_I s 84 0 = 0) (q1 : gp_I s 84 1 = 0) (q2 : gp_I s 84 2 = 0) (q3 : gp_I s 84 3 = 0) (q4 : gp_I s 85 0 = 0) (q5 : gp_I s 85 1 = 0) (q6 : gp_I s 85 2 = 0) (q7 : gp_I s 85 3 = 0) (k : ∀ (t : gH), zM z t → ((-2147483648) ≤ gp_I t 75 1 ∧ gp_I t 75 1 ≤ 2147483647) → (gp_I t 84 0 = 0) → (gp_I t 84 1 = 0) → (gp_I t 84 2 = 0) → (gp_I t 84 3 = 0) → (gp_I t 85 0 = 0) → (gp_I t 85 1 = 0) → (gp_I t 85 2 = 0) → (gp_I t 85 3 = 0) → K (some (gp_i (-1000000001))) t) : gs_C L (d + 1) 3178 5 [gp_r (some 74), gp_i 0, gp_i p1, gp_i p2] s K := by
  refine s_3178_e _ _ _ ?_
  refine zm3076_2 hs (⟨_, rfl, ?_⟩)
  refine ⟨fun h_1 => ?_, fun h_1 => ?_⟩
  · exfalso; omega
  · refine ⟨fun h_2 => ?_, fun h_2 => ?_⟩
    · exfalso; omega
    · refine ⟨fun h_3 => ?_, fun h_3 => ?_⟩
      · exfalso; omega
      · refine ⟨fun h_4 => ?_, fun h_4 => ?_⟩
        · exfalso; omega
        · refine ⟨fun h_5 => ?_, fun h_5 => ?_⟩
          · exfalso; omega
          · refine s_3178_29 _ _ _ _ ?_
            refine zm3074_8 hs (by omega) (by omega) (by omega) (by omega) (by omega) (by omega) (by omega) (by omega) (fun s_6 hs_7 q_8 q_9 q_10 q_11 q_12 q_13 q_14 q_15 q_16 => ⟨_, rfl, ?_⟩)
            exact k s_6 hs_7 (by omega) (by omega) (by omega) (by omega) (by omega) (by omega) (by omega) (by omega) (by omega)
set_option maxRecDepth 100000 in
/-- GatheredPointsModel.sheet [(0, 0), (9, 15), (-2147483648, 2147483647)] -/
theorem zm3178_4 {z : gH} {L d : Nat} {K : Option gV → gH → Prop} {s : gH} (p1 : Int) (p2 : Int) (hs : zM z s) (h_p1 : 9 ≤ p1 ∧ p1 ≤ 15) (h_p2 : (-2147483648) ≤ p2 ∧ p2 ≤ 2147483647) (q0 : gp_I s 84 0 = 0) (q1 : gp_I s 84 1 = 0) (q2 : gp_I s 84 2 = 0) (q3 : gp_I s 84 3 = 0) (q4 : gp_I s 85 0 = 0) (q5 : gp_I s 85 1 = 0) (q6 : gp_I s 85 2 = 0) (q7 : gp_I s 85 3 = 0) (k : ∀ (t : gH), zM z t → ((-2147483648) ≤ gp_I t 75 1 ∧ gp_I t 75 1 ≤ 2147483647) → (gp_I t 84 0 = 0) → (gp_I t 84 1 = 0) → (gp_I t 84 2 = 0) → (gp_I t 84 3 = 0) → (gp_I t 85 0 = 0) → (gp_I t 85 1 = 0) → (gp_I t 85 2 = 0) → (gp_I t 85 3 = 0) → K (some (gp_i (-1000000001))) t) : gs_C L (d + 1) 3178 5 [gp_r (some 74), gp_i 0, gp_i p1, gp_i p2] s K := by
  refine s_3178_e _ _ _ ?_
  refine zm3076_2 hs (⟨_, rfl, ?_⟩)
  refine ⟨fun h_1 => ?_, fun h_1 => ?_⟩
  · exfalso; omega
  · refine ⟨fun h_2 => ?_, fun h_2 => ?_⟩
    · exfalso; omega
    · refine ⟨fun h_3 => ?_, fun h_3 => ?_⟩
      · exfalso; omega
      · refine ⟨fun h_4 => ?_, fun h_4 => ?_⟩
        · exfalso; omega
        · refine ⟨fun h_5 => ?_, fun h_5 => ?_⟩
          · exfalso; omega
          · refine s_3178_29 _ _ _ _ ?_
            refine zm3074_8 hs (by omega) (by omega) (by omega) (by omega) (by omega) (by omega) (by omega) (by omega) (fun s_6 hs_7 q_8 q_9 q_10 q_11 q_12 q_13 q_14 q_15 q_16 => ⟨_, rfl, ?_⟩)
            exact k s_6 hs_7 (by omega) (by omega) (by omega) (by omega) (by omega) (by omega) (by omega) (by omega) (by omega)
set_option maxRecDepth 100000 in
/-- GatheredPointsModel.sheet [(0, 0), (17, 31), (-2147483648, 2147483647)] -/
theorem zm3178_5 {z : gH} {L d : Nat} {K : Option gV → gH → Prop} {s : gH} (p1 : Int) (p2 : Int) (hs : zM z s) (h_p1 : 17 ≤ p1 ∧ p1 ≤ 31) (h_p2 : (-2147483648) ≤ p2 ∧ p2 ≤ 2147483647) (q0 : gp_I s 84 0 = 0) (q1 : gp_I s 84 1 = 0) (q2 : gp_I s 84 2 = 0) (q3 : gp_I s 84 3 = 0) (q4 : gp_I s 85 0 = 0) (q5 : gp_I s 85 1 = 0) (q6 : gp_I s 85 2 = 0) (q7 : gp_I s 85 3 = 0) (k : ∀ (t : gH), zM z t → ((-2147483648) ≤ gp_I t 75 1 ∧ gp_I t 75 1 ≤ 2147483647) → (gp_I t 84 0 = 0) → (gp_I t 84 1 = 0) → (gp_I t 84 2 = 0) → (gp_I t 84 3 = 0) → (gp_I t 85 0 = 0) → (gp_I t 85 1 = 0) → (gp_I t 85 2 = 0) → (gp_I t 85 3 = 0) → K (some (gp_i (-1000000001))) t) : gs_C L (d + 1) 3178 5 [gp_r (some 74), gp_i 0, gp_i p1, gp_i p2] s K := by
  refine s_3178_e _ _ _ ?_
  refine zm3076_2 hs (⟨_, rfl, ?_⟩)
  refine ⟨fun h_1 => ?_, fun h_1 => ?_⟩
  · exfalso; omega
  · refine ⟨fun h_2 => ?_, fun h_2 => ?_⟩
    · exfalso; omega
    · refine ⟨fun h_3 => ?_, fun h_3 => ?_⟩
      · exfalso; omega
      · refine ⟨fun h_4 => ?_, fun h_4 => ?_⟩
        · exfalso; omega
        · refine ⟨fun h_5 => ?_, fun h_5 => ?_⟩
          · exfalso; omega
          · refine s_3178_29 _ _ _ _ ?_
            refine zm3074_8 hs (by omega) (by omega) (by omega) (by omega) (by omega) (by omega) (by omega) (by omega) (fun s_6 hs_7 q_8 q_9 q_10 q_11 q_12 q_13 q_14 q_15 q_16 => ⟨_, rfl, ?_⟩)
            exact k s_6 hs_7 (by omega) (by omega) (by omega) (by omega) (by omega) (by omega) (by omega) (by omega) (by omega)
set_option maxRecDepth 100000 in
/-- GatheredPointsModel.sheet [(0, 0), (33, 2147483647), (-2147483648, 2147483647)] -/
theorem zm3178_6 {z : gH} {L d : Nat} {K : Option gV → gH → Prop} {s : gH} (p1 : Int) (p2 : Int) (hs : zM z s) (h_p1 : 33 ≤ p1 ∧ p1 ≤ 2147483647) (h_p2 : (-2147483648) ≤ p2 ∧ p2 ≤ 2147483647) (q0 : gp_I s 84 0 = 0) (q1 : gp_I s 84 1 = 0) (q2 : gp_I s 84 2 = 0) (q3 : gp_I s 84 3 = 0) (q4 : gp_I s 85 0 = 0) (q5 : gp_I s 85 1 = 0) (q6 : gp_I s 85 2 = 0) (q7 : gp_I s 85 3 = 0) (k : ∀ (t : gH), zM z t → ((-2147483648) ≤ gp_I t 75 1 ∧ gp_I t 75 1 ≤ 2147483647) → (gp_I t 84 0 = 0) → (gp_I t 84 1 = 0) → (gp_I t 84 2 = 0) → (gp_I t 84 3 = 0) → (gp_I t 85 0 = 0) → (gp_I t 85 1 = 0) → (gp_I t 85 2 = 0) → (gp_I t 85 3 = 0) → K (some (gp_i (-1000000001))) t) : gs_C L (d + 1) 3178 5 [gp_r (some 74), gp_i 0, gp_i p1, gp_i p2] s K := by
  refine s_3178_e _ _ _ ?_
  refine zm3076_2 hs (⟨_, rfl, ?_⟩)
  refine ⟨fun h_1 => ?_, fun h_1 => ?_⟩
  · exfalso; omega
  · refine ⟨fun h_2 => ?_, fun h_2 => ?_⟩
    · exfalso; omega
    · refine ⟨fun h_3 => ?_, fun h_3 => ?_⟩
      · exfalso; omega
      · refine ⟨fun h_4 => ?_, fun h_4 => ?_⟩
        · exfalso; omega
        · refine ⟨fun h_5 => ?_, fun h_5 => ?_⟩
          · exfalso; omega
          · refine s_3178_29 _ _ _ _ ?_
            refine zm3074_8 hs (by omega) (by omega) (by omega) (by omega) (by omega) (by omega) (by omega) (by omega) (fun s_6 hs_7 q_8 q_9 q_10 q_11 q_12 q_13 q_14 q_15 q_16 => ⟨_, rfl, ?_⟩)
            exact k s_6 hs_7 (by omega) (by omega) (by omega) (by omega) (by omega) (by omega) (by omega) (by omega) (by omega)
set_option maxRecDepth 100000 in
/-- GatheredPointsModel.sheet, the loop at 90 -/
theorem zm3178_7_l90_0 {z : gH} {L d : Nat} {K : Option gV → gH → Prop} (p2 : Int)  (k : ∀ (t : gH), zM z t → (gp_I t 84 0 = 0) → (gp_I t 84 1 = 0) → (gp_I t 84 2 = 0) → (gp_I t 84 3 = 0) → (gp_I t 85 0 = 0) → (gp_I t 85 1 = 0) → (gp_I t 85 2 = 0) → (gp_I t 85 3 = 0) → K (some (gp_i 1)) t)  : ∀ (n : Nat) (v1 : Int) (v2 : Int) (v3 : Int) (v4 : Int) (s : gH), zM z s → (21 - v4).toNat < n → (v1 = 0) → (v2 = 0) → ((-2147483648) ≤ v3 ∧ v3 ≤ 2147483647) → (0 ≤ v4 ∧ v4 ≤ 20) → (gp_I s 84 0 = 0) → (gp_I s 84 1 = 0) → (gp_I s 84 2 = 0) → (gp_I s 84 3 = 0) → (gp_I s 85 0 = 0) → (gp_I s 85 1 = 0) → (gp_I s 85 2 = 0) → (gp_I s 85 3 = 0) → gs_E L (d + 1) 3178 90 [gp_r (some 74), gp_i v1, gp_i v2, gp_i v3, gp_i v4] [] s K := by
  intro n
  induction n with
  | zero => intro v1 v2 v3 v4 s hs hm i0 i1 i2 i3 i4 i5 i6 i7 i8 i9 i10 i11; exact absurd hm (Nat.not_lt_zero _)
  | succ n ih =>
    intro v1 v2 v3 v4 s hs hm i0 i1 i2 i3 i4 i5 i6 i7 i8 i9 i10 i11
    subst i0
    subst i1
    refine s_3178_90 _ _ _ _ ?_
    refine ⟨fun h_1 => ?_, fun h_1 => ?_⟩
    · have w_2 := gz_w (20 * 0)
      have e_3 : gp_wr (20 * 0) = 0 := by omega
      try rw [e_3]
      have w_4 := gz_w (0 + v4)
      refine ⟨by omega, ?_⟩
      intro s_5 e_6
      have hs_7 : zM z s_5 := by rw [e_6]; exact zw83 hs _ _
      have q_8 : gp_I s_5 84 0 = 0 := by rw [e_6]; exact i4
      have q_9 : gp_I s_5 84 1 = 0 := by rw [e_6]; exact i5
      have q_10 : gp_I s_5 84 2 = 0 := by rw [e_6]; exact i6
      have q_11 : gp_I s_5 84 3 = 0 := by rw [e_6]; exact i7
      have q_12 : gp_I s_5 85 0 = 0 := by rw [e_6]; exact i8
      have q_13 : gp_I s_5 85 1 = 0 := by rw [e_6]; exact i9
      have q_14 : gp_I s_5 85 2 = 0 := by rw [e_6]; exact i10
      have q_15 : gp_I s_5 85 3 = 0 := by rw [e_6]; exact i11
      have w_16 := gz_w (v4 + 1)
      exact ih _ _ _ _ s_5 hs_7 (by omega) (by omega) (by omega) (by omega) (by omega) (by omega) (by omega) (by omega) (by omega) (by omega) (by omega) (by omega) (by omega)
    · have e_17 : v4 = 20 := by omega
      subst e_17
      exact k s hs (by omega) (by omega) (by omega) (by omega) (by omega) (by omega) (by omega) (by omega)
set_option maxRecDepth 100000 in
/-- GatheredPointsModel.sheet [(0, 0), (0, 0), (-2147483648, 2147483647)] -/
theorem zm3178_7 {z : gH} {L d : Nat} {K : Option gV → gH → Prop} {s : gH} (p2 : Int) (hs : zM z s) (h_p2 : (-2147483648) ≤ p2 ∧ p2 ≤ 2147483647) (q0 : gp_I s 84 0 = 0) (q1 : gp_I s 84 1 = 0) (q2 : gp_I s 84 2 = 0) (q3 : gp_I s 84 3 = 0) (q4 : gp_I s 85 0 = 0) (q5 : gp_I s 85 1 = 0) (q6 : gp_I s 85 2 = 0) (q7 : gp_I s 85 3 = 0) (k : ∀ (t : gH), zM z t → (gp_I t 84 0 = 0) → (gp_I t 84 1 = 0) → (gp_I t 84 2 = 0) → (gp_I t 84 3 = 0) → (gp_I t 85 0 = 0) → (gp_I t 85 1 = 0) → (gp_I t 85 2 = 0) → (gp_I t 85 3 = 0) → K (some (gp_i 1)) t) : gs_C L (d + 1) 3178 5 [gp_r (some 74), gp_i 0, gp_i 0, gp_i p2] s K := by
  refine s_3178_e _ _ _ ?_
  refine zm3076_2 hs (⟨_, rfl, ?_⟩)
  refine ⟨fun h_1 => ?_, fun h_1 => ?_⟩
  · exfalso; omega
  · refine ⟨fun h_2 => ?_, fun h_2 => ?_⟩
    · refine s_3178_35 _ _ _ _ ?_
      refine ⟨fun h_3 => ?_, fun h_3 => ?_⟩
      · refine s_3178_49 _ _ _ _ ?_
        refine ⟨fun h_4 => ?_, fun h_4 => ?_⟩
        · refine s_3178_65 _ _ _ _ ?_
          refine ⟨by omega, ?_⟩
          intro s_5 e_6
          have hs_7 : zM z s_5 := by rw [e_6]; exact zw84 hs _ _
          have q_8 : gp_I s_5 84 1 = 0 := by rw [e_6]; exact q1
          have q_9 : gp_I s_5 84 2 = 0 := by rw [e_6]; exact q2
          have q_10 : gp_I s_5 84 3 = 0 := by rw [e_6]; exact q3
          have q_11 : gp_I s_5 85 0 = 0 := by rw [e_6]; exact q4
          have q_12 : gp_I s_5 85 1 = 0 := by rw [e_6]; exact q5
          have q_13 : gp_I s_5 85 2 = 0 := by rw [e_6]; exact q6
          have q_14 : gp_I s_5 85 3 = 0 := by rw [e_6]; exact q7
          have q_15 : gp_I s_5 84 0 = 0 := by rw [e_6]; rfl
          refine ⟨fun h_17 => ?_, fun h_17 => ?_⟩
          · refine s_3178_86 _ _ _ _ _ _ ?_
            refine ⟨by omega, ?_⟩
            intro s_18 e_19
            have hs_20 : zM z s_18 := by rw [e_19]; exact zw85 hs_7 _ _
            have q_21 : gp_I s_18 84 1 = 0 := by rw [e_19]; exact q_8
            have q_22 : gp_I s_18 84 2 = 0 := by rw [e_19]; exact q_9
            have q_23 : gp_I s_18 84 3 = 0 := by rw [e_19]; exact q_10
            have q_24 : gp_I s_18 85 1 = 0 := by rw [e_19]; exact q_12
            have q_25 : gp_I s_18 85 2 = 0 := by rw [e_19]; exact q_13
            have q_26 : gp_I s_18 85 3 = 0 := by rw [e_19]; exact q_14
            have q_27 : gp_I s_18 84 0 = 0 := by rw [e_19]; exact q_15
            have q_28 : gp_I s_18 85 0 = 0 := by rw [e_19]; rfl
            exact zm3178_7_l90_0 p2 k _ _ _ _ _ s_18 hs_20 (Nat.lt_succ_self _) (by omega) (by omega) (by omega) (by omega) (by omega) (by omega) (by omega) (by omega) (by omega) (by omega) (by omega) (by omega)
          · exfalso; omega
        · exfalso; omega
      · exfalso; omega
    · exfalso; omega
set_option maxRecDepth 100000 in
/-- GatheredPointsModel.sheet [(1, 1), (-2147483648, -1), (-2147483648, 2147483647)] -/
theorem zm3178_8 {z : gH} {L d : Nat} {K : Option gV → gH → Prop} {s : gH} (p1 : Int) (p2 : Int) (hs : zM z s) (h_p1 : (-2147483648) ≤ p1 ∧ p1 ≤ (-1)) (h_p2 : (-2147483648) ≤ p2 ∧ p2 ≤ 2147483647) (q0 : gp_I s 84 0 = 0) (q1 : gp_I s 84 1 = 0) (q2 : gp_I s 84 2 = 0) (q3 : gp_I s 84 3 = 0) (q4 : gp_I s 85 0 = 0) (q5 : gp_I s 85 1 = 0) (q6 : gp_I s 85 2 = 0) (q7 : gp_I s 85 3 = 0) (k : ∀ (t : gH), zM z t → ((-2147483648) ≤ gp_I t 75 1 ∧ gp_I t 75 1 ≤ 2147483647) → (gp_I t 84 0 = 0) → (gp_I t 84 1 = 0) → (gp_I t 84 2 = 0) → (gp_I t 84 3 = 0) → (gp_I t 85 0 = 0) → (gp_I t 85 1 = 0) → (gp_I t 85 2 = 0) → (gp_I t 85 3 = 0) → K (some (gp_i (-1000000001))) t) : gs_C L (d + 1) 3178 5 [gp_r (some 74), gp_i 1, gp_i p1, gp_i p2] s K := by
  refine s_3178_e _ _ _ ?_
  refine zm3076_3 hs (⟨_, rfl, ?_⟩)
  refine ⟨fun h_1 => ?_, fun h_1 => ?_⟩
  · exfalso; omega
  · refine ⟨fun h_2 => ?_, fun h_2 => ?_⟩
    · exfalso; omega
    · refine ⟨fun h_3 => ?_, fun h_3 => ?_⟩
      · exfalso; omega
      · refine ⟨fun h_4 => ?_, fun h_4 => ?_⟩
        · exfalso; omega
        · refine ⟨fun h_5 => ?_, fun h_5 => ?_⟩
          · exfalso; omega
          · refine s_3178_29 _ _ _ _ ?_
            refine zm3074_8 hs (by omega) (by omega) (by omega) (by omega) (by omega) (by omega) (by omega) (by omega) (fun s_6 hs_7 q_8 q_9 q_10 q_11 q_12 q_13 q_14 q_15 q_16 => ⟨_, rfl, ?_⟩)
            exact k s_6 hs_7 (by omega) (by omega) (by omega) (by omega) (by omega) (by omega) (by omega) (by omega) (by omega)
set_option maxRecDepth 100000 in
/-- GatheredPointsModel.sheet [(1, 1), (1, 7), (-2147483648, 2147483647)] -/
theorem zm3178_9 {z : gH} {L d : Nat} {K : Option gV → gH → Prop} {s : gH} (p1 : Int) (p2 : Int) (hs : zM z s) (h_p1 : 1 ≤ p1 ∧ p1 ≤ 7) (h_p2 : (-2147483648) ≤ p2 ∧ p2 ≤ 2147483647) (q0 : gp_I s 84 0 = 0) (q1 : gp_I s 84 1 = 0) (q2 : gp_I s 84 2 = 0) (q3 : gp_I s 84 3 = 0) (q4 : gp_I s 85 0 = 0) (q5 : gp_I s 85 1 = 0) (q6 : gp_I s 85 2 = 0) (q7 : gp_I s 85 3 = 0) (k : ∀ (t : gH), zM z t → ((-2147483648) ≤ gp_I t 75 1 ∧ gp_I t 75 1 ≤ 2147483647) → (gp_I t 84 0 = 0) → (gp_I t 84 1 = 0) → (gp_I t 84 2 = 0) → (gp_I t 84 3 = 0) → (gp_I t 85 0 = 0) → (gp_I t 85 1 = 0) → (gp_I t 85 2 = 0) → (gp_I t 85 3 = 0) → K (some (gp_i (-1000000001))) t) : gs_C L (d + 1) 3178 5 [gp_r (some 74), gp_i 1, gp_i p1, gp_i p2] s K := by
  refine s_3178_e _ _ _ ?_
  refine zm3076_3 hs (⟨_, rfl, ?_⟩)
  refine ⟨fun h_1 => ?_, fun h_1 => ?_⟩
  · exfalso; omega
  · refine ⟨fun h_2 => ?_, fun h_2 => ?_⟩
    · exfalso; omega
    · refine ⟨fun h_3 => ?_, fun h_3 => ?_⟩
      · exfalso; omega
      · refine ⟨fun h_4 => ?_, fun h_4 => ?_⟩
        · exfalso; omega
        · refine ⟨fun h_5 => ?_, fun h_5 => ?_⟩
          · exfalso; omega
          · refine s_3178_29 _ _ _ _ ?_
            refine zm3074_8 hs (by omega) (by omega) (by omega) (by omega) (by omega) (by omega) (by omega) (by omega) (fun s_6 hs_7 q_8 q_9 q_10 q_11 q_12 q_13 q_14 q_15 q_16 => ⟨_, rfl, ?_⟩)
            exact k s_6 hs_7 (by omega) (by omega) (by omega) (by omega) (by omega) (by omega) (by omega) (by omega) (by omega)
set_option maxRecDepth 100000 in
/-- GatheredPointsModel.sheet [(1, 1), (9, 15), (-2147483648, 2147483647)] -/
theorem zm3178_10 {z : gH} {L d : Nat} {K : Option gV → gH → Prop} {s : gH} (p1 : Int) (p2 : Int) (hs : zM z s) (h_p1 : 9 ≤ p1 ∧ p1 ≤ 15) (h_p2 : (-2147483648) ≤ p2 ∧ p2 ≤ 2147483647) (q0 : gp_I s 84 0 = 0) (q1 : gp_I s 84 1 = 0) (q2 : gp_I s 84 2 = 0) (q3 : gp_I s 84 3 = 0) (q4 : gp_I s 85 0 = 0) (q5 : gp_I s 85 1 = 0) (q6 : gp_I s 85 2 = 0) (q7 : gp_I s 85 3 = 0) (k : ∀ (t : gH), zM z t → ((-2147483648) ≤ gp_I t 75 1 ∧ gp_I t 75 1 ≤ 2147483647) → (gp_I t 84 0 = 0) → (gp_I t 84 1 = 0) → (gp_I t 84 2 = 0) → (gp_I t 84 3 = 0) → (gp_I t 85 0 = 0) → (gp_I t 85 1 = 0) → (gp_I t 85 2 = 0) → (gp_I t 85 3 = 0) → K (some (gp_i (-1000000001))) t) : gs_C L (d + 1) 3178 5 [gp_r (some 74), gp_i 1, gp_i p1, gp_i p2] s K := by
  refine s_3178_e _ _ _ ?_
  refine zm3076_3 hs (⟨_, rfl, ?_⟩)
  refine ⟨fun h_1 => ?_, fun h_1 => ?_⟩
  · exfalso; omega
  · refine ⟨fun h_2 => ?_, fun h_2 => ?_⟩
    · exfalso; omega
    · refine ⟨fun h_3 => ?_, fun h_3 => ?_⟩
      · exfalso; omega
      · refine ⟨fun h_4 => ?_, fun h_4 => ?_⟩
        · exfalso; omega
        · refine ⟨fun h_5 => ?_, fun h_5 => ?_⟩
          · exfalso; omega
          · refine s_3178_29 _ _ _ _ ?_
            refine zm3074_8 hs (by omega) (by omega) (by omega) (by omega) (by omega) (by omega) (by omega) (by omega) (fun s_6 hs_7 q_8 q_9 q_10 q_11 q_12 q_13 q_14 q_15 q_16 => ⟨_, rfl, ?_⟩)
            exact k s_6 hs_7 (by omega) (by omega) (by omega) (by omega) (by omega) (by omega) (by omega) (by omega) (by omega)
set_option maxRecDepth 100000 in
/-- GatheredPointsModel.sheet [(1, 1), (17, 31), (-2147483648, 2147483647)] -/
theorem zm3178_11 {z : gH} {L d : Nat} {K : Option gV → gH → Prop} {s : gH} (p1 : Int) (p2 : Int) (hs : zM z s) (h_p1 : 17 ≤ p1 ∧ p1 ≤ 31) (h_p2 : (-2147483648) ≤ p2 ∧ p2 ≤ 2147483647) (q0 : gp_I s 84 0 = 0) (q1 : gp_I s 84 1 = 0) (q2 : gp_I s 84 2 = 0) (q3 : gp_I s 84 3 = 0) (q4 : gp_I s 85 0 = 0) (q5 : gp_I s 85 1 = 0) (q6 : gp_I s 85 2 = 0) (q7 : gp_I s 85 3 = 0) (k : ∀ (t : gH), zM z t → ((-2147483648) ≤ gp_I t 75 1 ∧ gp_I t 75 1 ≤ 2147483647) → (gp_I t 84 0 = 0) → (gp_I t 84 1 = 0) → (gp_I t 84 2 = 0) → (gp_I t 84 3 = 0) → (gp_I t 85 0 = 0) → (gp_I t 85 1 = 0) → (gp_I t 85 2 = 0) → (gp_I t 85 3 = 0) → K (some (gp_i (-1000000001))) t) : gs_C L (d + 1) 3178 5 [gp_r (some 74), gp_i 1, gp_i p1, gp_i p2] s K := by
  refine s_3178_e _ _ _ ?_
  refine zm3076_3 hs (⟨_, rfl, ?_⟩)
  refine ⟨fun h_1 => ?_, fun h_1 => ?_⟩
  · exfalso; omega
  · refine ⟨fun h_2 => ?_, fun h_2 => ?_⟩
    · exfalso; omega
    · refine ⟨fun h_3 => ?_, fun h_3 => ?_⟩
      · exfalso; omega
      · refine ⟨fun h_4 => ?_, fun h_4 => ?_⟩
        · exfalso; omega
        · refine ⟨fun h_5 => ?_, fun h_5 => ?_⟩
          · exfalso; omega
          · refine s_3178_29 _ _ _ _ ?_
            refine zm3074_8 hs (by omega) (by omega) (by omega) (by omega) (by omega) (by omega) (by omega) (by omega) (fun s_6 hs_7 q_8 q_9 q_10 q_11 q_12 q_13 q_14 q_15 q_16 => ⟨_, rfl, ?_⟩)
            exact k s_6 hs_7 (by omega) (by omega) (by omega) (by omega) (by omega) (by omega) (by omega) (by omega) (by omega)
set_option maxRecDepth 100000 in
/-- GatheredPointsModel.sheet [(1, 1), (33, 2147483647), (-2147483648, 2147483647)] -/
theorem zm3178_12 {z : gH} {L d : Nat} {K : Option gV → gH → Prop} {s : gH} (p1 : Int) (p2 : Int) (hs : zM z s) (h_p1 : 33 ≤ p1 ∧ p1 ≤ 2147483647) (h_p2 : (-2147483648) ≤ p2 ∧ p2 ≤ 2147483647) (q0 : gp_I s 84 0 = 0) (q1 : gp_I s 84 1 = 0) (q2 : gp_I s 84 2 = 0) (q3 : gp_I s 84 3 = 0) (q4 : gp_I s 85 0 = 0) (q5 : gp_I s 85 1 = 0) (q6 : gp_I s 85 2 = 0) (q7 : gp_I s 85 3 = 0) (k : ∀ (t : gH), zM z t → ((-2147483648) ≤ gp_I t 75 1 ∧ gp_I t 75 1 ≤ 2147483647) → (gp_I t 84 0 = 0) → (gp_I t 84 1 = 0) → (gp_I t 84 2 = 0) → (gp_I t 84 3 = 0) → (gp_I t 85 0 = 0) → (gp_I t 85 1 = 0) → (gp_I t 85 2 = 0) → (gp_I t 85 3 = 0) → K (some (gp_i (-1000000001))) t) : gs_C L (d + 1) 3178 5 [gp_r (some 74), gp_i 1, gp_i p1, gp_i p2] s K := by
  refine s_3178_e _ _ _ ?_
  refine zm3076_3 hs (⟨_, rfl, ?_⟩)
  refine ⟨fun h_1 => ?_, fun h_1 => ?_⟩
  · exfalso; omega
  · refine ⟨fun h_2 => ?_, fun h_2 => ?_⟩
    · exfalso; omega
    · refine ⟨fun h_3 => ?_, fun h_3 => ?_⟩
      · exfalso; omega
      · refine ⟨fun h_4 => ?_, fun h_4 => ?_⟩
        · exfalso; omega
        · refine ⟨fun h_5 => ?_, fun h_5 => ?_⟩
          · exfalso; omega
          · refine s_3178_29 _ _ _ _ ?_
            refine zm3074_8 hs (by omega) (by omega) (by omega) (by omega) (by omega) (by omega) (by omega) (by omega) (fun s_6 hs_7 q_8 q_9 q_10 q_11 q_12 q_13 q_14 q_15 q_16 => ⟨_, rfl, ?_⟩)
            exact k s_6 hs_7 (by omega) (by omega) (by omega) (by omega) (by omega) (by omega) (by omega) (by omega) (by omega)
set_option maxRecDepth 100000 in
/-- GatheredPointsModel.sheet, the loop at 90 -/
theorem zm3178_13_l90_0 {z : gH} {L d : Nat} {K : Option gV → gH → Prop} (p2 : Int)  (k : ∀ (t : gH), zM z t → (gp_I t 84 0 = 0) → (gp_I t 84 1 = 0) → (gp_I t 84 2 = 0) → (gp_I t 84 3 = 0) → (gp_I t 85 0 = 0) → (gp_I t 85 1 = 0) → (gp_I t 85 2 = 0) → (gp_I t 85 3 = 0) → K (some (gp_i 1)) t)  : ∀ (n : Nat) (v1 : Int) (v2 : Int) (v3 : Int) (v4 : Int) (s : gH), zM z s → (21 - v4).toNat < n → (v1 = 1) → (v2 = 0) → ((-2147483648) ≤ v3 ∧ v3 ≤ 2147483647) → (0 ≤ v4 ∧ v4 ≤ 20) → (gp_I s 84 0 = 0) → (gp_I s 84 1 = 0) → (gp_I s 84 2 = 0) → (gp_I s 84 3 = 0) → (gp_I s 85 0 = 0) → (gp_I s 85 1 = 0) → (gp_I s 85 2 = 0) → (gp_I s 85 3 = 0) → gs_E L (d + 1) 3178 90 [gp_r (some 74), gp_i v1, gp_i v2, gp_i v3, gp_i v4] [] s K := by
  intro n
  induction n with
  | zero => intro v1 v2 v3 v4 s hs hm i0 i1 i2 i3 i4 i5 i6 i7 i8 i9 i10 i11; exact absurd hm (Nat.not_lt_zero _)
  | succ n ih =>
    intro v1 v2 v3 v4 s hs hm i0 i1 i2 i3 i4 i5 i6 i7 i8 i9 i10 i11
    subst i0
    subst i1
    refine s_3178_90 _ _ _ _ ?_
    refine ⟨fun h_1 => ?_, fun h_1 => ?_⟩
    · have w_2 := gz_w (20 * 1)
      have e_3 : gp_wr (20 * 1) = 20 := by omega
      try rw [e_3]
      have w_4 := gz_w (20 + v4)
      refine ⟨by omega, ?_⟩
      intro s_5 e_6
      have hs_7 : zM z s_5 := by rw [e_6]; exact zw83 hs _ _
      have q_8 : gp_I s_5 84 0 = 0 := by rw [e_6]; exact i4
      have q_9 : gp_I s_5 84 1 = 0 := by rw [e_6]; exact i5
      have q_10 : gp_I s_5 84 2 = 0 := by rw [e_6]; exact i6
      have q_11 : gp_I s_5 84 3 = 0 := by rw [e_6]; exact i7
      have q_12 : gp_I s_5 85 0 = 0 := by rw [e_6]; exact i8
      have q_13 : gp_I s_5 85 1 = 0 := by rw [e_6]; exact i9
      have q_14 : gp_I s_5 85 2 = 0 := by rw [e_6]; exact i10
      have q_15 : gp_I s_5 85 3 = 0 := by rw [e_6]; exact i11
      have w_16 := gz_w (v4 + 1)
      exact ih _ _ _ _ s_5 hs_7 (by omega) (by omega) (by omega) (by omega) (by omega) (by omega) (by omega) (by omega) (by omega) (by omega) (by omega) (by omega) (by omega)
    · have e_17 : v4 = 20 := by omega
      subst e_17
      exact k s hs (by omega) (by omega) (by omega) (by omega) (by omega) (by omega) (by omega) (by omega)
set_option maxRecDepth 100000 in
/-- GatheredPointsModel.sheet [(1, 1), (0, 0), (-2147483648, 2147483647)] -/
theorem zm3178_13 {z : gH} {L d : Nat} {K : Option gV → gH → Prop} {s : gH} (p2 : Int) (hs : zM z s) (h_p2 : (-2147483648) ≤ p2 ∧ p2 ≤ 2147483647) (q0 : gp_I s 84 0 = 0) (q1 : gp_I s 84 1 = 0) (q2 : gp_I s 84 2 = 0) (q3 : gp_I s 84 3 = 0) (q4 : gp_I s 85 0 = 0) (q5 : gp_I s 85 1 = 0) (q6 : gp_I s 85 2 = 0) (q7 : gp_I s 85 3 = 0) (k : ∀ (t : gH), zM z t → (gp_I t 84 0 = 0) → (gp_I t 84 1 = 0) → (gp_I t 84 2 = 0) → (gp_I t 84 3 = 0) → (gp_I t 85 0 = 0) → (gp_I t 85 1 = 0) → (gp_I t 85 2 = 0) → (gp_I t 85 3 = 0) → K (some (gp_i 1)) t) : gs_C L (d + 1) 3178 5 [gp_r (some 74), gp_i 1, gp_i 0, gp_i p2] s K := by
  refine s_3178_e _ _ _ ?_
  refine zm3076_3 hs (⟨_, rfl, ?_⟩)
  refine ⟨fun h_1 => ?_, fun h_1 => ?_⟩
  · exfalso; omega
  · refine ⟨fun h_2 => ?_, fun h_2 => ?_⟩
    · refine s_3178_35 _ _ _ _ ?_
      refine ⟨fun h_3 => ?_, fun h_3 => ?_⟩
      · refine s_3178_49 _ _ _ _ ?_
        refine ⟨fun h_4 => ?_, fun h_4 => ?_⟩
        · refine s_3178_65 _ _ _ _ ?_
          refine ⟨by omega, ?_⟩
          intro s_5 e_6
          have hs_7 : zM z s_5 := by rw [e_6]; exact zw84 hs _ _
          have q_8 : gp_I s_5 84 0 = 0 := by rw [e_6]; exact q0
          have q_9 : gp_I s_5 84 2 = 0 := by rw [e_6]; exact q2
          have q_10 : gp_I s_5 84 3 = 0 := by rw [e_6]; exact q3
          have q_11 : gp_I s_5 85 0 = 0 := by rw [e_6]; exact q4
          have q_12 : gp_I s_5 85 1 = 0 := by rw [e_6]; exact q5
          have q_13 : gp_I s_5 85 2 = 0 := by rw [e_6]; exact q6
          have q_14 : gp_I s_5 85 3 = 0 := by rw [e_6]; exact q7
          have q_15 : gp_I s_5 84 1 = 0 := by rw [e_6]; rfl
          refine ⟨fun h_17 => ?_, fun h_17 => ?_⟩
          · refine s_3178_86 _ _ _ _ _ _ ?_
            refine ⟨by omega, ?_⟩
            intro s_18 e_19
            have hs_20 : zM z s_18 := by rw [e_19]; exact zw85 hs_7 _ _
            have q_21 : gp_I s_18 84 0 = 0 := by rw [e_19]; exact q_8
            have q_22 : gp_I s_18 84 2 = 0 := by rw [e_19]; exact q_9
            have q_23 : gp_I s_18 84 3 = 0 := by rw [e_19]; exact q_10
            have q_24 : gp_I s_18 85 0 = 0 := by rw [e_19]; exact q_11
            have q_25 : gp_I s_18 85 2 = 0 := by rw [e_19]; exact q_13
            have q_26 : gp_I s_18 85 3 = 0 := by rw [e_19]; exact q_14
            have q_27 : gp_I s_18 84 1 = 0 := by rw [e_19]; exact q_15
            have q_28 : gp_I s_18 85 1 = 0 := by rw [e_19]; rfl
            exact zm3178_13_l90_0 p2 k _ _ _ _ _ s_18 hs_20 (Nat.lt_succ_self _) (by omega) (by omega) (by omega) (by omega) (by omega) (by omega) (by omega) (by omega) (by omega) (by omega) (by omega) (by omega)
          · exfalso; omega
        · exfalso; omega
      · exfalso; omega
    · exfalso; omega
set_option maxRecDepth 100000 in
/-- GatheredPointsModel.sheet [(2, 2), (-2147483648, -1), (-2147483648, 2147483647)] -/
theorem zm3178_14 {z : gH} {L d : Nat} {K : Option gV → gH → Prop} {s : gH} (p1 : Int) (p2 : Int) (hs : zM z s) (h_p1 : (-2147483648) ≤ p1 ∧ p1 ≤ (-1)) (h_p2 : (-2147483648) ≤ p2 ∧ p2 ≤ 2147483647) (q0 : gp_I s 84 0 = 0) (q1 : gp_I s 84 1 = 0) (q2 : gp_I s 84 2 = 0) (q3 : gp_I s 84 3 = 0) (q4 : gp_I s 85 0 = 0) (q5 : gp_I s 85 1 = 0) (q6 : gp_I s 85 2 = 0) (q7 : gp_I s 85 3 = 0) (k : ∀ (t : gH), zM z t → ((-2147483648) ≤ gp_I t 75 1 ∧ gp_I t 75 1 ≤ 2147483647) → (gp_I t 84 0 = 0) → (gp_I t 84 1 = 0) → (gp_I t 84 2 = 0) → (gp_I t 84 3 = 0) → (gp_I t 85 0 = 0) → (gp_I t 85 1 = 0) → (gp_I t 85 2 = 0) → (gp_I t 85 3 = 0) → K (some (gp_i (-1000000001))) t) : gs_C L (d + 1) 3178 5 [gp_r (some 74), gp_i 2, gp_i p1, gp_i p2] s K := by
  refine s_3178_e _ _ _ ?_
  refine zm3076_4 hs (⟨_, rfl, ?_⟩)
  refine ⟨fun h_1 => ?_, fun h_1 => ?_⟩
  · exfalso; omega
  · refine ⟨fun h_2 => ?_, fun h_2 => ?_⟩
    · exfalso; omega
    · refine ⟨fun h_3 => ?_, fun h_3 => ?_⟩
      · exfalso; omega
      · refine ⟨fun h_4 => ?_, fun h_4 => ?_⟩
        · exfalso; omega
        · refine ⟨fun h_5 => ?_, fun h_5 => ?_⟩
          · exfalso; omega
          · refine s_3178_29 _ _ _ _ ?_
            refine zm3074_8 hs (by omega) (by omega) (by omega) (by omega) (by omega) (by omega) (by omega) (by omega) (fun s_6 hs_7 q_8 q_9 q_10 q_11 q_12 q_13 q_14 q_15 q_16 => ⟨_, rfl, ?_⟩)
            exact k s_6 hs_7 (by omega) (by omega) (by omega) (by omega) (by omega) (by omega) (by omega) (by omega) (by omega)
set_option maxRecDepth 100000 in
/-- GatheredPointsModel.sheet [(2, 2), (1, 7), (-2147483648, 2147483647)] -/
theorem zm3178_15 {z : gH} {L d : Nat} {K : Option gV → gH → Prop} {s : gH} (p1 : Int) (p2 : Int) (hs : zM z s) (h_p1 : 1 ≤ p1 ∧ p1 ≤ 7) (h_p2 : (-2147483648) ≤ p2 ∧ p2 ≤ 2147483647) (q0 : gp_I s 84 0 = 0) (q1 : gp_I s 84 1 = 0) (q2 : gp_I s 84 2 = 0) (q3 : gp_I s 84 3 = 0) (q4 : gp_I s 85 0 = 0) (q5 : gp_I s 85 1 = 0) (q6 : gp_I s 85 2 = 0) (q7 : gp_I s 85 3 = 0) (k : ∀ (t : gH), zM z t → ((-2147483648) ≤ gp_I t 75 1 ∧ gp_I t 75 1 ≤ 2147483647) → (gp_I t 84 0 = 0) → (gp_I t 84 1 = 0) → (gp_I t 84 2 = 0) → (gp_I t 84 3 = 0) → (gp_I t 85 0 = 0) → (gp_I t 85 1 = 0) → (gp_I t 85 2 = 0) → (gp_I t 85 3 = 0) → K (some (gp_i (-1000000001))) t) : gs_C L (d + 1) 3178 5 [gp_r (some 74), gp_i 2, gp_i p1, gp_i p2] s K := by
  refine s_3178_e _ _ _ ?_
  refine zm3076_4 hs (⟨_, rfl, ?_⟩)
  refine ⟨fun h_1 => ?_, fun h_1 => ?_⟩
  · exfalso; omega
  · refine ⟨fun h_2 => ?_, fun h_2 => ?_⟩
    · exfalso; omega
    · refine ⟨fun h_3 => ?_, fun h_3 => ?_⟩
      · exfalso; omega
      · refine ⟨fun h_4 => ?_, fun h_4 => ?_⟩
        · exfalso; omega
        · refine ⟨fun h_5 => ?_, fun h_5 => ?_⟩
          · exfalso; omega
          · refine s_3178_29 _ _ _ _ ?_
            refine zm3074_8 hs (by omega) (by omega) (by omega) (by omega) (by omega) (by omega) (by omega) (by omega) (fun s_6 hs_7 q_8 q_9 q_10 q_11 q_12 q_13 q_14 q_15 q_16 => ⟨_, rfl, ?_⟩)
            exact k s_6 hs_7 (by omega) (by omega) (by omega) (by omega) (by omega) (by omega) (by omega) (by omega) (by omega)
set_option maxRecDepth 100000 in
/-- GatheredPointsModel.sheet [(2, 2), (9, 15), (-2147483648, 2147483647)] -/
theorem zm3178_16 {z : gH} {L d : Nat} {K : Option gV → gH → Prop} {s : gH} (p1 : Int) (p2 : Int) (hs : zM z s) (h_p1 : 9 ≤ p1 ∧ p1 ≤ 15) (h_p2 : (-2147483648) ≤ p2 ∧ p2 ≤ 2147483647) (q0 : gp_I s 84 0 = 0) (q1 : gp_I s 84 1 = 0) (q2 : gp_I s 84 2 = 0) (q3 : gp_I s 84 3 = 0) (q4 : gp_I s 85 0 = 0) (q5 : gp_I s 85 1 = 0) (q6 : gp_I s 85 2 = 0) (q7 : gp_I s 85 3 = 0) (k : ∀ (t : gH), zM z t → ((-2147483648) ≤ gp_I t 75 1 ∧ gp_I t 75 1 ≤ 2147483647) → (gp_I t 84 0 = 0) → (gp_I t 84 1 = 0) → (gp_I t 84 2 = 0) → (gp_I t 84 3 = 0) → (gp_I t 85 0 = 0) → (gp_I t 85 1 = 0) → (gp_I t 85 2 = 0) → (gp_I t 85 3 = 0) → K (some (gp_i (-1000000001))) t) : gs_C L (d + 1) 3178 5 [gp_r (some 74), gp_i 2, gp_i p1, gp_i p2] s K := by
  refine s_3178_e _ _ _ ?_
  refine zm3076_4 hs (⟨_, rfl, ?_⟩)
  refine ⟨fun h_1 => ?_, fun h_1 => ?_⟩
  · exfalso; omega
  · refine ⟨fun h_2 => ?_, fun h_2 => ?_⟩
    · exfalso; omega
    · refine ⟨fun h_3 => ?_, fun h_3 => ?_⟩
      · exfalso; omega
      · refine ⟨fun h_4 => ?_, fun h_4 => ?_⟩
        · exfalso; omega
        · refine ⟨fun h_5 => ?_, fun h_5 => ?_⟩
          · exfalso; omega
          · refine s_3178_29 _ _ _ _ ?_
            refine zm3074_8 hs (by omega) (by omega) (by omega) (by omega) (by omega) (by omega) (by omega) (by omega) (fun s_6 hs_7 q_8 q_9 q_10 q_11 q_12 q_13 q_14 q_15 q_16 => ⟨_, rfl, ?_⟩)
            exact k s_6 hs_7 (by omega) (by omega) (by omega) (by omega) (by omega) (by omega) (by omega) (by omega) (by omega)
set_option maxRecDepth 100000 in
/-- GatheredPointsModel.sheet [(2, 2), (17, 31), (-2147483648, 2147483647)] -/
theorem zm3178_17 {z : gH} {L d : Nat} {K : Option gV → gH → Prop} {s : gH} (p1 : Int) (p2 : Int) (hs : zM z s) (h_p1 : 17 ≤ p1 ∧ p1 ≤ 31) (h_p2 : (-2147483648) ≤ p2 ∧ p2 ≤ 2147483647) (q0 : gp_I s 84 0 = 0) (q1 : gp_I s 84 1 = 0) (q2 : gp_I s 84 2 = 0) (q3 : gp_I s 84 3 = 0) (q4 : gp_I s 85 0 = 0) (q5 : gp_I s 85 1 = 0) (q6 : gp_I s 85 2 = 0) (q7 : gp_I s 85 3 = 0) (k : ∀ (t : gH), zM z t → ((-2147483648) ≤ gp_I t 75 1 ∧ gp_I t 75 1 ≤ 2147483647) → (gp_I t 84 0 = 0) → (gp_I t 84 1 = 0) → (gp_I t 84 2 = 0) → (gp_I t 84 3 = 0) → (gp_I t 85 0 = 0) → (gp_I t 85 1 = 0) → (gp_I t 85 2 = 0) → (gp_I t 85 3 = 0) → K (some (gp_i (-1000000001))) t) : gs_C L (d + 1) 3178 5 [gp_r (some 74), gp_i 2, gp_i p1, gp_i p2] s K := by
  refine s_3178_e _ _ _ ?_
  refine zm3076_4 hs (⟨_, rfl, ?_⟩)
  refine ⟨fun h_1 => ?_, fun h_1 => ?_⟩
  · exfalso; omega
  · refine ⟨fun h_2 => ?_, fun h_2 => ?_⟩
    · exfalso; omega
    · refine ⟨fun h_3 => ?_, fun h_3 => ?_⟩
      · exfalso; omega
      · refine ⟨fun h_4 => ?_, fun h_4 => ?_⟩
        · exfalso; omega
        · refine ⟨fun h_5 => ?_, fun h_5 => ?_⟩
          · exfalso; omega
          · refine s_3178_29 _ _ _ _ ?_
            refine zm3074_8 hs (by omega) (by omega) (by omega) (by omega) (by omega) (by omega) (by omega) (by omega) (fun s_6 hs_7 q_8 q_9 q_10 q_11 q_12 q_13 q_14 q_15 q_16 => ⟨_, rfl, ?_⟩)
            exact k s_6 hs_7 (by omega) (by omega) (by omega) (by omega) (by omega) (by omega) (by omega) (by omega) (by omega)
set_option maxRecDepth 100000 in
/-- GatheredPointsModel.sheet [(2, 2), (33, 2147483647), (-2147483648, 2147483647)] -/
theorem zm3178_18 {z : gH} {L d : Nat} {K : Option gV → gH → Prop} {s : gH} (p1 : Int) (p2 : Int) (hs : zM z s) (h_p1 : 33 ≤ p1 ∧ p1 ≤ 2147483647) (h_p2 : (-2147483648) ≤ p2 ∧ p2 ≤ 2147483647) (q0 : gp_I s 84 0 = 0) (q1 : gp_I s 84 1 = 0) (q2 : gp_I s 84 2 = 0) (q3 : gp_I s 84 3 = 0) (q4 : gp_I s 85 0 = 0) (q5 : gp_I s 85 1 = 0) (q6 : gp_I s 85 2 = 0) (q7 : gp_I s 85 3 = 0) (k : ∀ (t : gH), zM z t → ((-2147483648) ≤ gp_I t 75 1 ∧ gp_I t 75 1 ≤ 2147483647) → (gp_I t 84 0 = 0) → (gp_I t 84 1 = 0) → (gp_I t 84 2 = 0) → (gp_I t 84 3 = 0) → (gp_I t 85 0 = 0) → (gp_I t 85 1 = 0) → (gp_I t 85 2 = 0) → (gp_I t 85 3 = 0) → K (some (gp_i (-1000000001))) t) : gs_C L (d + 1) 3178 5 [gp_r (some 74), gp_i 2, gp_i p1, gp_i p2] s K := by
  refine s_3178_e _ _ _ ?_
  refine zm3076_4 hs (⟨_, rfl, ?_⟩)
  refine ⟨fun h_1 => ?_, fun h_1 => ?_⟩
  · exfalso; omega
  · refine ⟨fun h_2 => ?_, fun h_2 => ?_⟩
    · exfalso; omega
    · refine ⟨fun h_3 => ?_, fun h_3 => ?_⟩
      · exfalso; omega
      · refine ⟨fun h_4 => ?_, fun h_4 => ?_⟩
        · exfalso; omega
        · refine ⟨fun h_5 => ?_, fun h_5 => ?_⟩
          · exfalso; omega
          · refine s_3178_29 _ _ _ _ ?_
            refine zm3074_8 hs (by omega) (by omega) (by omega) (by omega) (by omega) (by omega) (by omega) (by omega) (fun s_6 hs_7 q_8 q_9 q_10 q_11 q_12 q_13 q_14 q_15 q_16 => ⟨_, rfl, ?_⟩)
            exact k s_6 hs_7 (by omega) (by omega) (by omega) (by omega) (by omega) (by omega) (by omega) (by omega) (by omega)
set_option maxRecDepth 100000 in
/-- GatheredPointsModel.sheet, the loop at 90 -/
theorem zm3178_19_l90_0 {z : gH} {L d : Nat} {K : Option gV → gH → Prop} (p2 : Int)  (k : ∀ (t : gH), zM z t → (gp_I t 84 0 = 0) → (gp_I t 84 1 = 0) → (gp_I t 84 2 = 0) → (gp_I t 84 3 = 0) → (gp_I t 85 0 = 0) → (gp_I t 85 1 = 0) → (gp_I t 85 2 = 0) → (gp_I t 85 3 = 0) → K (some (gp_i 1)) t)  : ∀ (n : Nat) (v1 : Int) (v2 : Int) (v3 : Int) (v4 : Int) (s : gH), zM z s → (21 - v4).toNat < n → (v1 = 2) → (v2 = 0) → ((-2147483648) ≤ v3 ∧ v3 ≤ 2147483647) → (0 ≤ v4 ∧ v4 ≤ 20) → (gp_I s 84 0 = 0) → (gp_I s 84 1 = 0) → (gp_I s 84 2 = 0) → (gp_I s 84 3 = 0) → (gp_I s 85 0 = 0) → (gp_I s 85 1 = 0) → (gp_I s 85 2 = 0) → (gp_I s 85 3 = 0) → gs_E L (d + 1) 3178 90 [gp_r (some 74), gp_i v1, gp_i v2, gp_i v3, gp_i v4] [] s K := by
  intro n
  induction n with
  | zero => intro v1 v2 v3 v4 s hs hm i0 i1 i2 i3 i4 i5 i6 i7 i8 i9 i10 i11; exact absurd hm (Nat.not_lt_zero _)
  | succ n ih =>
    intro v1 v2 v3 v4 s hs hm i0 i1 i2 i3 i4 i5 i6 i7 i8 i9 i10 i11
    subst i0
    subst i1
    refine s_3178_90 _ _ _ _ ?_
    refine ⟨fun h_1 => ?_, fun h_1 => ?_⟩
    · have w_2 := gz_w (20 * 2)
      have e_3 : gp_wr (20 * 2) = 40 := by omega
      try rw [e_3]
      have w_4 := gz_w (40 + v4)
      refine ⟨by omega, ?_⟩
      intro s_5 e_6
      have hs_7 : zM z s_5 := by rw [e_6]; exact zw83 hs _ _
      have q_8 : gp_I s_5 84 0 = 0 := by rw [e_6]; exact i4
      have q_9 : gp_I s_5 84 1 = 0 := by rw [e_6]; exact i5
      have q_10 : gp_I s_5 84 2 = 0 := by rw [e_6]; exact i6
      have q_11 : gp_I s_5 84 3 = 0 := by rw [e_6]; exact i7
      have q_12 : gp_I s_5 85 0 = 0 := by rw [e_6]; exact i8
      have q_13 : gp_I s_5 85 1 = 0 := by rw [e_6]; exact i9
      have q_14 : gp_I s_5 85 2 = 0 := by rw [e_6]; exact i10
      have q_15 : gp_I s_5 85 3 = 0 := by rw [e_6]; exact i11
      have w_16 := gz_w (v4 + 1)
      exact ih _ _ _ _ s_5 hs_7 (by omega) (by omega) (by omega) (by omega) (by omega) (by omega) (by omega) (by omega) (by omega) (by omega) (by omega) (by omega) (by omega)
    · have e_17 : v4 = 20 := by omega
      subst e_17
      exact k s hs (by omega) (by omega) (by omega) (by omega) (by omega) (by omega) (by omega) (by omega)
set_option maxRecDepth 100000 in
/-- GatheredPointsModel.sheet [(2, 2), (0, 0), (-2147483648, 2147483647)] -/
theorem zm3178_19 {z : gH} {L d : Nat} {K : Option gV → gH → Prop} {s : gH} (p2 : Int) (hs : zM z s) (h_p2 : (-2147483648) ≤ p2 ∧ p2 ≤ 2147483647) (q0 : gp_I s 84 0 = 0) (q1 : gp_I s 84 1 = 0) (q2 : gp_I s 84 2 = 0) (q3 : gp_I s 84 3 = 0) (q4 : gp_I s 85 0 = 0) (q5 : gp_I s 85 1 = 0) (q6 : gp_I s 85 2 = 0) (q7 : gp_I s 85 3 = 0) (k : ∀ (t : gH), zM z t → (gp_I t 84 0 = 0) → (gp_I t 84 1 = 0) → (gp_I t 84 2 = 0) → (gp_I t 84 3 = 0) → (gp_I t 85 0 = 0) → (gp_I t 85 1 = 0) → (gp_I t 85 2 = 0) → (gp_I t 85 3 = 0) → K (some (gp_i 1)) t) : gs_C L (d + 1) 3178 5 [gp_r (some 74), gp_i 2, gp_i 0, gp_i p2] s K := by
  refine s_3178_e _ _ _ ?_
  refine zm3076_4 hs (⟨_, rfl, ?_⟩)
  refine ⟨fun h_1 => ?_, fun h_1 => ?_⟩
  · exfalso; omega
  · refine ⟨fun h_2 => ?_, fun h_2 => ?_⟩
    · refine s_3178_35 _ _ _ _ ?_
      refine ⟨fun h_3 => ?_, fun h_3 => ?_⟩
      · refine s_3178_49 _ _ _ _ ?_
        refine ⟨fun h_4 => ?_, fun h_4 => ?_⟩
        · refine s_3178_65 _ _ _ _ ?_
          refine ⟨by omega, ?_⟩
          intro s_5 e_6
          have hs_7 : zM z s_5 := by rw [e_6]; exact zw84 hs _ _
          have q_8 : gp_I s_5 84 0 = 0 := by rw [e_6]; exact q0
          have q_9 : gp_I s_5 84 1 = 0 := by rw [e_6]; exact q1
          have q_10 : gp_I s_5 84 3 = 0 := by rw [e_6]; exact q3
          have q_11 : gp_I s_5 85 0 = 0 := by rw [e_6]; exact q4
          have q_12 : gp_I s_5 85 1 = 0 := by rw [e_6]; exact q5
          have q_13 : gp_I s_5 85 2 = 0 := by rw [e_6]; exact q6
          have q_14 : gp_I s_5 85 3 = 0 := by rw [e_6]; exact q7
          have q_15 : gp_I s_5 84 2 = 0 := by rw [e_6]; rfl
          refine ⟨fun h_17 => ?_, fun h_17 => ?_⟩
          · refine s_3178_86 _ _ _ _ _ _ ?_
            refine ⟨by omega, ?_⟩
            intro s_18 e_19
            have hs_20 : zM z s_18 := by rw [e_19]; exact zw85 hs_7 _ _
            have q_21 : gp_I s_18 84 0 = 0 := by rw [e_19]; exact q_8
            have q_22 : gp_I s_18 84 1 = 0 := by rw [e_19]; exact q_9
            have q_23 : gp_I s_18 84 3 = 0 := by rw [e_19]; exact q_10
            have q_24 : gp_I s_18 85 0 = 0 := by rw [e_19]; exact q_11
            have q_25 : gp_I s_18 85 1 = 0 := by rw [e_19]; exact q_12
            have q_26 : gp_I s_18 85 3 = 0 := by rw [e_19]; exact q_14
            have q_27 : gp_I s_18 84 2 = 0 := by rw [e_19]; exact q_15
            have q_28 : gp_I s_18 85 2 = 0 := by rw [e_19]; rfl
            exact zm3178_19_l90_0 p2 k _ _ _ _ _ s_18 hs_20 (Nat.lt_succ_self _) (by omega) (by omega) (by omega) (by omega) (by omega) (by omega) (by omega) (by omega) (by omega) (by omega) (by omega) (by omega)
          · exfalso; omega
        · exfalso; omega
      · exfalso; omega
    · exfalso; omega
set_option maxRecDepth 100000 in
/-- GatheredPointsModel.sheet [(3, 3), (-2147483648, -1), (-2147483648, 2147483647)] -/
theorem zm3178_20 {z : gH} {L d : Nat} {K : Option gV → gH → Prop} {s : gH} (p1 : Int) (p2 : Int) (hs : zM z s) (h_p1 : (-2147483648) ≤ p1 ∧ p1 ≤ (-1)) (h_p2 : (-2147483648) ≤ p2 ∧ p2 ≤ 2147483647) (q0 : gp_I s 84 0 = 0) (q1 : gp_I s 84 1 = 0) (q2 : gp_I s 84 2 = 0) (q3 : gp_I s 84 3 = 0) (q4 : gp_I s 85 0 = 0) (q5 : gp_I s 85 1 = 0) (q6 : gp_I s 85 2 = 0) (q7 : gp_I s 85 3 = 0) (k : ∀ (t : gH), zM z t → ((-2147483648) ≤ gp_I t 75 1 ∧ gp_I t 75 1 ≤ 2147483647) → (gp_I t 84 0 = 0) → (gp_I t 84 1 = 0) → (gp_I t 84 2 = 0) → (gp_I t 84 3 = 0) → (gp_I t 85 0 = 0) → (gp_I t 85 1 = 0) → (gp_I t 85 2 = 0) → (gp_I t 85 3 = 0) → K (some (gp_i (-1000000001))) t) : gs_C L (d + 1) 3178 5 [gp_r (some 74), gp_i 3, gp_i p1, gp_i p2] s K := by
  refine s_3178_e _ _ _ ?_
  refine zm3076_5 hs (⟨_, rfl, ?_⟩)
  refine ⟨fun h_1 => ?_, fun h_1 => ?_⟩
  · exfalso; omega
  · refine ⟨fun h_2 => ?_, fun h_2 => ?_⟩
    · exfalso; omega
    · refine ⟨fun h_3 => ?_, fun h_3 => ?_⟩
      · exfalso; omega
      · refine ⟨fun h_4 => ?_, fun h_4 => ?_⟩
        · exfalso; omega
        · refine ⟨fun h_5 => ?_, fun h_5 => ?_⟩
          · exfalso; omega
          · refine s_3178_29 _ _ _ _ ?_
            refine zm3074_8 hs (by omega) (by omega) (by omega) (by omega) (by omega) (by omega) (by omega) (by omega) (fun s_6 hs_7 q_8 q_9 q_10 q_11 q_12 q_13 q_14 q_15 q_16 => ⟨_, rfl, ?_⟩)
            exact k s_6 hs_7 (by omega) (by omega) (by omega) (by omega) (by omega) (by omega) (by omega) (by omega) (by omega)
set_option maxRecDepth 100000 in
/-- GatheredPointsModel.sheet [(3, 3), (1, 7), (-2147483648, 2147483647)] -/
theorem zm3178_21 {z : gH} {L d : Nat} {K : Option gV → gH → Prop} {s : gH} (p1 : Int) (p2 : Int) (hs : zM z s) (h_p1 : 1 ≤ p1 ∧ p1 ≤ 7) (h_p2 : (-2147483648) ≤ p2 ∧ p2 ≤ 2147483647) (q0 : gp_I s 84 0 = 0) (q1 : gp_I s 84 1 = 0) (q2 : gp_I s 84 2 = 0) (q3 : gp_I s 84 3 = 0) (q4 : gp_I s 85 0 = 0) (q5 : gp_I s 85 1 = 0) (q6 : gp_I s 85 2 = 0) (q7 : gp_I s 85 3 = 0) (k : ∀ (t : gH), zM z t → ((-2147483648) ≤ gp_I t 75 1 ∧ gp_I t 75 1 ≤ 2147483647) → (gp_I t 84 0 = 0) → (gp_I t 84 1 = 0) → (gp_I t 84 2 = 0) → (gp_I t 84 3 = 0) → (gp_I t 85 0 = 0) → (gp_I t 85 1 = 0) → (gp_I t 85 2 = 0) → (gp_I t 85 3 = 0) → K (some (gp_i (-1000000001))) t) : gs_C L (d + 1) 3178 5 [gp_r (some 74), gp_i 3, gp_i p1, gp_i p2] s K := by
  refine s_3178_e _ _ _ ?_
  refine zm3076_5 hs (⟨_, rfl, ?_⟩)
  refine ⟨fun h_1 => ?_, fun h_1 => ?_⟩
  · exfalso; omega
  · refine ⟨fun h_2 => ?_, fun h_2 => ?_⟩
    · exfalso; omega
    · refine ⟨fun h_3 => ?_, fun h_3 => ?_⟩
      · exfalso; omega
      · refine ⟨fun h_4 => ?_, fun h_4 => ?_⟩
        · exfalso; omega
        · refine ⟨fun h_5 => ?_, fun h_5 => ?_⟩
          · exfalso; omega
          · refine s_3178_29 _ _ _ _ ?_
            refine zm3074_8 hs (by omega) (by omega) (by omega) (by omega) (by omega) (by omega) (by omega) (by omega) (fun s_6 hs_7 q_8 q_9 q_10 q_11 q_12 q_13 q_14 q_15 q_16 => ⟨_, rfl, ?_⟩)
            exact k s_6 hs_7 (by omega) (by omega) (by omega) (by omega) (by omega) (by omega) (by omega) (by omega) (by omega)
set_option maxRecDepth 100000 in
/-- GatheredPointsModel.sheet [(3, 3), (9, 15), (-2147483648, 2147483647)] -/
theorem zm3178_22 {z : gH} {L d : Nat} {K : Option gV → gH → Prop} {s : gH} (p1 : Int) (p2 : Int) (hs : zM z s) (h_p1 : 9 ≤ p1 ∧ p1 ≤ 15) (h_p2 : (-2147483648) ≤ p2 ∧ p2 ≤ 2147483647) (q0 : gp_I s 84 0 = 0) (q1 : gp_I s 84 1 = 0) (q2 : gp_I s 84 2 = 0) (q3 : gp_I s 84 3 = 0) (q4 : gp_I s 85 0 = 0) (q5 : gp_I s 85 1 = 0) (q6 : gp_I s 85 2 = 0) (q7 : gp_I s 85 3 = 0) (k : ∀ (t : gH), zM z t → ((-2147483648) ≤ gp_I t 75 1 ∧ gp_I t 75 1 ≤ 2147483647) → (gp_I t 84 0 = 0) → (gp_I t 84 1 = 0) → (gp_I t 84 2 = 0) → (gp_I t 84 3 = 0) → (gp_I t 85 0 = 0) → (gp_I t 85 1 = 0) → (gp_I t 85 2 = 0) → (gp_I t 85 3 = 0) → K (some (gp_i (-1000000001))) t) : gs_C L (d + 1) 3178 5 [gp_r (some 74), gp_i 3, gp_i p1, gp_i p2] s K := by
  refine s_3178_e _ _ _ ?_
  refine zm3076_5 hs (⟨_, rfl, ?_⟩)
  refine ⟨fun h_1 => ?_, fun h_1 => ?_⟩
  · exfalso; omega
  · refine ⟨fun h_2 => ?_, fun h_2 => ?_⟩
    · exfalso; omega
    · refine ⟨fun h_3 => ?_, fun h_3 => ?_⟩
      · exfalso; omega
      · refine ⟨fun h_4 => ?_, fun h_4 => ?_⟩
        · exfalso; omega
        · refine ⟨fun h_5 => ?_, fun h_5 => ?_⟩
          · exfalso; omega
          · refine s_3178_29 _ _ _ _ ?_
            refine zm3074_8 hs (by omega) (by omega) (by omega) (by omega) (by omega) (by omega) (by omega) (by omega) (fun s_6 hs_7 q_8 q_9 q_10 q_11 q_12 q_13 q_14 q_15 q_16 => ⟨_, rfl, ?_⟩)
            exact k s_6 hs_7 (by omega) (by omega) (by omega) (by omega) (by omega) (by omega) (by omega) (by omega) (by omega)
set_option maxRecDepth 100000 in
/-- GatheredPointsModel.sheet [(3, 3), (17, 31), (-2147483648, 2147483647)] -/
theorem zm3178_23 {z : gH} {L d : Nat} {K : Option gV → gH → Prop} {s : gH} (p1 : Int) (p2 : Int) (hs : zM z s) (h_p1 : 17 ≤ p1 ∧ p1 ≤ 31) (h_p2 : (-2147483648) ≤ p2 ∧ p2 ≤ 2147483647) (q0 : gp_I s 84 0 = 0) (q1 : gp_I s 84 1 = 0) (q2 : gp_I s 84 2 = 0) (q3 : gp_I s 84 3 = 0) (q4 : gp_I s 85 0 = 0) (q5 : gp_I s 85 1 = 0) (q6 : gp_I s 85 2 = 0) (q7 : gp_I s 85 3 = 0) (k : ∀ (t : gH), zM z t → ((-2147483648) ≤ gp_I t 75 1 ∧ gp_I t 75 1 ≤ 2147483647) → (gp_I t 84 0 = 0) → (gp_I t 84 1 = 0) → (gp_I t 84 2 = 0) → (gp_I t 84 3 = 0) → (gp_I t 85 0 = 0) → (gp_I t 85 1 = 0) → (gp_I t 85 2 = 0) → (gp_I t 85 3 = 0) → K (some (gp_i (-1000000001))) t) : gs_C L (d + 1) 3178 5 [gp_r (some 74), gp_i 3, gp_i p1, gp_i p2] s K := by
  refine s_3178_e _ _ _ ?_
  refine zm3076_5 hs (⟨_, rfl, ?_⟩)
  refine ⟨fun h_1 => ?_, fun h_1 => ?_⟩
  · exfalso; omega
  · refine ⟨fun h_2 => ?_, fun h_2 => ?_⟩
    · exfalso; omega
    · refine ⟨fun h_3 => ?_, fun h_3 => ?_⟩
      · exfalso; omega
      · refine ⟨fun h_4 => ?_, fun h_4 => ?_⟩
        · exfalso; omega
        · refine ⟨fun h_5 => ?_, fun h_5 => ?_⟩
          · exfalso; omega
          · refine s_3178_29 _ _ _ _ ?_
            refine zm3074_8 hs (by omega) (by omega) (by omega) (by omega) (by omega) (by omega) (by omega) (by omega) (fun s_6 hs_7 q_8 q_9 q_10 q_11 q_12 q_13 q_14 q_15 q_16 => ⟨_, rfl, ?_⟩)
            exact k s_6 hs_7 (by omega) (by omega) (by omega) (by omega) (by omega) (by omega) (by omega) (by omega) (by omega)
set_option maxRecDepth 100000 in
/-- GatheredPointsModel.sheet [(3, 3), (33, 2147483647), (-2147483648, 2147483647)] -/
theorem zm3178_24 {z : gH} {L d : Nat} {K : Option gV → gH → Prop} {s : gH} (p1 : Int) (p2 : Int) (hs : zM z s) (h_p1 : 33 ≤ p1 ∧ p1 ≤ 2147483647) (h_p2 : (-2147483648) ≤ p2 ∧ p2 ≤ 2147483647) (q0 : gp_I s 84 0 = 0) (q1 : gp_I s 84 1 = 0) (q2 : gp_I s 84 2 = 0) (q3 : gp_I s 84 3 = 0) (q4 : gp_I s 85 0 = 0) (q5 : gp_I s 85 1 = 0) (q6 : gp_I s 85 2 = 0) (q7 : gp_I s 85 3 = 0) (k : ∀ (t : gH), zM z t → ((-2147483648) ≤ gp_I t 75 1 ∧ gp_I t 75 1 ≤ 2147483647) → (gp_I t 84 0 = 0) → (gp_I t 84 1 = 0) → (gp_I t 84 2 = 0) → (gp_I t 84 3 = 0) → (gp_I t 85 0 = 0) → (gp_I t 85 1 = 0) → (gp_I t 85 2 = 0) → (gp_I t 85 3 = 0) → K (some (gp_i (-1000000001))) t) : gs_C L (d + 1) 3178 5 [gp_r (some 74), gp_i 3, gp_i p1, gp_i p2] s K := by
  refine s_3178_e _ _ _ ?_
  refine zm3076_5 hs (⟨_, rfl, ?_⟩)
  refine ⟨fun h_1 => ?_, fun h_1 => ?_⟩
  · exfalso; omega
  · refine ⟨fun h_2 => ?_, fun h_2 => ?_⟩
    · exfalso; omega
    · refine ⟨fun h_3 => ?_, fun h_3 => ?_⟩
      · exfalso; omega
      · refine ⟨fun h_4 => ?_, fun h_4 => ?_⟩
        · exfalso; omega
        · refine ⟨fun h_5 => ?_, fun h_5 => ?_⟩
          · exfalso; omega
          · refine s_3178_29 _ _ _ _ ?_
            refine zm3074_8 hs (by omega) (by omega) (by omega) (by omega) (by omega) (by omega) (by omega) (by omega) (fun s_6 hs_7 q_8 q_9 q_10 q_11 q_12 q_13 q_14 q_15 q_16 => ⟨_, rfl, ?_⟩)
            exact k s_6 hs_7 (by omega) (by omega) (by omega) (by omega) (by omega) (by omega) (by omega) (by omega) (by omega)
set_option maxRecDepth 100000 in
/-- GatheredPointsModel.sheet, the loop at 90 -/
theorem zm3178_25_l90_0 {z : gH} {L d : Nat} {K : Option gV → gH → Prop} (p2 : Int)  (k : ∀ (t : gH), zM z t → (gp_I t 84 0 = 0) → (gp_I t 84 1 = 0) → (gp_I t 84 2 = 0) → (gp_I t 84 3 = 0) → (gp_I t 85 0 = 0) → (gp_I t 85 1 = 0) → (gp_I t 85 2 = 0) → (gp_I t 85 3 = 0) → K (some (gp_i 1)) t)  : ∀ (n : Nat) (v1 : Int) (v2 : Int) (v3 : Int) (v4 : Int) (s : gH), zM z s → (21 - v4).toNat < n → (v1 = 3) → (v2 = 0) → ((-2147483648) ≤ v3 ∧ v3 ≤ 2147483647) → (0 ≤ v4 ∧ v4 ≤ 20) → (gp_I s 84 0 = 0) → (gp_I s 84 1 = 0) → (gp_I s 84 2 = 0) → (gp_I s 84 3 = 0) → (gp_I s 85 0 = 0) → (gp_I s 85 1 = 0) → (gp_I s 85 2 = 0) → (gp_I s 85 3 = 0) → gs_E L (d + 1) 3178 90 [gp_r (some 74), gp_i v1, gp_i v2, gp_i v3, gp_i v4] [] s K := by
  intro n
  induction n with
  | zero => intro v1 v2 v3 v4 s hs hm i0 i1 i2 i3 i4 i5 i6 i7 i8 i9 i10 i11; exact absurd hm (Nat.not_lt_zero _)
  | succ n ih =>
    intro v1 v2 v3 v4 s hs hm i0 i1 i2 i3 i4 i5 i6 i7 i8 i9 i10 i11
    subst i0
    subst i1
    refine s_3178_90 _ _ _ _ ?_
    refine ⟨fun h_1 => ?_, fun h_1 => ?_⟩
    · have w_2 := gz_w (20 * 3)
      have e_3 : gp_wr (20 * 3) = 60 := by omega
      try rw [e_3]
      have w_4 := gz_w (60 + v4)
      refine ⟨by omega, ?_⟩
      intro s_5 e_6
      have hs_7 : zM z s_5 := by rw [e_6]; exact zw83 hs _ _
      have q_8 : gp_I s_5 84 0 = 0 := by rw [e_6]; exact i4
      have q_9 : gp_I s_5 84 1 = 0 := by rw [e_6]; exact i5
      have q_10 : gp_I s_5 84 2 = 0 := by rw [e_6]; exact i6
      have q_11 : gp_I s_5 84 3 = 0 := by rw [e_6]; exact i7
      have q_12 : gp_I s_5 85 0 = 0 := by rw [e_6]; exact i8
      have q_13 : gp_I s_5 85 1 = 0 := by rw [e_6]; exact i9
      have q_14 : gp_I s_5 85 2 = 0 := by rw [e_6]; exact i10
      have q_15 : gp_I s_5 85 3 = 0 := by rw [e_6]; exact i11
      have w_16 := gz_w (v4 + 1)
      exact ih _ _ _ _ s_5 hs_7 (by omega) (by omega) (by omega) (by omega) (by omega) (by omega) (by omega) (by omega) (by omega) (by omega) (by omega) (by omega) (by omega)
    · have e_17 : v4 = 20 := by omega
      subst e_17
      exact k s hs (by omega) (by omega) (by omega) (by omega) (by omega) (by omega) (by omega) (by omega)
set_option maxRecDepth 100000 in
/-- GatheredPointsModel.sheet [(3, 3), (0, 0), (-2147483648, 2147483647)] -/
theorem zm3178_25 {z : gH} {L d : Nat} {K : Option gV → gH → Prop} {s : gH} (p2 : Int) (hs : zM z s) (h_p2 : (-2147483648) ≤ p2 ∧ p2 ≤ 2147483647) (q0 : gp_I s 84 0 = 0) (q1 : gp_I s 84 1 = 0) (q2 : gp_I s 84 2 = 0) (q3 : gp_I s 84 3 = 0) (q4 : gp_I s 85 0 = 0) (q5 : gp_I s 85 1 = 0) (q6 : gp_I s 85 2 = 0) (q7 : gp_I s 85 3 = 0) (k : ∀ (t : gH), zM z t → (gp_I t 84 0 = 0) → (gp_I t 84 1 = 0) → (gp_I t 84 2 = 0) → (gp_I t 84 3 = 0) → (gp_I t 85 0 = 0) → (gp_I t 85 1 = 0) → (gp_I t 85 2 = 0) → (gp_I t 85 3 = 0) → K (some (gp_i 1)) t) : gs_C L (d + 1) 3178 5 [gp_r (some 74), gp_i 3, gp_i 0, gp_i p2] s K := by
  refine s_3178_e _ _ _ ?_
  refine zm3076_5 hs (⟨_, rfl, ?_⟩)
  refine ⟨fun h_1 => ?_, fun h_1 => ?_⟩
  · exfalso; omega
  · refine ⟨fun h_2 => ?_, fun h_2 => ?_⟩
    · refine s_3178_35 _ _ _ _ ?_
      refine ⟨fun h_3 => ?_, fun h_3 => ?_⟩
      · refine s_3178_49 _ _ _ _ ?_
        refine ⟨fun h_4 => ?_, fun h_4 => ?_⟩
        · refine s_3178_65 _ _ _ _ ?_
          refine ⟨by omega, ?_⟩
          intro s_5 e_6
          have hs_7 : zM z s_5 := by rw [e_6]; exact zw84 hs _ _
          have q_8 : gp_I s_5 84 0 = 0 := by rw [e_6]; exact q0
          have q_9 : gp_I s_5 84 1 = 0 := by rw [e_6]; exact q1
          have q_10 : gp_I s_5 84 2 = 0 := by rw [e_6]; exact q2
          have q_11 : gp_I s_5 85 0 = 0 := by rw [e_6]; exact q4
          have q_12 : gp_I s_5 85 1 = 0 := by rw [e_6]; exact q5
          have q_13 : gp_I s_5 85 2 = 0 := by rw [e_6]; exact q6
          have q_14 : gp_I s_5 85 3 = 0 := by rw [e_6]; exact q7
          have q_15 : gp_I s_5 84 3 = 0 := by rw [e_6]; rfl
          refine ⟨fun h_17 => ?_, fun h_17 => ?_⟩
          · refine s_3178_86 _ _ _ _ _ _ ?_
            refine ⟨by omega, ?_⟩
            intro s_18 e_19
            have hs_20 : zM z s_18 := by rw [e_19]; exact zw85 hs_7 _ _
            have q_21 : gp_I s_18 84 0 = 0 := by rw [e_19]; exact q_8
            have q_22 : gp_I s_18 84 1 = 0 := by rw [e_19]; exact q_9
            have q_23 : gp_I s_18 84 2 = 0 := by rw [e_19]; exact q_10
            have q_24 : gp_I s_18 85 0 = 0 := by rw [e_19]; exact q_11
            have q_25 : gp_I s_18 85 1 = 0 := by rw [e_19]; exact q_12
            have q_26 : gp_I s_18 85 2 = 0 := by rw [e_19]; exact q_13
            have q_27 : gp_I s_18 84 3 = 0 := by rw [e_19]; exact q_15
            have q_28 : gp_I s_18 85 3 = 0 := by rw [e_19]; rfl
            exact zm3178_25_l90_0 p2 k _ _ _ _ _ s_18 hs_20 (Nat.lt_succ_self _) (by omega) (by omega) (by omega) (by omega) (by omega) (by omega) (by omega) (by omega) (by omega) (by omega) (by omega) (by omega)
          · exfalso; omega
        · exfalso; omega
      · exfalso; omega
    · exfalso; omega
set_option maxRecDepth 100000 in
/-- GatheredPointsModel.finds [(3, 3)] -/
theorem zm3074_9 {z : gH} {L d : Nat} {K : Option gV → gH → Prop} {s : gH}  (hs : zM z s)  (q0 : gp_I s 84 0 = 0) (q1 : gp_I s 84 1 = 0) (q2 : gp_I s 84 2 = 0) (q3 : gp_I s 84 3 = 0) (q4 : gp_I s 85 0 = 0) (q5 : gp_I s 85 1 = 0) (q6 : gp_I s 85 2 = 0) (q7 : gp_I s 85 3 = 0) (k : ∀ (t : gH), zM z t → ((-2147483648) ≤ gp_I t 75 3 ∧ gp_I t 75 3 ≤ 2147483647) → (gp_I t 84 0 = 0) → (gp_I t 84 1 = 0) → (gp_I t 84 2 = 0) → (gp_I t 84 3 = 0) → (gp_I t 85 0 = 0) → (gp_I t 85 1 = 0) → (gp_I t 85 2 = 0) → (gp_I t 85 3 = 0) → K (some (gp_i (-1000000003))) t) : gs_C L d 3074 2 [gp_r (some 74), gp_i 3] s K := by
  refine s_3074_e _ ?_
  refine ⟨by omega, ?_⟩
  have w_1 := gz_w ((gp_I s 75 (3 : Int).toNat) + 1)
  refine ⟨by omega, ?_⟩
  intro s_2 e_3
  have hs_4 : zM z s_2 := by rw [e_3]; exact zw75 hs _ _
  have q_5 : gp_I s_2 84 0 = 0 := by rw [e_3]; exact q0
  have q_6 : gp_I s_2 84 1 = 0 := by rw [e_3]; exact q1
  have q_7 : gp_I s_2 84 2 = 0 := by rw [e_3]; exact q2
  have q_8 : gp_I s_2 84 3 = 0 := by rw [e_3]; exact q3
  have q_9 : gp_I s_2 85 0 = 0 := by rw [e_3]; exact q4
  have q_10 : gp_I s_2 85 1 = 0 := by rw [e_3]; exact q5
  have q_11 : gp_I s_2 85 2 = 0 := by rw [e_3]; exact q6
  have q_12 : gp_I s_2 85 3 = 0 := by rw [e_3]; exact q7
  have q_13 : (-2147483648) ≤ gp_I s_2 75 3 ∧ gp_I s_2 75 3 ≤ 2147483647 := by have x_14 : gp_I s_2 75 3 = gp_wr ((gp_I s 75 (3 : Int).toNat) + 1) := (by rw [e_3]; rfl); omega
  have w_15 := gz_w ((-1000000000) - 3)
  have e_16 : gp_wr ((-1000000000) - 3) = (-1000000003) := by omega
  try rw [e_16]
  exact k s_2 hs_4 (by omega) (by omega) (by omega) (by omega) (by omega) (by omega) (by omega) (by omega) (by omega)
set_option maxRecDepth 100000 in
/-- GatheredPointsModel.sheet [(0, 0), (8, 8), (-2147483648, -1)] -/
theorem zm3178_26 {z : gH} {L d : Nat} {K : Option gV → gH → Prop} {s : gH} (p2 : Int) (hs : zM z s) (h_p2 : (-2147483648) ≤ p2 ∧ p2 ≤ (-1)) (q0 : gp_I s 84 0 = 0) (q1 : gp_I s 84 1 = 0) (q2 : gp_I s 84 2 = 0) (q3 : gp_I s 84 3 = 0) (q4 : gp_I s 85 0 = 0) (q5 : gp_I s 85 1 = 0) (q6 : gp_I s 85 2 = 0) (q7 : gp_I s 85 3 = 0) (k : ∀ (t : gH), zM z t → ((-2147483648) ≤ gp_I t 75 3 ∧ gp_I t 75 3 ≤ 2147483647) → (gp_I t 84 0 = 0) → (gp_I t 84 1 = 0) → (gp_I t 84 2 = 0) → (gp_I t 84 3 = 0) → (gp_I t 85 0 = 0) → (gp_I t 85 1 = 0) → (gp_I t 85 2 = 0) → (gp_I t 85 3 = 0) → K (some (gp_i (-1000000003))) t) : gs_C L (d + 1) 3178 5 [gp_r (some 74), gp_i 0, gp_i 8, gp_i p2] s K := by
  refine s_3178_e _ _ _ ?_
  refine zm3076_2 hs (⟨_, rfl, ?_⟩)
  refine ⟨fun h_1 => ?_, fun h_1 => ?_⟩
  · exfalso; omega
  · refine ⟨fun h_2 => ?_, fun h_2 => ?_⟩
    · exfalso; omega
    · refine ⟨fun h_3 => ?_, fun h_3 => ?_⟩
      · refine s_3178_35 _ _ _ _ ?_
        refine ⟨fun h_4 => ?_, fun h_4 => ?_⟩
        · exfalso; omega
        · refine ⟨fun h_5 => ?_, fun h_5 => ?_⟩
          · refine zm3074_9 hs (by omega) (by omega) (by omega) (by omega) (by omega) (by omega) (by omega) (by omega) (fun s_6 hs_7 q_8 q_9 q_10 q_11 q_12 q_13 q_14 q_15 q_16 => ⟨_, rfl, ?_⟩)
            exact k s_6 hs_7 (by omega) (by omega) (by omega) (by omega) (by omega) (by omega) (by omega) (by omega) (by omega)
          · exfalso; omega
      · exfalso; omega
set_option maxRecDepth 100000 in
/-- GatheredPointsModel.sheet, the loop at 90 -/
theorem zm3178_27_l90_0 {z : gH} {L d : Nat} {K : Option gV → gH → Prop} (p2 : Int)  (k : ∀ (t : gH), zM z t → (gp_I t 84 0 = 8) → (gp_I t 84 1 = 0) → (gp_I t 84 2 = 0) → (gp_I t 84 3 = 0) → (0 ≤ gp_I t 85 0 ∧ gp_I t 85 0 ≤ 20) → (gp_I t 85 1 = 0) → (gp_I t 85 2 = 0) → (gp_I t 85 3 = 0) → K (some (gp_i 1)) t)  : ∀ (n : Nat) (v1 : Int) (v2 : Int) (v3 : Int) (v4 : Int) (s : gH), zM z s → (21 - v4).toNat < n → (v1 = 0) → (v2 = 8) → (0 ≤ v3 ∧ v3 ≤ 20) → (0 ≤ v4 ∧ v4 ≤ 20) → (gp_I s 84 0 = 8) → (gp_I s 84 1 = 0) → (gp_I s 84 2 = 0) → (gp_I s 84 3 = 0) → (0 ≤ gp_I s 85 0 ∧ gp_I s 85 0 ≤ 20) → (gp_I s 85 1 = 0) → (gp_I s 85 2 = 0) → (gp_I s 85 3 = 0) → gs_E L (d + 1) 3178 90 [gp_r (some 74), gp_i v1, gp_i v2, gp_i v3, gp_i v4] [] s K := by
  intro n
  induction n with
  | zero => intro v1 v2 v3 v4 s hs hm i0 i1 i2 i3 i4 i5 i6 i7 i8 i9 i10 i11; exact absurd hm (Nat.not_lt_zero _)
  | succ n ih =>
    intro v1 v2 v3 v4 s hs hm i0 i1 i2 i3 i4 i5 i6 i7 i8 i9 i10 i11
    subst i0
    subst i1
    refine s_3178_90 _ _ _ _ ?_
    refine ⟨fun h_1 => ?_, fun h_1 => ?_⟩
    · have w_2 := gz_w (20 * 0)
      have e_3 : gp_wr (20 * 0) = 0 := by omega
      try rw [e_3]
      have w_4 := gz_w (0 + v4)
      refine ⟨by omega, ?_⟩
      intro s_5 e_6
      have hs_7 : zM z s_5 := by rw [e_6]; exact zw83 hs _ _
      have q_8 : gp_I s_5 84 0 = 8 := by rw [e_6]; exact i4
      have q_9 : gp_I s_5 84 1 = 0 := by rw [e_6]; exact i5
      have q_10 : gp_I s_5 84 2 = 0 := by rw [e_6]; exact i6
      have q_11 : gp_I s_5 84 3 = 0 := by rw [e_6]; exact i7
      have q_12 : 0 ≤ gp_I s_5 85 0 ∧ gp_I s_5 85 0 ≤ 20 := by rw [e_6]; exact i8
      have q_13 : gp_I s_5 85 1 = 0 := by rw [e_6]; exact i9
      have q_14 : gp_I s_5 85 2 = 0 := by rw [e_6]; exact i10
      have q_15 : gp_I s_5 85 3 = 0 := by rw [e_6]; exact i11
      have w_16 := gz_w (v4 + 1)
      exact ih _ _ _ _ s_5 hs_7 (by omega) (by omega) (by omega) (by omega) (by omega) (by omega) (by omega) (by omega) (by omega) (by omega) (by omega) (by omega) (by omega)
    · have e_17 : v4 = 20 := by omega
      subst e_17
      exact k s hs (by omega) (by omega) (by omega) (by omega) (by omega) (by omega) (by omega) (by omega)
set_option maxRecDepth 100000 in
/-- GatheredPointsModel.sheet [(0, 0), (8, 8), (0, 20)] -/
theorem zm3178_27 {z : gH} {L d : Nat} {K : Option gV → gH → Prop} {s : gH} (p2 : Int) (hs : zM z s) (h_p2 : 0 ≤ p2 ∧ p2 ≤ 20) (q0 : gp_I s 84 0 = 0) (q1 : gp_I s 84 1 = 0) (q2 : gp_I s 84 2 = 0) (q3 : gp_I s 84 3 = 0) (q4 : gp_I s 85 0 = 0) (q5 : gp_I s 85 1 = 0) (q6 : gp_I s 85 2 = 0) (q7 : gp_I s 85 3 = 0) (k : ∀ (t : gH), zM z t → (gp_I t 84 0 = 8) → (gp_I t 84 1 = 0) → (gp_I t 84 2 = 0) → (gp_I t 84 3 = 0) → (0 ≤ gp_I t 85 0 ∧ gp_I t 85 0 ≤ 20) → (gp_I t 85 1 = 0) → (gp_I t 85 2 = 0) → (gp_I t 85 3 = 0) → K (some (gp_i 1)) t) : gs_C L (d + 1) 3178 5 [gp_r (some 74), gp_i 0, gp_i 8, gp_i p2] s K := by
  refine s_3178_e _ _ _ ?_
  refine zm3076_2 hs (⟨_, rfl, ?_⟩)
  refine ⟨fun h_1 => ?_, fun h_1 => ?_⟩
  · exfalso; omega
  · refine ⟨fun h_2 => ?_, fun h_2 => ?_⟩
    · exfalso; omega
    · refine ⟨fun h_3 => ?_, fun h_3 => ?_⟩
      · refine s_3178_35 _ _ _ _ ?_
        refine ⟨fun h_4 => ?_, fun h_4 => ?_⟩
        · exfalso; omega
        · refine ⟨fun h_5 => ?_, fun h_5 => ?_⟩
          · exfalso; omega
          · refine s_3178_49 _ _ _ _ ?_
            refine ⟨fun h_6 => ?_, fun h_6 => ?_⟩
            · exfalso; omega
            · refine ⟨fun h_7 => ?_, fun h_7 => ?_⟩
              · exfalso; omega
              · refine s_3178_65 _ _ _ _ ?_
                refine ⟨by omega, ?_⟩
                intro s_8 e_9
                have hs_10 : zM z s_8 := by rw [e_9]; exact zw84 hs _ _
                have q_11 : gp_I s_8 84 1 = 0 := by rw [e_9]; exact q1
                have q_12 : gp_I s_8 84 2 = 0 := by rw [e_9]; exact q2
                have q_13 : gp_I s_8 84 3 = 0 := by rw [e_9]; exact q3
                have q_14 : gp_I s_8 85 0 = 0 := by rw [e_9]; exact q4
                have q_15 : gp_I s_8 85 1 = 0 := by rw [e_9]; exact q5
                have q_16 : gp_I s_8 85 2 = 0 := by rw [e_9]; exact q6
                have q_17 : gp_I s_8 85 3 = 0 := by rw [e_9]; exact q7
                have q_18 : gp_I s_8 84 0 = 8 := by rw [e_9]; rfl
                refine ⟨fun h_20 => ?_, fun h_20 => ?_⟩
                · exfalso; omega
                · refine s_3178_86 _ _ _ _ _ _ ?_
                  refine ⟨by omega, ?_⟩
                  intro s_21 e_22
                  have hs_23 : zM z s_21 := by rw [e_22]; exact zw85 hs_10 _ _
                  have q_24 : gp_I s_21 84 1 = 0 := by rw [e_22]; exact q_11
                  have q_25 : gp_I s_21 84 2 = 0 := by rw [e_22]; exact q_12
                  have q_26 : gp_I s_21 84 3 = 0 := by rw [e_22]; exact q_13
                  have q_27 : gp_I s_21 85 1 = 0 := by rw [e_22]; exact q_15
                  have q_28 : gp_I s_21 85 2 = 0 := by rw [e_22]; exact q_16
                  have q_29 : gp_I s_21 85 3 = 0 := by rw [e_22]; exact q_17
                  have q_30 : gp_I s_21 84 0 = 8 := by rw [e_22]; exact q_18
                  have q_31 : 0 ≤ gp_I s_21 85 0 ∧ gp_I s_21 85 0 ≤ 20 := by have x_32 : gp_I s_21 85 0 = p2 := (by rw [e_22]; rfl); omega
                  exact zm3178_27_l90_0 p2 k _ _ _ _ _ s_21 hs_23 (Nat.lt_succ_self _) (by omega) (by omega) (by omega) (by omega) (by omega) (by omega) (by omega) (by omega) (by omega) (by omega) (by omega) (by omega)
      · exfalso; omega
set_option maxRecDepth 100000 in
/-- GatheredPointsModel.sheet [(0, 0), (8, 8), (21, 2147483647)] -/
theorem zm3178_28 {z : gH} {L d : Nat} {K : Option gV → gH → Prop} {s : gH} (p2 : Int) (hs : zM z s) (h_p2 : 21 ≤ p2 ∧ p2 ≤ 2147483647) (q0 : gp_I s 84 0 = 0) (q1 : gp_I s 84 1 = 0) (q2 : gp_I s 84 2 = 0) (q3 : gp_I s 84 3 = 0) (q4 : gp_I s 85 0 = 0) (q5 : gp_I s 85 1 = 0) (q6 : gp_I s 85 2 = 0) (q7 : gp_I s 85 3 = 0) (k : ∀ (t : gH), zM z t → ((-2147483648) ≤ gp_I t 75 1 ∧ gp_I t 75 1 ≤ 2147483647) → (gp_I t 84 0 = 0) → (gp_I t 84 1 = 0) → (gp_I t 84 2 = 0) → (gp_I t 84 3 = 0) → (gp_I t 85 0 = 0) → (gp_I t 85 1 = 0) → (gp_I t 85 2 = 0) → (gp_I t 85 3 = 0) → K (some (gp_i (-1000000001))) t) : gs_C L (d + 1) 3178 5 [gp_r (some 74), gp_i 0, gp_i 8, gp_i p2] s K := by
  refine s_3178_e _ _ _ ?_
  refine zm3076_2 hs (⟨_, rfl, ?_⟩)
  refine ⟨fun h_1 => ?_, fun h_1 => ?_⟩
  · exfalso; omega
  · refine ⟨fun h_2 => ?_, fun h_2 => ?_⟩
    · exfalso; omega
    · refine ⟨fun h_3 => ?_, fun h_3 => ?_⟩
      · refine s_3178_35 _ _ _ _ ?_
        refine ⟨fun h_4 => ?_, fun h_4 => ?_⟩
        · exfalso; omega
        · refine ⟨fun h_5 => ?_, fun h_5 => ?_⟩
          · exfalso; omega
          · refine s_3178_49 _ _ _ _ ?_
            refine ⟨fun h_6 => ?_, fun h_6 => ?_⟩
            · exfalso; omega
            · refine ⟨fun h_7 => ?_, fun h_7 => ?_⟩
              · refine zm3074_8 hs (by omega) (by omega) (by omega) (by omega) (by omega) (by omega) (by omega) (by omega) (fun s_8 hs_9 q_10 q_11 q_12 q_13 q_14 q_15 q_16 q_17 q_18 => ⟨_, rfl, ?_⟩)
                exact k s_8 hs_9 (by omega) (by omega) (by omega) (by omega) (by omega) (by omega) (by omega) (by omega) (by omega)
              · exfalso; omega
      · exfalso; omega
set_option maxRecDepth 100000 in
/-- GatheredPointsModel.sheet [(0, 0), (16, 16), (-2147483648, -1)] -/
theorem zm3178_29 {z : gH} {L d : Nat} {K : Option gV → gH → Prop} {s : gH} (p2 : Int) (hs : zM z s) (h_p2 : (-2147483648) ≤ p2 ∧ p2 ≤ (-1)) (q0 : gp_I s 84 0 = 0) (q1 : gp_I s 84 1 = 0) (q2 : gp_I s 84 2 = 0) (q3 : gp_I s 84 3 = 0) (q4 : gp_I s 85 0 = 0) (q5 : gp_I s 85 1 = 0) (q6 : gp_I s 85 2 = 0) (q7 : gp_I s 85 3 = 0) (k : ∀ (t : gH), zM z t → ((-2147483648) ≤ gp_I t 75 3 ∧ gp_I t 75 3 ≤ 2147483647) → (gp_I t 84 0 = 0) → (gp_I t 84 1 = 0) → (gp_I t 84 2 = 0) → (gp_I t 84 3 = 0) → (gp_I t 85 0 = 0) → (gp_I t 85 1 = 0) → (gp_I t 85 2 = 0) → (gp_I t 85 3 = 0) → K (some (gp_i (-1000000003))) t) : gs_C L (d + 1) 3178 5 [gp_r (some 74), gp_i 0, gp_i 16, gp_i p2] s K := by
  refine s_3178_e _ _ _ ?_
  refine zm3076_2 hs (⟨_, rfl, ?_⟩)
  refine ⟨fun h_1 => ?_, fun h_1 => ?_⟩
  · exfalso; omega
  · refine ⟨fun h_2 => ?_, fun h_2 => ?_⟩
    · exfalso; omega
    · refine ⟨fun h_3 => ?_, fun h_3 => ?_⟩
      · exfalso; omega
      · refine ⟨fun h_4 => ?_, fun h_4 => ?_⟩
        · refine s_3178_35 _ _ _ _ ?_
          refine ⟨fun h_5 => ?_, fun h_5 => ?_⟩
          · exfalso; omega
          · refine ⟨fun h_6 => ?_, fun h_6 => ?_⟩
            · refine zm3074_9 hs (by omega) (by omega) (by omega) (by omega) (by omega) (by omega) (by omega) (by omega) (fun s_7 hs_8 q_9 q_10 q_11 q_12 q_13 q_14 q_15 q_16 q_17 => ⟨_, rfl, ?_⟩)
              exact k s_7 hs_8 (by omega) (by omega) (by omega) (by omega) (by omega) (by omega) (by omega) (by omega) (by omega)
            · exfalso; omega
        · exfalso; omega
set_option maxRecDepth 100000 in
/-- GatheredPointsModel.sheet, the loop at 90 -/
theorem zm3178_30_l90_0 {z : gH} {L d : Nat} {K : Option gV → gH → Prop} (p2 : Int)  (k : ∀ (t : gH), zM z t → (gp_I t 84 0 = 16) → (gp_I t 84 1 = 0) → (gp_I t 84 2 = 0) → (gp_I t 84 3 = 0) → (0 ≤ gp_I t 85 0 ∧ gp_I t 85 0 ≤ 20) → (gp_I t 85 1 = 0) → (gp_I t 85 2 = 0) → (gp_I t 85 3 = 0) → K (some (gp_i 1)) t)  : ∀ (n : Nat) (v1 : Int) (v2 : Int) (v3 : Int) (v4 : Int) (s : gH), zM z s → (21 - v4).toNat < n → (v1 = 0) → (v2 = 16) → (0 ≤ v3 ∧ v3 ≤ 20) → (0 ≤ v4 ∧ v4 ≤ 20) → (gp_I s 84 0 = 16) → (gp_I s 84 1 = 0) → (gp_I s 84 2 = 0) → (gp_I s 84 3 = 0) → (0 ≤ gp_I s 85 0 ∧ gp_I s 85 0 ≤ 20) → (gp_I s 85 1 = 0) → (gp_I s 85 2 = 0) → (gp_I s 85 3 = 0) → gs_E L (d + 1) 3178 90 [gp_r (some 74), gp_i v1, gp_i v2, gp_i v3, gp_i v4] [] s K := by
  intro n
  induction n with
  | zero => intro v1 v2 v3 v4 s hs hm i0 i1 i2 i3 i4 i5 i6 i7 i8 i9 i10 i11; exact absurd hm (Nat.not_lt_zero _)
  | succ n ih =>
    intro v1 v2 v3 v4 s hs hm i0 i1 i2 i3 i4 i5 i6 i7 i8 i9 i10 i11
    subst i0
    subst i1
    refine s_3178_90 _ _ _ _ ?_
    refine ⟨fun h_1 => ?_, fun h_1 => ?_⟩
    · have w_2 := gz_w (20 * 0)
      have e_3 : gp_wr (20 * 0) = 0 := by omega
      try rw [e_3]
      have w_4 := gz_w (0 + v4)
      refine ⟨by omega, ?_⟩
      intro s_5 e_6
      have hs_7 : zM z s_5 := by rw [e_6]; exact zw83 hs _ _
      have q_8 : gp_I s_5 84 0 = 16 := by rw [e_6]; exact i4
      have q_9 : gp_I s_5 84 1 = 0 := by rw [e_6]; exact i5
      have q_10 : gp_I s_5 84 2 = 0 := by rw [e_6]; exact i6
      have q_11 : gp_I s_5 84 3 = 0 := by rw [e_6]; exact i7
      have q_12 : 0 ≤ gp_I s_5 85 0 ∧ gp_I s_5 85 0 ≤ 20 := by rw [e_6]; exact i8
      have q_13 : gp_I s_5 85 1 = 0 := by rw [e_6]; exact i9
      have q_14 : gp_I s_5 85 2 = 0 := by rw [e_6]; exact i10
      have q_15 : gp_I s_5 85 3 = 0 := by rw [e_6]; exact i11
      have w_16 := gz_w (v4 + 1)
      exact ih _ _ _ _ s_5 hs_7 (by omega) (by omega) (by omega) (by omega) (by omega) (by omega) (by omega) (by omega) (by omega) (by omega) (by omega) (by omega) (by omega)
    · have e_17 : v4 = 20 := by omega
      subst e_17
      exact k s hs (by omega) (by omega) (by omega) (by omega) (by omega) (by omega) (by omega) (by omega)
set_option maxRecDepth 100000 in
/-- GatheredPointsModel.sheet [(0, 0), (16, 16), (0, 20)] -/
theorem zm3178_30 {z : gH} {L d : Nat} {K : Option gV → gH → Prop} {s : gH} (p2 : Int) (hs : zM z s) (h_p2 : 0 ≤ p2 ∧ p2 ≤ 20) (q0 : gp_I s 84 0 = 0) (q1 : gp_I s 84 1 = 0) (q2 : gp_I s 84 2 = 0) (q3 : gp_I s 84 3 = 0) (q4 : gp_I s 85 0 = 0) (q5 : gp_I s 85 1 = 0) (q6 : gp_I s 85 2 = 0) (q7 : gp_I s 85 3 = 0) (k : ∀ (t : gH), zM z t → (gp_I t 84 0 = 16) → (gp_I t 84 1 = 0) → (gp_I t 84 2 = 0) → (gp_I t 84 3 = 0) → (0 ≤ gp_I t 85 0 ∧ gp_I t 85 0 ≤ 20) → (gp_I t 85 1 = 0) → (gp_I t 85 2 = 0) → (gp_I t 85 3 = 0) → K (some (gp_i 1)) t) : gs_C L (d + 1) 3178 5 [gp_r (some 74), gp_i 0, gp_i 16, gp_i p2] s K := by
  refine s_3178_e _ _ _ ?_
  refine zm3076_2 hs (⟨_, rfl, ?_⟩)
  refine ⟨fun h_1 => ?_, fun h_1 => ?_⟩
  · exfalso; omega
  · refine ⟨fun h_2 => ?_, fun h_2 => ?_⟩
    · exfalso; omega
    · refine ⟨fun h_3 => ?_, fun h_3 => ?_⟩
      · exfalso; omega
      · refine ⟨fun h_4 => ?_, fun h_4 => ?_⟩
        · refine s_3178_35 _ _ _ _ ?_
          refine ⟨fun h_5 => ?_, fun h_5 => ?_⟩
          · exfalso; omega
          · refine ⟨fun h_6 => ?_, fun h_6 => ?_⟩
            · exfalso; omega
            · refine s_3178_49 _ _ _ _ ?_
              refine ⟨fun h_7 => ?_, fun h_7 => ?_⟩
              · exfalso; omega
              · refine ⟨fun h_8 => ?_, fun h_8 => ?_⟩
                · exfalso; omega
                · refine s_3178_65 _ _ _ _ ?_
                  refine ⟨by omega, ?_⟩
                  intro s_9 e_10
                  have hs_11 : zM z s_9 := by rw [e_10]; exact zw84 hs _ _
                  have q_12 : gp_I s_9 84 1 = 0 := by rw [e_10]; exact q1
                  have q_13 : gp_I s_9 84 2 = 0 := by rw [e_10]; exact q2
                  have q_14 : gp_I s_9 84 3 = 0 := by rw [e_10]; exact q3
                  have q_15 : gp_I s_9 85 0 = 0 := by rw [e_10]; exact q4
                  have q_16 : gp_I s_9 85 1 = 0 := by rw [e_10]; exact q5
                  have q_17 : gp_I s_9 85 2 = 0 := by rw [e_10]; exact q6
                  have q_18 : gp_I s_9 85 3 = 0 := by rw [e_10]; exact q7
                  have q_19 : gp_I s_9 84 0 = 16 := by rw [e_10]; rfl
                  refine ⟨fun h_21 => ?_, fun h_21 => ?_⟩
                  · exfalso; omega
                  · refine s_3178_86 _ _ _ _ _ _ ?_
                    refine ⟨by omega, ?_⟩
                    intro s_22 e_23
                    have hs_24 : zM z s_22 := by rw [e_23]; exact zw85 hs_11 _ _
                    have q_25 : gp_I s_22 84 1 = 0 := by rw [e_23]; exact q_12
                    have q_26 : gp_I s_22 84 2 = 0 := by rw [e_23]; exact q_13
                    have q_27 : gp_I s_22 84 3 = 0 := by rw [e_23]; exact q_14
                    have q_28 : gp_I s_22 85 1 = 0 := by rw [e_23]; exact q_16
                    have q_29 : gp_I s_22 85 2 = 0 := by rw [e_23]; exact q_17
                    have q_30 : gp_I s_22 85 3 = 0 := by rw [e_23]; exact q_18
                    have q_31 : gp_I s_22 84 0 = 16 := by rw [e_23]; exact q_19
                    have q_32 : 0 ≤ gp_I s_22 85 0 ∧ gp_I s_22 85 0 ≤ 20 := by have x_33 : gp_I s_22 85 0 = p2 := (by rw [e_23]; rfl); omega
                    exact zm3178_30_l90_0 p2 k _ _ _ _ _ s_22 hs_24 (Nat.lt_succ_self _) (by omega) (by omega) (by omega) (by omega) (by omega) (by omega) (by omega) (by omega) (by omega) (by omega) (by omega) (by omega)
        · exfalso; omega
set_option maxRecDepth 100000 in
/-- GatheredPointsModel.sheet [(0, 0), (16, 16), (21, 2147483647)] -/
theorem zm3178_31 {z : gH} {L d : Nat} {K : Option gV → gH → Prop} {s : gH} (p2 : Int) (hs : zM z s) (h_p2 : 21 ≤ p2 ∧ p2 ≤ 2147483647) (q0 : gp_I s 84 0 = 0) (q1 : gp_I s 84 1 = 0) (q2 : gp_I s 84 2 = 0) (q3 : gp_I s 84 3 = 0) (q4 : gp_I s 85 0 = 0) (q5 : gp_I s 85 1 = 0) (q6 : gp_I s 85 2 = 0) (q7 : gp_I s 85 3 = 0) (k : ∀ (t : gH), zM z t → ((-2147483648) ≤ gp_I t 75 1 ∧ gp_I t 75 1 ≤ 2147483647) → (gp_I t 84 0 = 0) → (gp_I t 84 1 = 0) → (gp_I t 84 2 = 0) → (gp_I t 84 3 = 0) → (gp_I t 85 0 = 0) → (gp_I t 85 1 = 0) → (gp_I t 85 2 = 0) → (gp_I t 85 3 = 0) → K (some (gp_i (-1000000001))) t) : gs_C L (d + 1) 3178 5 [gp_r (some 74), gp_i 0, gp_i 16, gp_i p2] s K := by
  refine s_3178_e _ _ _ ?_
  refine zm3076_2 hs (⟨_, rfl, ?_⟩)
  refine ⟨fun h_1 => ?_, fun h_1 => ?_⟩
  · exfalso; omega
  · refine ⟨fun h_2 => ?_, fun h_2 => ?_⟩
    · exfalso; omega
    · refine ⟨fun h_3 => ?_, fun h_3 => ?_⟩
      · exfalso; omega
      · refine ⟨fun h_4 => ?_, fun h_4 => ?_⟩
        · refine s_3178_35 _ _ _ _ ?_
          refine ⟨fun h_5 => ?_, fun h_5 => ?_⟩
          · exfalso; omega
          · refine ⟨fun h_6 => ?_, fun h_6 => ?_⟩
            · exfalso; omega
            · refine s_3178_49 _ _ _ _ ?_
              refine ⟨fun h_7 => ?_, fun h_7 => ?_⟩
              · exfalso; omega
              · refine ⟨fun h_8 => ?_, fun h_8 => ?_⟩
                · refine zm3074_8 hs (by omega) (by omega) (by omega) (by omega) (by omega) (by omega) (by omega) (by omega) (fun s_9 hs_10 q_11 q_12 q_13 q_14 q_15 q_16 q_17 q_18 q_19 => ⟨_, rfl, ?_⟩)
                  exact k s_9 hs_10 (by omega) (by omega) (by omega) (by omega) (by omega) (by omega) (by omega) (by omega) (by omega)
                · exfalso; omega
        · exfalso; omega
set_option maxRecDepth 100000 in
/-- GatheredPointsModel.sheet [(0, 0), (32, 32), (-2147483648, -1)] -/
theorem zm3178_32 {z : gH} {L d : Nat} {K : Option gV → gH → Prop} {s : gH} (p2 : Int) (hs : zM z s) (h_p2 : (-2147483648) ≤ p2 ∧ p2 ≤ (-1)) (q0 : gp_I s 84 0 = 0) (q1 : gp_I s 84 1 = 0) (q2 : gp_I s 84 2 = 0) (q3 : gp_I s 84 3 = 0) (q4 : gp_I s 85 0 = 0) (q5 : gp_I s 85 1 = 0) (q6 : gp_I s 85 2 = 0) (q7 : gp_I s 85 3 = 0) (k : ∀ (t : gH), zM z t → ((-2147483648) ≤ gp_I t 75 3 ∧ gp_I t 75 3 ≤ 2147483647) → (gp_I t 84 0 = 0) → (gp_I t 84 1 = 0) → (gp_I t 84 2 = 0) → (gp_I t 84 3 = 0) → (gp_I t 85 0 = 0) → (gp_I t 85 1 = 0) → (gp_I t 85 2 = 0) → (gp_I t 85 3 = 0) → K (some (gp_i (-1000000003))) t) : gs_C L (d + 1) 3178 5 [gp_r (some 74), gp_i 0, gp_i 32, gp_i p2] s K := by
  refine s_3178_e _ _ _ ?_
  refine zm3076_2 hs (⟨_, rfl, ?_⟩)
  refine ⟨fun h_1 => ?_, fun h_1 => ?_⟩
  · exfalso; omega
  · refine ⟨fun h_2 => ?_, fun h_2 => ?_⟩
    · exfalso; omega
    · refine ⟨fun h_3 => ?_, fun h_3 => ?_⟩
      · exfalso; omega
      · refine ⟨fun h_4 => ?_, fun h_4 => ?_⟩
        · exfalso; omega
        · refine ⟨fun h_5 => ?_, fun h_5 => ?_⟩
          · refine s_3178_35 _ _ _ _ ?_
            refine ⟨fun h_6 => ?_, fun h_6 => ?_⟩
            · exfalso; omega
            · refine ⟨fun h_7 => ?_, fun h_7 => ?_⟩
              · refine zm3074_9 hs (by omega) (by omega) (by omega) (by omega) (by omega) (by omega) (by omega) (by omega) (fun s_8 hs_9 q_10 q_11 q_12 q_13 q_14 q_15 q_16 q_17 q_18 => ⟨_, rfl, ?_⟩)
                exact k s_8 hs_9 (by omega) (by omega) (by omega) (by omega) (by omega) (by omega) (by omega) (by omega) (by omega)
              · exfalso; omega
          · exfalso; omega
set_option maxRecDepth 100000 in
/-- GatheredPointsModel.sheet, the loop at 90 -/
theorem zm3178_33_l90_0 {z : gH} {L d : Nat} {K : Option gV → gH → Prop} (p2 : Int)  (k : ∀ (t : gH), zM z t → (gp_I t 84 0 = 32) → (gp_I t 84 1 = 0) → (gp_I t 84 2 = 0) → (gp_I t 84 3 = 0) → (0 ≤ gp_I t 85 0 ∧ gp_I t 85 0 ≤ 20) → (gp_I t 85 1 = 0) → (gp_I t 85 2 = 0) → (gp_I t 85 3 = 0) → K (some (gp_i 1)) t)  : ∀ (n : Nat) (v1 : Int) (v2 : Int) (v3 : Int) (v4 : Int) (s : gH), zM z s → (21 - v4).toNat < n → (v1 = 0) → (v2 = 32) → (0 ≤ v3 ∧ v3 ≤ 20) → (0 ≤ v4 ∧ v4 ≤ 20) → (gp_I s 84 0 = 32) → (gp_I s 84 1 = 0) → (gp_I s 84 2 = 0) → (gp_I s 84 3 = 0) → (0 ≤ gp_I s 85 0 ∧ gp_I s 85 0 ≤ 20) → (gp_I s 85 1 = 0) → (gp_I s 85 2 = 0) → (gp_I s 85 3 = 0) → gs_E L (d + 1) 3178 90 [gp_r (some 74), gp_i v1, gp_i v2, gp_i v3, gp_i v4] [] s K := by
  intro n
  induction n with
  | zero => intro v1 v2 v3 v4 s hs hm i0 i1 i2 i3 i4 i5 i6 i7 i8 i9 i10 i11; exact absurd hm (Nat.not_lt_zero _)
  | succ n ih =>
    intro v1 v2 v3 v4 s hs hm i0 i1 i2 i3 i4 i5 i6 i7 i8 i9 i10 i11
    subst i0
    subst i1
    refine s_3178_90 _ _ _ _ ?_
    refine ⟨fun h_1 => ?_, fun h_1 => ?_⟩
    · have w_2 := gz_w (20 * 0)
      have e_3 : gp_wr (20 * 0) = 0 := by omega
      try rw [e_3]
      have w_4 := gz_w (0 + v4)
      refine ⟨by omega, ?_⟩
      intro s_5 e_6
      have hs_7 : zM z s_5 := by rw [e_6]; exact zw83 hs _ _
      have q_8 : gp_I s_5 84 0 = 32 := by rw [e_6]; exact i4
      have q_9 : gp_I s_5 84 1 = 0 := by rw [e_6]; exact i5
      have q_10 : gp_I s_5 84 2 = 0 := by rw [e_6]; exact i6
      have q_11 : gp_I s_5 84 3 = 0 := by rw [e_6]; exact i7
      have q_12 : 0 ≤ gp_I s_5 85 0 ∧ gp_I s_5 85 0 ≤ 20 := by rw [e_6]; exact i8
      have q_13 : gp_I s_5 85 1 = 0 := by rw [e_6]; exact i9
      have q_14 : gp_I s_5 85 2 = 0 := by rw [e_6]; exact i10
      have q_15 : gp_I s_5 85 3 = 0 := by rw [e_6]; exact i11
      have w_16 := gz_w (v4 + 1)
      exact ih _ _ _ _ s_5 hs_7 (by omega) (by omega) (by omega) (by omega) (by omega) (by omega) (by omega) (by omega) (by omega) (by omega) (by omega) (by omega) (by omega)
    · have e_17 : v4 = 20 := by omega
      subst e_17
      exact k s hs (by omega) (by omega) (by omega) (by omega) (by omega) (by omega) (by omega) (by omega)
set_option maxRecDepth 100000 in
/-- GatheredPointsModel.sheet [(0, 0), (32, 32), (0, 20)] -/
theorem zm3178_33 {z : gH} {L d : Nat} {K : Option gV → gH → Prop} {s : gH} (p2 : Int) (hs : zM z s) (h_p2 : 0 ≤ p2 ∧ p2 ≤ 20) (q0 : gp_I s 84 0 = 0) (q1 : gp_I s 84 1 = 0) (q2 : gp_I s 84 2 = 0) (q3 : gp_I s 84 3 = 0) (q4 : gp_I s 85 0 = 0) (q5 : gp_I s 85 1 = 0) (q6 : gp_I s 85 2 = 0) (q7 : gp_I s 85 3 = 0) (k : ∀ (t : gH), zM z t → (gp_I t 84 0 = 32) → (gp_I t 84 1 = 0) → (gp_I t 84 2 = 0) → (gp_I t 84 3 = 0) → (0 ≤ gp_I t 85 0 ∧ gp_I t 85 0 ≤ 20) → (gp_I t 85 1 = 0) → (gp_I t 85 2 = 0) → (gp_I t 85 3 = 0) → K (some (gp_i 1)) t) : gs_C L (d + 1) 3178 5 [gp_r (some 74), gp_i 0, gp_i 32, gp_i p2] s K := by
  refine s_3178_e _ _ _ ?_
  refine zm3076_2 hs (⟨_, rfl, ?_⟩)
  refine ⟨fun h_1 => ?_, fun h_1 => ?_⟩
  · exfalso; omega
  · refine ⟨fun h_2 => ?_, fun h_2 => ?_⟩
    · exfalso; omega
    · refine ⟨fun h_3 => ?_, fun h_3 => ?_⟩
      · exfalso; omega
      · refine ⟨fun h_4 => ?_, fun h_4 => ?_⟩
        · exfalso; omega
        · refine ⟨fun h_5 => ?_, fun h_5 => ?_⟩
          · refine s_3178_35 _ _ _ _ ?_
            refine ⟨fun h_6 => ?_, fun h_6 => ?_⟩
            · exfalso; omega
            · refine ⟨fun h_7 => ?_, fun h_7 => ?_⟩
              · exfalso; omega
              · refine s_3178_49 _ _ _ _ ?_
                refine ⟨fun h_8 => ?_, fun h_8 => ?_⟩
                · exfalso; omega
                · refine ⟨fun h_9 => ?_, fun h_9 => ?_⟩
                  · exfalso; omega
                  · refine s_3178_65 _ _ _ _ ?_
                    refine ⟨by omega, ?_⟩
                    intro s_10 e_11
                    have hs_12 : zM z s_10 := by rw [e_11]; exact zw84 hs _ _
                    have q_13 : gp_I s_10 84 1 = 0 := by rw [e_11]; exact q1
                    have q_14 : gp_I s_10 84 2 = 0 := by rw [e_11]; exact q2
                    have q_15 : gp_I s_10 84 3 = 0 := by rw [e_11]; exact q3
                    have q_16 : gp_I s_10 85 0 = 0 := by rw [e_11]; exact q4
                    have q_17 : gp_I s_10 85 1 = 0 := by rw [e_11]; exact q5
                    have q_18 : gp_I s_10 85 2 = 0 := by rw [e_11]; exact q6
                    have q_19 : gp_I s_10 85 3 = 0 := by rw [e_11]; exact q7
                    have q_20 : gp_I s_10 84 0 = 32 := by rw [e_11]; rfl
                    refine ⟨fun h_22 => ?_, fun h_22 => ?_⟩
                    · exfalso; omega
                    · refine s_3178_86 _ _ _ _ _ _ ?_
                      refine ⟨by omega, ?_⟩
                      intro s_23 e_24
                      have hs_25 : zM z s_23 := by rw [e_24]; exact zw85 hs_12 _ _
                      have q_26 : gp_I s_23 84 1 = 0 := by rw [e_24]; exact q_13
                      have q_27 : gp_I s_23 84 2 = 0 := by rw [e_24]; exact q_14
                      have q_28 : gp_I s_23 84 3 = 0 := by rw [e_24]; exact q_15
                      have q_29 : gp_I s_23 85 1 = 0 := by rw [e_24]; exact q_17
                      have q_30 : gp_I s_23 85 2 = 0 := by rw [e_24]; exact q_18
                      have q_31 : gp_I s_23 85 3 = 0 := by rw [e_24]; exact q_19
                      have q_32 : gp_I s_23 84 0 = 32 := by rw [e_24]; exact q_20
                      have q_33 : 0 ≤ gp_I s_23 85 0 ∧ gp_I s_23 85 0 ≤ 20 := by have x_34 : gp_I s_23 85 0 = p2 := (by rw [e_24]; rfl); omega
                      exact zm3178_33_l90_0 p2 k _ _ _ _ _ s_23 hs_25 (Nat.lt_succ_self _) (by omega) (by omega) (by omega) (by omega) (by omega) (by omega) (by omega) (by omega) (by omega) (by omega) (by omega) (by omega)
          · exfalso; omega
set_option maxRecDepth 100000 in
/-- GatheredPointsModel.sheet [(0, 0), (32, 32), (21, 2147483647)] -/
theorem zm3178_34 {z : gH} {L d : Nat} {K : Option gV → gH → Prop} {s : gH} (p2 : Int) (hs : zM z s) (h_p2 : 21 ≤ p2 ∧ p2 ≤ 2147483647) (q0 : gp_I s 84 0 = 0) (q1 : gp_I s 84 1 = 0) (q2 : gp_I s 84 2 = 0) (q3 : gp_I s 84 3 = 0) (q4 : gp_I s 85 0 = 0) (q5 : gp_I s 85 1 = 0) (q6 : gp_I s 85 2 = 0) (q7 : gp_I s 85 3 = 0) (k : ∀ (t : gH), zM z t → ((-2147483648) ≤ gp_I t 75 1 ∧ gp_I t 75 1 ≤ 2147483647) → (gp_I t 84 0 = 0) → (gp_I t 84 1 = 0) → (gp_I t 84 2 = 0) → (gp_I t 84 3 = 0) → (gp_I t 85 0 = 0) → (gp_I t 85 1 = 0) → (gp_I t 85 2 = 0) → (gp_I t 85 3 = 0) → K (some (gp_i (-1000000001))) t) : gs_C L (d + 1) 3178 5 [gp_r (some 74), gp_i 0, gp_i 32, gp_i p2] s K := by
  refine s_3178_e _ _ _ ?_
  refine zm3076_2 hs (⟨_, rfl, ?_⟩)
  refine ⟨fun h_1 => ?_, fun h_1 => ?_⟩
  · exfalso; omega
  · refine ⟨fun h_2 => ?_, fun h_2 => ?_⟩
    · exfalso; omega
    · refine ⟨fun h_3 => ?_, fun h_3 => ?_⟩
      · exfalso; omega
      · refine ⟨fun h_4 => ?_, fun h_4 => ?_⟩
        · exfalso; omega
        · refine ⟨fun h_5 => ?_, fun h_5 => ?_⟩
          · refine s_3178_35 _ _ _ _ ?_
            refine ⟨fun h_6 => ?_, fun h_6 => ?_⟩
            · exfalso; omega
            · refine ⟨fun h_7 => ?_, fun h_7 => ?_⟩
              · exfalso; omega
              · refine s_3178_49 _ _ _ _ ?_
                refine ⟨fun h_8 => ?_, fun h_8 => ?_⟩
                · exfalso; omega
                · refine ⟨fun h_9 => ?_, fun h_9 => ?_⟩
                  · refine zm3074_8 hs (by omega) (by omega) (by omega) (by omega) (by omega) (by omega) (by omega) (by omega) (fun s_10 hs_11 q_12 q_13 q_14 q_15 q_16 q_17 q_18 q_19 q_20 => ⟨_, rfl, ?_⟩)
                    exact k s_10 hs_11 (by omega) (by omega) (by omega) (by omega) (by omega) (by omega) (by omega) (by omega) (by omega)
                  · exfalso; omega
          · exfalso; omega
set_option maxRecDepth 100000 in
/-- GatheredPointsModel.sheet [(1, 1), (8, 8), (-2147483648, -1)] -/
theorem zm3178_35 {z : gH} {L d : Nat} {K : Option gV → gH → Prop} {s : gH} (p2 : Int) (hs : zM z s) (h_p2 : (-2147483648) ≤ p2 ∧ p2 ≤ (-1)) (q0 : gp_I s 84 0 = 0) (q1 : gp_I s 84 1 = 0) (q2 : gp_I s 84 2 = 0) (q3 : gp_I s 84 3 = 0) (q4 : gp_I s 85 0 = 0) (q5 : gp_I s 85 1 = 0) (q6 : gp_I s 85 2 = 0) (q7 : gp_I s 85 3 = 0) (k : ∀ (t : gH), zM z t → ((-2147483648) ≤ gp_I t 75 3 ∧ gp_I t 75 3 ≤ 2147483647) → (gp_I t 84 0 = 0) → (gp_I t 84 1 = 0) → (gp_I t 84 2 = 0) → (gp_I t 84 3 = 0) → (gp_I t 85 0 = 0) → (gp_I t 85 1 = 0) → (gp_I t 85 2 = 0) → (gp_I t 85 3 = 0) → K (some (gp_i (-1000000003))) t) : gs_C L (d + 1) 3178 5 [gp_r (some 74), gp_i 1, gp_i 8, gp_i p2] s K := by
  refine s_3178_e _ _ _ ?_
  refine zm3076_3 hs (⟨_, rfl, ?_⟩)
  refine ⟨fun h_1 => ?_, fun h_1 => ?_⟩
  · exfalso; omega
  · refine ⟨fun h_2 => ?_, fun h_2 => ?_⟩
    · exfalso; omega
    · refine ⟨fun h_3 => ?_, fun h_3 => ?_⟩
      · refine s_3178_35 _ _ _ _ ?_
        refine ⟨fun h_4 => ?_, fun h_4 => ?_⟩
        · exfalso; omega
        · refine ⟨fun h_5 => ?_, fun h_5 => ?_⟩
          · refine zm3074_9 hs (by omega) (by omega) (by omega) (by omega) (by omega) (by omega) (by omega) (by omega) (fun s_6 hs_7 q_8 q_9 q_10 q_11 q_12 q_13 q_14 q_15 q_16 => ⟨_, rfl, ?_⟩)
            exact k s_6 hs_7 (by omega) (by omega) (by omega) (by omega) (by omega) (by omega) (by omega) (by omega) (by omega)
          · exfalso; omega
      · exfalso; omega
set_option maxRecDepth 100000 in
/-- GatheredPointsModel.sheet, the loop at 90 -/
theorem zm3178_36_l90_0 {z : gH} {L d : Nat} {K : Option gV → gH → Prop} (p2 : Int)  (k : ∀ (t : gH), zM z t → (gp_I t 84 0 = 0) → (gp_I t 84 1 = 8) → (gp_I t 84 2 = 0) → (gp_I t 84 3 = 0) → (gp_I t 85 0 = 0) → (0 ≤ gp_I t 85 1 ∧ gp_I t 85 1 ≤ 20) → (gp_I t 85 2 = 0) → (gp_I t 85 3 = 0) → K (some (gp_i 1)) t)  : ∀ (n : Nat) (v1 : Int) (v2 : Int) (v3 : Int) (v4 : Int) (s : gH), zM z s → (21 - v4).toNat < n → (v1 = 1) → (v2 = 8) → (0 ≤ v3 ∧ v3 ≤ 20) → (0 ≤ v4 ∧ v4 ≤ 20) → (gp_I s 84 0 = 0) → (gp_I s 84 1 = 8) → (gp_I s 84 2 = 0) → (gp_I s 84 3 = 0) → (gp_I s 85 0 = 0) → (0 ≤ gp_I s 85 1 ∧ gp_I s 85 1 ≤ 20) → (gp_I s 85 2 = 0) → (gp_I s 85 3 = 0) → gs_E L (d + 1) 3178 90 [gp_r (some 74), gp_i v1, gp_i v2, gp_i v3, gp_i v4] [] s K := by
  intro n
  induction n with
  | zero => intro v1 v2 v3 v4 s hs hm i0 i1 i2 i3 i4 i5 i6 i7 i8 i9 i10 i11; exact absurd hm (Nat.not_lt_zero _)
  | succ n ih =>
    intro v1 v2 v3 v4 s hs hm i0 i1 i2 i3 i4 i5 i6 i7 i8 i9 i10 i11
    subst i0
    subst i1
    refine s_3178_90 _ _ _ _ ?_
    refine ⟨fun h_1 => ?_, fun h_1 => ?_⟩
    · have w_2 := gz_w (20 * 1)
      have e_3 : gp_wr (20 * 1) = 20 := by omega
      try rw [e_3]
      have w_4 := gz_w (20 + v4)
      refine ⟨by omega, ?_⟩
      intro s_5 e_6
      have hs_7 : zM z s_5 := by rw [e_6]; exact zw83 hs _ _
      have q_8 : gp_I s_5 84 0 = 0 := by rw [e_6]; exact i4
      have q_9 : gp_I s_5 84 1 = 8 := by rw [e_6]; exact i5
      have q_10 : gp_I s_5 84 2 = 0 := by rw [e_6]; exact i6
      have q_11 : gp_I s_5 84 3 = 0 := by rw [e_6]; exact i7
      have q_12 : gp_I s_5 85 0 = 0 := by rw [e_6]; exact i8
      have q_13 : 0 ≤ gp_I s_5 85 1 ∧ gp_I s_5 85 1 ≤ 20 := by rw [e_6]; exact i9
      have q_14 : gp_I s_5 85 2 = 0 := by rw [e_6]; exact i10
      have q_15 : gp_I s_5 85 3 = 0 := by rw [e_6]; exact i11
      have w_16 := gz_w (v4 + 1)
      exact ih _ _ _ _ s_5 hs_7 (by omega) (by omega) (by omega) (by omega) (by omega) (by omega) (by omega) (by omega) (by omega) (by omega) (by omega) (by omega) (by omega)
    · have e_17 : v4 = 20 := by omega
      subst e_17
      exact k s hs (by omega) (by omega) (by omega) (by omega) (by omega) (by omega) (by omega) (by omega)
set_option maxRecDepth 100000 in
/-- GatheredPointsModel.sheet [(1, 1), (8, 8), (0, 20)] -/
theorem zm3178_36 {z : gH} {L d : Nat} {K : Option gV → gH → Prop} {s : gH} (p2 : Int) (hs : zM z s) (h_p2 : 0 ≤ p2 ∧ p2 ≤ 20) (q0 : gp_I s 84 0 = 0) (q1 : gp_I s 84 1 = 0) (q2 : gp_I s 84 2 = 0) (q3 : gp_I s 84 3 = 0) (q4 : gp_I s 85 0 = 0) (q5 : gp_I s 85 1 = 0) (q6 : gp_I s 85 2 = 0) (q7 : gp_I s 85 3 = 0) (k : ∀ (t : gH), zM z t → (gp_I t 84 0 = 0) → (gp_I t 84 1 = 8) → (gp_I t 84 2 = 0) → (gp_I t 84 3 = 0) → (gp_I t 85 0 = 0) → (0 ≤ gp_I t 85 1 ∧ gp_I t 85 1 ≤ 20) → (gp_I t 85 2 = 0) → (gp_I t 85 3 = 0) → K (some (gp_i 1)) t) : gs_C L (d + 1) 3178 5 [gp_r (some 74), gp_i 1, gp_i 8, gp_i p2] s K := by
  refine s_3178_e _ _ _ ?_
  refine zm3076_3 hs (⟨_, rfl, ?_⟩)
  refine ⟨fun h_1 => ?_, fun h_1 => ?_⟩
  · exfalso; omega
  · refine ⟨fun h_2 => ?_, fun h_2 => ?_⟩
    · exfalso; omega
    · refine ⟨fun h_3 => ?_, fun h_3 => ?_⟩
      · refine s_3178_35 _ _ _ _ ?_
        refine ⟨fun h_4 => ?_, fun h_4 => ?_⟩
        · exfalso; omega
        · refine ⟨fun h_5 => ?_, fun h_5 => ?_⟩
          · exfalso; omega
          · refine s_3178_49 _ _ _ _ ?_
            refine ⟨fun h_6 => ?_, fun h_6 => ?_⟩
            · exfalso; omega
            · refine ⟨fun h_7 => ?_, fun h_7 => ?_⟩
              · exfalso; omega
              · refine s_3178_65 _ _ _ _ ?_
                refine ⟨by omega, ?_⟩
                intro s_8 e_9
                have hs_10 : zM z s_8 := by rw [e_9]; exact zw84 hs _ _
                have q_11 : gp_I s_8 84 0 = 0 := by rw [e_9]; exact q0
                have q_12 : gp_I s_8 84 2 = 0 := by rw [e_9]; exact q2
                have q_13 : gp_I s_8 84 3 = 0 := by rw [e_9]; exact q3
                have q_14 : gp_I s_8 85 0 = 0 := by rw [e_9]; exact q4
                have q_15 : gp_I s_8 85 1 = 0 := by rw [e_9]; exact q5
                have q_16 : gp_I s_8 85 2 = 0 := by rw [e_9]; exact q6
                have q_17 : gp_I s_8 85 3 = 0 := by rw [e_9]; exact q7
                have q_18 : gp_I s_8 84 1 = 8 := by rw [e_9]; rfl
                refine ⟨fun h_20 => ?_, fun h_20 => ?_⟩
                · exfalso; omega
                · refine s_3178_86 _ _ _ _ _ _ ?_
                  refine ⟨by omega, ?_⟩
                  intro s_21 e_22
                  have hs_23 : zM z s_21 := by rw [e_22]; exact zw85 hs_10 _ _
                  have q_24 : gp_I s_21 84 0 = 0 := by rw [e_22]; exact q_11
                  have q_25 : gp_I s_21 84 2 = 0 := by rw [e_22]; exact q_12
                  have q_26 : gp_I s_21 84 3 = 0 := by rw [e_22]; exact q_13
                  have q_27 : gp_I s_21 85 0 = 0 := by rw [e_22]; exact q_14
                  have q_28 : gp_I s_21 85 2 = 0 := by rw [e_22]; exact q_16
                  have q_29 : gp_I s_21 85 3 = 0 := by rw [e_22]; exact q_17
                  have q_30 : gp_I s_21 84 1 = 8 := by rw [e_22]; exact q_18
                  have q_31 : 0 ≤ gp_I s_21 85 1 ∧ gp_I s_21 85 1 ≤ 20 := by have x_32 : gp_I s_21 85 1 = p2 := (by rw [e_22]; rfl); omega
                  exact zm3178_36_l90_0 p2 k _ _ _ _ _ s_21 hs_23 (Nat.lt_succ_self _) (by omega) (by omega) (by omega) (by omega) (by omega) (by omega) (by omega) (by omega) (by omega) (by omega) (by omega) (by omega)
      · exfalso; omega
set_option maxRecDepth 100000 in
/-- GatheredPointsModel.sheet [(1, 1), (8, 8), (21, 2147483647)] -/
theorem zm3178_37 {z : gH} {L d : Nat} {K : Option gV → gH → Prop} {s : gH} (p2 : Int) (hs : zM z s) (h_p2 : 21 ≤ p2 ∧ p2 ≤ 2147483647) (q0 : gp_I s 84 0 = 0) (q1 : gp_I s 84 1 = 0) (q2 : gp_I s 84 2 = 0) (q3 : gp_I s 84 3 = 0) (q4 : gp_I s 85 0 = 0) (q5 : gp_I s 85 1 = 0) (q6 : gp_I s 85 2 = 0) (q7 : gp_I s 85 3 = 0) (k : ∀ (t : gH), zM z t → ((-2147483648) ≤ gp_I t 75 1 ∧ gp_I t 75 1 ≤ 2147483647) → (gp_I t 84 0 = 0) → (gp_I t 84 1 = 0) → (gp_I t 84 2 = 0) → (gp_I t 84 3 = 0) → (gp_I t 85 0 = 0) → (gp_I t 85 1 = 0) → (gp_I t 85 2 = 0) → (gp_I t 85 3 = 0) → K (some (gp_i (-1000000001))) t) : gs_C L (d + 1) 3178 5 [gp_r (some 74), gp_i 1, gp_i 8, gp_i p2] s K := by
  refine s_3178_e _ _ _ ?_
  refine zm3076_3 hs (⟨_, rfl, ?_⟩)
  refine ⟨fun h_1 => ?_, fun h_1 => ?_⟩
  · exfalso; omega
  · refine ⟨fun h_2 => ?_, fun h_2 => ?_⟩
    · exfalso; omega
    · refine ⟨fun h_3 => ?_, fun h_3 => ?_⟩
      · refine s_3178_35 _ _ _ _ ?_
        refine ⟨fun h_4 => ?_, fun h_4 => ?_⟩
        · exfalso; omega
        · refine ⟨fun h_5 => ?_, fun h_5 => ?_⟩
          · exfalso; omega
          · refine s_3178_49 _ _ _ _ ?_
            refine ⟨fun h_6 => ?_, fun h_6 => ?_⟩
            · exfalso; omega
            · refine ⟨fun h_7 => ?_, fun h_7 => ?_⟩
              · refine zm3074_8 hs (by omega) (by omega) (by omega) (by omega) (by omega) (by omega) (by omega) (by omega) (fun s_8 hs_9 q_10 q_11 q_12 q_13 q_14 q_15 q_16 q_17 q_18 => ⟨_, rfl, ?_⟩)
                exact k s_8 hs_9 (by omega) (by omega) (by omega) (by omega) (by omega) (by omega) (by omega) (by omega) (by omega)
              · exfalso; omega
      · exfalso; omega
set_option maxRecDepth 100000 in
/-- GatheredPointsModel.sheet [(1, 1), (16, 16), (-2147483648, -1)] -/
theorem zm3178_38 {z : gH} {L d : Nat} {K : Option gV → gH → Prop} {s : gH} (p2 : Int) (hs : zM z s) (h_p2 : (-2147483648) ≤ p2 ∧ p2 ≤ (-1)) (q0 : gp_I s 84 0 = 0) (q1 : gp_I s 84 1 = 0) (q2 : gp_I s 84 2 = 0) (q3 : gp_I s 84 3 = 0) (q4 : gp_I s 85 0 = 0) (q5 : gp_I s 85 1 = 0) (q6 : gp_I s 85 2 = 0) (q7 : gp_I s 85 3 = 0) (k : ∀ (t : gH), zM z t → ((-2147483648) ≤ gp_I t 75 3 ∧ gp_I t 75 3 ≤ 2147483647) → (gp_I t 84 0 = 0) → (gp_I t 84 1 = 0) → (gp_I t 84 2 = 0) → (gp_I t 84 3 = 0) → (gp_I t 85 0 = 0) → (gp_I t 85 1 = 0) → (gp_I t 85 2 = 0) → (gp_I t 85 3 = 0) → K (some (gp_i (-1000000003))) t) : gs_C L (d + 1) 3178 5 [gp_r (some 74), gp_i 1, gp_i 16, gp_i p2] s K := by
  refine s_3178_e _ _ _ ?_
  refine zm3076_3 hs (⟨_, rfl, ?_⟩)
  refine ⟨fun h_1 => ?_, fun h_1 => ?_⟩
  · exfalso; omega
  · refine ⟨fun h_2 => ?_, fun h_2 => ?_⟩
    · exfalso; omega
    · refine ⟨fun h_3 => ?_, fun h_3 => ?_⟩
      · exfalso; omega
      · refine ⟨fun h_4 => ?_, fun h_4 => ?_⟩
        · refine s_3178_35 _ _ _ _ ?_
          refine ⟨fun h_5 => ?_, fun h_5 => ?_⟩
          · exfalso; omega
          · refine ⟨fun h_6 => ?_, fun h_6 => ?_⟩
            · refine zm3074_9 hs (by omega) (by omega) (by omega) (by omega) (by omega) (by omega) (by omega) (by omega) (fun s_7 hs_8 q_9 q_10 q_11 q_12 q_13 q_14 q_15 q_16 q_17 => ⟨_, rfl, ?_⟩)
              exact k s_7 hs_8 (by omega) (by omega) (by omega) (by omega) (by omega) (by omega) (by omega) (by omega) (by omega)
            · exfalso; omega
        · exfalso; omega
set_option maxRecDepth 100000 in
/-- GatheredPointsModel.sheet, the loop at 90 -/
theorem zm3178_39_l90_0 {z : gH} {L d : Nat} {K : Option gV → gH → Prop} (p2 : Int)  (k : ∀ (t : gH), zM z t → (gp_I t 84 0 = 0) → (gp_I t 84 1 = 16) → (gp_I t 84 2 = 0) → (gp_I t 84 3 = 0) → (gp_I t 85 0 = 0) → (0 ≤ gp_I t 85 1 ∧ gp_I t 85 1 ≤ 20) → (gp_I t 85 2 = 0) → (gp_I t 85 3 = 0) → K (some (gp_i 1)) t)  : ∀ (n : Nat) (v1 : Int) (v2 : Int) (v3 : Int) (v4 : Int) (s : gH), zM z s → (21 - v4).toNat < n → (v1 = 1) → (v2 = 16) → (0 ≤ v3 ∧ v3 ≤ 20) → (0 ≤ v4 ∧ v4 ≤ 20) → (gp_I s 84 0 = 0) → (gp_I s 84 1 = 16) → (gp_I s 84 2 = 0) → (gp_I s 84 3 = 0) → (gp_I s 85 0 = 0) → (0 ≤ gp_I s 85 1 ∧ gp_I s 85 1 ≤ 20) → (gp_I s 85 2 = 0) → (gp_I s 85 3 = 0) → gs_E L (d + 1) 3178 90 [gp_r (some 74), gp_i v1, gp_i v2, gp_i v3, gp_i v4] [] s K := by
  intro n
  induction n with
  | zero => intro v1 v2 v3 v4 s hs hm i0 i1 i2 i3 i4 i5 i6 i7 i8 i9 i10 i11; exact absurd hm (Nat.not_lt_zero _)
  | succ n ih =>
    intro v1 v2 v3 v4 s hs hm i0 i1 i2 i3 i4 i5 i6 i7 i8 i9 i10 i11
    subst i0
    subst i1
    refine s_3178_90 _ _ _ _ ?_
    refine ⟨fun h_1 => ?_, fun h_1 => ?_⟩
    · have w_2 := gz_w (20 * 1)
      have e_3 : gp_wr (20 * 1) = 20 := by omega
      try rw [e_3]
      have w_4 := gz_w (20 + v4)
      refine ⟨by omega, ?_⟩
      intro s_5 e_6
      have hs_7 : zM z s_5 := by rw [e_6]; exact zw83 hs _ _
      have q_8 : gp_I s_5 84 0 = 0 := by rw [e_6]; exact i4
      have q_9 : gp_I s_5 84 1 = 16 := by rw [e_6]; exact i5
      have q_10 : gp_I s_5 84 2 = 0 := by rw [e_6]; exact i6
      have q_11 : gp_I s_5 84 3 = 0 := by rw [e_6]; exact i7
      have q_12 : gp_I s_5 85 0 = 0 := by rw [e_6]; exact i8
      have q_13 : 0 ≤ gp_I s_5 85 1 ∧ gp_I s_5 85 1 ≤ 20 := by rw [e_6]; exact i9
      have q_14 : gp_I s_5 85 2 = 0 := by rw [e_6]; exact i10
      have q_15 : gp_I s_5 85 3 = 0 := by rw [e_6]; exact i11
      have w_16 := gz_w (v4 + 1)
      exact ih _ _ _ _ s_5 hs_7 (by omega) (by omega) (by omega) (by omega) (by omega) (by omega) (by omega) (by omega) (by omega) (by omega) (by omega) (by omega) (by omega)
    · have e_17 : v4 = 20 := by omega
      subst e_17
      exact k s hs (by omega) (by omega) (by omega) (by omega) (by omega) (by omega) (by omega) (by omega)
set_option maxRecDepth 100000 in
/-- GatheredPointsModel.sheet [(1, 1), (16, 16), (0, 20)] -/
theorem zm3178_39 {z : gH} {L d : Nat} {K : Option gV → gH → Prop} {s : gH} (p2 : Int) (hs : zM z s) (h_p2 : 0 ≤ p2 ∧ p2 ≤ 20) (q0 : gp_I s 84 0 = 0) (q1 : gp_I s 84 1 = 0) (q2 : gp_I s 84 2 = 0) (q3 : gp_I s 84 3 = 0) (q4 : gp_I s 85 0 = 0) (q5 : gp_I s 85 1 = 0) (q6 : gp_I s 85 2 = 0) (q7 : gp_I s 85 3 = 0) (k : ∀ (t : gH), zM z t → (gp_I t 84 0 = 0) → (gp_I t 84 1 = 16) → (gp_I t 84 2 = 0) → (gp_I t 84 3 = 0) → (gp_I t 85 0 = 0) → (0 ≤ gp_I t 85 1 ∧ gp_I t 85 1 ≤ 20) → (gp_I t 85 2 = 0) → (gp_I t 85 3 = 0) → K (some (gp_i 1)) t) : gs_C L (d + 1) 3178 5 [gp_r (some 74), gp_i 1, gp_i 16, gp_i p2] s K := by
  refine s_3178_e _ _ _ ?_
  refine zm3076_3 hs (⟨_, rfl, ?_⟩)
  refine ⟨fun h_1 => ?_, fun h_1 => ?_⟩
  · exfalso; omega
  · refine ⟨fun h_2 => ?_, fun h_2 => ?_⟩
    · exfalso; omega
    · refine ⟨fun h_3 => ?_, fun h_3 => ?_⟩
      · exfalso; omega
      · refine ⟨fun h_4 => ?_, fun h_4 => ?_⟩
        · refine s_3178_35 _ _ _ _ ?_
          refine ⟨fun h_5 => ?_, fun h_5 => ?_⟩
          · exfalso; omega
          · refine ⟨fun h_6 => ?_, fun h_6 => ?_⟩
            · exfalso; omega
            · refine s_3178_49 _ _ _ _ ?_
              refine ⟨fun h_7 => ?_, fun h_7 => ?_⟩
              · exfalso; omega
              · refine ⟨fun h_8 => ?_, fun h_8 => ?_⟩
                · exfalso; omega
                · refine s_3178_65 _ _ _ _ ?_
                  refine ⟨by omega, ?_⟩
                  intro s_9 e_10
                  have hs_11 : zM z s_9 := by rw [e_10]; exact zw84 hs _ _
                  have q_12 : gp_I s_9 84 0 = 0 := by rw [e_10]; exact q0
                  have q_13 : gp_I s_9 84 2 = 0 := by rw [e_10]; exact q2
                  have q_14 : gp_I s_9 84 3 = 0 := by rw [e_10]; exact q3
                  have q_15 : gp_I s_9 85 0 = 0 := by rw [e_10]; exact q4
                  have q_16 : gp_I s_9 85 1 = 0 := by rw [e_10]; exact q5
                  have q_17 : gp_I s_9 85 2 = 0 := by rw [e_10]; exact q6
                  have q_18 : gp_I s_9 85 3 = 0 := by rw [e_10]; exact q7
                  have q_19 : gp_I s_9 84 1 = 16 := by rw [e_10]; rfl
                  refine ⟨fun h_21 => ?_, fun h_21 => ?_⟩
                  · exfalso; omega
                  · refine s_3178_86 _ _ _ _ _ _ ?_
                    refine ⟨by omega, ?_⟩
                    intro s_22 e_23
                    have hs_24 : zM z s_22 := by rw [e_23]; exact zw85 hs_11 _ _
                    have q_25 : gp_I s_22 84 0 = 0 := by rw [e_23]; exact q_12
                    have q_26 : gp_I s_22 84 2 = 0 := by rw [e_23]; exact q_13
                    have q_27 : gp_I s_22 84 3 = 0 := by rw [e_23]; exact q_14
                    have q_28 : gp_I s_22 85 0 = 0 := by rw [e_23]; exact q_15
                    have q_29 : gp_I s_22 85 2 = 0 := by rw [e_23]; exact q_17
                    have q_30 : gp_I s_22 85 3 = 0 := by rw [e_23]; exact q_18
                    have q_31 : gp_I s_22 84 1 = 16 := by rw [e_23]; exact q_19
                    have q_32 : 0 ≤ gp_I s_22 85 1 ∧ gp_I s_22 85 1 ≤ 20 := by have x_33 : gp_I s_22 85 1 = p2 := (by rw [e_23]; rfl); omega
                    exact zm3178_39_l90_0 p2 k _ _ _ _ _ s_22 hs_24 (Nat.lt_succ_self _) (by omega) (by omega) (by omega) (by omega) (by omega) (by omega) (by omega) (by omega) (by omega) (by omega) (by omega) (by omega)
        · exfalso; omega
set_option maxRecDepth 100000 in
/-- GatheredPointsModel.sheet [(1, 1), (16, 16), (21, 2147483647)] -/
theorem zm3178_40 {z : gH} {L d : Nat} {K : Option gV → gH → Prop} {s : gH} (p2 : Int) (hs : zM z s) (h_p2 : 21 ≤ p2 ∧ p2 ≤ 2147483647) (q0 : gp_I s 84 0 = 0) (q1 : gp_I s 84 1 = 0) (q2 : gp_I s 84 2 = 0) (q3 : gp_I s 84 3 = 0) (q4 : gp_I s 85 0 = 0) (q5 : gp_I s 85 1 = 0) (q6 : gp_I s 85 2 = 0) (q7 : gp_I s 85 3 = 0) (k : ∀ (t : gH), zM z t → ((-2147483648) ≤ gp_I t 75 1 ∧ gp_I t 75 1 ≤ 2147483647) → (gp_I t 84 0 = 0) → (gp_I t 84 1 = 0) → (gp_I t 84 2 = 0) → (gp_I t 84 3 = 0) → (gp_I t 85 0 = 0) → (gp_I t 85 1 = 0) → (gp_I t 85 2 = 0) → (gp_I t 85 3 = 0) → K (some (gp_i (-1000000001))) t) : gs_C L (d + 1) 3178 5 [gp_r (some 74), gp_i 1, gp_i 16, gp_i p2] s K := by
  refine s_3178_e _ _ _ ?_
  refine zm3076_3 hs (⟨_, rfl, ?_⟩)
  refine ⟨fun h_1 => ?_, fun h_1 => ?_⟩
  · exfalso; omega
  · refine ⟨fun h_2 => ?_, fun h_2 => ?_⟩
    · exfalso; omega
    · refine ⟨fun h_3 => ?_, fun h_3 => ?_⟩
      · exfalso; omega
      · refine ⟨fun h_4 => ?_, fun h_4 => ?_⟩
        · refine s_3178_35 _ _ _ _ ?_
          refine ⟨fun h_5 => ?_, fun h_5 => ?_⟩
          · exfalso; omega
          · refine ⟨fun h_6 => ?_, fun h_6 => ?_⟩
            · exfalso; omega
            · refine s_3178_49 _ _ _ _ ?_
              refine ⟨fun h_7 => ?_, fun h_7 => ?_⟩
              · exfalso; omega
              · refine ⟨fun h_8 => ?_, fun h_8 => ?_⟩
                · refine zm3074_8 hs (by omega) (by omega) (by omega) (by omega) (by omega) (by omega) (by omega) (by omega) (fun s_9 hs_10 q_11 q_12 q_13 q_14 q_15 q_16 q_17 q_18 q_19 => ⟨_, rfl, ?_⟩)
                  exact k s_9 hs_10 (by omega) (by omega) (by omega) (by omega) (by omega) (by omega) (by omega) (by omega) (by omega)
                · exfalso; omega
        · exfalso; omega
set_option maxRecDepth 100000 in
/-- GatheredPointsModel.sheet [(1, 1), (32, 32), (-2147483648, -1)] -/
theorem zm3178_41 {z : gH} {L d : Nat} {K : Option gV → gH → Prop} {s : gH} (p2 : Int) (hs : zM z s) (h_p2 : (-2147483648) ≤ p2 ∧ p2 ≤ (-1)) (q0 : gp_I s 84 0 = 0) (q1 : gp_I s 84 1 = 0) (q2 : gp_I s 84 2 = 0) (q3 : gp_I s 84 3 = 0) (q4 : gp_I s 85 0 = 0) (q5 : gp_I s 85 1 = 0) (q6 : gp_I s 85 2 = 0) (q7 : gp_I s 85 3 = 0) (k : ∀ (t : gH), zM z t → ((-2147483648) ≤ gp_I t 75 3 ∧ gp_I t 75 3 ≤ 2147483647) → (gp_I t 84 0 = 0) → (gp_I t 84 1 = 0) → (gp_I t 84 2 = 0) → (gp_I t 84 3 = 0) → (gp_I t 85 0 = 0) → (gp_I t 85 1 = 0) → (gp_I t 85 2 = 0) → (gp_I t 85 3 = 0) → K (some (gp_i (-1000000003))) t) : gs_C L (d + 1) 3178 5 [gp_r (some 74), gp_i 1, gp_i 32, gp_i p2] s K := by
  refine s_3178_e _ _ _ ?_
  refine zm3076_3 hs (⟨_, rfl, ?_⟩)
  refine ⟨fun h_1 => ?_, fun h_1 => ?_⟩
  · exfalso; omega
  · refine ⟨fun h_2 => ?_, fun h_2 => ?_⟩
    · exfalso; omega
    · refine ⟨fun h_3 => ?_, fun h_3 => ?_⟩
      · exfalso; omega
      · refine ⟨fun h_4 => ?_, fun h_4 => ?_⟩
        · exfalso; omega
        · refine ⟨fun h_5 => ?_, fun h_5 => ?_⟩
          · refine s_3178_35 _ _ _ _ ?_
            refine ⟨fun h_6 => ?_, fun h_6 => ?_⟩
            · exfalso; omega
            · refine ⟨fun h_7 => ?_, fun h_7 => ?_⟩
              · refine zm3074_9 hs (by omega) (by omega) (by omega) (by omega) (by omega) (by omega) (by omega) (by omega) (fun s_8 hs_9 q_10 q_11 q_12 q_13 q_14 q_15 q_16 q_17 q_18 => ⟨_, rfl, ?_⟩)
                exact k s_8 hs_9 (by omega) (by omega) (by omega) (by omega) (by omega) (by omega) (by omega) (by omega) (by omega)
              · exfalso; omega
          · exfalso; omega
set_option maxRecDepth 100000 in
/-- GatheredPointsModel.sheet, the loop at 90 -/
theorem zm3178_42_l90_0 {z : gH} {L d : Nat} {K : Option gV → gH → Prop} (p2 : Int)  (k : ∀ (t : gH), zM z t → (gp_I t 84 0 = 0) → (gp_I t 84 1 = 32) → (gp_I t 84 2 = 0) → (gp_I t 84 3 = 0) → (gp_I t 85 0 = 0) → (0 ≤ gp_I t 85 1 ∧ gp_I t 85 1 ≤ 20) → (gp_I t 85 2 = 0) → (gp_I t 85 3 = 0) → K (some (gp_i 1)) t)  : ∀ (n : Nat) (v1 : Int) (v2 : Int) (v3 : Int) (v4 : Int) (s : gH), zM z s → (21 - v4).toNat < n → (v1 = 1) → (v2 = 32) → (0 ≤ v3 ∧ v3 ≤ 20) → (0 ≤ v4 ∧ v4 ≤ 20) → (gp_I s 84 0 = 0) → (gp_I s 84 1 = 32) → (gp_I s 84 2 = 0) → (gp_I s 84 3 = 0) → (gp_I s 85 0 = 0) → (0 ≤ gp_I s 85 1 ∧ gp_I s 85 1 ≤ 20) → (gp_I s 85 2 = 0) → (gp_I s 85 3 = 0) → gs_E L (d + 1) 3178 90 [gp_r (some 74), gp_i v1, gp_i v2, gp_i v3, gp_i v4] [] s K := by
  intro n
  induction n with
  | zero => intro v1 v2 v3 v4 s hs hm i0 i1 i2 i3 i4 i5 i6 i7 i8 i9 i10 i11; exact absurd hm (Nat.not_lt_zero _)
  | succ n ih =>
    intro v1 v2 v3 v4 s hs hm i0 i1 i2 i3 i4 i5 i6 i7 i8 i9 i10 i11
    subst i0
    subst i1
    refine s_3178_90 _ _ _ _ ?_
    refine ⟨fun h_1 => ?_, fun h_1 => ?_⟩
    · have w_2 := gz_w (20 * 1)
      have e_3 : gp_wr (20 * 1) = 20 := by omega
      try rw [e_3]
      have w_4 := gz_w (20 + v4)
      refine ⟨by omega, ?_⟩
      intro s_5 e_6
      have hs_7 : zM z s_5 := by rw [e_6]; exact zw83 hs _ _
      have q_8 : gp_I s_5 84 0 = 0 := by rw [e_6]; exact i4
      have q_9 : gp_I s_5 84 1 = 32 := by rw [e_6]; exact i5
      have q_10 : gp_I s_5 84 2 = 0 := by rw [e_6]; exact i6
      have q_11 : gp_I s_5 84 3 = 0 := by rw [e_6]; exact i7
      have q_12 : gp_I s_5 85 0 = 0 := by rw [e_6]; exact i8
      have q_13 : 0 ≤ gp_I s_5 85 1 ∧ gp_I s_5 85 1 ≤ 20 := by rw [e_6]; exact i9
      have q_14 : gp_I s_5 85 2 = 0 := by rw [e_6]; exact i10
      have q_15 : gp_I s_5 85 3 = 0 := by rw [e_6]; exact i11
      have w_16 := gz_w (v4 + 1)
      exact ih _ _ _ _ s_5 hs_7 (by omega) (by omega) (by omega) (by omega) (by omega) (by omega) (by omega) (by omega) (by omega) (by omega) (by omega) (by omega) (by omega)
    · have e_17 : v4 = 20 := by omega
      subst e_17
      exact k s hs (by omega) (by omega) (by omega) (by omega) (by omega) (by omega) (by omega) (by omega)
set_option maxRecDepth 100000 in
/-- GatheredPointsModel.sheet [(1, 1), (32, 32), (0, 20)] -/
theorem zm3178_42 {z : gH} {L d : Nat} {K : Option gV → gH → Prop} {s : gH} (p2 : Int) (hs : zM z s) (h_p2 : 0 ≤ p2 ∧ p2 ≤ 20) (q0 : gp_I s 84 0 = 0) (q1 : gp_I s 84 1 = 0) (q2 : gp_I s 84 2 = 0) (q3 : gp_I s 84 3 = 0) (q4 : gp_I s 85 0 = 0) (q5 : gp_I s 85 1 = 0) (q6 : gp_I s 85 2 = 0) (q7 : gp_I s 85 3 = 0) (k : ∀ (t : gH), zM z t → (gp_I t 84 0 = 0) → (gp_I t 84 1 = 32) → (gp_I t 84 2 = 0) → (gp_I t 84 3 = 0) → (gp_I t 85 0 = 0) → (0 ≤ gp_I t 85 1 ∧ gp_I t 85 1 ≤ 20) → (gp_I t 85 2 = 0) → (gp_I t 85 3 = 0) → K (some (gp_i 1)) t) : gs_C L (d + 1) 3178 5 [gp_r (some 74), gp_i 1, gp_i 32, gp_i p2] s K := by
  refine s_3178_e _ _ _ ?_
  refine zm3076_3 hs (⟨_, rfl, ?_⟩)
  refine ⟨fun h_1 => ?_, fun h_1 => ?_⟩
  · exfalso; omega
  · refine ⟨fun h_2 => ?_, fun h_2 => ?_⟩
    · exfalso; omega
    · refine ⟨fun h_3 => ?_, fun h_3 => ?_⟩
      · exfalso; omega
      · refine ⟨fun h_4 => ?_, fun h_4 => ?_⟩
        · exfalso; omega
        · refine ⟨fun h_5 => ?_, fun h_5 => ?_⟩
          · refine s_3178_35 _ _ _ _ ?_
            refine ⟨fun h_6 => ?_, fun h_6 => ?_⟩
            · exfalso; omega
            · refine ⟨fun h_7 => ?_, fun h_7 => ?_⟩
              · exfalso; omega
              · refine s_3178_49 _ _ _ _ ?_
                refine ⟨fun h_8 => ?_, fun h_8 => ?_⟩
                · exfalso; omega
                · refine ⟨fun h_9 => ?_, fun h_9 => ?_⟩
                  · exfalso; omega
                  · refine s_3178_65 _ _ _ _ ?_
                    refine ⟨by omega, ?_⟩
                    intro s_10 e_11
                    have hs_12 : zM z s_10 := by rw [e_11]; exact zw84 hs _ _
                    have q_13 : gp_I s_10 84 0 = 0 := by rw [e_11]; exact q0
                    have q_14 : gp_I s_10 84 2 = 0 := by rw [e_11]; exact q2
                    have q_15 : gp_I s_10 84 3 = 0 := by rw [e_11]; exact q3
                    have q_16 : gp_I s_10 85 0 = 0 := by rw [e_11]; exact q4
                    have q_17 : gp_I s_10 85 1 = 0 := by rw [e_11]; exact q5
                    have q_18 : gp_I s_10 85 2 = 0 := by rw [e_11]; exact q6
                    have q_19 : gp_I s_10 85 3 = 0 := by rw [e_11]; exact q7
                    have q_20 : gp_I s_10 84 1 = 32 := by rw [e_11]; rfl
                    refine ⟨fun h_22 => ?_, fun h_22 => ?_⟩
                    · exfalso; omega
                    · refine s_3178_86 _ _ _ _ _ _ ?_
                      refine ⟨by omega, ?_⟩
                      intro s_23 e_24
                      have hs_25 : zM z s_23 := by rw [e_24]; exact zw85 hs_12 _ _
                      have q_26 : gp_I s_23 84 0 = 0 := by rw [e_24]; exact q_13
                      have q_27 : gp_I s_23 84 2 = 0 := by rw [e_24]; exact q_14
                      have q_28 : gp_I s_23 84 3 = 0 := by rw [e_24]; exact q_15
                      have q_29 : gp_I s_23 85 0 = 0 := by rw [e_24]; exact q_16
                      have q_30 : gp_I s_23 85 2 = 0 := by rw [e_24]; exact q_18
                      have q_31 : gp_I s_23 85 3 = 0 := by rw [e_24]; exact q_19
                      have q_32 : gp_I s_23 84 1 = 32 := by rw [e_24]; exact q_20
                      have q_33 : 0 ≤ gp_I s_23 85 1 ∧ gp_I s_23 85 1 ≤ 20 := by have x_34 : gp_I s_23 85 1 = p2 := (by rw [e_24]; rfl); omega
                      exact zm3178_42_l90_0 p2 k _ _ _ _ _ s_23 hs_25 (Nat.lt_succ_self _) (by omega) (by omega) (by omega) (by omega) (by omega) (by omega) (by omega) (by omega) (by omega) (by omega) (by omega) (by omega)
          · exfalso; omega
set_option maxRecDepth 100000 in
/-- GatheredPointsModel.sheet [(1, 1), (32, 32), (21, 2147483647)] -/
theorem zm3178_43 {z : gH} {L d : Nat} {K : Option gV → gH → Prop} {s : gH} (p2 : Int) (hs : zM z s) (h_p2 : 21 ≤ p2 ∧ p2 ≤ 2147483647) (q0 : gp_I s 84 0 = 0) (q1 : gp_I s 84 1 = 0) (q2 : gp_I s 84 2 = 0) (q3 : gp_I s 84 3 = 0) (q4 : gp_I s 85 0 = 0) (q5 : gp_I s 85 1 = 0) (q6 : gp_I s 85 2 = 0) (q7 : gp_I s 85 3 = 0) (k : ∀ (t : gH), zM z t → ((-2147483648) ≤ gp_I t 75 1 ∧ gp_I t 75 1 ≤ 2147483647) → (gp_I t 84 0 = 0) → (gp_I t 84 1 = 0) → (gp_I t 84 2 = 0) → (gp_I t 84 3 = 0) → (gp_I t 85 0 = 0) → (gp_I t 85 1 = 0) → (gp_I t 85 2 = 0) → (gp_I t 85 3 = 0) → K (some (gp_i (-1000000001))) t) : gs_C L (d + 1) 3178 5 [gp_r (some 74), gp_i 1, gp_i 32, gp_i p2] s K := by
  refine s_3178_e _ _ _ ?_
  refine zm3076_3 hs (⟨_, rfl, ?_⟩)
  refine ⟨fun h_1 => ?_, fun h_1 => ?_⟩
  · exfalso; omega
  · refine ⟨fun h_2 => ?_, fun h_2 => ?_⟩
    · exfalso; omega
    · refine ⟨fun h_3 => ?_, fun h_3 => ?_⟩
      · exfalso; omega
      · refine ⟨fun h_4 => ?_, fun h_4 => ?_⟩
        · exfalso; omega
        · refine ⟨fun h_5 => ?_, fun h_5 => ?_⟩
          · refine s_3178_35 _ _ _ _ ?_
            refine ⟨fun h_6 => ?_, fun h_6 => ?_⟩
            · exfalso; omega
            · refine ⟨fun h_7 => ?_, fun h_7 => ?_⟩
              · exfalso; omega
              · refine s_3178_49 _ _ _ _ ?_
                refine ⟨fun h_8 => ?_, fun h_8 => ?_⟩
                · exfalso; omega
                · refine ⟨fun h_9 => ?_, fun h_9 => ?_⟩
                  · refine zm3074_8 hs (by omega) (by omega) (by omega) (by omega) (by omega) (by omega) (by omega) (by omega) (fun s_10 hs_11 q_12 q_13 q_14 q_15 q_16 q_17 q_18 q_19 q_20 => ⟨_, rfl, ?_⟩)
                    exact k s_10 hs_11 (by omega) (by omega) (by omega) (by omega) (by omega) (by omega) (by omega) (by omega) (by omega)
                  · exfalso; omega
          · exfalso; omega
set_option maxRecDepth 100000 in
/-- GatheredPointsModel.sheet [(2, 2), (8, 8), (-2147483648, -1)] -/
theorem zm3178_44 {z : gH} {L d : Nat} {K : Option gV → gH → Prop} {s : gH} (p2 : Int) (hs : zM z s) (h_p2 : (-2147483648) ≤ p2 ∧ p2 ≤ (-1)) (q0 : gp_I s 84 0 = 0) (q1 : gp_I s 84 1 = 0) (q2 : gp_I s 84 2 = 0) (q3 : gp_I s 84 3 = 0) (q4 : gp_I s 85 0 = 0) (q5 : gp_I s 85 1 = 0) (q6 : gp_I s 85 2 = 0) (q7 : gp_I s 85 3 = 0) (k : ∀ (t : gH), zM z t → ((-2147483648) ≤ gp_I t 75 3 ∧ gp_I t 75 3 ≤ 2147483647) → (gp_I t 84 0 = 0) → (gp_I t 84 1 = 0) → (gp_I t 84 2 = 0) → (gp_I t 84 3 = 0) → (gp_I t 85 0 = 0) → (gp_I t 85 1 = 0) → (gp_I t 85 2 = 0) → (gp_I t 85 3 = 0) → K (some (gp_i (-1000000003))) t) : gs_C L (d + 1) 3178 5 [gp_r (some 74), gp_i 2, gp_i 8, gp_i p2] s K := by
  refine s_3178_e _ _ _ ?_
  refine zm3076_4 hs (⟨_, rfl, ?_⟩)
  refine ⟨fun h_1 => ?_, fun h_1 => ?_⟩
  · exfalso; omega
  · refine ⟨fun h_2 => ?_, fun h_2 => ?_⟩
    · exfalso; omega
    · refine ⟨fun h_3 => ?_, fun h_3 => ?_⟩
      · refine s_3178_35 _ _ _ _ ?_
        refine ⟨fun h_4 => ?_, fun h_4 => ?_⟩
        · exfalso; omega
        · refine ⟨fun h_5 => ?_, fun h_5 => ?_⟩
          · refine zm3074_9 hs (by omega) (by omega) (by omega) (by omega) (by omega) (by omega) (by omega) (by omega) (fun s_6 hs_7 q_8 q_9 q_10 q_11 q_12 q_13 q_14 q_15 q_16 => ⟨_, rfl, ?_⟩)
            exact k s_6 hs_7 (by omega) (by omega) (by omega) (by omega) (by omega) (by omega) (by omega) (by omega) (by omega)
          · exfalso; omega
      · exfalso; omega
set_option maxRecDepth 100000 in
/-- GatheredPointsModel.sheet, the loop at 90 -/
theorem zm3178_45_l90_0 {z : gH} {L d : Nat} {K : Option gV → gH → Prop} (p2 : Int)  (k : ∀ (t : gH), zM z t → (gp_I t 84 0 = 0) → (gp_I t 84 1 = 0) → (gp_I t 84 2 = 8) → (gp_I t 84 3 = 0) → (gp_I t 85 0 = 0) → (gp_I t 85 1 = 0) → (0 ≤ gp_I t 85 2 ∧ gp_I t 85 2 ≤ 20) → (gp_I t 85 3 = 0) → K (some (gp_i 1)) t)  : ∀ (n : Nat) (v1 : Int) (v2 : Int) (v3 : Int) (v4 : Int) (s : gH), zM z s → (21 - v4).toNat < n → (v1 = 2) → (v2 = 8) → (0 ≤ v3 ∧ v3 ≤ 20) → (0 ≤ v4 ∧ v4 ≤ 20) → (gp_I s 84 0 = 0) → (gp_I s 84 1 = 0) → (gp_I s 84 2 = 8) → (gp_I s 84 3 = 0) → (gp_I s 85 0 = 0) → (gp_I s 85 1 = 0) → (0 ≤ gp_I s 85 2 ∧ gp_I s 85 2 ≤ 20) → (gp_I s 85 3 = 0) → gs_E L (d + 1) 3178 90 [gp_r (some 74), gp_i v1, gp_i v2, gp_i v3, gp_i v4] [] s K := by
  intro n
  induction n with
  | zero => intro v1 v2 v3 v4 s hs hm i0 i1 i2 i3 i4 i5 i6 i7 i8 i9 i10 i11; exact absurd hm (Nat.not_lt_zero _)
  | succ n ih =>
    intro v1 v2 v3 v4 s hs hm i0 i1 i2 i3 i4 i5 i6 i7 i8 i9 i10 i11
    subst i0
    subst i1
    refine s_3178_90 _ _ _ _ ?_
    refine ⟨fun h_1 => ?_, fun h_1 => ?_⟩
    · have w_2 := gz_w (20 * 2)
      have e_3 : gp_wr (20 * 2) = 40 := by omega
      try rw [e_3]
      have w_4 := gz_w (40 + v4)
      refine ⟨by omega, ?_⟩
      intro s_5 e_6
      have hs_7 : zM z s_5 := by rw [e_6]; exact zw83 hs _ _
      have q_8 : gp_I s_5 84 0 = 0 := by rw [e_6]; exact i4
      have q_9 : gp_I s_5 84 1 = 0 := by rw [e_6]; exact i5
      have q_10 : gp_I s_5 84 2 = 8 := by rw [e_6]; exact i6
      have q_11 : gp_I s_5 84 3 = 0 := by rw [e_6]; exact i7
      have q_12 : gp_I s_5 85 0 = 0 := by rw [e_6]; exact i8
      have q_13 : gp_I s_5 85 1 = 0 := by rw [e_6]; exact i9
      have q_14 : 0 ≤ gp_I s_5 85 2 ∧ gp_I s_5 85 2 ≤ 20 := by rw [e_6]; exact i10
      have q_15 : gp_I s_5 85 3 = 0 := by rw [e_6]; exact i11
      have w_16 := gz_w (v4 + 1)
      exact ih _ _ _ _ s_5 hs_7 (by omega) (by omega) (by omega) (by omega) (by omega) (by omega) (by omega) (by omega) (by omega) (by omega) (by omega) (by omega) (by omega)
    · have e_17 : v4 = 20 := by omega
      subst e_17
      exact k s hs (by omega) (by omega) (by omega) (by omega) (by omega) (by omega) (by omega) (by omega)
set_option maxRecDepth 100000 in
/-- GatheredPointsModel.sheet [(2, 2), (8, 8), (0, 20)] -/
theorem zm3178_45 {z : gH} {L d : Nat} {K : Option gV → gH → Prop} {s : gH} (p2 : Int) (hs : zM z s) (h_p2 : 0 ≤ p2 ∧ p2 ≤ 20) (q0 : gp_I s 84 0 = 0) (q1 : gp_I s 84 1 = 0) (q2 : gp_I s 84 2 = 0) (q3 : gp_I s 84 3 = 0) (q4 : gp_I s 85 0 = 0) (q5 : gp_I s 85 1 = 0) (q6 : gp_I s 85 2 = 0) (q7 : gp_I s 85 3 = 0) (k : ∀ (t : gH), zM z t → (gp_I t 84 0 = 0) → (gp_I t 84 1 = 0) → (gp_I t 84 2 = 8) → (gp_I t 84 3 = 0) → (gp_I t 85 0 = 0) → (gp_I t 85 1 = 0) → (0 ≤ gp_I t 85 2 ∧ gp_I t 85 2 ≤ 20) → (gp_I t 85 3 = 0) → K (some (gp_i 1)) t) : gs_C L (d + 1) 3178 5 [gp_r (some 74), gp_i 2, gp_i 8, gp_i p2] s K := by
  refine s_3178_e _ _ _ ?_
  refine zm3076_4 hs (⟨_, rfl, ?_⟩)
  refine ⟨fun h_1 => ?_, fun h_1 => ?_⟩
  · exfalso; omega
  · refine ⟨fun h_2 => ?_, fun h_2 => ?_⟩
    · exfalso; omega
    · refine ⟨fun h_3 => ?_, fun h_3 => ?_⟩
      · refine s_3178_35 _ _ _ _ ?_
        refine ⟨fun h_4 => ?_, fun h_4 => ?_⟩
        · exfalso; omega
        · refine ⟨fun h_5 => ?_, fun h_5 => ?_⟩
          · exfalso; omega
          · refine s_3178_49 _ _ _ _ ?_
            refine ⟨fun h_6 => ?_, fun h_6 => ?_⟩
            · exfalso; omega
            · refine ⟨fun h_7 => ?_, fun h_7 => ?_⟩
              · exfalso; omega
              · refine s_3178_65 _ _ _ _ ?_
                refine ⟨by omega, ?_⟩
                intro s_8 e_9
                have hs_10 : zM z s_8 := by rw [e_9]; exact zw84 hs _ _
                have q_11 : gp_I s_8 84 0 = 0 := by rw [e_9]; exact q0
                have q_12 : gp_I s_8 84 1 = 0 := by rw [e_9]; exact q1
                have q_13 : gp_I s_8 84 3 = 0 := by rw [e_9]; exact q3
                have q_14 : gp_I s_8 85 0 = 0 := by rw [e_9]; exact q4
                have q_15 : gp_I s_8 85 1 = 0 := by rw [e_9]; exact q5
                have q_16 : gp_I s_8 85 2 = 0 := by rw [e_9]; exact q6
                have q_17 : gp_I s_8 85 3 = 0 := by rw [e_9]; exact q7
                have q_18 : gp_I s_8 84 2 = 8 := by rw [e_9]; rfl
                refine ⟨fun h_20 => ?_, fun h_20 => ?_⟩
                · exfalso; omega
                · refine s_3178_86 _ _ _ _ _ _ ?_
                  refine ⟨by omega, ?_⟩
                  intro s_21 e_22
                  have hs_23 : zM z s_21 := by rw [e_22]; exact zw85 hs_10 _ _
                  have q_24 : gp_I s_21 84 0 = 0 := by rw [e_22]; exact q_11
                  have q_25 : gp_I s_21 84 1 = 0 := by rw [e_22]; exact q_12
                  have q_26 : gp_I s_21 84 3 = 0 := by rw [e_22]; exact q_13
                  have q_27 : gp_I s_21 85 0 = 0 := by rw [e_22]; exact q_14
                  have q_28 : gp_I s_21 85 1 = 0 := by rw [e_22]; exact q_15
                  have q_29 : gp_I s_21 85 3 = 0 := by rw [e_22]; exact q_17
                  have q_30 : gp_I s_21 84 2 = 8 := by rw [e_22]; exact q_18
                  have q_31 : 0 ≤ gp_I s_21 85 2 ∧ gp_I s_21 85 2 ≤ 20 := by have x_32 : gp_I s_21 85 2 = p2 := (by rw [e_22]; rfl); omega
                  exact zm3178_45_l90_0 p2 k _ _ _ _ _ s_21 hs_23 (Nat.lt_succ_self _) (by omega) (by omega) (by omega) (by omega) (by omega) (by omega) (by omega) (by omega) (by omega) (by omega) (by omega) (by omega)
      · exfalso; omega
set_option maxRecDepth 100000 in
/-- GatheredPointsModel.sheet [(2, 2), (8, 8), (21, 2147483647)] -/
theorem zm3178_46 {z : gH} {L d : Nat} {K : Option gV → gH → Prop} {s : gH} (p2 : Int) (hs : zM z s) (h_p2 : 21 ≤ p2 ∧ p2 ≤ 2147483647) (q0 : gp_I s 84 0 = 0) (q1 : gp_I s 84 1 = 0) (q2 : gp_I s 84 2 = 0) (q3 : gp_I s 84 3 = 0) (q4 : gp_I s 85 0 = 0) (q5 : gp_I s 85 1 = 0) (q6 : gp_I s 85 2 = 0) (q7 : gp_I s 85 3 = 0) (k : ∀ (t : gH), zM z t → ((-2147483648) ≤ gp_I t 75 1 ∧ gp_I t 75 1 ≤ 2147483647) → (gp_I t 84 0 = 0) → (gp_I t 84 1 = 0) → (gp_I t 84 2 = 0) → (gp_I t 84 3 = 0) → (gp_I t 85 0 = 0) → (gp_I t 85 1 = 0) → (gp_I t 85 2 = 0) → (gp_I t 85 3 = 0) → K (some (gp_i (-1000000001))) t) : gs_C L (d + 1) 3178 5 [gp_r (some 74), gp_i 2, gp_i 8, gp_i p2] s K := by
  refine s_3178_e _ _ _ ?_
  refine zm3076_4 hs (⟨_, rfl, ?_⟩)
  refine ⟨fun h_1 => ?_, fun h_1 => ?_⟩
  · exfalso; omega
  · refine ⟨fun h_2 => ?_, fun h_2 => ?_⟩
    · exfalso; omega
    · refine ⟨fun h_3 => ?_, fun h_3 => ?_⟩
      · refine s_3178_35 _ _ _ _ ?_
        refine ⟨fun h_4 => ?_, fun h_4 => ?_⟩
        · exfalso; omega
        · refine ⟨fun h_5 => ?_, fun h_5 => ?_⟩
          · exfalso; omega
          · refine s_3178_49 _ _ _ _ ?_
            refine ⟨fun h_6 => ?_, fun h_6 => ?_⟩
            · exfalso; omega
            · refine ⟨fun h_7 => ?_, fun h_7 => ?_⟩
              · refine zm3074_8 hs (by omega) (by omega) (by omega) (by omega) (by omega) (by omega) (by omega) (by omega) (fun s_8 hs_9 q_10 q_11 q_12 q_13 q_14 q_15 q_16 q_17 q_18 => ⟨_, rfl, ?_⟩)
                exact k s_8 hs_9 (by omega) (by omega) (by omega) (by omega) (by omega) (by omega) (by omega) (by omega) (by omega)
              · exfalso; omega
      · exfalso; omega
set_option maxRecDepth 100000 in
/-- GatheredPointsModel.sheet [(2, 2), (16, 16), (-2147483648, -1)] -/
theorem zm3178_47 {z : gH} {L d : Nat} {K : Option gV → gH → Prop} {s : gH} (p2 : Int) (hs : zM z s) (h_p2 : (-2147483648) ≤ p2 ∧ p2 ≤ (-1)) (q0 : gp_I s 84 0 = 0) (q1 : gp_I s 84 1 = 0) (q2 : gp_I s 84 2 = 0) (q3 : gp_I s 84 3 = 0) (q4 : gp_I s 85 0 = 0) (q5 : gp_I s 85 1 = 0) (q6 : gp_I s 85 2 = 0) (q7 : gp_I s 85 3 = 0) (k : ∀ (t : gH), zM z t → ((-2147483648) ≤ gp_I t 75 3 ∧ gp_I t 75 3 ≤ 2147483647) → (gp_I t 84 0 = 0) → (gp_I t 84 1 = 0) → (gp_I t 84 2 = 0) → (gp_I t 84 3 = 0) → (gp_I t 85 0 = 0) → (gp_I t 85 1 = 0) → (gp_I t 85 2 = 0) → (gp_I t 85 3 = 0) → K (some (gp_i (-1000000003))) t) : gs_C L (d + 1) 3178 5 [gp_r (some 74), gp_i 2, gp_i 16, gp_i p2] s K := by
  refine s_3178_e _ _ _ ?_
  refine zm3076_4 hs (⟨_, rfl, ?_⟩)
  refine ⟨fun h_1 => ?_, fun h_1 => ?_⟩
  · exfalso; omega
  · refine ⟨fun h_2 => ?_, fun h_2 => ?_⟩
    · exfalso; omega
    · refine ⟨fun h_3 => ?_, fun h_3 => ?_⟩
      · exfalso; omega
      · refine ⟨fun h_4 => ?_, fun h_4 => ?_⟩
        · refine s_3178_35 _ _ _ _ ?_
          refine ⟨fun h_5 => ?_, fun h_5 => ?_⟩
          · exfalso; omega
          · refine ⟨fun h_6 => ?_, fun h_6 => ?_⟩
            · refine zm3074_9 hs (by omega) (by omega) (by omega) (by omega) (by omega) (by omega) (by omega) (by omega) (fun s_7 hs_8 q_9 q_10 q_11 q_12 q_13 q_14 q_15 q_16 q_17 => ⟨_, rfl, ?_⟩)
              exact k s_7 hs_8 (by omega) (by omega) (by omega) (by omega) (by omega) (by omega) (by omega) (by omega) (by omega)
            · exfalso; omega
        · exfalso; omega
set_option maxRecDepth 100000 in
/-- GatheredPointsModel.sheet, the loop at 90 -/
theorem zm3178_48_l90_0 {z : gH} {L d : Nat} {K : Option gV → gH → Prop} (p2 : Int)  (k : ∀ (t : gH), zM z t → (gp_I t 84 0 = 0) → (gp_I t 84 1 = 0) → (gp_I t 84 2 = 16) → (gp_I t 84 3 = 0) → (gp_I t 85 0 = 0) → (gp_I t 85 1 = 0) → (0 ≤ gp_I t 85 2 ∧ gp_I t 85 2 ≤ 20) → (gp_I t 85 3 = 0) → K (some (gp_i 1)) t)  : ∀ (n : Nat) (v1 : Int) (v2 : Int) (v3 : Int) (v4 : Int) (s : gH), zM z s → (21 - v4).toNat < n → (v1 = 2) → (v2 = 16) → (0 ≤ v3 ∧ v3 ≤ 20) → (0 ≤ v4 ∧ v4 ≤ 20) → (gp_I s 84 0 = 0) → (gp_I s 84 1 = 0) → (gp_I s 84 2 = 16) → (gp_I s 84 3 = 0) → (gp_I s 85 0 = 0) → (gp_I s 85 1 = 0) → (0 ≤ gp_I s 85 2 ∧ gp_I s 85 2 ≤ 20) → (gp_I s 85 3 = 0) → gs_E L (d + 1) 3178 90 [gp_r (some 74), gp_i v1, gp_i v2, gp_i v3, gp_i v4] [] s K := by
  intro n
  induction n with
  | zero => intro v1 v2 v3 v4 s hs hm i0 i1 i2 i3 i4 i5 i6 i7 i8 i9 i10 i11; exact absurd hm (Nat.not_lt_zero _)
  | succ n ih =>
    intro v1 v2 v3 v4 s hs hm i0 i1 i2 i3 i4 i5 i6 i7 i8 i9 i10 i11
    subst i0
    subst i1
    refine s_3178_90 _ _ _ _ ?_
    refine ⟨fun h_1 => ?_, fun h_1 => ?_⟩
    · have w_2 := gz_w (20 * 2)
      have e_3 : gp_wr (20 * 2) = 40 := by omega
      try rw [e_3]
      have w_4 := gz_w (40 + v4)
      refine ⟨by omega, ?_⟩
      intro s_5 e_6
      have hs_7 : zM z s_5 := by rw [e_6]; exact zw83 hs _ _
      have q_8 : gp_I s_5 84 0 = 0 := by rw [e_6]; exact i4
      have q_9 : gp_I s_5 84 1 = 0 := by rw [e_6]; exact i5
      have q_10 : gp_I s_5 84 2 = 16 := by rw [e_6]; exact i6
      have q_11 : gp_I s_5 84 3 = 0 := by rw [e_6]; exact i7
      have q_12 : gp_I s_5 85 0 = 0 := by rw [e_6]; exact i8
      have q_13 : gp_I s_5 85 1 = 0 := by rw [e_6]; exact i9
      have q_14 : 0 ≤ gp_I s_5 85 2 ∧ gp_I s_5 85 2 ≤ 20 := by rw [e_6]; exact i10
      have q_15 : gp_I s_5 85 3 = 0 := by rw [e_6]; exact i11
      have w_16 := gz_w (v4 + 1)
      exact ih _ _ _ _ s_5 hs_7 (by omega) (by omega) (by omega) (by omega) (by omega) (by omega) (by omega) (by omega) (by omega) (by omega) (by omega) (by omega) (by omega)
    · have e_17 : v4 = 20 := by omega
      subst e_17
      exact k s hs (by omega) (by omega) (by omega) (by omega) (by omega) (by omega) (by omega) (by omega)
set_option maxRecDepth 100000 in
/-- GatheredPointsModel.sheet [(2, 2), (16, 16), (0, 20)] -/
theorem zm3178_48 {z : gH} {L d : Nat} {K : Option gV → gH → Prop} {s : gH} (p2 : Int) (hs : zM z s) (h_p2 : 0 ≤ p2 ∧ p2 ≤ 20) (q0 : gp_I s 84 0 = 0) (q1 : gp_I s 84 1 = 0) (q2 : gp_I s 84 2 = 0) (q3 : gp_I s 84 3 = 0) (q4 : gp_I s 85 0 = 0) (q5 : gp_I s 85 1 = 0) (q6 : gp_I s 85 2 = 0) (q7 : gp_I s 85 3 = 0) (k : ∀ (t : gH), zM z t → (gp_I t 84 0 = 0) → (gp_I t 84 1 = 0) → (gp_I t 84 2 = 16) → (gp_I t 84 3 = 0) → (gp_I t 85 0 = 0) → (gp_I t 85 1 = 0) → (0 ≤ gp_I t 85 2 ∧ gp_I t 85 2 ≤ 20) → (gp_I t 85 3 = 0) → K (some (gp_i 1)) t) : gs_C L (d + 1) 3178 5 [gp_r (some 74), gp_i 2, gp_i 16, gp_i p2] s K := by
  refine s_3178_e _ _ _ ?_
  refine zm3076_4 hs (⟨_, rfl, ?_⟩)
  refine ⟨fun h_1 => ?_, fun h_1 => ?_⟩
  · exfalso; omega
  · refine ⟨fun h_2 => ?_, fun h_2 => ?_⟩
    · exfalso; omega
    · refine ⟨fun h_3 => ?_, fun h_3 => ?_⟩
      · exfalso; omega
      · refine ⟨fun h_4 => ?_, fun h_4 => ?_⟩
        · refine s_3178_35 _ _ _ _ ?_
          refine ⟨fun h_5 => ?_, fun h_5 => ?_⟩
          · exfalso; omega
          · refine ⟨fun h_6 => ?_, fun h_6 => ?_⟩
            · exfalso; omega
            · refine s_3178_49 _ _ _ _ ?_
              refine ⟨fun h_7 => ?_, fun h_7 => ?_⟩
              · exfalso; omega
              · refine ⟨fun h_8 => ?_, fun h_8 => ?_⟩
                · exfalso; omega
                · refine s_3178_65 _ _ _ _ ?_
                  refine ⟨by omega, ?_⟩
                  intro s_9 e_10
                  have hs_11 : zM z s_9 := by rw [e_10]; exact zw84 hs _ _
                  have q_12 : gp_I s_9 84 0 = 0 := by rw [e_10]; exact q0
                  have q_13 : gp_I s_9 84 1 = 0 := by rw [e_10]; exact q1
                  have q_14 : gp_I s_9 84 3 = 0 := by rw [e_10]; exact q3
                  have q_15 : gp_I s_9 85 0 = 0 := by rw [e_10]; exact q4
                  have q_16 : gp_I s_9 85 1 = 0 := by rw [e_10]; exact q5
                  have q_17 : gp_I s_9 85 2 = 0 := by rw [e_10]; exact q6
                  have q_18 : gp_I s_9 85 3 = 0 := by rw [e_10]; exact q7
                  have q_19 : gp_I s_9 84 2 = 16 := by rw [e_10]; rfl
                  refine ⟨fun h_21 => ?_, fun h_21 => ?_⟩
                  · exfalso; omega
                  · refine s_3178_86 _ _ _ _ _ _ ?_
                    refine ⟨by omega, ?_⟩
                    intro s_22 e_23
                    have hs_24 : zM z s_22 := by rw [e_23]; exact zw85 hs_11 _ _
                    have q_25 : gp_I s_22 84 0 = 0 := by rw [e_23]; exact q_12
                    have q_26 : gp_I s_22 84 1 = 0 := by rw [e_23]; exact q_13
                    have q_27 : gp_I s_22 84 3 = 0 := by rw [e_23]; exact q_14
                    have q_28 : gp_I s_22 85 0 = 0 := by rw [e_23]; exact q_15
                    have q_29 : gp_I s_22 85 1 = 0 := by rw [e_23]; exact q_16
                    have q_30 : gp_I s_22 85 3 = 0 := by rw [e_23]; exact q_18
                    have q_31 : gp_I s_22 84 2 = 16 := by rw [e_23]; exact q_19
                    have q_32 : 0 ≤ gp_I s_22 85 2 ∧ gp_I s_22 85 2 ≤ 20 := by have x_33 : gp_I s_22 85 2 = p2 := (by rw [e_23]; rfl); omega
                    exact zm3178_48_l90_0 p2 k _ _ _ _ _ s_22 hs_24 (Nat.lt_succ_self _) (by omega) (by omega) (by omega) (by omega) (by omega) (by omega) (by omega) (by omega) (by omega) (by omega) (by omega) (by omega)
        · exfalso; omega
set_option maxRecDepth 100000 in
/-- GatheredPointsModel.sheet [(2, 2), (16, 16), (21, 2147483647)] -/
theorem zm3178_49 {z : gH} {L d : Nat} {K : Option gV → gH → Prop} {s : gH} (p2 : Int) (hs : zM z s) (h_p2 : 21 ≤ p2 ∧ p2 ≤ 2147483647) (q0 : gp_I s 84 0 = 0) (q1 : gp_I s 84 1 = 0) (q2 : gp_I s 84 2 = 0) (q3 : gp_I s 84 3 = 0) (q4 : gp_I s 85 0 = 0) (q5 : gp_I s 85 1 = 0) (q6 : gp_I s 85 2 = 0) (q7 : gp_I s 85 3 = 0) (k : ∀ (t : gH), zM z t → ((-2147483648) ≤ gp_I t 75 1 ∧ gp_I t 75 1 ≤ 2147483647) → (gp_I t 84 0 = 0) → (gp_I t 84 1 = 0) → (gp_I t 84 2 = 0) → (gp_I t 84 3 = 0) → (gp_I t 85 0 = 0) → (gp_I t 85 1 = 0) → (gp_I t 85 2 = 0) → (gp_I t 85 3 = 0) → K (some (gp_i (-1000000001))) t) : gs_C L (d + 1) 3178 5 [gp_r (some 74), gp_i 2, gp_i 16, gp_i p2] s K := by
  refine s_3178_e _ _ _ ?_
  refine zm3076_4 hs (⟨_, rfl, ?_⟩)
  refine ⟨fun h_1 => ?_, fun h_1 => ?_⟩
  · exfalso; omega
  · refine ⟨fun h_2 => ?_, fun h_2 => ?_⟩
    · exfalso; omega
    · refine ⟨fun h_3 => ?_, fun h_3 => ?_⟩
      · exfalso; omega
      · refine ⟨fun h_4 => ?_, fun h_4 => ?_⟩
        · refine s_3178_35 _ _ _ _ ?_
          refine ⟨fun h_5 => ?_, fun h_5 => ?_⟩
          · exfalso; omega
          · refine ⟨fun h_6 => ?_, fun h_6 => ?_⟩
            · exfalso; omega
            · refine s_3178_49 _ _ _ _ ?_
              refine ⟨fun h_7 => ?_, fun h_7 => ?_⟩
              · exfalso; omega
              · refine ⟨fun h_8 => ?_, fun h_8 => ?_⟩
                · refine zm3074_8 hs (by omega) (by omega) (by omega) (by omega) (by omega) (by omega) (by omega) (by omega) (fun s_9 hs_10 q_11 q_12 q_13 q_14 q_15 q_16 q_17 q_18 q_19 => ⟨_, rfl, ?_⟩)
                  exact k s_9 hs_10 (by omega) (by omega) (by omega) (by omega) (by omega) (by omega) (by omega) (by omega) (by omega)
                · exfalso; omega
        · exfalso; omega
set_option maxRecDepth 100000 in
/-- GatheredPointsModel.sheet [(2, 2), (32, 32), (-2147483648, -1)] -/
theorem zm3178_50 {z : gH} {L d : Nat} {K : Option gV → gH → Prop} {s : gH} (p2 : Int) (hs : zM z s) (h_p2 : (-2147483648) ≤ p2 ∧ p2 ≤ (-1)) (q0 : gp_I s 84 0 = 0) (q1 : gp_I s 84 1 = 0) (q2 : gp_I s 84 2 = 0) (q3 : gp_I s 84 3 = 0) (q4 : gp_I s 85 0 = 0) (q5 : gp_I s 85 1 = 0) (q6 : gp_I s 85 2 = 0) (q7 : gp_I s 85 3 = 0) (k : ∀ (t : gH), zM z t → ((-2147483648) ≤ gp_I t 75 3 ∧ gp_I t 75 3 ≤ 2147483647) → (gp_I t 84 0 = 0) → (gp_I t 84 1 = 0) → (gp_I t 84 2 = 0) → (gp_I t 84 3 = 0) → (gp_I t 85 0 = 0) → (gp_I t 85 1 = 0) → (gp_I t 85 2 = 0) → (gp_I t 85 3 = 0) → K (some (gp_i (-1000000003))) t) : gs_C L (d + 1) 3178 5 [gp_r (some 74), gp_i 2, gp_i 32, gp_i p2] s K := by
  refine s_3178_e _ _ _ ?_
  refine zm3076_4 hs (⟨_, rfl, ?_⟩)
  refine ⟨fun h_1 => ?_, fun h_1 => ?_⟩
  · exfalso; omega
  · refine ⟨fun h_2 => ?_, fun h_2 => ?_⟩
    · exfalso; omega
    · refine ⟨fun h_3 => ?_, fun h_3 => ?_⟩
      · exfalso; omega
      · refine ⟨fun h_4 => ?_, fun h_4 => ?_⟩
        · exfalso; omega
        · refine ⟨fun h_5 => ?_, fun h_5 => ?_⟩
          · refine s_3178_35 _ _ _ _ ?_
            refine ⟨fun h_6 => ?_, fun h_6 => ?_⟩
            · exfalso; omega
            · refine ⟨fun h_7 => ?_, fun h_7 => ?_⟩
              · refine zm3074_9 hs (by omega) (by omega) (by omega) (by omega) (by omega) (by omega) (by omega) (by omega) (fun s_8 hs_9 q_10 q_11 q_12 q_13 q_14 q_15 q_16 q_17 q_18 => ⟨_, rfl, ?_⟩)
                exact k s_8 hs_9 (by omega) (by omega) (by omega) (by omega) (by omega) (by omega) (by omega) (by omega) (by omega)
              · exfalso; omega
          · exfalso; omega
set_option maxRecDepth 100000 in
/-- GatheredPointsModel.sheet, the loop at 90 -/
theorem zm3178_51_l90_0 {z : gH} {L d : Nat} {K : Option gV → gH → Prop} (p2 : Int)  (k : ∀ (t : gH), zM z t → (gp_I t 84 0 = 0) → (gp_I t 84 1 = 0) → (gp_I t 84 2 = 32) → (gp_I t 84 3 = 0) → (gp_I t 85 0 = 0) → (gp_I t 85 1 = 0) → (0 ≤ gp_I t 85 2 ∧ gp_I t 85 2 ≤ 20) → (gp_I t 85 3 = 0) → K (some (gp_i 1)) t)  : ∀ (n : Nat) (v1 : Int) (v2 : Int) (v3 : Int) (v4 : Int) (s : gH), zM z s → (21 - v4).toNat < n → (v1 = 2) → (v2 = 32) → (0 ≤ v3 ∧ v3 ≤ 20) → (0 ≤ v4 ∧ v4 ≤ 20) → (gp_I s 84 0 = 0) → (gp_I s 84 1 = 0) → (gp_I s 84 2 = 32) → (gp_I s 84 3 = 0) → (gp_I s 85 0 = 0) → (gp_I s 85 1 = 0) → (0 ≤ gp_I s 85 2 ∧ gp_I s 85 2 ≤ 20) → (gp_I s 85 3 = 0) → gs_E L (d + 1) 3178 90 [gp_r (some 74), gp_i v1, gp_i v2, gp_i v3, gp_i v4] [] s K := by
  intro n
  induction n with
  | zero => intro v1 v2 v3 v4 s hs hm i0 i1 i2 i3 i4 i5 i6 i7 i8 i9 i10 i11; exact absurd hm (Nat.not_lt_zero _)
  | succ n ih =>
    intro v1 v2 v3 v4 s hs hm i0 i1 i2 i3 i4 i5 i6 i7 i8 i9 i10 i11
    subst i0
    subst i1
    refine s_3178_90 _ _ _ _ ?_
    refine ⟨fun h_1 => ?_, fun h_1 => ?_⟩
    · have w_2 := gz_w (20 * 2)
      have e_3 : gp_wr (20 * 2) = 40 := by omega
      try rw [e_3]
      have w_4 := gz_w (40 + v4)
      refine ⟨by omega, ?_⟩
      intro s_5 e_6
      have hs_7 : zM z s_5 := by rw [e_6]; exact zw83 hs _ _
      have q_8 : gp_I s_5 84 0 = 0 := by rw [e_6]; exact i4
      have q_9 : gp_I s_5 84 1 = 0 := by rw [e_6]; exact i5
      have q_10 : gp_I s_5 84 2 = 32 := by rw [e_6]; exact i6
      have q_11 : gp_I s_5 84 3 = 0 := by rw [e_6]; exact i7
      have q_12 : gp_I s_5 85 0 = 0 := by rw [e_6]; exact i8
      have q_13 : gp_I s_5 85 1 = 0 := by rw [e_6]; exact i9
      have q_14 : 0 ≤ gp_I s_5 85 2 ∧ gp_I s_5 85 2 ≤ 20 := by rw [e_6]; exact i10
      have q_15 : gp_I s_5 85 3 = 0 := by rw [e_6]; exact i11
      have w_16 := gz_w (v4 + 1)
      exact ih _ _ _ _ s_5 hs_7 (by omega) (by omega) (by omega) (by omega) (by omega) (by omega) (by omega) (by omega) (by omega) (by omega) (by omega) (by omega) (by omega)
    · have e_17 : v4 = 20 := by omega
      subst e_17
      exact k s hs (by omega) (by omega) (by omega) (by omega) (by omega) (by omega) (by omega) (by omega)
set_option maxRecDepth 100000 in
/-- GatheredPointsModel.sheet [(2, 2), (32, 32), (0, 20)] -/
theorem zm3178_51 {z : gH} {L d : Nat} {K : Option gV → gH → Prop} {s : gH} (p2 : Int) (hs : zM z s) (h_p2 : 0 ≤ p2 ∧ p2 ≤ 20) (q0 : gp_I s 84 0 = 0) (q1 : gp_I s 84 1 = 0) (q2 : gp_I s 84 2 = 0) (q3 : gp_I s 84 3 = 0) (q4 : gp_I s 85 0 = 0) (q5 : gp_I s 85 1 = 0) (q6 : gp_I s 85 2 = 0) (q7 : gp_I s 85 3 = 0) (k : ∀ (t : gH), zM z t → (gp_I t 84 0 = 0) → (gp_I t 84 1 = 0) → (gp_I t 84 2 = 32) → (gp_I t 84 3 = 0) → (gp_I t 85 0 = 0) → (gp_I t 85 1 = 0) → (0 ≤ gp_I t 85 2 ∧ gp_I t 85 2 ≤ 20) → (gp_I t 85 3 = 0) → K (some (gp_i 1)) t) : gs_C L (d + 1) 3178 5 [gp_r (some 74), gp_i 2, gp_i 32, gp_i p2] s K := by
  refine s_3178_e _ _ _ ?_
  refine zm3076_4 hs (⟨_, rfl, ?_⟩)
  refine ⟨fun h_1 => ?_, fun h_1 => ?_⟩
  · exfalso; omega
  · refine ⟨fun h_2 => ?_, fun h_2 => ?_⟩
    · exfalso; omega
    · refine ⟨fun h_3 => ?_, fun h_3 => ?_⟩
      · exfalso; omega
      · refine ⟨fun h_4 => ?_, fun h_4 => ?_⟩
        · exfalso; omega
        · refine ⟨fun h_5 => ?_, fun h_5 => ?_⟩
          · refine s_3178_35 _ _ _ _ ?_
            refine ⟨fun h_6 => ?_, fun h_6 => ?_⟩
            · exfalso; omega
            · refine ⟨fun h_7 => ?_, fun h_7 => ?_⟩
              · exfalso; omega
              · refine s_3178_49 _ _ _ _ ?_
                refine ⟨fun h_8 => ?_, fun h_8 => ?_⟩
                · exfalso; omega
                · refine ⟨fun h_9 => ?_, fun h_9 => ?_⟩
                  · exfalso; omega
                  · refine s_3178_65 _ _ _ _ ?_
                    refine ⟨by omega, ?_⟩
                    intro s_10 e_11
                    have hs_12 : zM z s_10 := by rw [e_11]; exact zw84 hs _ _
                    have q_13 : gp_I s_10 84 0 = 0 := by rw [e_11]; exact q0
                    have q_14 : gp_I s_10 84 1 = 0 := by rw [e_11]; exact q1
                    have q_15 : gp_I s_10 84 3 = 0 := by rw [e_11]; exact q3
                    have q_16 : gp_I s_10 85 0 = 0 := by rw [e_11]; exact q4
                    have q_17 : gp_I s_10 85 1 = 0 := by rw [e_11]; exact q5
                    have q_18 : gp_I s_10 85 2 = 0 := by rw [e_11]; exact q6
                    have q_19 : gp_I s_10 85 3 = 0 := by rw [e_11]; exact q7
                    have q_20 : gp_I s_10 84 2 = 32 := by rw [e_11]; rfl
                    refine ⟨fun h_22 => ?_, fun h_22 => ?_⟩
                    · exfalso; omega
                    · refine s_3178_86 _ _ _ _ _ _ ?_
                      refine ⟨by omega, ?_⟩
                      intro s_23 e_24
                      have hs_25 : zM z s_23 := by rw [e_24]; exact zw85 hs_12 _ _
                      have q_26 : gp_I s_23 84 0 = 0 := by rw [e_24]; exact q_13
                      have q_27 : gp_I s_23 84 1 = 0 := by rw [e_24]; exact q_14
                      have q_28 : gp_I s_23 84 3 = 0 := by rw [e_24]; exact q_15
                      have q_29 : gp_I s_23 85 0 = 0 := by rw [e_24]; exact q_16
                      have q_30 : gp_I s_23 85 1 = 0 := by rw [e_24]; exact q_17
                      have q_31 : gp_I s_23 85 3 = 0 := by rw [e_24]; exact q_19
                      have q_32 : gp_I s_23 84 2 = 32 := by rw [e_24]; exact q_20
                      have q_33 : 0 ≤ gp_I s_23 85 2 ∧ gp_I s_23 85 2 ≤ 20 := by have x_34 : gp_I s_23 85 2 = p2 := (by rw [e_24]; rfl); omega
                      exact zm3178_51_l90_0 p2 k _ _ _ _ _ s_23 hs_25 (Nat.lt_succ_self _) (by omega) (by omega) (by omega) (by omega) (by omega) (by omega) (by omega) (by omega) (by omega) (by omega) (by omega) (by omega)
          · exfalso; omega
set_option maxRecDepth 100000 in
/-- GatheredPointsModel.sheet [(2, 2), (32, 32), (21, 2147483647)] -/
theorem zm3178_52 {z : gH} {L d : Nat} {K : Option gV → gH → Prop} {s : gH} (p2 : Int) (hs : zM z s) (h_p2 : 21 ≤ p2 ∧ p2 ≤ 2147483647) (q0 : gp_I s 84 0 = 0) (q1 : gp_I s 84 1 = 0) (q2 : gp_I s 84 2 = 0) (q3 : gp_I s 84 3 = 0) (q4 : gp_I s 85 0 = 0) (q5 : gp_I s 85 1 = 0) (q6 : gp_I s 85 2 = 0) (q7 : gp_I s 85 3 = 0) (k : ∀ (t : gH), zM z t → ((-2147483648) ≤ gp_I t 75 1 ∧ gp_I t 75 1 ≤ 2147483647) → (gp_I t 84 0 = 0) → (gp_I t 84 1 = 0) → (gp_I t 84 2 = 0) → (gp_I t 84 3 = 0) → (gp_I t 85 0 = 0) → (gp_I t 85 1 = 0) → (gp_I t 85 2 = 0) → (gp_I t 85 3 = 0) → K (some (gp_i (-1000000001))) t) : gs_C L (d + 1) 3178 5 [gp_r (some 74), gp_i 2, gp_i 32, gp_i p2] s K := by
  refine s_3178_e _ _ _ ?_
  refine zm3076_4 hs (⟨_, rfl, ?_⟩)
  refine ⟨fun h_1 => ?_, fun h_1 => ?_⟩
  · exfalso; omega
  · refine ⟨fun h_2 => ?_, fun h_2 => ?_⟩
    · exfalso; omega
    · refine ⟨fun h_3 => ?_, fun h_3 => ?_⟩
      · exfalso; omega
      · refine ⟨fun h_4 => ?_, fun h_4 => ?_⟩
        · exfalso; omega
        · refine ⟨fun h_5 => ?_, fun h_5 => ?_⟩
          · refine s_3178_35 _ _ _ _ ?_
            refine ⟨fun h_6 => ?_, fun h_6 => ?_⟩
            · exfalso; omega
            · refine ⟨fun h_7 => ?_, fun h_7 => ?_⟩
              · exfalso; omega
              · refine s_3178_49 _ _ _ _ ?_
                refine ⟨fun h_8 => ?_, fun h_8 => ?_⟩
                · exfalso; omega
                · refine ⟨fun h_9 => ?_, fun h_9 => ?_⟩
                  · refine zm3074_8 hs (by omega) (by omega) (by omega) (by omega) (by omega) (by omega) (by omega) (by omega) (fun s_10 hs_11 q_12 q_13 q_14 q_15 q_16 q_17 q_18 q_19 q_20 => ⟨_, rfl, ?_⟩)
                    exact k s_10 hs_11 (by omega) (by omega) (by omega) (by omega) (by omega) (by omega) (by omega) (by omega) (by omega)
                  · exfalso; omega
          · exfalso; omega
set_option maxRecDepth 100000 in
/-- GatheredPointsModel.sheet [(3, 3), (8, 8), (-2147483648, -1)] -/
theorem zm3178_53 {z : gH} {L d : Nat} {K : Option gV → gH → Prop} {s : gH} (p2 : Int) (hs : zM z s) (h_p2 : (-2147483648) ≤ p2 ∧ p2 ≤ (-1)) (q0 : gp_I s 84 0 = 0) (q1 : gp_I s 84 1 = 0) (q2 : gp_I s 84 2 = 0) (q3 : gp_I s 84 3 = 0) (q4 : gp_I s 85 0 = 0) (q5 : gp_I s 85 1 = 0) (q6 : gp_I s 85 2 = 0) (q7 : gp_I s 85 3 = 0) (k : ∀ (t : gH), zM z t → ((-2147483648) ≤ gp_I t 75 3 ∧ gp_I t 75 3 ≤ 2147483647) → (gp_I t 84 0 = 0) → (gp_I t 84 1 = 0) → (gp_I t 84 2 = 0) → (gp_I t 84 3 = 0) → (gp_I t 85 0 = 0) → (gp_I t 85 1 = 0) → (gp_I t 85 2 = 0) → (gp_I t 85 3 = 0) → K (some (gp_i (-1000000003))) t) : gs_C L (d + 1) 3178 5 [gp_r (some 74), gp_i 3, gp_i 8, gp_i p2] s K := by
  refine s_3178_e _ _ _ ?_
  refine zm3076_5 hs (⟨_, rfl, ?_⟩)
  refine ⟨fun h_1 => ?_, fun h_1 => ?_⟩
  · exfalso; omega
  · refine ⟨fun h_2 => ?_, fun h_2 => ?_⟩
    · exfalso; omega
    · refine ⟨fun h_3 => ?_, fun h_3 => ?_⟩
      · refine s_3178_35 _ _ _ _ ?_
        refine ⟨fun h_4 => ?_, fun h_4 => ?_⟩
        · exfalso; omega
        · refine ⟨fun h_5 => ?_, fun h_5 => ?_⟩
          · refine zm3074_9 hs (by omega) (by omega) (by omega) (by omega) (by omega) (by omega) (by omega) (by omega) (fun s_6 hs_7 q_8 q_9 q_10 q_11 q_12 q_13 q_14 q_15 q_16 => ⟨_, rfl, ?_⟩)
            exact k s_6 hs_7 (by omega) (by omega) (by omega) (by omega) (by omega) (by omega) (by omega) (by omega) (by omega)
          · exfalso; omega
      · exfalso; omega
set_option maxRecDepth 100000 in
/-- GatheredPointsModel.sheet, the loop at 90 -/
theorem zm3178_54_l90_0 {z : gH} {L d : Nat} {K : Option gV → gH → Prop} (p2 : Int)  (k : ∀ (t : gH), zM z t → (gp_I t 84 0 = 0) → (gp_I t 84 1 = 0) → (gp_I t 84 2 = 0) → (gp_I t 84 3 = 8) → (gp_I t 85 0 = 0) → (gp_I t 85 1 = 0) → (gp_I t 85 2 = 0) → (0 ≤ gp_I t 85 3 ∧ gp_I t 85 3 ≤ 20) → K (some (gp_i 1)) t)  : ∀ (n : Nat) (v1 : Int) (v2 : Int) (v3 : Int) (v4 : Int) (s : gH), zM z s → (21 - v4).toNat < n → (v1 = 3) → (v2 = 8) → (0 ≤ v3 ∧ v3 ≤ 20) → (0 ≤ v4 ∧ v4 ≤ 20) → (gp_I s 84 0 = 0) → (gp_I s 84 1 = 0) → (gp_I s 84 2 = 0) → (gp_I s 84 3 = 8) → (gp_I s 85 0 = 0) → (gp_I s 85 1 = 0) → (gp_I s 85 2 = 0) → (0 ≤ gp_I s 85 3 ∧ gp_I s 85 3 ≤ 20) → gs_E L (d + 1) 3178 90 [gp_r (some 74), gp_i v1, gp_i v2, gp_i v3, gp_i v4] [] s K := by
  intro n
  induction n with
  | zero => intro v1 v2 v3 v4 s hs hm i0 i1 i2 i3 i4 i5 i6 i7 i8 i9 i10 i11; exact absurd hm (Nat.not_lt_zero _)
  | succ n ih =>
    intro v1 v2 v3 v4 s hs hm i0 i1 i2 i3 i4 i5 i6 i7 i8 i9 i10 i11
    subst i0
    subst i1
    refine s_3178_90 _ _ _ _ ?_
    refine ⟨fun h_1 => ?_, fun h_1 => ?_⟩
    · have w_2 := gz_w (20 * 3)
      have e_3 : gp_wr (20 * 3) = 60 := by omega
      try rw [e_3]
      have w_4 := gz_w (60 + v4)
      refine ⟨by omega, ?_⟩
      intro s_5 e_6
      have hs_7 : zM z s_5 := by rw [e_6]; exact zw83 hs _ _
      have q_8 : gp_I s_5 84 0 = 0 := by rw [e_6]; exact i4
      have q_9 : gp_I s_5 84 1 = 0 := by rw [e_6]; exact i5
      have q_10 : gp_I s_5 84 2 = 0 := by rw [e_6]; exact i6
      have q_11 : gp_I s_5 84 3 = 8 := by rw [e_6]; exact i7
      have q_12 : gp_I s_5 85 0 = 0 := by rw [e_6]; exact i8
      have q_13 : gp_I s_5 85 1 = 0 := by rw [e_6]; exact i9
      have q_14 : gp_I s_5 85 2 = 0 := by rw [e_6]; exact i10
      have q_15 : 0 ≤ gp_I s_5 85 3 ∧ gp_I s_5 85 3 ≤ 20 := by rw [e_6]; exact i11
      have w_16 := gz_w (v4 + 1)
      exact ih _ _ _ _ s_5 hs_7 (by omega) (by omega) (by omega) (by omega) (by omega) (by omega) (by omega) (by omega) (by omega) (by omega) (by omega) (by omega) (by omega)
    · have e_17 : v4 = 20 := by omega
      subst e_17
      exact k s hs (by omega) (by omega) (by omega) (by omega) (by omega) (by omega) (by omega) (by omega)
set_option maxRecDepth 100000 in
/-- GatheredPointsModel.sheet [(3, 3), (8, 8), (0, 20)] -/
theorem zm3178_54 {z : gH} {L d : Nat} {K : Option gV → gH → Prop} {s : gH} (p2 : Int) (hs : zM z s) (h_p2 : 0 ≤ p2 ∧ p2 ≤ 20) (q0 : gp_I s 84 0 = 0) (q1 : gp_I s 84 1 = 0) (q2 : gp_I s 84 2 = 0) (q3 : gp_I s 84 3 = 0) (q4 : gp_I s 85 0 = 0) (q5 : gp_I s 85 1 = 0) (q6 : gp_I s 85 2 = 0) (q7 : gp_I s 85 3 = 0) (k : ∀ (t : gH), zM z t → (gp_I t 84 0 = 0) → (gp_I t 84 1 = 0) → (gp_I t 84 2 = 0) → (gp_I t 84 3 = 8) → (gp_I t 85 0 = 0) → (gp_I t 85 1 = 0) → (gp_I t 85 2 = 0) → (0 ≤ gp_I t 85 3 ∧ gp_I t 85 3 ≤ 20) → K (some (gp_i 1)) t) : gs_C L (d + 1) 3178 5 [gp_r (some 74), gp_i 3, gp_i 8, gp_i p2] s K := by
  refine s_3178_e _ _ _ ?_
  refine zm3076_5 hs (⟨_, rfl, ?_⟩)
  refine ⟨fun h_1 => ?_, fun h_1 => ?_⟩
  · exfalso; omega
  · refine ⟨fun h_2 => ?_, fun h_2 => ?_⟩
    · exfalso; omega
    · refine ⟨fun h_3 => ?_, fun h_3 => ?_⟩
      · refine s_3178_35 _ _ _ _ ?_
        refine ⟨fun h_4 => ?_, fun h_4 => ?_⟩
        · exfalso; omega
        · refine ⟨fun h_5 => ?_, fun h_5 => ?_⟩
          · exfalso; omega
          · refine s_3178_49 _ _ _ _ ?_
            refine ⟨fun h_6 => ?_, fun h_6 => ?_⟩
            · exfalso; omega
            · refine ⟨fun h_7 => ?_, fun h_7 => ?_⟩
              · exfalso; omega
              · refine s_3178_65 _ _ _ _ ?_
                refine ⟨by omega, ?_⟩
                intro s_8 e_9
                have hs_10 : zM z s_8 := by rw [e_9]; exact zw84 hs _ _
                have q_11 : gp_I s_8 84 0 = 0 := by rw [e_9]; exact q0
                have q_12 : gp_I s_8 84 1 = 0 := by rw [e_9]; exact q1
                have q_13 : gp_I s_8 84 2 = 0 := by rw [e_9]; exact q2
                have q_14 : gp_I s_8 85 0 = 0 := by rw [e_9]; exact q4
                have q_15 : gp_I s_8 85 1 = 0 := by rw [e_9]; exact q5
                have q_16 : gp_I s_8 85 2 = 0 := by rw [e_9]; exact q6
                have q_17 : gp_I s_8 85 3 = 0 := by rw [e_9]; exact q7
                have q_18 : gp_I s_8 84 3 = 8 := by rw [e_9]; rfl
                refine ⟨fun h_20 => ?_, fun h_20 => ?_⟩
                · exfalso; omega
                · refine s_3178_86 _ _ _ _ _ _ ?_
                  refine ⟨by omega, ?_⟩
                  intro s_21 e_22
                  have hs_23 : zM z s_21 := by rw [e_22]; exact zw85 hs_10 _ _
                  have q_24 : gp_I s_21 84 0 = 0 := by rw [e_22]; exact q_11
                  have q_25 : gp_I s_21 84 1 = 0 := by rw [e_22]; exact q_12
                  have q_26 : gp_I s_21 84 2 = 0 := by rw [e_22]; exact q_13
                  have q_27 : gp_I s_21 85 0 = 0 := by rw [e_22]; exact q_14
                  have q_28 : gp_I s_21 85 1 = 0 := by rw [e_22]; exact q_15
                  have q_29 : gp_I s_21 85 2 = 0 := by rw [e_22]; exact q_16
                  have q_30 : gp_I s_21 84 3 = 8 := by rw [e_22]; exact q_18
                  have q_31 : 0 ≤ gp_I s_21 85 3 ∧ gp_I s_21 85 3 ≤ 20 := by have x_32 : gp_I s_21 85 3 = p2 := (by rw [e_22]; rfl); omega
                  exact zm3178_54_l90_0 p2 k _ _ _ _ _ s_21 hs_23 (Nat.lt_succ_self _) (by omega) (by omega) (by omega) (by omega) (by omega) (by omega) (by omega) (by omega) (by omega) (by omega) (by omega) (by omega)
      · exfalso; omega
set_option maxRecDepth 100000 in
/-- GatheredPointsModel.sheet [(3, 3), (8, 8), (21, 2147483647)] -/
theorem zm3178_55 {z : gH} {L d : Nat} {K : Option gV → gH → Prop} {s : gH} (p2 : Int) (hs : zM z s) (h_p2 : 21 ≤ p2 ∧ p2 ≤ 2147483647) (q0 : gp_I s 84 0 = 0) (q1 : gp_I s 84 1 = 0) (q2 : gp_I s 84 2 = 0) (q3 : gp_I s 84 3 = 0) (q4 : gp_I s 85 0 = 0) (q5 : gp_I s 85 1 = 0) (q6 : gp_I s 85 2 = 0) (q7 : gp_I s 85 3 = 0) (k : ∀ (t : gH), zM z t → ((-2147483648) ≤ gp_I t 75 1 ∧ gp_I t 75 1 ≤ 2147483647) → (gp_I t 84 0 = 0) → (gp_I t 84 1 = 0) → (gp_I t 84 2 = 0) → (gp_I t 84 3 = 0) → (gp_I t 85 0 = 0) → (gp_I t 85 1 = 0) → (gp_I t 85 2 = 0) → (gp_I t 85 3 = 0) → K (some (gp_i (-1000000001))) t) : gs_C L (d + 1) 3178 5 [gp_r (some 74), gp_i 3, gp_i 8, gp_i p2] s K := by
  refine s_3178_e _ _ _ ?_
  refine zm3076_5 hs (⟨_, rfl, ?_⟩)
  refine ⟨fun h_1 => ?_, fun h_1 => ?_⟩
  · exfalso; omega
  · refine ⟨fun h_2 => ?_, fun h_2 => ?_⟩
    · exfalso; omega
    · refine ⟨fun h_3 => ?_, fun h_3 => ?_⟩
      · refine s_3178_35 _ _ _ _ ?_
        refine ⟨fun h_4 => ?_, fun h_4 => ?_⟩
        · exfalso; omega
        · refine ⟨fun h_5 => ?_, fun h_5 => ?_⟩
          · exfalso; omega
          · refine s_3178_49 _ _ _ _ ?_
            refine ⟨fun h_6 => ?_, fun h_6 => ?_⟩
            · exfalso; omega
            · refine ⟨fun h_7 => ?_, fun h_7 => ?_⟩
              · refine zm3074_8 hs (by omega) (by omega) (by omega) (by omega) (by omega) (by omega) (by omega) (by omega) (fun s_8 hs_9 q_10 q_11 q_12 q_13 q_14 q_15 q_16 q_17 q_18 => ⟨_, rfl, ?_⟩)
                exact k s_8 hs_9 (by omega) (by omega) (by omega) (by omega) (by omega) (by omega) (by omega) (by omega) (by omega)
              · exfalso; omega
      · exfalso; omega
set_option maxRecDepth 100000 in
/-- GatheredPointsModel.sheet [(3, 3), (16, 16), (-2147483648, -1)] -/
theorem zm3178_56 {z : gH} {L d : Nat} {K : Option gV → gH → Prop} {s : gH} (p2 : Int) (hs : zM z s) (h_p2 : (-2147483648) ≤ p2 ∧ p2 ≤ (-1)) (q0 : gp_I s 84 0 = 0) (q1 : gp_I s 84 1 = 0) (q2 : gp_I s 84 2 = 0) (q3 : gp_I s 84 3 = 0) (q4 : gp_I s 85 0 = 0) (q5 : gp_I s 85 1 = 0) (q6 : gp_I s 85 2 = 0) (q7 : gp_I s 85 3 = 0) (k : ∀ (t : gH), zM z t → ((-2147483648) ≤ gp_I t 75 3 ∧ gp_I t 75 3 ≤ 2147483647) → (gp_I t 84 0 = 0) → (gp_I t 84 1 = 0) → (gp_I t 84 2 = 0) → (gp_I t 84 3 = 0) → (gp_I t 85 0 = 0) → (gp_I t 85 1 = 0) → (gp_I t 85 2 = 0) → (gp_I t 85 3 = 0) → K (some (gp_i (-1000000003))) t) : gs_C L (d + 1) 3178 5 [gp_r (some 74), gp_i 3, gp_i 16, gp_i p2] s K := by
  refine s_3178_e _ _ _ ?_
  refine zm3076_5 hs (⟨_, rfl, ?_⟩)
  refine ⟨fun h_1 => ?_, fun h_1 => ?_⟩
  · exfalso; omega
  · refine ⟨fun h_2 => ?_, fun h_2 => ?_⟩
    · exfalso; omega
    · refine ⟨fun h_3 => ?_, fun h_3 => ?_⟩
      · exfalso; omega
      · refine ⟨fun h_4 => ?_, fun h_4 => ?_⟩
        · refine s_3178_35 _ _ _ _ ?_
          refine ⟨fun h_5 => ?_, fun h_5 => ?_⟩
          · exfalso; omega
          · refine ⟨fun h_6 => ?_, fun h_6 => ?_⟩
            · refine zm3074_9 hs (by omega) (by omega) (by omega) (by omega) (by omega) (by omega) (by omega) (by omega) (fun s_7 hs_8 q_9 q_10 q_11 q_12 q_13 q_14 q_15 q_16 q_17 => ⟨_, rfl, ?_⟩)
              exact k s_7 hs_8 (by omega) (by omega) (by omega) (by omega) (by omega) (by omega) (by omega) (by omega) (by omega)
            · exfalso; omega
        · exfalso; omega
set_option maxRecDepth 100000 in
/-- GatheredPointsModel.sheet, the loop at 90 -/
theorem zm3178_57_l90_0 {z : gH} {L d : Nat} {K : Option gV → gH → Prop} (p2 : Int)  (k : ∀ (t : gH), zM z t → (gp_I t 84 0 = 0) → (gp_I t 84 1 = 0) → (gp_I t 84 2 = 0) → (gp_I t 84 3 = 16) → (gp_I t 85 0 = 0) → (gp_I t 85 1 = 0) → (gp_I t 85 2 = 0) → (0 ≤ gp_I t 85 3 ∧ gp_I t 85 3 ≤ 20) → K (some (gp_i 1)) t)  : ∀ (n : Nat) (v1 : Int) (v2 : Int) (v3 : Int) (v4 : Int) (s : gH), zM z s → (21 - v4).toNat < n → (v1 = 3) → (v2 = 16) → (0 ≤ v3 ∧ v3 ≤ 20) → (0 ≤ v4 ∧ v4 ≤ 20) → (gp_I s 84 0 = 0) → (gp_I s 84 1 = 0) → (gp_I s 84 2 = 0) → (gp_I s 84 3 = 16) → (gp_I s 85 0 = 0) → (gp_I s 85 1 = 0) → (gp_I s 85 2 = 0) → (0 ≤ gp_I s 85 3 ∧ gp_I s 85 3 ≤ 20) → gs_E L (d + 1) 3178 90 [gp_r (some 74), gp_i v1, gp_i v2, gp_i v3, gp_i v4] [] s K := by
  intro n
  induction n with
  | zero => intro v1 v2 v3 v4 s hs hm i0 i1 i2 i3 i4 i5 i6 i7 i8 i9 i10 i11; exact absurd hm (Nat.not_lt_zero _)
  | succ n ih =>
    intro v1 v2 v3 v4 s hs hm i0 i1 i2 i3 i4 i5 i6 i7 i8 i9 i10 i11
    subst i0
    subst i1
    refine s_3178_90 _ _ _ _ ?_
    refine ⟨fun h_1 => ?_, fun h_1 => ?_⟩
    · have w_2 := gz_w (20 * 3)
      have e_3 : gp_wr (20 * 3) = 60 := by omega
      try rw [e_3]
      have w_4 := gz_w (60 + v4)
      refine ⟨by omega, ?_⟩
      intro s_5 e_6
      have hs_7 : zM z s_5 := by rw [e_6]; exact zw83 hs _ _
      have q_8 : gp_I s_5 84 0 = 0 := by rw [e_6]; exact i4
      have q_9 : gp_I s_5 84 1 = 0 := by rw [e_6]; exact i5
      have q_10 : gp_I s_5 84 2 = 0 := by rw [e_6]; exact i6
      have q_11 : gp_I s_5 84 3 = 16 := by rw [e_6]; exact i7
      have q_12 : gp_I s_5 85 0 = 0 := by rw [e_6]; exact i8
      have q_13 : gp_I s_5 85 1 = 0 := by rw [e_6]; exact i9
      have q_14 : gp_I s_5 85 2 = 0 := by rw [e_6]; exact i10
      have q_15 : 0 ≤ gp_I s_5 85 3 ∧ gp_I s_5 85 3 ≤ 20 := by rw [e_6]; exact i11
      have w_16 := gz_w (v4 + 1)
      exact ih _ _ _ _ s_5 hs_7 (by omega) (by omega) (by omega) (by omega) (by omega) (by omega) (by omega) (by omega) (by omega) (by omega) (by omega) (by omega) (by omega)
    · have e_17 : v4 = 20 := by omega
      subst e_17
      exact k s hs (by omega) (by omega) (by omega) (by omega) (by omega) (by omega) (by omega) (by omega)
set_option maxRecDepth 100000 in
/-- GatheredPointsModel.sheet [(3, 3), (16, 16), (0, 20)] -/
theorem zm3178_57 {z : gH} {L d : Nat} {K : Option gV → gH → Prop} {s : gH} (p2 : Int) (hs : zM z s) (h_p2 : 0 ≤ p2 ∧ p2 ≤ 20) (q0 : gp_I s 84 0 = 0) (q1 : gp_I s 84 1 = 0) (q2 : gp_I s 84 2 = 0) (q3 : gp_I s 84 3 = 0) (q4 : gp_I s 85 0 = 0) (q5 : gp_I s 85 1 = 0) (q6 : gp_I s 85 2 = 0) (q7 : gp_I s 85 3 = 0) (k : ∀ (t : gH), zM z t → (gp_I t 84 0 = 0) → (gp_I t 84 1 = 0) → (gp_I t 84 2 = 0) → (gp_I t 84 3 = 16) → (gp_I t 85 0 = 0) → (gp_I t 85 1 = 0) → (gp_I t 85 2 = 0) → (0 ≤ gp_I t 85 3 ∧ gp_I t 85 3 ≤ 20) → K (some (gp_i 1)) t) : gs_C L (d + 1) 3178 5 [gp_r (some 74), gp_i 3, gp_i 16, gp_i p2] s K := by
  refine s_3178_e _ _ _ ?_
  refine zm3076_5 hs (⟨_, rfl, ?_⟩)
  refine ⟨fun h_1 => ?_, fun h_1 => ?_⟩
  · exfalso; omega
  · refine ⟨fun h_2 => ?_, fun h_2 => ?_⟩
    · exfalso; omega
    · refine ⟨fun h_3 => ?_, fun h_3 => ?_⟩
      · exfalso; omega
      · refine ⟨fun h_4 => ?_, fun h_4 => ?_⟩
        · refine s_3178_35 _ _ _ _ ?_
          refine ⟨fun h_5 => ?_, fun h_5 => ?_⟩
          · exfalso; omega
          · refine ⟨fun h_6 => ?_, fun h_6 => ?_⟩
            · exfalso; omega
            · refine s_3178_49 _ _ _ _ ?_
              refine ⟨fun h_7 => ?_, fun h_7 => ?_⟩
              · exfalso; omega
              · refine ⟨fun h_8 => ?_, fun h_8 => ?_⟩
                · exfalso; omega
                · refine s_3178_65 _ _ _ _ ?_
                  refine ⟨by omega, ?_⟩
                  intro s_9 e_10
                  have hs_11 : zM z s_9 := by rw [e_10]; exact zw84 hs _ _
                  have q_12 : gp_I s_9 84 0 = 0 := by rw [e_10]; exact q0
                  have q_13 : gp_I s_9 84 1 = 0 := by rw [e_10]; exact q1
                  have q_14 : gp_I s_9 84 2 = 0 := by rw [e_10]; exact q2
                  have q_15 : gp_I s_9 85 0 = 0 := by rw [e_10]; exact q4
                  have q_16 : gp_I s_9 85 1 = 0 := by rw [e_10]; exact q5
                  have q_17 : gp_I s_9 85 2 = 0 := by rw [e_10]; exact q6
                  have q_18 : gp_I s_9 85 3 = 0 := by rw [e_10]; exact q7
                  have q_19 : gp_I s_9 84 3 = 16 := by rw [e_10]; rfl
                  refine ⟨fun h_21 => ?_, fun h_21 => ?_⟩
                  · exfalso; omega
                  · refine s_3178_86 _ _ _ _ _ _ ?_
                    refine ⟨by omega, ?_⟩
                    intro s_22 e_23
                    have hs_24 : zM z s_22 := by rw [e_23]; exact zw85 hs_11 _ _
                    have q_25 : gp_I s_22 84 0 = 0 := by rw [e_23]; exact q_12
                    have q_26 : gp_I s_22 84 1 = 0 := by rw [e_23]; exact q_13
                    have q_27 : gp_I s_22 84 2 = 0 := by rw [e_23]; exact q_14
                    have q_28 : gp_I s_22 85 0 = 0 := by rw [e_23]; exact q_15
                    have q_29 : gp_I s_22 85 1 = 0 := by rw [e_23]; exact q_16
                    have q_30 : gp_I s_22 85 2 = 0 := by rw [e_23]; exact q_17
                    have q_31 : gp_I s_22 84 3 = 16 := by rw [e_23]; exact q_19
                    have q_32 : 0 ≤ gp_I s_22 85 3 ∧ gp_I s_22 85 3 ≤ 20 := by have x_33 : gp_I s_22 85 3 = p2 := (by rw [e_23]; rfl); omega
                    exact zm3178_57_l90_0 p2 k _ _ _ _ _ s_22 hs_24 (Nat.lt_succ_self _) (by omega) (by omega) (by omega) (by omega) (by omega) (by omega) (by omega) (by omega) (by omega) (by omega) (by omega) (by omega)
        · exfalso; omega
set_option maxRecDepth 100000 in
/-- GatheredPointsModel.sheet [(3, 3), (16, 16), (21, 2147483647)] -/
theorem zm3178_58 {z : gH} {L d : Nat} {K : Option gV → gH → Prop} {s : gH} (p2 : Int) (hs : zM z s) (h_p2 : 21 ≤ p2 ∧ p2 ≤ 2147483647) (q0 : gp_I s 84 0 = 0) (q1 : gp_I s 84 1 = 0) (q2 : gp_I s 84 2 = 0) (q3 : gp_I s 84 3 = 0) (q4 : gp_I s 85 0 = 0) (q5 : gp_I s 85 1 = 0) (q6 : gp_I s 85 2 = 0) (q7 : gp_I s 85 3 = 0) (k : ∀ (t : gH), zM z t → ((-2147483648) ≤ gp_I t 75 1 ∧ gp_I t 75 1 ≤ 2147483647) → (gp_I t 84 0 = 0) → (gp_I t 84 1 = 0) → (gp_I t 84 2 = 0) → (gp_I t 84 3 = 0) → (gp_I t 85 0 = 0) → (gp_I t 85 1 = 0) → (gp_I t 85 2 = 0) → (gp_I t 85 3 = 0) → K (some (gp_i (-1000000001))) t) : gs_C L (d + 1) 3178 5 [gp_r (some 74), gp_i 3, gp_i 16, gp_i p2] s K := by
  refine s_3178_e _ _ _ ?_
  refine zm3076_5 hs (⟨_, rfl, ?_⟩)
  refine ⟨fun h_1 => ?_, fun h_1 => ?_⟩
  · exfalso; omega
  · refine ⟨fun h_2 => ?_, fun h_2 => ?_⟩
    · exfalso; omega
    · refine ⟨fun h_3 => ?_, fun h_3 => ?_⟩
      · exfalso; omega
      · refine ⟨fun h_4 => ?_, fun h_4 => ?_⟩
        · refine s_3178_35 _ _ _ _ ?_
          refine ⟨fun h_5 => ?_, fun h_5 => ?_⟩
          · exfalso; omega
          · refine ⟨fun h_6 => ?_, fun h_6 => ?_⟩
            · exfalso; omega
            · refine s_3178_49 _ _ _ _ ?_
              refine ⟨fun h_7 => ?_, fun h_7 => ?_⟩
              · exfalso; omega
              · refine ⟨fun h_8 => ?_, fun h_8 => ?_⟩
                · refine zm3074_8 hs (by omega) (by omega) (by omega) (by omega) (by omega) (by omega) (by omega) (by omega) (fun s_9 hs_10 q_11 q_12 q_13 q_14 q_15 q_16 q_17 q_18 q_19 => ⟨_, rfl, ?_⟩)
                  exact k s_9 hs_10 (by omega) (by omega) (by omega) (by omega) (by omega) (by omega) (by omega) (by omega) (by omega)
                · exfalso; omega
        · exfalso; omega
set_option maxRecDepth 100000 in
/-- GatheredPointsModel.sheet [(3, 3), (32, 32), (-2147483648, -1)] -/
theorem zm3178_59 {z : gH} {L d : Nat} {K : Option gV → gH → Prop} {s : gH} (p2 : Int) (hs : zM z s) (h_p2 : (-2147483648) ≤ p2 ∧ p2 ≤ (-1)) (q0 : gp_I s 84 0 = 0) (q1 : gp_I s 84 1 = 0) (q2 : gp_I s 84 2 = 0) (q3 : gp_I s 84 3 = 0) (q4 : gp_I s 85 0 = 0) (q5 : gp_I s 85 1 = 0) (q6 : gp_I s 85 2 = 0) (q7 : gp_I s 85 3 = 0) (k : ∀ (t : gH), zM z t → ((-2147483648) ≤ gp_I t 75 3 ∧ gp_I t 75 3 ≤ 2147483647) → (gp_I t 84 0 = 0) → (gp_I t 84 1 = 0) → (gp_I t 84 2 = 0) → (gp_I t 84 3 = 0) → (gp_I t 85 0 = 0) → (gp_I t 85 1 = 0) → (gp_I t 85 2 = 0) → (gp_I t 85 3 = 0) → K (some (gp_i (-1000000003))) t) : gs_C L (d + 1) 3178 5 [gp_r (some 74), gp_i 3, gp_i 32, gp_i p2] s K := by
  refine s_3178_e _ _ _ ?_
  refine zm3076_5 hs (⟨_, rfl, ?_⟩)
  refine ⟨fun h_1 => ?_, fun h_1 => ?_⟩
  · exfalso; omega
  · refine ⟨fun h_2 => ?_, fun h_2 => ?_⟩
    · exfalso; omega
    · refine ⟨fun h_3 => ?_, fun h_3 => ?_⟩
      · exfalso; omega
      · refine ⟨fun h_4 => ?_, fun h_4 => ?_⟩
        · exfalso; omega
        · refine ⟨fun h_5 => ?_, fun h_5 => ?_⟩
          · refine s_3178_35 _ _ _ _ ?_
            refine ⟨fun h_6 => ?_, fun h_6 => ?_⟩
            · exfalso; omega
            · refine ⟨fun h_7 => ?_, fun h_7 => ?_⟩
              · refine zm3074_9 hs (by omega) (by omega) (by omega) (by omega) (by omega) (by omega) (by omega) (by omega) (fun s_8 hs_9 q_10 q_11 q_12 q_13 q_14 q_15 q_16 q_17 q_18 => ⟨_, rfl, ?_⟩)
                exact k s_8 hs_9 (by omega) (by omega) (by omega) (by omega) (by omega) (by omega) (by omega) (by omega) (by omega)
              · exfalso; omega
          · exfalso; omega
set_option maxRecDepth 100000 in
/-- GatheredPointsModel.sheet, the loop at 90 -/
theorem zm3178_60_l90_0 {z : gH} {L d : Nat} {K : Option gV → gH → Prop} (p2 : Int)  (k : ∀ (t : gH), zM z t → (gp_I t 84 0 = 0) → (gp_I t 84 1 = 0) → (gp_I t 84 2 = 0) → (gp_I t 84 3 = 32) → (gp_I t 85 0 = 0) → (gp_I t 85 1 = 0) → (gp_I t 85 2 = 0) → (0 ≤ gp_I t 85 3 ∧ gp_I t 85 3 ≤ 20) → K (some (gp_i 1)) t)  : ∀ (n : Nat) (v1 : Int) (v2 : Int) (v3 : Int) (v4 : Int) (s : gH), zM z s → (21 - v4).toNat < n → (v1 = 3) → (v2 = 32) → (0 ≤ v3 ∧ v3 ≤ 20) → (0 ≤ v4 ∧ v4 ≤ 20) → (gp_I s 84 0 = 0) → (gp_I s 84 1 = 0) → (gp_I s 84 2 = 0) → (gp_I s 84 3 = 32) → (gp_I s 85 0 = 0) → (gp_I s 85 1 = 0) → (gp_I s 85 2 = 0) → (0 ≤ gp_I s 85 3 ∧ gp_I s 85 3 ≤ 20) → gs_E L (d + 1) 3178 90 [gp_r (some 74), gp_i v1, gp_i v2, gp_i v3, gp_i v4] [] s K := by
  intro n
  induction n with
  | zero => intro v1 v2 v3 v4 s hs hm i0 i1 i2 i3 i4 i5 i6 i7 i8 i9 i10 i11; exact absurd hm (Nat.not_lt_zero _)
  | succ n ih =>
    intro v1 v2 v3 v4 s hs hm i0 i1 i2 i3 i4 i5 i6 i7 i8 i9 i10 i11
    subst i0
    subst i1
    refine s_3178_90 _ _ _ _ ?_
    refine ⟨fun h_1 => ?_, fun h_1 => ?_⟩
    · have w_2 := gz_w (20 * 3)
      have e_3 : gp_wr (20 * 3) = 60 := by omega
      try rw [e_3]
      have w_4 := gz_w (60 + v4)
      refine ⟨by omega, ?_⟩
      intro s_5 e_6
      have hs_7 : zM z s_5 := by rw [e_6]; exact zw83 hs _ _
      have q_8 : gp_I s_5 84 0 = 0 := by rw [e_6]; exact i4
      have q_9 : gp_I s_5 84 1 = 0 := by rw [e_6]; exact i5
      have q_10 : gp_I s_5 84 2 = 0 := by rw [e_6]; exact i6
      have q_11 : gp_I s_5 84 3 = 32 := by rw [e_6]; exact i7
      have q_12 : gp_I s_5 85 0 = 0 := by rw [e_6]; exact i8
      have q_13 : gp_I s_5 85 1 = 0 := by rw [e_6]; exact i9
      have q_14 : gp_I s_5 85 2 = 0 := by rw [e_6]; exact i10
      have q_15 : 0 ≤ gp_I s_5 85 3 ∧ gp_I s_5 85 3 ≤ 20 := by rw [e_6]; exact i11
      have w_16 := gz_w (v4 + 1)
      exact ih _ _ _ _ s_5 hs_7 (by omega) (by omega) (by omega) (by omega) (by omega) (by omega) (by omega) (by omega) (by omega) (by omega) (by omega) (by omega) (by omega)
    · have e_17 : v4 = 20 := by omega
      subst e_17
      exact k s hs (by omega) (by omega) (by omega) (by omega) (by omega) (by omega) (by omega) (by omega)
set_option maxRecDepth 100000 in
/-- GatheredPointsModel.sheet [(3, 3), (32, 32), (0, 20)] -/
theorem zm3178_60 {z : gH} {L d : Nat} {K : Option gV → gH → Prop} {s : gH} (p2 : Int) (hs : zM z s) (h_p2 : 0 ≤ p2 ∧ p2 ≤ 20) (q0 : gp_I s 84 0 = 0) (q1 : gp_I s 84 1 = 0) (q2 : gp_I s 84 2 = 0) (q3 : gp_I s 84 3 = 0) (q4 : gp_I s 85 0 = 0) (q5 : gp_I s 85 1 = 0) (q6 : gp_I s 85 2 = 0) (q7 : gp_I s 85 3 = 0) (k : ∀ (t : gH), zM z t → (gp_I t 84 0 = 0) → (gp_I t 84 1 = 0) → (gp_I t 84 2 = 0) → (gp_I t 84 3 = 32) → (gp_I t 85 0 = 0) → (gp_I t 85 1 = 0) → (gp_I t 85 2 = 0) → (0 ≤ gp_I t 85 3 ∧ gp_I t 85 3 ≤ 20) → K (some (gp_i 1)) t) : gs_C L (d + 1) 3178 5 [gp_r (some 74), gp_i 3, gp_i 32, gp_i p2] s K := by
  refine s_3178_e _ _ _ ?_
  refine zm3076_5 hs (⟨_, rfl, ?_⟩)
  refine ⟨fun h_1 => ?_, fun h_1 => ?_⟩
  · exfalso; omega
  · refine ⟨fun h_2 => ?_, fun h_2 => ?_⟩
    · exfalso; omega
    · refine ⟨fun h_3 => ?_, fun h_3 => ?_⟩
      · exfalso; omega
      · refine ⟨fun h_4 => ?_, fun h_4 => ?_⟩
        · exfalso; omega
        · refine ⟨fun h_5 => ?_, fun h_5 => ?_⟩
          · refine s_3178_35 _ _ _ _ ?_
            refine ⟨fun h_6 => ?_, fun h_6 => ?_⟩
            · exfalso; omega
            · refine ⟨fun h_7 => ?_, fun h_7 => ?_⟩
              · exfalso; omega
              · refine s_3178_49 _ _ _ _ ?_
                refine ⟨fun h_8 => ?_, fun h_8 => ?_⟩
                · exfalso; omega
                · refine ⟨fun h_9 => ?_, fun h_9 => ?_⟩
                  · exfalso; omega
                  · refine s_3178_65 _ _ _ _ ?_
                    refine ⟨by omega, ?_⟩
                    intro s_10 e_11
                    have hs_12 : zM z s_10 := by rw [e_11]; exact zw84 hs _ _
                    have q_13 : gp_I s_10 84 0 = 0 := by rw [e_11]; exact q0
                    have q_14 : gp_I s_10 84 1 = 0 := by rw [e_11]; exact q1
                    have q_15 : gp_I s_10 84 2 = 0 := by rw [e_11]; exact q2
                    have q_16 : gp_I s_10 85 0 = 0 := by rw [e_11]; exact q4
                    have q_17 : gp_I s_10 85 1 = 0 := by rw [e_11]; exact q5
                    have q_18 : gp_I s_10 85 2 = 0 := by rw [e_11]; exact q6
                    have q_19 : gp_I s_10 85 3 = 0 := by rw [e_11]; exact q7
                    have q_20 : gp_I s_10 84 3 = 32 := by rw [e_11]; rfl
                    refine ⟨fun h_22 => ?_, fun h_22 => ?_⟩
                    · exfalso; omega
                    · refine s_3178_86 _ _ _ _ _ _ ?_
                      refine ⟨by omega, ?_⟩
                      intro s_23 e_24
                      have hs_25 : zM z s_23 := by rw [e_24]; exact zw85 hs_12 _ _
                      have q_26 : gp_I s_23 84 0 = 0 := by rw [e_24]; exact q_13
                      have q_27 : gp_I s_23 84 1 = 0 := by rw [e_24]; exact q_14
                      have q_28 : gp_I s_23 84 2 = 0 := by rw [e_24]; exact q_15
                      have q_29 : gp_I s_23 85 0 = 0 := by rw [e_24]; exact q_16
                      have q_30 : gp_I s_23 85 1 = 0 := by rw [e_24]; exact q_17
                      have q_31 : gp_I s_23 85 2 = 0 := by rw [e_24]; exact q_18
                      have q_32 : gp_I s_23 84 3 = 32 := by rw [e_24]; exact q_20
                      have q_33 : 0 ≤ gp_I s_23 85 3 ∧ gp_I s_23 85 3 ≤ 20 := by have x_34 : gp_I s_23 85 3 = p2 := (by rw [e_24]; rfl); omega
                      exact zm3178_60_l90_0 p2 k _ _ _ _ _ s_23 hs_25 (Nat.lt_succ_self _) (by omega) (by omega) (by omega) (by omega) (by omega) (by omega) (by omega) (by omega) (by omega) (by omega) (by omega) (by omega)
          · exfalso; omega
set_option maxRecDepth 100000 in
/-- GatheredPointsModel.sheet [(3, 3), (32, 32), (21, 2147483647)] -/
theorem zm3178_61 {z : gH} {L d : Nat} {K : Option gV → gH → Prop} {s : gH} (p2 : Int) (hs : zM z s) (h_p2 : 21 ≤ p2 ∧ p2 ≤ 2147483647) (q0 : gp_I s 84 0 = 0) (q1 : gp_I s 84 1 = 0) (q2 : gp_I s 84 2 = 0) (q3 : gp_I s 84 3 = 0) (q4 : gp_I s 85 0 = 0) (q5 : gp_I s 85 1 = 0) (q6 : gp_I s 85 2 = 0) (q7 : gp_I s 85 3 = 0) (k : ∀ (t : gH), zM z t → ((-2147483648) ≤ gp_I t 75 1 ∧ gp_I t 75 1 ≤ 2147483647) → (gp_I t 84 0 = 0) → (gp_I t 84 1 = 0) → (gp_I t 84 2 = 0) → (gp_I t 84 3 = 0) → (gp_I t 85 0 = 0) → (gp_I t 85 1 = 0) → (gp_I t 85 2 = 0) → (gp_I t 85 3 = 0) → K (some (gp_i (-1000000001))) t) : gs_C L (d + 1) 3178 5 [gp_r (some 74), gp_i 3, gp_i 32, gp_i p2] s K := by
  refine s_3178_e _ _ _ ?_
  refine zm3076_5 hs (⟨_, rfl, ?_⟩)
  refine ⟨fun h_1 => ?_, fun h_1 => ?_⟩
  · exfalso; omega
  · refine ⟨fun h_2 => ?_, fun h_2 => ?_⟩
    · exfalso; omega
    · refine ⟨fun h_3 => ?_, fun h_3 => ?_⟩
      · exfalso; omega
      · refine ⟨fun h_4 => ?_, fun h_4 => ?_⟩
        · exfalso; omega
        · refine ⟨fun h_5 => ?_, fun h_5 => ?_⟩
          · refine s_3178_35 _ _ _ _ ?_
            refine ⟨fun h_6 => ?_, fun h_6 => ?_⟩
            · exfalso; omega
            · refine ⟨fun h_7 => ?_, fun h_7 => ?_⟩
              · exfalso; omega
              · refine s_3178_49 _ _ _ _ ?_
                refine ⟨fun h_8 => ?_, fun h_8 => ?_⟩
                · exfalso; omega
                · refine ⟨fun h_9 => ?_, fun h_9 => ?_⟩
                  · refine zm3074_8 hs (by omega) (by omega) (by omega) (by omega) (by omega) (by omega) (by omega) (by omega) (fun s_10 hs_11 q_12 q_13 q_14 q_15 q_16 q_17 q_18 q_19 q_20 => ⟨_, rfl, ?_⟩)
                    exact k s_10 hs_11 (by omega) (by omega) (by omega) (by omega) (by omega) (by omega) (by omega) (by omega) (by omega)
                  · exfalso; omega
          · exfalso; omega
set_option maxRecDepth 100000 in
/-- GatheredPointsModel.lacksNumber [(-2147483648, -1), (-2147483648, 2147483647)] -/
theorem zm3179_0 {z : gH} {L d : Nat} {K : Option gV → gH → Prop} {s : gH} (p0 : Int) (p1 : Int) (hs : zM z s) (h_p0 : (-2147483648) ≤ p0 ∧ p0 ≤ (-1)) (h_p1 : (-2147483648) ≤ p1 ∧ p1 ≤ 2147483647) (q0 : gp_I s 84 0 = 0) (q1 : gp_I s 84 1 = 0) (q2 : gp_I s 84 2 = 0) (q3 : gp_I s 84 3 = 0) (q4 : gp_I s 85 0 = 0) (q5 : gp_I s 85 1 = 0) (q6 : gp_I s 85 2 = 0) (q7 : gp_I s 85 3 = 0) (k : K (some (gp_i 1)) s) : gs_C L (d + 1) 3179 3 [gp_r (some 74), gp_i p0, gp_i p1] s K := by
  refine s_3179_e _ _ ?_
  refine zm3076_0 _ hs (by omega) (⟨_, rfl, ?_⟩)
  refine ⟨fun h_1 => ?_, fun h_1 => ?_⟩
  · refine s_3179_47 _ _ _ ?_
    exact k
  · exfalso; omega
set_option maxRecDepth 100000 in
/-- GatheredPointsModel.put [(-2147483648, -1), (-2147483648, 2147483647), (-2147483648, 2147483647)] -/
theorem zm3180_0 {z : gH} {L d : Nat} {K : Option gV → gH → Prop} {s : gH} (p0 : Int) (p1 : Int) (p2 : Int) (hs : zM z s) (h_p0 : (-2147483648) ≤ p0 ∧ p0 ≤ (-1)) (h_p1 : (-2147483648) ≤ p1 ∧ p1 ≤ 2147483647) (h_p2 : (-2147483648) ≤ p2 ∧ p2 ≤ 2147483647) (q0 : gp_I s 84 0 = 0) (q1 : gp_I s 84 1 = 0) (q2 : gp_I s 84 2 = 0) (q3 : gp_I s 84 3 = 0) (q4 : gp_I s 85 0 = 0) (q5 : gp_I s 85 1 = 0) (q6 : gp_I s 85 2 = 0) (q7 : gp_I s 85 3 = 0) (k : ∀ (t : gH), zM z t → ((-2147483648) ≤ gp_I t 75 1 ∧ gp_I t 75 1 ≤ 2147483647) → (gp_I t 84 0 = 0) → (gp_I t 84 1 = 0) → (gp_I t 84 2 = 0) → (gp_I t 84 3 = 0) → (gp_I t 85 0 = 0) → (gp_I t 85 1 = 0) → (gp_I t 85 2 = 0) → (gp_I t 85 3 = 0) → K (some (gp_i (-1000000001))) t) : gs_C L (d + 2) 3180 6 [gp_r (some 74), gp_i p0, gp_i p1, gp_i p2] s K := by
  refine s_3180_e _ _ _ ?_
  refine zm3179_0 _ _ hs (by omega) (by omega) (by omega) (by omega) (by omega) (by omega) (by omega) (by omega) (by omega) (by omega) (⟨_, rfl, ?_⟩)
  refine ⟨fun h_1 => ?_, fun h_1 => ?_⟩
  · exfalso; omega
  · refine zm3074_8 hs (by omega) (by omega) (by omega) (by omega) (by omega) (by omega) (by omega) (by omega) (fun s_2 hs_3 q_4 q_5 q_6 q_7 q_8 q_9 q_10 q_11 q_12 => ⟨_, rfl, ?_⟩)
    exact k s_2 hs_3 (by omega) (by omega) (by omega) (by omega) (by omega) (by omega) (by omega) (by omega) (by omega)
set_option maxRecDepth 100000 in
/-- GatheredPointsModel.lacksNumber [(4, 2147483647), (-2147483648, 2147483647)] -/
theorem zm3179_1 {z : gH} {L d : Nat} {K : Option gV → gH → Prop} {s : gH} (p0 : Int) (p1 : Int) (hs : zM z s) (h_p0 : 4 ≤ p0 ∧ p0 ≤ 2147483647) (h_p1 : (-2147483648) ≤ p1 ∧ p1 ≤ 2147483647) (q0 : gp_I s 84 0 = 0) (q1 : gp_I s 84 1 = 0) (q2 : gp_I s 84 2 = 0) (q3 : gp_I s 84 3 = 0) (q4 : gp_I s 85 0 = 0) (q5 : gp_I s 85 1 = 0) (q6 : gp_I s 85 2 = 0) (q7 : gp_I s 85 3 = 0) (k : K (some (gp_i 1)) s) : gs_C L (d + 1) 3179 3 [gp_r (some 74), gp_i p0, gp_i p1] s K := by
  refine s_3179_e _ _ ?_
  refine zm3076_1 _ hs (by omega) (⟨_, rfl, ?_⟩)
  refine ⟨fun h_1 => ?_, fun h_1 => ?_⟩
  · refine s_3179_47 _ _ _ ?_
    exact k
  · exfalso; omega
set_option maxRecDepth 100000 in
/-- GatheredPointsModel.put [(4, 2147483647), (-2147483648, 2147483647), (-2147483648, 2147483647)] -/
theorem zm3180_1 {z : gH} {L d : Nat} {K : Option gV → gH → Prop} {s : gH} (p0 : Int) (p1 : Int) (p2 : Int) (hs : zM z s) (h_p0 : 4 ≤ p0 ∧ p0 ≤ 2147483647) (h_p1 : (-2147483648) ≤ p1 ∧ p1 ≤ 2147483647) (h_p2 : (-2147483648) ≤ p2 ∧ p2 ≤ 2147483647) (q0 : gp_I s 84 0 = 0) (q1 : gp_I s 84 1 = 0) (q2 : gp_I s 84 2 = 0) (q3 : gp_I s 84 3 = 0) (q4 : gp_I s 85 0 = 0) (q5 : gp_I s 85 1 = 0) (q6 : gp_I s 85 2 = 0) (q7 : gp_I s 85 3 = 0) (k : ∀ (t : gH), zM z t → ((-2147483648) ≤ gp_I t 75 1 ∧ gp_I t 75 1 ≤ 2147483647) → (gp_I t 84 0 = 0) → (gp_I t 84 1 = 0) → (gp_I t 84 2 = 0) → (gp_I t 84 3 = 0) → (gp_I t 85 0 = 0) → (gp_I t 85 1 = 0) → (gp_I t 85 2 = 0) → (gp_I t 85 3 = 0) → K (some (gp_i (-1000000001))) t) : gs_C L (d + 2) 3180 6 [gp_r (some 74), gp_i p0, gp_i p1, gp_i p2] s K := by
  refine s_3180_e _ _ _ ?_
  refine zm3179_1 _ _ hs (by omega) (by omega) (by omega) (by omega) (by omega) (by omega) (by omega) (by omega) (by omega) (by omega) (⟨_, rfl, ?_⟩)
  refine ⟨fun h_1 => ?_, fun h_1 => ?_⟩
  · exfalso; omega
  · refine zm3074_8 hs (by omega) (by omega) (by omega) (by omega) (by omega) (by omega) (by omega) (by omega) (fun s_2 hs_3 q_4 q_5 q_6 q_7 q_8 q_9 q_10 q_11 q_12 => ⟨_, rfl, ?_⟩)
    exact k s_2 hs_3 (by omega) (by omega) (by omega) (by omega) (by omega) (by omega) (by omega) (by omega) (by omega)
set_option maxRecDepth 100000 in
/-- GatheredPointsModel.lacksNumber [(0, 0), (-2147483648, 2147483647)] -/
theorem zm3179_2 {z : gH} {L d : Nat} {K : Option gV → gH → Prop} {s : gH} (p1 : Int) (hs : zM z s) (h_p1 : (-2147483648) ≤ p1 ∧ p1 ≤ 2147483647) (q0 : gp_I s 84 0 = 0) (q1 : gp_I s 84 1 = 0) (q2 : gp_I s 84 2 = 0) (q3 : gp_I s 84 3 = 0) (q4 : gp_I s 85 0 = 0) (q5 : gp_I s 85 1 = 0) (q6 : gp_I s 85 2 = 0) (q7 : gp_I s 85 3 = 0) (k : K (some (gp_i 2)) s) : gs_C L (d + 1) 3179 3 [gp_r (some 74), gp_i 0, gp_i p1] s K := by
  refine s_3179_e _ _ ?_
  refine zm3076_2 hs (⟨_, rfl, ?_⟩)
  refine ⟨fun h_1 => ?_, fun h_1 => ?_⟩
  · exfalso; omega
  · refine ⟨by omega, ?_⟩
    try rw [show gp_I s 84 (0 : Int).toNat = 0 from q0]
    refine ⟨fun h_2 => ?_, fun h_2 => ?_⟩
    · refine s_3179_47 _ _ _ ?_
      exact k
    · exfalso; omega
set_option maxRecDepth 100000 in
/-- GatheredPointsModel.finds [(2, 2)] -/
theorem zm3074_10 {z : gH} {L d : Nat} {K : Option gV → gH → Prop} {s : gH}  (hs : zM z s)  (q0 : gp_I s 84 0 = 0) (q1 : gp_I s 84 1 = 0) (q2 : gp_I s 84 2 = 0) (q3 : gp_I s 84 3 = 0) (q4 : gp_I s 85 0 = 0) (q5 : gp_I s 85 1 = 0) (q6 : gp_I s 85 2 = 0) (q7 : gp_I s 85 3 = 0) (k : ∀ (t : gH), zM z t → ((-2147483648) ≤ gp_I t 75 2 ∧ gp_I t 75 2 ≤ 2147483647) → (gp_I t 84 0 = 0) → (gp_I t 84 1 = 0) → (gp_I t 84 2 = 0) → (gp_I t 84 3 = 0) → (gp_I t 85 0 = 0) → (gp_I t 85 1 = 0) → (gp_I t 85 2 = 0) → (gp_I t 85 3 = 0) → K (some (gp_i (-1000000002))) t) : gs_C L d 3074 2 [gp_r (some 74), gp_i 2] s K := by
  refine s_3074_e _ ?_
  refine ⟨by omega, ?_⟩
  have w_1 := gz_w ((gp_I s 75 (2 : Int).toNat) + 1)
  refine ⟨by omega, ?_⟩
  intro s_2 e_3
  have hs_4 : zM z s_2 := by rw [e_3]; exact zw75 hs _ _
  have q_5 : gp_I s_2 84 0 = 0 := by rw [e_3]; exact q0
  have q_6 : gp_I s_2 84 1 = 0 := by rw [e_3]; exact q1
  have q_7 : gp_I s_2 84 2 = 0 := by rw [e_3]; exact q2
  have q_8 : gp_I s_2 84 3 = 0 := by rw [e_3]; exact q3
  have q_9 : gp_I s_2 85 0 = 0 := by rw [e_3]; exact q4
  have q_10 : gp_I s_2 85 1 = 0 := by rw [e_3]; exact q5
  have q_11 : gp_I s_2 85 2 = 0 := by rw [e_3]; exact q6
  have q_12 : gp_I s_2 85 3 = 0 := by rw [e_3]; exact q7
  have q_13 : (-2147483648) ≤ gp_I s_2 75 2 ∧ gp_I s_2 75 2 ≤ 2147483647 := by have x_14 : gp_I s_2 75 2 = gp_wr ((gp_I s 75 (2 : Int).toNat) + 1) := (by rw [e_3]; rfl); omega
  have w_15 := gz_w ((-1000000000) - 2)
  have e_16 : gp_wr ((-1000000000) - 2) = (-1000000002) := by omega
  try rw [e_16]
  exact k s_2 hs_4 (by omega) (by omega) (by omega) (by omega) (by omega) (by omega) (by omega) (by omega) (by omega)
set_option maxRecDepth 100000 in
/-- GatheredPointsModel.put [(0, 0), (-2147483648, 2147483647), (-2147483648, 2147483647)] -/
theorem zm3180_2 {z : gH} {L d : Nat} {K : Option gV → gH → Prop} {s : gH} (p1 : Int) (p2 : Int) (hs : zM z s) (h_p1 : (-2147483648) ≤ p1 ∧ p1 ≤ 2147483647) (h_p2 : (-2147483648) ≤ p2 ∧ p2 ≤ 2147483647) (q0 : gp_I s 84 0 = 0) (q1 : gp_I s 84 1 = 0) (q2 : gp_I s 84 2 = 0) (q3 : gp_I s 84 3 = 0) (q4 : gp_I s 85 0 = 0) (q5 : gp_I s 85 1 = 0) (q6 : gp_I s 85 2 = 0) (q7 : gp_I s 85 3 = 0) (k : ∀ (t : gH), zM z t → ((-2147483648) ≤ gp_I t 75 2 ∧ gp_I t 75 2 ≤ 2147483647) → (gp_I t 84 0 = 0) → (gp_I t 84 1 = 0) → (gp_I t 84 2 = 0) → (gp_I t 84 3 = 0) → (gp_I t 85 0 = 0) → (gp_I t 85 1 = 0) → (gp_I t 85 2 = 0) → (gp_I t 85 3 = 0) → K (some (gp_i (-1000000002))) t) : gs_C L (d + 2) 3180 6 [gp_r (some 74), gp_i 0, gp_i p1, gp_i p2] s K := by
  refine s_3180_e _ _ _ ?_
  refine zm3179_2 _ hs (by omega) (by omega) (by omega) (by omega) (by omega) (by omega) (by omega) (by omega) (by omega) (⟨_, rfl, ?_⟩)
  refine ⟨fun h_1 => ?_, fun h_1 => ?_⟩
  · exfalso; omega
  · refine zm3074_10 hs (by omega) (by omega) (by omega) (by omega) (by omega) (by omega) (by omega) (by omega) (fun s_2 hs_3 q_4 q_5 q_6 q_7 q_8 q_9 q_10 q_11 q_12 => ⟨_, rfl, ?_⟩)
    exact k s_2 hs_3 (by omega) (by omega) (by omega) (by omega) (by omega) (by omega) (by omega) (by omega) (by omega)
set_option maxRecDepth 100000 in
/-- GatheredPointsModel.lacksNumber [(1, 1), (-2147483648, 2147483647)] -/
theorem zm3179_3 {z : gH} {L d : Nat} {K : Option gV → gH → Prop} {s : gH} (p1 : Int) (hs : zM z s) (h_p1 : (-2147483648) ≤ p1 ∧ p1 ≤ 2147483647) (q0 : gp_I s 84 0 = 0) (q1 : gp_I s 84 1 = 0) (q2 : gp_I s 84 2 = 0) (q3 : gp_I s 84 3 = 0) (q4 : gp_I s 85 0 = 0) (q5 : gp_I s 85 1 = 0) (q6 : gp_I s 85 2 = 0) (q7 : gp_I s 85 3 = 0) (k : K (some (gp_i 2)) s) : gs_C L (d + 1) 3179 3 [gp_r (some 74), gp_i 1, gp_i p1] s K := by
  refine s_3179_e _ _ ?_
  refine zm3076_3 hs (⟨_, rfl, ?_⟩)
  refine ⟨fun h_1 => ?_, fun h_1 => ?_⟩
  · exfalso; omega
  · refine ⟨by omega, ?_⟩
    try rw [show gp_I s 84 (1 : Int).toNat = 0 from q1]
    refine ⟨fun h_2 => ?_, fun h_2 => ?_⟩
    · refine s_3179_47 _ _ _ ?_
      exact k
    · exfalso; omega
set_option maxRecDepth 100000 in
/-- GatheredPointsModel.put [(1, 1), (-2147483648, 2147483647), (-2147483648, 2147483647)] -/
theorem zm3180_3 {z : gH} {L d : Nat} {K : Option gV → gH → Prop} {s : gH} (p1 : Int) (p2 : Int) (hs : zM z s) (h_p1 : (-2147483648) ≤ p1 ∧ p1 ≤ 2147483647) (h_p2 : (-2147483648) ≤ p2 ∧ p2 ≤ 2147483647) (q0 : gp_I s 84 0 = 0) (q1 : gp_I s 84 1 = 0) (q2 : gp_I s 84 2 = 0) (q3 : gp_I s 84 3 = 0) (q4 : gp_I s 85 0 = 0) (q5 : gp_I s 85 1 = 0) (q6 : gp_I s 85 2 = 0) (q7 : gp_I s 85 3 = 0) (k : ∀ (t : gH), zM z t → ((-2147483648) ≤ gp_I t 75 2 ∧ gp_I t 75 2 ≤ 2147483647) → (gp_I t 84 0 = 0) → (gp_I t 84 1 = 0) → (gp_I t 84 2 = 0) → (gp_I t 84 3 = 0) → (gp_I t 85 0 = 0) → (gp_I t 85 1 = 0) → (gp_I t 85 2 = 0) → (gp_I t 85 3 = 0) → K (some (gp_i (-1000000002))) t) : gs_C L (d + 2) 3180 6 [gp_r (some 74), gp_i 1, gp_i p1, gp_i p2] s K := by
  refine s_3180_e _ _ _ ?_
  refine zm3179_3 _ hs (by omega) (by omega) (by omega) (by omega) (by omega) (by omega) (by omega) (by omega) (by omega) (⟨_, rfl, ?_⟩)
  refine ⟨fun h_1 => ?_, fun h_1 => ?_⟩
  · exfalso; omega
  · refine zm3074_10 hs (by omega) (by omega) (by omega) (by omega) (by omega) (by omega) (by omega) (by omega) (fun s_2 hs_3 q_4 q_5 q_6 q_7 q_8 q_9 q_10 q_11 q_12 => ⟨_, rfl, ?_⟩)
    exact k s_2 hs_3 (by omega) (by omega) (by omega) (by omega) (by omega) (by omega) (by omega) (by omega) (by omega)
set_option maxRecDepth 100000 in
/-- GatheredPointsModel.lacksNumber [(2, 2), (-2147483648, 2147483647)] -/
theorem zm3179_4 {z : gH} {L d : Nat} {K : Option gV → gH → Prop} {s : gH} (p1 : Int) (hs : zM z s) (h_p1 : (-2147483648) ≤ p1 ∧ p1 ≤ 2147483647) (q0 : gp_I s 84 0 = 0) (q1 : gp_I s 84 1 = 0) (q2 : gp_I s 84 2 = 0) (q3 : gp_I s 84 3 = 0) (q4 : gp_I s 85 0 = 0) (q5 : gp_I s 85 1 = 0) (q6 : gp_I s 85 2 = 0) (q7 : gp_I s 85 3 = 0) (k : K (some (gp_i 2)) s) : gs_C L (d + 1) 3179 3 [gp_r (some 74), gp_i 2, gp_i p1] s K := by
  refine s_3179_e _ _ ?_
  refine zm3076_4 hs (⟨_, rfl, ?_⟩)
  refine ⟨fun h_1 => ?_, fun h_1 => ?_⟩
  · exfalso; omega
  · refine ⟨by omega, ?_⟩
    try rw [show gp_I s 84 (2 : Int).toNat = 0 from q2]
    refine ⟨fun h_2 => ?_, fun h_2 => ?_⟩
    · refine s_3179_47 _ _ _ ?_
      exact k
    · exfalso; omega
set_option maxRecDepth 100000 in
/-- GatheredPointsModel.put [(2, 2), (-2147483648, 2147483647), (-2147483648, 2147483647)] -/
theorem zm3180_4 {z : gH} {L d : Nat} {K : Option gV → gH → Prop} {s : gH} (p1 : Int) (p2 : Int) (hs : zM z s) (h_p1 : (-2147483648) ≤ p1 ∧ p1 ≤ 2147483647) (h_p2 : (-2147483648) ≤ p2 ∧ p2 ≤ 2147483647) (q0 : gp_I s 84 0 = 0) (q1 : gp_I s 84 1 = 0) (q2 : gp_I s 84 2 = 0) (q3 : gp_I s 84 3 = 0) (q4 : gp_I s 85 0 = 0) (q5 : gp_I s 85 1 = 0) (q6 : gp_I s 85 2 = 0) (q7 : gp_I s 85 3 = 0) (k : ∀ (t : gH), zM z t → ((-2147483648) ≤ gp_I t 75 2 ∧ gp_I t 75 2 ≤ 2147483647) → (gp_I t 84 0 = 0) → (gp_I t 84 1 = 0) → (gp_I t 84 2 = 0) → (gp_I t 84 3 = 0) → (gp_I t 85 0 = 0) → (gp_I t 85 1 = 0) → (gp_I t 85 2 = 0) → (gp_I t 85 3 = 0) → K (some (gp_i (-1000000002))) t) : gs_C L (d + 2) 3180 6 [gp_r (some 74), gp_i 2, gp_i p1, gp_i p2] s K := by
  refine s_3180_e _ _ _ ?_
  refine zm3179_4 _ hs (by omega) (by omega) (by omega) (by omega) (by omega) (by omega) (by omega) (by omega) (by omega) (⟨_, rfl, ?_⟩)
  refine ⟨fun h_1 => ?_, fun h_1 => ?_⟩
  · exfalso; omega
  · refine zm3074_10 hs (by omega) (by omega) (by omega) (by omega) (by omega) (by omega) (by omega) (by omega) (fun s_2 hs_3 q_4 q_5 q_6 q_7 q_8 q_9 q_10 q_11 q_12 => ⟨_, rfl, ?_⟩)
    exact k s_2 hs_3 (by omega) (by omega) (by omega) (by omega) (by omega) (by omega) (by omega) (by omega) (by omega)
set_option maxRecDepth 100000 in
/-- GatheredPointsModel.lacksNumber [(3, 3), (-2147483648, 2147483647)] -/
theorem zm3179_5 {z : gH} {L d : Nat} {K : Option gV → gH → Prop} {s : gH} (p1 : Int) (hs : zM z s) (h_p1 : (-2147483648) ≤ p1 ∧ p1 ≤ 2147483647) (q0 : gp_I s 84 0 = 0) (q1 : gp_I s 84 1 = 0) (q2 : gp_I s 84 2 = 0) (q3 : gp_I s 84 3 = 0) (q4 : gp_I s 85 0 = 0) (q5 : gp_I s 85 1 = 0) (q6 : gp_I s 85 2 = 0) (q7 : gp_I s 85 3 = 0) (k : K (some (gp_i 2)) s) : gs_C L (d + 1) 3179 3 [gp_r (some 74), gp_i 3, gp_i p1] s K := by
  refine s_3179_e _ _ ?_
  refine zm3076_5 hs (⟨_, rfl, ?_⟩)
  refine ⟨fun h_1 => ?_, fun h_1 => ?_⟩
  · exfalso; omega
  · refine ⟨by omega, ?_⟩
    try rw [show gp_I s 84 (3 : Int).toNat = 0 from q3]
    refine ⟨fun h_2 => ?_, fun h_2 => ?_⟩
    · refine s_3179_47 _ _ _ ?_
      exact k
    · exfalso; omega
set_option maxRecDepth 100000 in
/-- GatheredPointsModel.put [(3, 3), (-2147483648, 2147483647), (-2147483648, 2147483647)] -/
theorem zm3180_5 {z : gH} {L d : Nat} {K : Option gV → gH → Prop} {s : gH} (p1 : Int) (p2 : Int) (hs : zM z s) (h_p1 : (-2147483648) ≤ p1 ∧ p1 ≤ 2147483647) (h_p2 : (-2147483648) ≤ p2 ∧ p2 ≤ 2147483647) (q0 : gp_I s 84 0 = 0) (q1 : gp_I s 84 1 = 0) (q2 : gp_I s 84 2 = 0) (q3 : gp_I s 84 3 = 0) (q4 : gp_I s 85 0 = 0) (q5 : gp_I s 85 1 = 0) (q6 : gp_I s 85 2 = 0) (q7 : gp_I s 85 3 = 0) (k : ∀ (t : gH), zM z t → ((-2147483648) ≤ gp_I t 75 2 ∧ gp_I t 75 2 ≤ 2147483647) → (gp_I t 84 0 = 0) → (gp_I t 84 1 = 0) → (gp_I t 84 2 = 0) → (gp_I t 84 3 = 0) → (gp_I t 85 0 = 0) → (gp_I t 85 1 = 0) → (gp_I t 85 2 = 0) → (gp_I t 85 3 = 0) → K (some (gp_i (-1000000002))) t) : gs_C L (d + 2) 3180 6 [gp_r (some 74), gp_i 3, gp_i p1, gp_i p2] s K := by
  refine s_3180_e _ _ _ ?_
  refine zm3179_5 _ hs (by omega) (by omega) (by omega) (by omega) (by omega) (by omega) (by omega) (by omega) (by omega) (⟨_, rfl, ?_⟩)
  refine ⟨fun h_1 => ?_, fun h_1 => ?_⟩
  · exfalso; omega
  · refine zm3074_10 hs (by omega) (by omega) (by omega) (by omega) (by omega) (by omega) (by omega) (by omega) (fun s_2 hs_3 q_4 q_5 q_6 q_7 q_8 q_9 q_10 q_11 q_12 => ⟨_, rfl, ?_⟩)
    exact k s_2 hs_3 (by omega) (by omega) (by omega) (by omega) (by omega) (by omega) (by omega) (by omega) (by omega)
set_option maxRecDepth 100000 in
/-- GatheredPointsModel.number [(-2147483648, -1), (-2147483648, 2147483647)] -/
theorem zm3181_0 {z : gH} {L d : Nat} {K : Option gV → gH → Prop} {s : gH} (p0 : Int) (p1 : Int) (hs : zM z s) (h_p0 : (-2147483648) ≤ p0 ∧ p0 ≤ (-1)) (h_p1 : (-2147483648) ≤ p1 ∧ p1 ≤ 2147483647) (q0 : gp_I s 84 0 = 0) (q1 : gp_I s 84 1 = 0) (q2 : gp_I s 84 2 = 0) (q3 : gp_I s 84 3 = 0) (q4 : gp_I s 85 0 = 0) (q5 : gp_I s 85 1 = 0) (q6 : gp_I s 85 2 = 0) (q7 : gp_I s 85 3 = 0) (k : ∀ (t : gH), zM z t → ((-2147483648) ≤ gp_I t 75 1 ∧ gp_I t 75 1 ≤ 2147483647) → (gp_I t 84 0 = 0) → (gp_I t 84 1 = 0) → (gp_I t 84 2 = 0) → (gp_I t 84 3 = 0) → (gp_I t 85 0 = 0) → (gp_I t 85 1 = 0) → (gp_I t 85 2 = 0) → (gp_I t 85 3 = 0) → K (some (gp_i (-1000000001))) t) : gs_C L (d + 2) 3181 4 [gp_r (some 74), gp_i p0, gp_i p1] s K := by
  refine s_3181_e _ _ ?_
  refine zm3179_0 _ _ hs (by omega) (by omega) (by omega) (by omega) (by omega) (by omega) (by omega) (by omega) (by omega) (by omega) (⟨_, rfl, ?_⟩)
  refine ⟨fun h_1 => ?_, fun h_1 => ?_⟩
  · exfalso; omega
  · refine zm3074_8 hs (by omega) (by omega) (by omega) (by omega) (by omega) (by omega) (by omega) (by omega) (fun s_2 hs_3 q_4 q_5 q_6 q_7 q_8 q_9 q_10 q_11 q_12 => ⟨_, rfl, ?_⟩)
    refine s_3181_30 _ _ _ _ ?_
    exact k s_2 hs_3 (by omega) (by omega) (by omega) (by omega) (by omega) (by omega) (by omega) (by omega) (by omega)
set_option maxRecDepth 100000 in
/-- GatheredPointsModel.number [(4, 2147483647), (-2147483648, 2147483647)] -/
theorem zm3181_1 {z : gH} {L d : Nat} {K : Option gV → gH → Prop} {s : gH} (p0 : Int) (p1 : Int) (hs : zM z s) (h_p0 : 4 ≤ p0 ∧ p0 ≤ 2147483647) (h_p1 : (-2147483648) ≤ p1 ∧ p1 ≤ 2147483647) (q0 : gp_I s 84 0 = 0) (q1 : gp_I s 84 1 = 0) (q2 : gp_I s 84 2 = 0) (q3 : gp_I s 84 3 = 0) (q4 : gp_I s 85 0 = 0) (q5 : gp_I s 85 1 = 0) (q6 : gp_I s 85 2 = 0) (q7 : gp_I s 85 3 = 0) (k : ∀ (t : gH), zM z t → ((-2147483648) ≤ gp_I t 75 1 ∧ gp_I t 75 1 ≤ 2147483647) → (gp_I t 84 0 = 0) → (gp_I t 84 1 = 0) → (gp_I t 84 2 = 0) → (gp_I t 84 3 = 0) → (gp_I t 85 0 = 0) → (gp_I t 85 1 = 0) → (gp_I t 85 2 = 0) → (gp_I t 85 3 = 0) → K (some (gp_i (-1000000001))) t) : gs_C L (d + 2) 3181 4 [gp_r (some 74), gp_i p0, gp_i p1] s K := by
  refine s_3181_e _ _ ?_
  refine zm3179_1 _ _ hs (by omega) (by omega) (by omega) (by omega) (by omega) (by omega) (by omega) (by omega) (by omega) (by omega) (⟨_, rfl, ?_⟩)
  refine ⟨fun h_1 => ?_, fun h_1 => ?_⟩
  · exfalso; omega
  · refine zm3074_8 hs (by omega) (by omega) (by omega) (by omega) (by omega) (by omega) (by omega) (by omega) (fun s_2 hs_3 q_4 q_5 q_6 q_7 q_8 q_9 q_10 q_11 q_12 => ⟨_, rfl, ?_⟩)
    refine s_3181_30 _ _ _ _ ?_
    exact k s_2 hs_3 (by omega) (by omega) (by omega) (by omega) (by omega) (by omega) (by omega) (by omega) (by omega)
set_option maxRecDepth 100000 in
/-- GatheredPointsModel.number [(0, 0), (-2147483648, 2147483647)] -/
theorem zm3181_2 {z : gH} {L d : Nat} {K : Option gV → gH → Prop} {s : gH} (p1 : Int) (hs : zM z s) (h_p1 : (-2147483648) ≤ p1 ∧ p1 ≤ 2147483647) (q0 : gp_I s 84 0 = 0) (q1 : gp_I s 84 1 = 0) (q2 : gp_I s 84 2 = 0) (q3 : gp_I s 84 3 = 0) (q4 : gp_I s 85 0 = 0) (q5 : gp_I s 85 1 = 0) (q6 : gp_I s 85 2 = 0) (q7 : gp_I s 85 3 = 0) (k : ∀ (t : gH), zM z t → ((-2147483648) ≤ gp_I t 75 2 ∧ gp_I t 75 2 ≤ 2147483647) → (gp_I t 84 0 = 0) → (gp_I t 84 1 = 0) → (gp_I t 84 2 = 0) → (gp_I t 84 3 = 0) → (gp_I t 85 0 = 0) → (gp_I t 85 1 = 0) → (gp_I t 85 2 = 0) → (gp_I t 85 3 = 0) → K (some (gp_i (-1000000002))) t) : gs_C L (d + 2) 3181 4 [gp_r (some 74), gp_i 0, gp_i p1] s K := by
  refine s_3181_e _ _ ?_
  refine zm3179_2 _ hs (by omega) (by omega) (by omega) (by omega) (by omega) (by omega) (by omega) (by omega) (by omega) (⟨_, rfl, ?_⟩)
  refine ⟨fun h_1 => ?_, fun h_1 => ?_⟩
  · exfalso; omega
  · refine zm3074_10 hs (by omega) (by omega) (by omega) (by omega) (by omega) (by omega) (by omega) (by omega) (fun s_2 hs_3 q_4 q_5 q_6 q_7 q_8 q_9 q_10 q_11 q_12 => ⟨_, rfl, ?_⟩)
    refine s_3181_30 _ _ _ _ ?_
    exact k s_2 hs_3 (by omega) (by omega) (by omega) (by omega) (by omega) (by omega) (by omega) (by omega) (by omega)
set_option maxRecDepth 100000 in
/-- GatheredPointsModel.number [(1, 1), (-2147483648, 2147483647)] -/
theorem zm3181_3 {z : gH} {L d : Nat} {K : Option gV → gH → Prop} {s : gH} (p1 : Int) (hs : zM z s) (h_p1 : (-2147483648) ≤ p1 ∧ p1 ≤ 2147483647) (q0 : gp_I s 84 0 = 0) (q1 : gp_I s 84 1 = 0) (q2 : gp_I s 84 2 = 0) (q3 : gp_I s 84 3 = 0) (q4 : gp_I s 85 0 = 0) (q5 : gp_I s 85 1 = 0) (q6 : gp_I s 85 2 = 0) (q7 : gp_I s 85 3 = 0) (k : ∀ (t : gH), zM z t → ((-2147483648) ≤ gp_I t 75 2 ∧ gp_I t 75 2 ≤ 2147483647) → (gp_I t 84 0 = 0) → (gp_I t 84 1 = 0) → (gp_I t 84 2 = 0) → (gp_I t 84 3 = 0) → (gp_I t 85 0 = 0) → (gp_I t 85 1 = 0) → (gp_I t 85 2 = 0) → (gp_I t 85 3 = 0) → K (some (gp_i (-1000000002))) t) : gs_C L (d + 2) 3181 4 [gp_r (some 74), gp_i 1, gp_i p1] s K := by
  refine s_3181_e _ _ ?_
  refine zm3179_3 _ hs (by omega) (by omega) (by omega) (by omega) (by omega) (by omega) (by omega) (by omega) (by omega) (⟨_, rfl, ?_⟩)
  refine ⟨fun h_1 => ?_, fun h_1 => ?_⟩
  · exfalso; omega
  · refine zm3074_10 hs (by omega) (by omega) (by omega) (by omega) (by omega) (by omega) (by omega) (by omega) (fun s_2 hs_3 q_4 q_5 q_6 q_7 q_8 q_9 q_10 q_11 q_12 => ⟨_, rfl, ?_⟩)
    refine s_3181_30 _ _ _ _ ?_
    exact k s_2 hs_3 (by omega) (by omega) (by omega) (by omega) (by omega) (by omega) (by omega) (by omega) (by omega)
set_option maxRecDepth 100000 in
/-- GatheredPointsModel.number [(2, 2), (-2147483648, 2147483647)] -/
theorem zm3181_4 {z : gH} {L d : Nat} {K : Option gV → gH → Prop} {s : gH} (p1 : Int) (hs : zM z s) (h_p1 : (-2147483648) ≤ p1 ∧ p1 ≤ 2147483647) (q0 : gp_I s 84 0 = 0) (q1 : gp_I s 84 1 = 0) (q2 : gp_I s 84 2 = 0) (q3 : gp_I s 84 3 = 0) (q4 : gp_I s 85 0 = 0) (q5 : gp_I s 85 1 = 0) (q6 : gp_I s 85 2 = 0) (q7 : gp_I s 85 3 = 0) (k : ∀ (t : gH), zM z t → ((-2147483648) ≤ gp_I t 75 2 ∧ gp_I t 75 2 ≤ 2147483647) → (gp_I t 84 0 = 0) → (gp_I t 84 1 = 0) → (gp_I t 84 2 = 0) → (gp_I t 84 3 = 0) → (gp_I t 85 0 = 0) → (gp_I t 85 1 = 0) → (gp_I t 85 2 = 0) → (gp_I t 85 3 = 0) → K (some (gp_i (-1000000002))) t) : gs_C L (d + 2) 3181 4 [gp_r (some 74), gp_i 2, gp_i p1] s K := by
  refine s_3181_e _ _ ?_
  refine zm3179_4 _ hs (by omega) (by omega) (by omega) (by omega) (by omega) (by omega) (by omega) (by omega) (by omega) (⟨_, rfl, ?_⟩)
  refine ⟨fun h_1 => ?_, fun h_1 => ?_⟩
  · exfalso; omega
  · refine zm3074_10 hs (by omega) (by omega) (by omega) (by omega) (by omega) (by omega) (by omega) (by omega) (fun s_2 hs_3 q_4 q_5 q_6 q_7 q_8 q_9 q_10 q_11 q_12 => ⟨_, rfl, ?_⟩)
    refine s_3181_30 _ _ _ _ ?_
    exact k s_2 hs_3 (by omega) (by omega) (by omega) (by omega) (by omega) (by omega) (by omega) (by omega) (by omega)
set_option maxRecDepth 100000 in
/-- GatheredPointsModel.number [(3, 3), (-2147483648, 2147483647)] -/
theorem zm3181_5 {z : gH} {L d : Nat} {K : Option gV → gH → Prop} {s : gH} (p1 : Int) (hs : zM z s) (h_p1 : (-2147483648) ≤ p1 ∧ p1 ≤ 2147483647) (q0 : gp_I s 84 0 = 0) (q1 : gp_I s 84 1 = 0) (q2 : gp_I s 84 2 = 0) (q3 : gp_I s 84 3 = 0) (q4 : gp_I s 85 0 = 0) (q5 : gp_I s 85 1 = 0) (q6 : gp_I s 85 2 = 0) (q7 : gp_I s 85 3 = 0) (k : ∀ (t : gH), zM z t → ((-2147483648) ≤ gp_I t 75 2 ∧ gp_I t 75 2 ≤ 2147483647) → (gp_I t 84 0 = 0) → (gp_I t 84 1 = 0) → (gp_I t 84 2 = 0) → (gp_I t 84 3 = 0) → (gp_I t 85 0 = 0) → (gp_I t 85 1 = 0) → (gp_I t 85 2 = 0) → (gp_I t 85 3 = 0) → K (some (gp_i (-1000000002))) t) : gs_C L (d + 2) 3181 4 [gp_r (some 74), gp_i 3, gp_i p1] s K := by
  refine s_3181_e _ _ ?_
  refine zm3179_5 _ hs (by omega) (by omega) (by omega) (by omega) (by omega) (by omega) (by omega) (by omega) (by omega) (⟨_, rfl, ?_⟩)
  refine ⟨fun h_1 => ?_, fun h_1 => ?_⟩
  · exfalso; omega
  · refine zm3074_10 hs (by omega) (by omega) (by omega) (by omega) (by omega) (by omega) (by omega) (by omega) (fun s_2 hs_3 q_4 q_5 q_6 q_7 q_8 q_9 q_10 q_11 q_12 => ⟨_, rfl, ?_⟩)
    refine s_3181_30 _ _ _ _ ?_
    exact k s_2 hs_3 (by omega) (by omega) (by omega) (by omega) (by omega) (by omega) (by omega) (by omega) (by omega)
set_option maxRecDepth 100000 in
/-- GatheredPointsModel.shift [(-2147483648, -1), (-2147483648, 2147483647), (-2147483648, 2147483647), (-2147483648, 2147483647), (-2147483648, 2147483647)] -/
theorem zm3182_0 {z : gH} {L d : Nat} {K : Option gV → gH → Prop} {s : gH} (p0 : Int) (p1 : Int) (p2 : Int) (p3 : Int) (p4 : Int) (hs : zM z s) (h_p0 : (-2147483648) ≤ p0 ∧ p0 ≤ (-1)) (h_p1 : (-2147483648) ≤ p1 ∧ p1 ≤ 2147483647) (h_p2 : (-2147483648) ≤ p2 ∧ p2 ≤ 2147483647) (h_p3 : (-2147483648) ≤ p3 ∧ p3 ≤ 2147483647) (h_p4 : (-2147483648) ≤ p4 ∧ p4 ≤ 2147483647) (q0 : gp_I s 84 0 = 0) (q1 : gp_I s 84 1 = 0) (q2 : gp_I s 84 2 = 0) (q3 : gp_I s 84 3 = 0) (q4 : gp_I s 85 0 = 0) (q5 : gp_I s 85 1 = 0) (q6 : gp_I s 85 2 = 0) (q7 : gp_I s 85 3 = 0) (k : ∀ (t : gH), zM z t → ((-2147483648) ≤ gp_I t 75 1 ∧ gp_I t 75 1 ≤ 2147483647) → (gp_I t 84 0 = 0) → (gp_I t 84 1 = 0) → (gp_I t 84 2 = 0) → (gp_I t 84 3 = 0) → (gp_I t 85 0 = 0) → (gp_I t 85 1 = 0) → (gp_I t 85 2 = 0) → (gp_I t 85 3 = 0) → K (some (gp_i (-1000000001))) t) : gs_C L (d + 1) 3182 7 [gp_r (some 74), gp_i p0, gp_i p1, gp_i p2, gp_i p3, gp_i p4] s K := by
  refine s_3182_e _ _ _ _ _ ?_
  refine zm3076_0 _ hs (by omega) (⟨_, rfl, ?_⟩)
  refine ⟨fun h_1 => ?_, fun h_1 => ?_⟩
  · refine s_3182_14 _ _ _ _ _ _ ?_
    refine zm3074_8 hs (by omega) (by omega) (by omega) (by omega) (by omega) (by omega) (by omega) (by omega) (fun s_2 hs_3 q_4 q_5 q_6 q_7 q_8 q_9 q_10 q_11 q_12 => ⟨_, rfl, ?_⟩)
    exact k s_2 hs_3 (by omega) (by omega) (by omega) (by omega) (by omega) (by omega) (by omega) (by omega) (by omega)
  · exfalso; omega
set_option maxRecDepth 100000 in
/-- GatheredPointsModel.shift [(4, 2147483647), (-2147483648, 2147483647), (-2147483648, 2147483647), (-2147483648, 2147483647), (-2147483648, 2147483647)] -/
theorem zm3182_1 {z : gH} {L d : Nat} {K : Option gV → gH → Prop} {s : gH} (p0 : Int) (p1 : Int) (p2 : Int) (p3 : Int) (p4 : Int) (hs : zM z s) (h_p0 : 4 ≤ p0 ∧ p0 ≤ 2147483647) (h_p1 : (-2147483648) ≤ p1 ∧ p1 ≤ 2147483647) (h_p2 : (-2147483648) ≤ p2 ∧ p2 ≤ 2147483647) (h_p3 : (-2147483648) ≤ p3 ∧ p3 ≤ 2147483647) (h_p4 : (-2147483648) ≤ p4 ∧ p4 ≤ 2147483647) (q0 : gp_I s 84 0 = 0) (q1 : gp_I s 84 1 = 0) (q2 : gp_I s 84 2 = 0) (q3 : gp_I s 84 3 = 0) (q4 : gp_I s 85 0 = 0) (q5 : gp_I s 85 1 = 0) (q6 : gp_I s 85 2 = 0) (q7 : gp_I s 85 3 = 0) (k : ∀ (t : gH), zM z t → ((-2147483648) ≤ gp_I t 75 1 ∧ gp_I t 75 1 ≤ 2147483647) → (gp_I t 84 0 = 0) → (gp_I t 84 1 = 0) → (gp_I t 84 2 = 0) → (gp_I t 84 3 = 0) → (gp_I t 85 0 = 0) → (gp_I t 85 1 = 0) → (gp_I t 85 2 = 0) → (gp_I t 85 3 = 0) → K (some (gp_i (-1000000001))) t) : gs_C L (d + 1) 3182 7 [gp_r (some 74), gp_i p0, gp_i p1, gp_i p2, gp_i p3, gp_i p4] s K := by
  refine s_3182_e _ _ _ _ _ ?_
  refine zm3076_1 _ hs (by omega) (⟨_, rfl, ?_⟩)
  refine ⟨fun h_1 => ?_, fun h_1 => ?_⟩
  · refine s_3182_14 _ _ _ _ _ _ ?_
    refine zm3074_8 hs (by omega) (by omega) (by omega) (by omega) (by omega) (by omega) (by omega) (by omega) (fun s_2 hs_3 q_4 q_5 q_6 q_7 q_8 q_9 q_10 q_11 q_12 => ⟨_, rfl, ?_⟩)
    exact k s_2 hs_3 (by omega) (by omega) (by omega) (by omega) (by omega) (by omega) (by omega) (by omega) (by omega)
  · exfalso; omega
set_option maxRecDepth 100000 in
/-- GatheredPointsModel.shift [(0, 0), (-2147483648, 2147483647), (-2147483648, -1), (-2147483648, 2147483647), (-2147483648, 2147483647)] -/
theorem zm3182_2 {z : gH} {L d : Nat} {K : Option gV → gH → Prop} {s : gH} (p1 : Int) (p2 : Int) (p3 : Int) (p4 : Int) (hs : zM z s) (h_p1 : (-2147483648) ≤ p1 ∧ p1 ≤ 2147483647) (h_p2 : (-2147483648) ≤ p2 ∧ p2 ≤ (-1)) (h_p3 : (-2147483648) ≤ p3 ∧ p3 ≤ 2147483647) (h_p4 : (-2147483648) ≤ p4 ∧ p4 ≤ 2147483647) (q0 : gp_I s 84 0 = 0) (q1 : gp_I s 84 1 = 0) (q2 : gp_I s 84 2 = 0) (q3 : gp_I s 84 3 = 0) (q4 : gp_I s 85 0 = 0) (q5 : gp_I s 85 1 = 0) (q6 : gp_I s 85 2 = 0) (q7 : gp_I s 85 3 = 0) (k : ∀ (t : gH), zM z t → ((-2147483648) ≤ gp_I t 75 1 ∧ gp_I t 75 1 ≤ 2147483647) → (gp_I t 84 0 = 0) → (gp_I t 84 1 = 0) → (gp_I t 84 2 = 0) → (gp_I t 84 3 = 0) → (gp_I t 85 0 = 0) → (gp_I t 85 1 = 0) → (gp_I t 85 2 = 0) → (gp_I t 85 3 = 0) → K (some (gp_i (-1000000001))) t) : gs_C L (d + 1) 3182 7 [gp_r (some 74), gp_i 0, gp_i p1, gp_i p2, gp_i p3, gp_i p4] s K := by
  refine s_3182_e _ _ _ _ _ ?_
  refine zm3076_2 hs (⟨_, rfl, ?_⟩)
  refine ⟨fun h_1 => ?_, fun h_1 => ?_⟩
  · exfalso; omega
  · refine zm3076_0 _ hs (by omega) (⟨_, rfl, ?_⟩)
    refine ⟨fun h_2 => ?_, fun h_2 => ?_⟩
    · refine s_3182_14 _ _ _ _ _ _ ?_
      refine zm3074_8 hs (by omega) (by omega) (by omega) (by omega) (by omega) (by omega) (by omega) (by omega) (fun s_3 hs_4 q_5 q_6 q_7 q_8 q_9 q_10 q_11 q_12 q_13 => ⟨_, rfl, ?_⟩)
      exact k s_3 hs_4 (by omega) (by omega) (by omega) (by omega) (by omega) (by omega) (by omega) (by omega) (by omega)
    · exfalso; omega
set_option maxRecDepth 100000 in
/-- GatheredPointsModel.shift [(0, 0), (-2147483648, 2147483647), (4, 2147483647), (-2147483648, 2147483647), (-2147483648, 2147483647)] -/
theorem zm3182_3 {z : gH} {L d : Nat} {K : Option gV → gH → Prop} {s : gH} (p1 : Int) (p2 : Int) (p3 : Int) (p4 : Int) (hs : zM z s) (h_p1 : (-2147483648) ≤ p1 ∧ p1 ≤ 2147483647) (h_p2 : 4 ≤ p2 ∧ p2 ≤ 2147483647) (h_p3 : (-2147483648) ≤ p3 ∧ p3 ≤ 2147483647) (h_p4 : (-2147483648) ≤ p4 ∧ p4 ≤ 2147483647) (q0 : gp_I s 84 0 = 0) (q1 : gp_I s 84 1 = 0) (q2 : gp_I s 84 2 = 0) (q3 : gp_I s 84 3 = 0) (q4 : gp_I s 85 0 = 0) (q5 : gp_I s 85 1 = 0) (q6 : gp_I s 85 2 = 0) (q7 : gp_I s 85 3 = 0) (k : ∀ (t : gH), zM z t → ((-2147483648) ≤ gp_I t 75 1 ∧ gp_I t 75 1 ≤ 2147483647) → (gp_I t 84 0 = 0) → (gp_I t 84 1 = 0) → (gp_I t 84 2 = 0) → (gp_I t 84 3 = 0) → (gp_I t 85 0 = 0) → (gp_I t 85 1 = 0) → (gp_I t 85 2 = 0) → (gp_I t 85 3 = 0) → K (some (gp_i (-1000000001))) t) : gs_C L (d + 1) 3182 7 [gp_r (some 74), gp_i 0, gp_i p1, gp_i p2, gp_i p3, gp_i p4] s K := by
  refine s_3182_e _ _ _ _ _ ?_
  refine zm3076_2 hs (⟨_, rfl, ?_⟩)
  refine ⟨fun h_1 => ?_, fun h_1 => ?_⟩
  · exfalso; omega
  · refine zm3076_1 _ hs (by omega) (⟨_, rfl, ?_⟩)
    refine ⟨fun h_2 => ?_, fun h_2 => ?_⟩
    · refine s_3182_14 _ _ _ _ _ _ ?_
      refine zm3074_8 hs (by omega) (by omega) (by omega) (by omega) (by omega) (by omega) (by omega) (by omega) (fun s_3 hs_4 q_5 q_6 q_7 q_8 q_9 q_10 q_11 q_12 q_13 => ⟨_, rfl, ?_⟩)
      exact k s_3 hs_4 (by omega) (by omega) (by omega) (by omega) (by omega) (by omega) (by omega) (by omega) (by omega)
    · exfalso; omega
set_option maxRecDepth 100000 in
/-- GatheredPointsModel.shift [(1, 1), (-2147483648, 2147483647), (-2147483648, -1), (-2147483648, 2147483647), (-2147483648, 2147483647)] -/
theorem zm3182_4 {z : gH} {L d : Nat} {K : Option gV → gH → Prop} {s : gH} (p1 : Int) (p2 : Int) (p3 : Int) (p4 : Int) (hs : zM z s) (h_p1 : (-2147483648) ≤ p1 ∧ p1 ≤ 2147483647) (h_p2 : (-2147483648) ≤ p2 ∧ p2 ≤ (-1)) (h_p3 : (-2147483648) ≤ p3 ∧ p3 ≤ 2147483647) (h_p4 : (-2147483648) ≤ p4 ∧ p4 ≤ 2147483647) (q0 : gp_I s 84 0 = 0) (q1 : gp_I s 84 1 = 0) (q2 : gp_I s 84 2 = 0) (q3 : gp_I s 84 3 = 0) (q4 : gp_I s 85 0 = 0) (q5 : gp_I s 85 1 = 0) (q6 : gp_I s 85 2 = 0) (q7 : gp_I s 85 3 = 0) (k : ∀ (t : gH), zM z t → ((-2147483648) ≤ gp_I t 75 1 ∧ gp_I t 75 1 ≤ 2147483647) → (gp_I t 84 0 = 0) → (gp_I t 84 1 = 0) → (gp_I t 84 2 = 0) → (gp_I t 84 3 = 0) → (gp_I t 85 0 = 0) → (gp_I t 85 1 = 0) → (gp_I t 85 2 = 0) → (gp_I t 85 3 = 0) → K (some (gp_i (-1000000001))) t) : gs_C L (d + 1) 3182 7 [gp_r (some 74), gp_i 1, gp_i p1, gp_i p2, gp_i p3, gp_i p4] s K := by
  refine s_3182_e _ _ _ _ _ ?_
  refine zm3076_3 hs (⟨_, rfl, ?_⟩)
  refine ⟨fun h_1 => ?_, fun h_1 => ?_⟩
  · exfalso; omega
  · refine zm3076_0 _ hs (by omega) (⟨_, rfl, ?_⟩)
    refine ⟨fun h_2 => ?_, fun h_2 => ?_⟩
    · refine s_3182_14 _ _ _ _ _ _ ?_
      refine zm3074_8 hs (by omega) (by omega) (by omega) (by omega) (by omega) (by omega) (by omega) (by omega) (fun s_3 hs_4 q_5 q_6 q_7 q_8 q_9 q_10 q_11 q_12 q_13 => ⟨_, rfl, ?_⟩)
      exact k s_3 hs_4 (by omega) (by omega) (by omega) (by omega) (by omega) (by omega) (by omega) (by omega) (by omega)
    · exfalso; omega
set_option maxRecDepth 100000 in
/-- GatheredPointsModel.shift [(1, 1), (-2147483648, 2147483647), (4, 2147483647), (-2147483648, 2147483647), (-2147483648, 2147483647)] -/
theorem zm3182_5 {z : gH} {L d : Nat} {K : Option gV → gH → Prop} {s : gH} (p1 : Int) (p2 : Int) (p3 : Int) (p4 : Int) (hs : zM z s) (h_p1 : (-2147483648) ≤ p1 ∧ p1 ≤ 2147483647) (h_p2 : 4 ≤ p2 ∧ p2 ≤ 2147483647) (h_p3 : (-2147483648) ≤ p3 ∧ p3 ≤ 2147483647) (h_p4 : (-2147483648) ≤ p4 ∧ p4 ≤ 2147483647) (q0 : gp_I s 84 0 = 0) (q1 : gp_I s 84 1 = 0) (q2 : gp_I s 84 2 = 0) (q3 : gp_I s 84 3 = 0) (q4 : gp_I s 85 0 = 0) (q5 : gp_I s 85 1 = 0) (q6 : gp_I s 85 2 = 0) (q7 : gp_I s 85 3 = 0) (k : ∀ (t : gH), zM z t → ((-2147483648) ≤ gp_I t 75 1 ∧ gp_I t 75 1 ≤ 2147483647) → (gp_I t 84 0 = 0) → (gp_I t 84 1 = 0) → (gp_I t 84 2 = 0) → (gp_I t 84 3 = 0) → (gp_I t 85 0 = 0) → (gp_I t 85 1 = 0) → (gp_I t 85 2 = 0) → (gp_I t 85 3 = 0) → K (some (gp_i (-1000000001))) t) : gs_C L (d + 1) 3182 7 [gp_r (some 74), gp_i 1, gp_i p1, gp_i p2, gp_i p3, gp_i p4] s K := by
  refine s_3182_e _ _ _ _ _ ?_
  refine zm3076_3 hs (⟨_, rfl, ?_⟩)
  refine ⟨fun h_1 => ?_, fun h_1 => ?_⟩
  · exfalso; omega
  · refine zm3076_1 _ hs (by omega) (⟨_, rfl, ?_⟩)
    refine ⟨fun h_2 => ?_, fun h_2 => ?_⟩
    · refine s_3182_14 _ _ _ _ _ _ ?_
      refine zm3074_8 hs (by omega) (by omega) (by omega) (by omega) (by omega) (by omega) (by omega) (by omega) (fun s_3 hs_4 q_5 q_6 q_7 q_8 q_9 q_10 q_11 q_12 q_13 => ⟨_, rfl, ?_⟩)
      exact k s_3 hs_4 (by omega) (by omega) (by omega) (by omega) (by omega) (by omega) (by omega) (by omega) (by omega)
    · exfalso; omega
set_option maxRecDepth 100000 in
/-- GatheredPointsModel.shift [(2, 2), (-2147483648, 2147483647), (-2147483648, -1), (-2147483648, 2147483647), (-2147483648, 2147483647)] -/
theorem zm3182_6 {z : gH} {L d : Nat} {K : Option gV → gH → Prop} {s : gH} (p1 : Int) (p2 : Int) (p3 : Int) (p4 : Int) (hs : zM z s) (h_p1 : (-2147483648) ≤ p1 ∧ p1 ≤ 2147483647) (h_p2 : (-2147483648) ≤ p2 ∧ p2 ≤ (-1)) (h_p3 : (-2147483648) ≤ p3 ∧ p3 ≤ 2147483647) (h_p4 : (-2147483648) ≤ p4 ∧ p4 ≤ 2147483647) (q0 : gp_I s 84 0 = 0) (q1 : gp_I s 84 1 = 0) (q2 : gp_I s 84 2 = 0) (q3 : gp_I s 84 3 = 0) (q4 : gp_I s 85 0 = 0) (q5 : gp_I s 85 1 = 0) (q6 : gp_I s 85 2 = 0) (q7 : gp_I s 85 3 = 0) (k : ∀ (t : gH), zM z t → ((-2147483648) ≤ gp_I t 75 1 ∧ gp_I t 75 1 ≤ 2147483647) → (gp_I t 84 0 = 0) → (gp_I t 84 1 = 0) → (gp_I t 84 2 = 0) → (gp_I t 84 3 = 0) → (gp_I t 85 0 = 0) → (gp_I t 85 1 = 0) → (gp_I t 85 2 = 0) → (gp_I t 85 3 = 0) → K (some (gp_i (-1000000001))) t) : gs_C L (d + 1) 3182 7 [gp_r (some 74), gp_i 2, gp_i p1, gp_i p2, gp_i p3, gp_i p4] s K := by
  refine s_3182_e _ _ _ _ _ ?_
  refine zm3076_4 hs (⟨_, rfl, ?_⟩)
  refine ⟨fun h_1 => ?_, fun h_1 => ?_⟩
  · exfalso; omega
  · refine zm3076_0 _ hs (by omega) (⟨_, rfl, ?_⟩)
    refine ⟨fun h_2 => ?_, fun h_2 => ?_⟩
    · refine s_3182_14 _ _ _ _ _ _ ?_
      refine zm3074_8 hs (by omega) (by omega) (by omega) (by omega) (by omega) (by omega) (by omega) (by omega) (fun s_3 hs_4 q_5 q_6 q_7 q_8 q_9 q_10 q_11 q_12 q_13 => ⟨_, rfl, ?_⟩)
      exact k s_3 hs_4 (by omega) (by omega) (by omega) (by omega) (by omega) (by omega) (by omega) (by omega) (by omega)
    · exfalso; omega
set_option maxRecDepth 100000 in
/-- GatheredPointsModel.shift [(2, 2), (-2147483648, 2147483647), (4, 2147483647), (-2147483648, 2147483647), (-2147483648, 2147483647)] -/
theorem zm3182_7 {z : gH} {L d : Nat} {K : Option gV → gH → Prop} {s : gH} (p1 : Int) (p2 : Int) (p3 : Int) (p4 : Int) (hs : zM z s) (h_p1 : (-2147483648) ≤ p1 ∧ p1 ≤ 2147483647) (h_p2 : 4 ≤ p2 ∧ p2 ≤ 2147483647) (h_p3 : (-2147483648) ≤ p3 ∧ p3 ≤ 2147483647) (h_p4 : (-2147483648) ≤ p4 ∧ p4 ≤ 2147483647) (q0 : gp_I s 84 0 = 0) (q1 : gp_I s 84 1 = 0) (q2 : gp_I s 84 2 = 0) (q3 : gp_I s 84 3 = 0) (q4 : gp_I s 85 0 = 0) (q5 : gp_I s 85 1 = 0) (q6 : gp_I s 85 2 = 0) (q7 : gp_I s 85 3 = 0) (k : ∀ (t : gH), zM z t → ((-2147483648) ≤ gp_I t 75 1 ∧ gp_I t 75 1 ≤ 2147483647) → (gp_I t 84 0 = 0) → (gp_I t 84 1 = 0) → (gp_I t 84 2 = 0) → (gp_I t 84 3 = 0) → (gp_I t 85 0 = 0) → (gp_I t 85 1 = 0) → (gp_I t 85 2 = 0) → (gp_I t 85 3 = 0) → K (some (gp_i (-1000000001))) t) : gs_C L (d + 1) 3182 7 [gp_r (some 74), gp_i 2, gp_i p1, gp_i p2, gp_i p3, gp_i p4] s K := by
  refine s_3182_e _ _ _ _ _ ?_
  refine zm3076_4 hs (⟨_, rfl, ?_⟩)
  refine ⟨fun h_1 => ?_, fun h_1 => ?_⟩
  · exfalso; omega
  · refine zm3076_1 _ hs (by omega) (⟨_, rfl, ?_⟩)
    refine ⟨fun h_2 => ?_, fun h_2 => ?_⟩
    · refine s_3182_14 _ _ _ _ _ _ ?_
      refine zm3074_8 hs (by omega) (by omega) (by omega) (by omega) (by omega) (by omega) (by omega) (by omega) (fun s_3 hs_4 q_5 q_6 q_7 q_8 q_9 q_10 q_11 q_12 q_13 => ⟨_, rfl, ?_⟩)
      exact k s_3 hs_4 (by omega) (by omega) (by omega) (by omega) (by omega) (by omega) (by omega) (by omega) (by omega)
    · exfalso; omega
set_option maxRecDepth 100000 in
/-- GatheredPointsModel.shift [(3, 3), (-2147483648, 2147483647), (-2147483648, -1), (-2147483648, 2147483647), (-2147483648, 2147483647)] -/
theorem zm3182_8 {z : gH} {L d : Nat} {K : Option gV → gH → Prop} {s : gH} (p1 : Int) (p2 : Int) (p3 : Int) (p4 : Int) (hs : zM z s) (h_p1 : (-2147483648) ≤ p1 ∧ p1 ≤ 2147483647) (h_p2 : (-2147483648) ≤ p2 ∧ p2 ≤ (-1)) (h_p3 : (-2147483648) ≤ p3 ∧ p3 ≤ 2147483647) (h_p4 : (-2147483648) ≤ p4 ∧ p4 ≤ 2147483647) (q0 : gp_I s 84 0 = 0) (q1 : gp_I s 84 1 = 0) (q2 : gp_I s 84 2 = 0) (q3 : gp_I s 84 3 = 0) (q4 : gp_I s 85 0 = 0) (q5 : gp_I s 85 1 = 0) (q6 : gp_I s 85 2 = 0) (q7 : gp_I s 85 3 = 0) (k : ∀ (t : gH), zM z t → ((-2147483648) ≤ gp_I t 75 1 ∧ gp_I t 75 1 ≤ 2147483647) → (gp_I t 84 0 = 0) → (gp_I t 84 1 = 0) → (gp_I t 84 2 = 0) → (gp_I t 84 3 = 0) → (gp_I t 85 0 = 0) → (gp_I t 85 1 = 0) → (gp_I t 85 2 = 0) → (gp_I t 85 3 = 0) → K (some (gp_i (-1000000001))) t) : gs_C L (d + 1) 3182 7 [gp_r (some 74), gp_i 3, gp_i p1, gp_i p2, gp_i p3, gp_i p4] s K := by
  refine s_3182_e _ _ _ _ _ ?_
  refine zm3076_5 hs (⟨_, rfl, ?_⟩)
  refine ⟨fun h_1 => ?_, fun h_1 => ?_⟩
  · exfalso; omega
  · refine zm3076_0 _ hs (by omega) (⟨_, rfl, ?_⟩)
    refine ⟨fun h_2 => ?_, fun h_2 => ?_⟩
    · refine s_3182_14 _ _ _ _ _ _ ?_
      refine zm3074_8 hs (by omega) (by omega) (by omega) (by omega) (by omega) (by omega) (by omega) (by omega) (fun s_3 hs_4 q_5 q_6 q_7 q_8 q_9 q_10 q_11 q_12 q_13 => ⟨_, rfl, ?_⟩)
      exact k s_3 hs_4 (by omega) (by omega) (by omega) (by omega) (by omega) (by omega) (by omega) (by omega) (by omega)
    · exfalso; omega
set_option maxRecDepth 100000 in
/-- GatheredPointsModel.shift [(3, 3), (-2147483648, 2147483647), (4, 2147483647), (-2147483648, 2147483647), (-2147483648, 2147483647)] -/
theorem zm3182_9 {z : gH} {L d : Nat} {K : Option gV → gH → Prop} {s : gH} (p1 : Int) (p2 : Int) (p3 : Int) (p4 : Int) (hs : zM z s) (h_p1 : (-2147483648) ≤ p1 ∧ p1 ≤ 2147483647) (h_p2 : 4 ≤ p2 ∧ p2 ≤ 2147483647) (h_p3 : (-2147483648) ≤ p3 ∧ p3 ≤ 2147483647) (h_p4 : (-2147483648) ≤ p4 ∧ p4 ≤ 2147483647) (q0 : gp_I s 84 0 = 0) (q1 : gp_I s 84 1 = 0) (q2 : gp_I s 84 2 = 0) (q3 : gp_I s 84 3 = 0) (q4 : gp_I s 85 0 = 0) (q5 : gp_I s 85 1 = 0) (q6 : gp_I s 85 2 = 0) (q7 : gp_I s 85 3 = 0) (k : ∀ (t : gH), zM z t → ((-2147483648) ≤ gp_I t 75 1 ∧ gp_I t 75 1 ≤ 2147483647) → (gp_I t 84 0 = 0) → (gp_I t 84 1 = 0) → (gp_I t 84 2 = 0) → (gp_I t 84 3 = 0) → (gp_I t 85 0 = 0) → (gp_I t 85 1 = 0) → (gp_I t 85 2 = 0) → (gp_I t 85 3 = 0) → K (some (gp_i (-1000000001))) t) : gs_C L (d + 1) 3182 7 [gp_r (some 74), gp_i 3, gp_i p1, gp_i p2, gp_i p3, gp_i p4] s K := by
  refine s_3182_e _ _ _ _ _ ?_
  refine zm3076_5 hs (⟨_, rfl, ?_⟩)
  refine ⟨fun h_1 => ?_, fun h_1 => ?_⟩
  · exfalso; omega
  · refine zm3076_1 _ hs (by omega) (⟨_, rfl, ?_⟩)
    refine ⟨fun h_2 => ?_, fun h_2 => ?_⟩
    · refine s_3182_14 _ _ _ _ _ _ ?_
      refine zm3074_8 hs (by omega) (by omega) (by omega) (by omega) (by omega) (by omega) (by omega) (by omega) (fun s_3 hs_4 q_5 q_6 q_7 q_8 q_9 q_10 q_11 q_12 q_13 => ⟨_, rfl, ?_⟩)
      exact k s_3 hs_4 (by omega) (by omega) (by omega) (by omega) (by omega) (by omega) (by omega) (by omega) (by omega)
    · exfalso; omega
set_option maxRecDepth 100000 in
/-- GatheredPointsModel.shift [(0, 0), (-2147483648, 2147483647), (0, 0), (-2147483648, 2147483647), (-2147483648, 2147483647)] -/
theorem zm3182_10 {z : gH} {L d : Nat} {K : Option gV → gH → Prop} {s : gH} (p1 : Int) (p3 : Int) (p4 : Int) (hs : zM z s) (h_p1 : (-2147483648) ≤ p1 ∧ p1 ≤ 2147483647) (h_p3 : (-2147483648) ≤ p3 ∧ p3 ≤ 2147483647) (h_p4 : (-2147483648) ≤ p4 ∧ p4 ≤ 2147483647) (q0 : gp_I s 84 0 = 0) (q1 : gp_I s 84 1 = 0) (q2 : gp_I s 84 2 = 0) (q3 : gp_I s 84 3 = 0) (q4 : gp_I s 85 0 = 0) (q5 : gp_I s 85 1 = 0) (q6 : gp_I s 85 2 = 0) (q7 : gp_I s 85 3 = 0) (k : ∀ (t : gH), zM z t → ((-2147483648) ≤ gp_I t 75 2 ∧ gp_I t 75 2 ≤ 2147483647) → (gp_I t 84 0 = 0) → (gp_I t 84 1 = 0) → (gp_I t 84 2 = 0) → (gp_I t 84 3 = 0) → (gp_I t 85 0 = 0) → (gp_I t 85 1 = 0) → (gp_I t 85 2 = 0) → (gp_I t 85 3 = 0) → K (some (gp_i (-1000000002))) t) : gs_C L (d + 1) 3182 7 [gp_r (some 74), gp_i 0, gp_i p1, gp_i 0, gp_i p3, gp_i p4] s K := by
  refine s_3182_e _ _ _ _ _ ?_
  refine zm3076_2 hs (⟨_, rfl, ?_⟩)
  refine ⟨fun h_1 => ?_, fun h_1 => ?_⟩
  · exfalso; omega
  · refine zm3076_2 hs (⟨_, rfl, ?_⟩)
    refine ⟨fun h_2 => ?_, fun h_2 => ?_⟩
    · exfalso; omega
    · refine ⟨by omega, ?_⟩
      try rw [show gp_I s 84 (0 : Int).toNat = 0 from q0]
      refine ⟨fun h_3 => ?_, fun h_3 => ?_⟩
      · refine s_3182_38 _ _ _ _ _ _ ?_
        refine zm3074_10 hs (by omega) (by omega) (by omega) (by omega) (by omega) (by omega) (by omega) (by omega) (fun s_4 hs_5 q_6 q_7 q_8 q_9 q_10 q_11 q_12 q_13 q_14 => ⟨_, rfl, ?_⟩)
        exact k s_4 hs_5 (by omega) (by omega) (by omega) (by omega) (by omega) (by omega) (by omega) (by omega) (by omega)
      · exfalso; omega
set_option maxRecDepth 100000 in
/-- GatheredPointsModel.shift [(0, 0), (-2147483648, 2147483647), (1, 1), (-2147483648, 2147483647), (-2147483648, 2147483647)] -/
theorem zm3182_11 {z : gH} {L d : Nat} {K : Option gV → gH → Prop} {s : gH} (p1 : Int) (p3 : Int) (p4 : Int) (hs : zM z s) (h_p1 : (-2147483648) ≤ p1 ∧ p1 ≤ 2147483647) (h_p3 : (-2147483648) ≤ p3 ∧ p3 ≤ 2147483647) (h_p4 : (-2147483648) ≤ p4 ∧ p4 ≤ 2147483647) (q0 : gp_I s 84 0 = 0) (q1 : gp_I s 84 1 = 0) (q2 : gp_I s 84 2 = 0) (q3 : gp_I s 84 3 = 0) (q4 : gp_I s 85 0 = 0) (q5 : gp_I s 85 1 = 0) (q6 : gp_I s 85 2 = 0) (q7 : gp_I s 85 3 = 0) (k : ∀ (t : gH), zM z t → ((-2147483648) ≤ gp_I t 75 2 ∧ gp_I t 75 2 ≤ 2147483647) → (gp_I t 84 0 = 0) → (gp_I t 84 1 = 0) → (gp_I t 84 2 = 0) → (gp_I t 84 3 = 0) → (gp_I t 85 0 = 0) → (gp_I t 85 1 = 0) → (gp_I t 85 2 = 0) → (gp_I t 85 3 = 0) → K (some (gp_i (-1000000002))) t) : gs_C L (d + 1) 3182 7 [gp_r (some 74), gp_i 0, gp_i p1, gp_i 1, gp_i p3, gp_i p4] s K := by
  refine s_3182_e _ _ _ _ _ ?_
  refine zm3076_2 hs (⟨_, rfl, ?_⟩)
  refine ⟨fun h_1 => ?_, fun h_1 => ?_⟩
  · exfalso; omega
  · refine zm3076_3 hs (⟨_, rfl, ?_⟩)
    refine ⟨fun h_2 => ?_, fun h_2 => ?_⟩
    · exfalso; omega
    · refine ⟨by omega, ?_⟩
      try rw [show gp_I s 84 (0 : Int).toNat = 0 from q0]
      refine ⟨fun h_3 => ?_, fun h_3 => ?_⟩
      · refine s_3182_38 _ _ _ _ _ _ ?_
        refine zm3074_10 hs (by omega) (by omega) (by omega) (by omega) (by omega) (by omega) (by omega) (by omega) (fun s_4 hs_5 q_6 q_7 q_8 q_9 q_10 q_11 q_12 q_13 q_14 => ⟨_, rfl, ?_⟩)
        exact k s_4 hs_5 (by omega) (by omega) (by omega) (by omega) (by omega) (by omega) (by omega) (by omega) (by omega)
      · exfalso; omega
set_option maxRecDepth 100000 in
/-- GatheredPointsModel.shift [(0, 0), (-2147483648, 2147483647), (2, 2), (-2147483648, 2147483647), (-2147483648, 2147483647)] -/
theorem zm3182_12 {z : gH} {L d : Nat} {K : Option gV → gH → Prop} {s : gH} (p1 : Int) (p3 : Int) (p4 : Int) (hs : zM z s) (h_p1 : (-2147483648) ≤ p1 ∧ p1 ≤ 2147483647) (h_p3 : (-2147483648) ≤ p3 ∧ p3 ≤ 2147483647) (h_p4 : (-2147483648) ≤ p4 ∧ p4 ≤ 2147483647) (q0 : gp_I s 84 0 = 0) (q1 : gp_I s 84 1 = 0) (q2 : gp_I s 84 2 = 0) (q3 : gp_I s 84 3 = 0) (q4 : gp_I s 85 0 = 0) (q5 : gp_I s 85 1 = 0) (q6 : gp_I s 85 2 = 0) (q7 : gp_I s 85 3 = 0) (k : ∀ (t : gH), zM z t → ((-2147483648) ≤ gp_I t 75 2 ∧ gp_I t 75 2 ≤ 2147483647) → (gp_I t 84 0 = 0) → (gp_I t 84 1 = 0) → (gp_I t 84 2 = 0) → (gp_I t 84 3 = 0) → (gp_I t 85 0 = 0) → (gp_I t 85 1 = 0) → (gp_I t 85 2 = 0) → (gp_I t 85 3 = 0) → K (some (gp_i (-1000000002))) t) : gs_C L (d + 1) 3182 7 [gp_r (some 74), gp_i 0, gp_i p1, gp_i 2, gp_i p3, gp_i p4] s K := by
  refine s_3182_e _ _ _ _ _ ?_
  refine zm3076_2 hs (⟨_, rfl, ?_⟩)
  refine ⟨fun h_1 => ?_, fun h_1 => ?_⟩
  · exfalso; omega
  · refine zm3076_4 hs (⟨_, rfl, ?_⟩)
    refine ⟨fun h_2 => ?_, fun h_2 => ?_⟩
    · exfalso; omega
    · refine ⟨by omega, ?_⟩
      try rw [show gp_I s 84 (0 : Int).toNat = 0 from q0]
      refine ⟨fun h_3 => ?_, fun h_3 => ?_⟩
      · refine s_3182_38 _ _ _ _ _ _ ?_
        refine zm3074_10 hs (by omega) (by omega) (by omega) (by omega) (by omega) (by omega) (by omega) (by omega) (fun s_4 hs_5 q_6 q_7 q_8 q_9 q_10 q_11 q_12 q_13 q_14 => ⟨_, rfl, ?_⟩)
        exact k s_4 hs_5 (by omega) (by omega) (by omega) (by omega) (by omega) (by omega) (by omega) (by omega) (by omega)
      · exfalso; omega
set_option maxRecDepth 100000 in
/-- GatheredPointsModel.shift [(0, 0), (-2147483648, 2147483647), (3, 3), (-2147483648, 2147483647), (-2147483648, 2147483647)] -/
theorem zm3182_13 {z : gH} {L d : Nat} {K : Option gV → gH → Prop} {s : gH} (p1 : Int) (p3 : Int) (p4 : Int) (hs : zM z s) (h_p1 : (-2147483648) ≤ p1 ∧ p1 ≤ 2147483647) (h_p3 : (-2147483648) ≤ p3 ∧ p3 ≤ 2147483647) (h_p4 : (-2147483648) ≤ p4 ∧ p4 ≤ 2147483647) (q0 : gp_I s 84 0 = 0) (q1 : gp_I s 84 1 = 0) (q2 : gp_I s 84 2 = 0) (q3 : gp_I s 84 3 = 0) (q4 : gp_I s 85 0 = 0) (q5 : gp_I s 85 1 = 0) (q6 : gp_I s 85 2 = 0) (q7 : gp_I s 85 3 = 0) (k : ∀ (t : gH), zM z t → ((-2147483648) ≤ gp_I t 75 2 ∧ gp_I t 75 2 ≤ 2147483647) → (gp_I t 84 0 = 0) → (gp_I t 84 1 = 0) → (gp_I t 84 2 = 0) → (gp_I t 84 3 = 0) → (gp_I t 85 0 = 0) → (gp_I t 85 1 = 0) → (gp_I t 85 2 = 0) → (gp_I t 85 3 = 0) → K (some (gp_i (-1000000002))) t) : gs_C L (d + 1) 3182 7 [gp_r (some 74), gp_i 0, gp_i p1, gp_i 3, gp_i p3, gp_i p4] s K := by
  refine s_3182_e _ _ _ _ _ ?_
  refine zm3076_2 hs (⟨_, rfl, ?_⟩)
  refine ⟨fun h_1 => ?_, fun h_1 => ?_⟩
  · exfalso; omega
  · refine zm3076_5 hs (⟨_, rfl, ?_⟩)
    refine ⟨fun h_2 => ?_, fun h_2 => ?_⟩
    · exfalso; omega
    · refine ⟨by omega, ?_⟩
      try rw [show gp_I s 84 (0 : Int).toNat = 0 from q0]
      refine ⟨fun h_3 => ?_, fun h_3 => ?_⟩
      · refine s_3182_38 _ _ _ _ _ _ ?_
        refine zm3074_10 hs (by omega) (by omega) (by omega) (by omega) (by omega) (by omega) (by omega) (by omega) (fun s_4 hs_5 q_6 q_7 q_8 q_9 q_10 q_11 q_12 q_13 q_14 => ⟨_, rfl, ?_⟩)
        exact k s_4 hs_5 (by omega) (by omega) (by omega) (by omega) (by omega) (by omega) (by omega) (by omega) (by omega)
      · exfalso; omega
set_option maxRecDepth 100000 in
/-- GatheredPointsModel.shift [(1, 1), (-2147483648, 2147483647), (0, 0), (-2147483648, 2147483647), (-2147483648, 2147483647)] -/
theorem zm3182_14 {z : gH} {L d : Nat} {K : Option gV → gH → Prop} {s : gH} (p1 : Int) (p3 : Int) (p4 : Int) (hs : zM z s) (h_p1 : (-2147483648) ≤ p1 ∧ p1 ≤ 2147483647) (h_p3 : (-2147483648) ≤ p3 ∧ p3 ≤ 2147483647) (h_p4 : (-2147483648) ≤ p4 ∧ p4 ≤ 2147483647) (q0 : gp_I s 84 0 = 0) (q1 : gp_I s 84 1 = 0) (q2 : gp_I s 84 2 = 0) (q3 : gp_I s 84 3 = 0) (q4 : gp_I s 85 0 = 0) (q5 : gp_I s 85 1 = 0) (q6 : gp_I s 85 2 = 0) (q7 : gp_I s 85 3 = 0) (k : ∀ (t : gH), zM z t → ((-2147483648) ≤ gp_I t 75 2 ∧ gp_I t 75 2 ≤ 2147483647) → (gp_I t 84 0 = 0) → (gp_I t 84 1 = 0) → (gp_I t 84 2 = 0) → (gp_I t 84 3 = 0) → (gp_I t 85 0 = 0) → (gp_I t 85 1 = 0) → (gp_I t 85 2 = 0) → (gp_I t 85 3 = 0) → K (some (gp_i (-1000000002))) t) : gs_C L (d + 1) 3182 7 [gp_r (some 74), gp_i 1, gp_i p1, gp_i 0, gp_i p3, gp_i p4] s K := by
  refine s_3182_e _ _ _ _ _ ?_
  refine zm3076_3 hs (⟨_, rfl, ?_⟩)
  refine ⟨fun h_1 => ?_, fun h_1 => ?_⟩
  · exfalso; omega
  · refine zm3076_2 hs (⟨_, rfl, ?_⟩)
    refine ⟨fun h_2 => ?_, fun h_2 => ?_⟩
    · exfalso; omega
    · refine ⟨by omega, ?_⟩
      try rw [show gp_I s 84 (1 : Int).toNat = 0 from q1]
      refine ⟨fun h_3 => ?_, fun h_3 => ?_⟩
      · refine s_3182_38 _ _ _ _ _ _ ?_
        refine zm3074_10 hs (by omega) (by omega) (by omega) (by omega) (by omega) (by omega) (by omega) (by omega) (fun s_4 hs_5 q_6 q_7 q_8 q_9 q_10 q_11 q_12 q_13 q_14 => ⟨_, rfl, ?_⟩)
        exact k s_4 hs_5 (by omega) (by omega) (by omega) (by omega) (by omega) (by omega) (by omega) (by omega) (by omega)
      · exfalso; omega
set_option maxRecDepth 100000 in
/-- GatheredPointsModel.shift [(1, 1), (-2147483648, 2147483647), (1, 1), (-2147483648, 2147483647), (-2147483648, 2147483647)] -/
theorem zm3182_15 {z : gH} {L d : Nat} {K : Option gV → gH → Prop} {s : gH} (p1 : Int) (p3 : Int) (p4 : Int) (hs : zM z s) (h_p1 : (-2147483648) ≤ p1 ∧ p1 ≤ 2147483647) (h_p3 : (-2147483648) ≤ p3 ∧ p3 ≤ 2147483647) (h_p4 : (-2147483648) ≤ p4 ∧ p4 ≤ 2147483647) (q0 : gp_I s 84 0 = 0) (q1 : gp_I s 84 1 = 0) (q2 : gp_I s 84 2 = 0) (q3 : gp_I s 84 3 = 0) (q4 : gp_I s 85 0 = 0) (q5 : gp_I s 85 1 = 0) (q6 : gp_I s 85 2 = 0) (q7 : gp_I s 85 3 = 0) (k : ∀ (t : gH), zM z t → ((-2147483648) ≤ gp_I t 75 2 ∧ gp_I t 75 2 ≤ 2147483647) → (gp_I t 84 0 = 0) → (gp_I t 84 1 = 0) → (gp_I t 84 2 = 0) → (gp_I t 84 3 = 0) → (gp_I t 85 0 = 0) → (gp_I t 85 1 = 0) → (gp_I t 85 2 = 0) → (gp_I t 85 3 = 0) → K (some (gp_i (-1000000002))) t) : gs_C L (d + 1) 3182 7 [gp_r (some 74), gp_i 1, gp_i p1, gp_i 1, gp_i p3, gp_i p4] s K := by
  refine s_3182_e _ _ _ _ _ ?_
  refine zm3076_3 hs (⟨_, rfl, ?_⟩)
  refine ⟨fun h_1 => ?_, fun h_1 => ?_⟩
  · exfalso; omega
  · refine zm3076_3 hs (⟨_, rfl, ?_⟩)
    refine ⟨fun h_2 => ?_, fun h_2 => ?_⟩
    · exfalso; omega
    · refine ⟨by omega, ?_⟩
      try rw [show gp_I s 84 (1 : Int).toNat = 0 from q1]
      refine ⟨fun h_3 => ?_, fun h_3 => ?_⟩
      · refine s_3182_38 _ _ _ _ _ _ ?_
        refine zm3074_10 hs (by omega) (by omega) (by omega) (by omega) (by omega) (by omega) (by omega) (by omega) (fun s_4 hs_5 q_6 q_7 q_8 q_9 q_10 q_11 q_12 q_13 q_14 => ⟨_, rfl, ?_⟩)
        exact k s_4 hs_5 (by omega) (by omega) (by omega) (by omega) (by omega) (by omega) (by omega) (by omega) (by omega)
      · exfalso; omega
set_option maxRecDepth 100000 in
/-- GatheredPointsModel.shift [(1, 1), (-2147483648, 2147483647), (2, 2), (-2147483648, 2147483647), (-2147483648, 2147483647)] -/
theorem zm3182_16 {z : gH} {L d : Nat} {K : Option gV → gH → Prop} {s : gH} (p1 : Int) (p3 : Int) (p4 : Int) (hs : zM z s) (h_p1 : (-2147483648) ≤ p1 ∧ p1 ≤ 2147483647) (h_p3 : (-2147483648) ≤ p3 ∧ p3 ≤ 2147483647) (h_p4 : (-2147483648) ≤ p4 ∧ p4 ≤ 2147483647) (q0 : gp_I s 84 0 = 0) (q1 : gp_I s 84 1 = 0) (q2 : gp_I s 84 2 = 0) (q3 : gp_I s 84 3 = 0) (q4 : gp_I s 85 0 = 0) (q5 : gp_I s 85 1 = 0) (q6 : gp_I s 85 2 = 0) (q7 : gp_I s 85 3 = 0) (k : ∀ (t : gH), zM z t → ((-2147483648) ≤ gp_I t 75 2 ∧ gp_I t 75 2 ≤ 2147483647) → (gp_I t 84 0 = 0) → (gp_I t 84 1 = 0) → (gp_I t 84 2 = 0) → (gp_I t 84 3 = 0) → (gp_I t 85 0 = 0) → (gp_I t 85 1 = 0) → (gp_I t 85 2 = 0) → (gp_I t 85 3 = 0) → K (some (gp_i (-1000000002))) t) : gs_C L (d + 1) 3182 7 [gp_r (some 74), gp_i 1, gp_i p1, gp_i 2, gp_i p3, gp_i p4] s K := by
  refine s_3182_e _ _ _ _ _ ?_
  refine zm3076_3 hs (⟨_, rfl, ?_⟩)
  refine ⟨fun h_1 => ?_, fun h_1 => ?_⟩
  · exfalso; omega
  · refine zm3076_4 hs (⟨_, rfl, ?_⟩)
    refine ⟨fun h_2 => ?_, fun h_2 => ?_⟩
    · exfalso; omega
    · refine ⟨by omega, ?_⟩
      try rw [show gp_I s 84 (1 : Int).toNat = 0 from q1]
      refine ⟨fun h_3 => ?_, fun h_3 => ?_⟩
      · refine s_3182_38 _ _ _ _ _ _ ?_
        refine zm3074_10 hs (by omega) (by omega) (by omega) (by omega) (by omega) (by omega) (by omega) (by omega) (fun s_4 hs_5 q_6 q_7 q_8 q_9 q_10 q_11 q_12 q_13 q_14 => ⟨_, rfl, ?_⟩)
        exact k s_4 hs_5 (by omega) (by omega) (by omega) (by omega) (by omega) (by omega) (by omega) (by omega) (by omega)
      · exfalso; omega
set_option maxRecDepth 100000 in
/-- GatheredPointsModel.shift [(1, 1), (-2147483648, 2147483647), (3, 3), (-2147483648, 2147483647), (-2147483648, 2147483647)] -/
theorem zm3182_17 {z : gH} {L d : Nat} {K : Option gV → gH → Prop} {s : gH} (p1 : Int) (p3 : Int) (p4 : Int) (hs : zM z s) (h_p1 : (-2147483648) ≤ p1 ∧ p1 ≤ 2147483647) (h_p3 : (-2147483648) ≤ p3 ∧ p3 ≤ 2147483647) (h_p4 : (-2147483648) ≤ p4 ∧ p4 ≤ 2147483647) (q0 : gp_I s 84 0 = 0) (q1 : gp_I s 84 1 = 0) (q2 : gp_I s 84 2 = 0) (q3 : gp_I s 84 3 = 0) (q4 : gp_I s 85 0 = 0) (q5 : gp_I s 85 1 = 0) (q6 : gp_I s 85 2 = 0) (q7 : gp_I s 85 3 = 0) (k : ∀ (t : gH), zM z t → ((-2147483648) ≤ gp_I t 75 2 ∧ gp_I t 75 2 ≤ 2147483647) → (gp_I t 84 0 = 0) → (gp_I t 84 1 = 0) → (gp_I t 84 2 = 0) → (gp_I t 84 3 = 0) → (gp_I t 85 0 = 0) → (gp_I t 85 1 = 0) → (gp_I t 85 2 = 0) → (gp_I t 85 3 = 0) → K (some (gp_i (-1000000002))) t) : gs_C L (d + 1) 3182 7 [gp_r (some 74), gp_i 1, gp_i p1, gp_i 3, gp_i p3, gp_i p4] s K := by
  refine s_3182_e _ _ _ _ _ ?_
  refine zm3076_3 hs (⟨_, rfl, ?_⟩)
  refine ⟨fun h_1 => ?_, fun h_1 => ?_⟩
  · exfalso; omega
  · refine zm3076_5 hs (⟨_, rfl, ?_⟩)
    refine ⟨fun h_2 => ?_, fun h_2 => ?_⟩
    · exfalso; omega
    · refine ⟨by omega, ?_⟩
      try rw [show gp_I s 84 (1 : Int).toNat = 0 from q1]
      refine ⟨fun h_3 => ?_, fun h_3 => ?_⟩
      · refine s_3182_38 _ _ _ _ _ _ ?_
        refine zm3074_10 hs (by omega) (by omega) (by omega) (by omega) (by omega) (by omega) (by omega) (by omega) (fun s_4 hs_5 q_6 q_7 q_8 q_9 q_10 q_11 q_12 q_13 q_14 => ⟨_, rfl, ?_⟩)
        exact k s_4 hs_5 (by omega) (by omega) (by omega) (by omega) (by omega) (by omega) (by omega) (by omega) (by omega)
      · exfalso; omega
set_option maxRecDepth 100000 in
/-- GatheredPointsModel.shift [(2, 2), (-2147483648, 2147483647), (0, 0), (-2147483648, 2147483647), (-2147483648, 2147483647)] -/
theorem zm3182_18 {z : gH} {L d : Nat} {K : Option gV → gH → Prop} {s : gH} (p1 : Int) (p3 : Int) (p4 : Int) (hs : zM z s) (h_p1 : (-2147483648) ≤ p1 ∧ p1 ≤ 2147483647) (h_p3 : (-2147483648) ≤ p3 ∧ p3 ≤ 2147483647) (h_p4 : (-2147483648) ≤ p4 ∧ p4 ≤ 2147483647) (q0 : gp_I s 84 0 = 0) (q1 : gp_I s 84 1 = 0) (q2 : gp_I s 84 2 = 0) (q3 : gp_I s 84 3 = 0) (q4 : gp_I s 85 0 = 0) (q5 : gp_I s 85 1 = 0) (q6 : gp_I s 85 2 = 0) (q7 : gp_I s 85 3 = 0) (k : ∀ (t : gH), zM z t → ((-2147483648) ≤ gp_I t 75 2 ∧ gp_I t 75 2 ≤ 2147483647) → (gp_I t 84 0 = 0) → (gp_I t 84 1 = 0) → (gp_I t 84 2 = 0) → (gp_I t 84 3 = 0) → (gp_I t 85 0 = 0) → (gp_I t 85 1 = 0) → (gp_I t 85 2 = 0) → (gp_I t 85 3 = 0) → K (some (gp_i (-1000000002))) t) : gs_C L (d + 1) 3182 7 [gp_r (some 74), gp_i 2, gp_i p1, gp_i 0, gp_i p3, gp_i p4] s K := by
  refine s_3182_e _ _ _ _ _ ?_
  refine zm3076_4 hs (⟨_, rfl, ?_⟩)
  refine ⟨fun h_1 => ?_, fun h_1 => ?_⟩
  · exfalso; omega
  · refine zm3076_2 hs (⟨_, rfl, ?_⟩)
    refine ⟨fun h_2 => ?_, fun h_2 => ?_⟩
    · exfalso; omega
    · refine ⟨by omega, ?_⟩
      try rw [show gp_I s 84 (2 : Int).toNat = 0 from q2]
      refine ⟨fun h_3 => ?_, fun h_3 => ?_⟩
      · refine s_3182_38 _ _ _ _ _ _ ?_
        refine zm3074_10 hs (by omega) (by omega) (by omega) (by omega) (by omega) (by omega) (by omega) (by omega) (fun s_4 hs_5 q_6 q_7 q_8 q_9 q_10 q_11 q_12 q_13 q_14 => ⟨_, rfl, ?_⟩)
        exact k s_4 hs_5 (by omega) (by omega) (by omega) (by omega) (by omega) (by omega) (by omega) (by omega) (by omega)
      · exfalso; omega
set_option maxRecDepth 100000 in
/-- GatheredPointsModel.shift [(2, 2), (-2147483648, 2147483647), (1, 1), (-2147483648, 2147483647), (-2147483648, 2147483647)] -/
theorem zm3182_19 {z : gH} {L d : Nat} {K : Option gV → gH → Prop} {s : gH} (p1 : Int) (p3 : Int) (p4 : Int) (hs : zM z s) (h_p1 : (-2147483648) ≤ p1 ∧ p1 ≤ 2147483647) (h_p3 : (-2147483648) ≤ p3 ∧ p3 ≤ 2147483647) (h_p4 : (-2147483648) ≤ p4 ∧ p4 ≤ 2147483647) (q0 : gp_I s 84 0 = 0) (q1 : gp_I s 84 1 = 0) (q2 : gp_I s 84 2 = 0) (q3 : gp_I s 84 3 = 0) (q4 : gp_I s 85 0 = 0) (q5 : gp_I s 85 1 = 0) (q6 : gp_I s 85 2 = 0) (q7 : gp_I s 85 3 = 0) (k : ∀ (t : gH), zM z t → ((-2147483648) ≤ gp_I t 75 2 ∧ gp_I t 75 2 ≤ 2147483647) → (gp_I t 84 0 = 0) → (gp_I t 84 1 = 0) → (gp_I t 84 2 = 0) → (gp_I t 84 3 = 0) → (gp_I t 85 0 = 0) → (gp_I t 85 1 = 0) → (gp_I t 85 2 = 0) → (gp_I t 85 3 = 0) → K (some (gp_i (-1000000002))) t) : gs_C L (d + 1) 3182 7 [gp_r (some 74), gp_i 2, gp_i p1, gp_i 1, gp_i p3, gp_i p4] s K := by
  refine s_3182_e _ _ _ _ _ ?_
  refine zm3076_4 hs (⟨_, rfl, ?_⟩)
  refine ⟨fun h_1 => ?_, fun h_1 => ?_⟩
  · exfalso; omega
  · refine zm3076_3 hs (⟨_, rfl, ?_⟩)
    refine ⟨fun h_2 => ?_, fun h_2 => ?_⟩
    · exfalso; omega
    · refine ⟨by omega, ?_⟩
      try rw [show gp_I s 84 (2 : Int).toNat = 0 from q2]
      refine ⟨fun h_3 => ?_, fun h_3 => ?_⟩
      · refine s_3182_38 _ _ _ _ _ _ ?_
        refine zm3074_10 hs (by omega) (by omega) (by omega) (by omega) (by omega) (by omega) (by omega) (by omega) (fun s_4 hs_5 q_6 q_7 q_8 q_9 q_10 q_11 q_12 q_13 q_14 => ⟨_, rfl, ?_⟩)
        exact k s_4 hs_5 (by omega) (by omega) (by omega) (by omega) (by omega) (by omega) (by omega) (by omega) (by omega)
      · exfalso; omega
set_option maxRecDepth 100000 in
/-- GatheredPointsModel.shift [(2, 2), (-2147483648, 2147483647), (2, 2), (-2147483648, 2147483647), (-2147483648, 2147483647)] -/
theorem zm3182_20 {z : gH} {L d : Nat} {K : Option gV → gH → Prop} {s : gH} (p1 : Int) (p3 : Int) (p4 : Int) (hs : zM z s) (h_p1 : (-2147483648) ≤ p1 ∧ p1 ≤ 2147483647) (h_p3 : (-2147483648) ≤ p3 ∧ p3 ≤ 2147483647) (h_p4 : (-2147483648) ≤ p4 ∧ p4 ≤ 2147483647) (q0 : gp_I s 84 0 = 0) (q1 : gp_I s 84 1 = 0) (q2 : gp_I s 84 2 = 0) (q3 : gp_I s 84 3 = 0) (q4 : gp_I s 85 0 = 0) (q5 : gp_I s 85 1 = 0) (q6 : gp_I s 85 2 = 0) (q7 : gp_I s 85 3 = 0) (k : ∀ (t : gH), zM z t → ((-2147483648) ≤ gp_I t 75 2 ∧ gp_I t 75 2 ≤ 2147483647) → (gp_I t 84 0 = 0) → (gp_I t 84 1 = 0) → (gp_I t 84 2 = 0) → (gp_I t 84 3 = 0) → (gp_I t 85 0 = 0) → (gp_I t 85 1 = 0) → (gp_I t 85 2 = 0) → (gp_I t 85 3 = 0) → K (some (gp_i (-1000000002))) t) : gs_C L (d + 1) 3182 7 [gp_r (some 74), gp_i 2, gp_i p1, gp_i 2, gp_i p3, gp_i p4] s K := by
  refine s_3182_e _ _ _ _ _ ?_
  refine zm3076_4 hs (⟨_, rfl, ?_⟩)
  refine ⟨fun h_1 => ?_, fun h_1 => ?_⟩
  · exfalso; omega
  · refine zm3076_4 hs (⟨_, rfl, ?_⟩)
    refine ⟨fun h_2 => ?_, fun h_2 => ?_⟩
    · exfalso; omega
    · refine ⟨by omega, ?_⟩
      try rw [show gp_I s 84 (2 : Int).toNat = 0 from q2]
      refine ⟨fun h_3 => ?_, fun h_3 => ?_⟩
      · refine s_3182_38 _ _ _ _ _ _ ?_
        refine zm3074_10 hs (by omega) (by omega) (by omega) (by omega) (by omega) (by omega) (by omega) (by omega) (fun s_4 hs_5 q_6 q_7 q_8 q_9 q_10 q_11 q_12 q_13 q_14 => ⟨_, rfl, ?_⟩)
        exact k s_4 hs_5 (by omega) (by omega) (by omega) (by omega) (by omega) (by omega) (by omega) (by omega) (by omega)
      · exfalso; omega
set_option maxRecDepth 100000 in
/-- GatheredPointsModel.shift [(2, 2), (-2147483648, 2147483647), (3, 3), (-2147483648, 2147483647), (-2147483648, 2147483647)] -/
theorem zm3182_21 {z : gH} {L d : Nat} {K : Option gV → gH → Prop} {s : gH} (p1 : Int) (p3 : Int) (p4 : Int) (hs : zM z s) (h_p1 : (-2147483648) ≤ p1 ∧ p1 ≤ 2147483647) (h_p3 : (-2147483648) ≤ p3 ∧ p3 ≤ 2147483647) (h_p4 : (-2147483648) ≤ p4 ∧ p4 ≤ 2147483647) (q0 : gp_I s 84 0 = 0) (q1 : gp_I s 84 1 = 0) (q2 : gp_I s 84 2 = 0) (q3 : gp_I s 84 3 = 0) (q4 : gp_I s 85 0 = 0) (q5 : gp_I s 85 1 = 0) (q6 : gp_I s 85 2 = 0) (q7 : gp_I s 85 3 = 0) (k : ∀ (t : gH), zM z t → ((-2147483648) ≤ gp_I t 75 2 ∧ gp_I t 75 2 ≤ 2147483647) → (gp_I t 84 0 = 0) → (gp_I t 84 1 = 0) → (gp_I t 84 2 = 0) → (gp_I t 84 3 = 0) → (gp_I t 85 0 = 0) → (gp_I t 85 1 = 0) → (gp_I t 85 2 = 0) → (gp_I t 85 3 = 0) → K (some (gp_i (-1000000002))) t) : gs_C L (d + 1) 3182 7 [gp_r (some 74), gp_i 2, gp_i p1, gp_i 3, gp_i p3, gp_i p4] s K := by
  refine s_3182_e _ _ _ _ _ ?_
  refine zm3076_4 hs (⟨_, rfl, ?_⟩)
  refine ⟨fun h_1 => ?_, fun h_1 => ?_⟩
  · exfalso; omega
  · refine zm3076_5 hs (⟨_, rfl, ?_⟩)
    refine ⟨fun h_2 => ?_, fun h_2 => ?_⟩
    · exfalso; omega
    · refine ⟨by omega, ?_⟩
      try rw [show gp_I s 84 (2 : Int).toNat = 0 from q2]
      refine ⟨fun h_3 => ?_, fun h_3 => ?_⟩
      · refine s_3182_38 _ _ _ _ _ _ ?_
        refine zm3074_10 hs (by omega) (by omega) (by omega) (by omega) (by omega) (by omega) (by omega) (by omega) (fun s_4 hs_5 q_6 q_7 q_8 q_9 q_10 q_11 q_12 q_13 q_14 => ⟨_, rfl, ?_⟩)
        exact k s_4 hs_5 (by omega) (by omega) (by omega) (by omega) (by omega) (by omega) (by omega) (by omega) (by omega)
      · exfalso; omega
set_option maxRecDepth 100000 in
/-- GatheredPointsModel.shift [(3, 3), (-2147483648, 2147483647), (0, 0), (-2147483648, 2147483647), (-2147483648, 2147483647)] -/
theorem zm3182_22 {z : gH} {L d : Nat} {K : Option gV → gH → Prop} {s : gH} (p1 : Int) (p3 : Int) (p4 : Int) (hs : zM z s) (h_p1 : (-2147483648) ≤ p1 ∧ p1 ≤ 2147483647) (h_p3 : (-2147483648) ≤ p3 ∧ p3 ≤ 2147483647) (h_p4 : (-2147483648) ≤ p4 ∧ p4 ≤ 2147483647) (q0 : gp_I s 84 0 = 0) (q1 : gp_I s 84 1 = 0) (q2 : gp_I s 84 2 = 0) (q3 : gp_I s 84 3 = 0) (q4 : gp_I s 85 0 = 0) (q5 : gp_I s 85 1 = 0) (q6 : gp_I s 85 2 = 0) (q7 : gp_I s 85 3 = 0) (k : ∀ (t : gH), zM z t → ((-2147483648) ≤ gp_I t 75 2 ∧ gp_I t 75 2 ≤ 2147483647) → (gp_I t 84 0 = 0) → (gp_I t 84 1 = 0) → (gp_I t 84 2 = 0) → (gp_I t 84 3 = 0) → (gp_I t 85 0 = 0) → (gp_I t 85 1 = 0) → (gp_I t 85 2 = 0) → (gp_I t 85 3 = 0) → K (some (gp_i (-1000000002))) t) : gs_C L (d + 1) 3182 7 [gp_r (some 74), gp_i 3, gp_i p1, gp_i 0, gp_i p3, gp_i p4] s K := by
  refine s_3182_e _ _ _ _ _ ?_
  refine zm3076_5 hs (⟨_, rfl, ?_⟩)
  refine ⟨fun h_1 => ?_, fun h_1 => ?_⟩
  · exfalso; omega
  · refine zm3076_2 hs (⟨_, rfl, ?_⟩)
    refine ⟨fun h_2 => ?_, fun h_2 => ?_⟩
    · exfalso; omega
    · refine ⟨by omega, ?_⟩
      try rw [show gp_I s 84 (3 : Int).toNat = 0 from q3]
      refine ⟨fun h_3 => ?_, fun h_3 => ?_⟩
      · refine s_3182_38 _ _ _ _ _ _ ?_
        refine zm3074_10 hs (by omega) (by omega) (by omega) (by omega) (by omega) (by omega) (by omega) (by omega) (fun s_4 hs_5 q_6 q_7 q_8 q_9 q_10 q_11 q_12 q_13 q_14 => ⟨_, rfl, ?_⟩)
        exact k s_4 hs_5 (by omega) (by omega) (by omega) (by omega) (by omega) (by omega) (by omega) (by omega) (by omega)
      · exfalso; omega
set_option maxRecDepth 100000 in
/-- GatheredPointsModel.shift [(3, 3), (-2147483648, 2147483647), (1, 1), (-2147483648, 2147483647), (-2147483648, 2147483647)] -/
theorem zm3182_23 {z : gH} {L d : Nat} {K : Option gV → gH → Prop} {s : gH} (p1 : Int) (p3 : Int) (p4 : Int) (hs : zM z s) (h_p1 : (-2147483648) ≤ p1 ∧ p1 ≤ 2147483647) (h_p3 : (-2147483648) ≤ p3 ∧ p3 ≤ 2147483647) (h_p4 : (-2147483648) ≤ p4 ∧ p4 ≤ 2147483647) (q0 : gp_I s 84 0 = 0) (q1 : gp_I s 84 1 = 0) (q2 : gp_I s 84 2 = 0) (q3 : gp_I s 84 3 = 0) (q4 : gp_I s 85 0 = 0) (q5 : gp_I s 85 1 = 0) (q6 : gp_I s 85 2 = 0) (q7 : gp_I s 85 3 = 0) (k : ∀ (t : gH), zM z t → ((-2147483648) ≤ gp_I t 75 2 ∧ gp_I t 75 2 ≤ 2147483647) → (gp_I t 84 0 = 0) → (gp_I t 84 1 = 0) → (gp_I t 84 2 = 0) → (gp_I t 84 3 = 0) → (gp_I t 85 0 = 0) → (gp_I t 85 1 = 0) → (gp_I t 85 2 = 0) → (gp_I t 85 3 = 0) → K (some (gp_i (-1000000002))) t) : gs_C L (d + 1) 3182 7 [gp_r (some 74), gp_i 3, gp_i p1, gp_i 1, gp_i p3, gp_i p4] s K := by
  refine s_3182_e _ _ _ _ _ ?_
  refine zm3076_5 hs (⟨_, rfl, ?_⟩)
  refine ⟨fun h_1 => ?_, fun h_1 => ?_⟩
  · exfalso; omega
  · refine zm3076_3 hs (⟨_, rfl, ?_⟩)
    refine ⟨fun h_2 => ?_, fun h_2 => ?_⟩
    · exfalso; omega
    · refine ⟨by omega, ?_⟩
      try rw [show gp_I s 84 (3 : Int).toNat = 0 from q3]
      refine ⟨fun h_3 => ?_, fun h_3 => ?_⟩
      · refine s_3182_38 _ _ _ _ _ _ ?_
        refine zm3074_10 hs (by omega) (by omega) (by omega) (by omega) (by omega) (by omega) (by omega) (by omega) (fun s_4 hs_5 q_6 q_7 q_8 q_9 q_10 q_11 q_12 q_13 q_14 => ⟨_, rfl, ?_⟩)
        exact k s_4 hs_5 (by omega) (by omega) (by omega) (by omega) (by omega) (by omega) (by omega) (by omega) (by omega)
      · exfalso; omega
