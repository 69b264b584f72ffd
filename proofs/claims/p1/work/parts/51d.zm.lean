set_option maxRecDepth 100000 in
/-- GatheredPointsModel.shift [(3, 3), (-2147483648, 2147483647), (2, 2), (-2147483648, 2147483647), (-2147483648, 2147483647)] -/
theorem zm3182_24 {z : gH} {L d : Nat} {K : Option gV → gH → Prop} {s : gH} (p1 : Int) (p3 : Int) (p4 : Int) (hs : zM z s) (h_p1 : (-2147483648) ≤ p1 ∧ p1 ≤ 2147483647) (h_p3 : (-2147483648) ≤ p3 ∧ p3 ≤ 2147483647) (h_p4 : (-2147483648) ≤ p4 ∧ p4 ≤ 2147483647) (q0 : gp_I s 84 0 = 0) (q1 : gp_I s 84 1 = 0) (q2 : gp_I s 84 2 = 0) (q3 : gp_I s 84 3 = 0) (q4 : gp_I s 85 0 = 0) (q5 : gp_I s 85 1 = 0) (q6 : gp_I s 85 2 = 0) (q7 : gp_I s 85 3 = 0) (k : ∀ (t : gH), zM z t → ((-2147483648) ≤ gp_I t 75 2 ∧ gp_I t 75 2 ≤ 2147483647) → (gp_I t 84 0 = 0) → (gp_I t 84 1 = 0) → (gp_I t 84 2 = 0) → (gp_I t 84 3 = 0) → (gp_I t 85 0 = 0) → (gp_I t 85 1 = 0) → (gp_I t 85 2 = 0) → (gp_I t 85 3 = 0) → K (some (gp_i (-1000000002))) t) : gs_C L (d + 1) 3182 7 [gp_r (some 74), gp_i 3, gp_i p1, gp_i 2, gp_i p3, gp_i p4] s K := by
  refine s_3182_e _ _ _ _ _ ?_
  refine zm3076_5 hs (⟨_, rfl, ?_⟩)
  refine ⟨fun h_1 => ?_, fun h_1 => ?_⟩
  · exfalso; omega
  · refine zm3076_4 hs (⟨_, rfl, ?_⟩)
    refine ⟨fun h_2 => ?_, fun h_2 => ?_⟩
    · exfalso; omega
    · refine ⟨by omega, ?_⟩
      try rw [show gp_I s 84 (3 : Int).toNat = 0 from q3]
      refine ⟨fun h_3 => ?_, fun h_3 => ?_⟩
      · refine s_3182_38 _ _ _ _ _ _ ?_
        refine zm3074_10 hs (by omega) (by omega) (by omega) (by omega) (by omega) (by omega) (by omega) (by omega) (fun s_4 hs_5 q_6 q_7 q_8 q_9 q_10 q_11 q_12 q_13 q_14 => ⟨_, rfl, ?_⟩)
        exact k s_4 hs_5 (by omega) (by omega) (by omega) (by omega) (by omega) (by omega) (by omega) (by omega) (by omega)
      · exfalso; omega
set_option maxRecDepth 100000 in
/-- GatheredPointsModel.shift [(3, 3), (-2147483648, 2147483647), (3, 3), (-2147483648, 2147483647), (-2147483648, 2147483647)] -/
theorem zm3182_25 {z : gH} {L d : Nat} {K : Option gV → gH → Prop} {s : gH} (p1 : Int) (p3 : Int) (p4 : Int) (hs : zM z s) (h_p1 : (-2147483648) ≤ p1 ∧ p1 ≤ 2147483647) (h_p3 : (-2147483648) ≤ p3 ∧ p3 ≤ 2147483647) (h_p4 : (-2147483648) ≤ p4 ∧ p4 ≤ 2147483647) (q0 : gp_I s 84 0 = 0) (q1 : gp_I s 84 1 = 0) (q2 : gp_I s 84 2 = 0) (q3 : gp_I s 84 3 = 0) (q4 : gp_I s 85 0 = 0) (q5 : gp_I s 85 1 = 0) (q6 : gp_I s 85 2 = 0) (q7 : gp_I s 85 3 = 0) (k : ∀ (t : gH), zM z t → ((-2147483648) ≤ gp_I t 75 2 ∧ gp_I t 75 2 ≤ 2147483647) → (gp_I t 84 0 = 0) → (gp_I t 84 1 = 0) → (gp_I t 84 2 = 0) → (gp_I t 84 3 = 0) → (gp_I t 85 0 = 0) → (gp_I t 85 1 = 0) → (gp_I t 85 2 = 0) → (gp_I t 85 3 = 0) → K (some (gp_i (-1000000002))) t) : gs_C L (d + 1) 3182 7 [gp_r (some 74), gp_i 3, gp_i p1, gp_i 3, gp_i p3, gp_i p4] s K := by
  refine s_3182_e _ _ _ _ _ ?_
  refine zm3076_5 hs (⟨_, rfl, ?_⟩)
  refine ⟨fun h_1 => ?_, fun h_1 => ?_⟩
  · exfalso; omega
  · refine zm3076_5 hs (⟨_, rfl, ?_⟩)
    refine ⟨fun h_2 => ?_, fun h_2 => ?_⟩
    · exfalso; omega
    · refine ⟨by omega, ?_⟩
      try rw [show gp_I s 84 (3 : Int).toNat = 0 from q3]
      refine ⟨fun h_3 => ?_, fun h_3 => ?_⟩
      · refine s_3182_38 _ _ _ _ _ _ ?_
        refine zm3074_10 hs (by omega) (by omega) (by omega) (by omega) (by omega) (by omega) (by omega) (by omega) (fun s_4 hs_5 q_6 q_7 q_8 q_9 q_10 q_11 q_12 q_13 q_14 => ⟨_, rfl, ?_⟩)
        exact k s_4 hs_5 (by omega) (by omega) (by omega) (by omega) (by omega) (by omega) (by omega) (by omega) (by omega)
      · exfalso; omega
set_option maxRecDepth 100000 in
/-- GatheredPointsModel.finds [(1, 1)] -/
theorem zm3074_11 {z : gH} {L d : Nat} {K : Option gV → gH → Prop} {s : gH}  (hs : zM z s)  (q0 : gp_I s 81 20 = 0) (q1 : gp_I s 84 0 = 0) (q2 : gp_I s 84 1 = 0) (q3 : gp_I s 84 2 = 0) (q4 : gp_I s 84 3 = 0) (q5 : gp_I s 85 0 = 0) (q6 : gp_I s 85 1 = 0) (q7 : gp_I s 85 2 = 0) (q8 : gp_I s 85 3 = 0) (k : ∀ (t : gH), zM z t → ((-2147483648) ≤ gp_I t 75 1 ∧ gp_I t 75 1 ≤ 2147483647) → (gp_I t 81 20 = 0) → (gp_I t 84 0 = 0) → (gp_I t 84 1 = 0) → (gp_I t 84 2 = 0) → (gp_I t 84 3 = 0) → (gp_I t 85 0 = 0) → (gp_I t 85 1 = 0) → (gp_I t 85 2 = 0) → (gp_I t 85 3 = 0) → K (some (gp_i (-1000000001))) t) : gs_C L d 3074 2 [gp_r (some 74), gp_i 1] s K := by
  refine s_3074_e _ ?_
  refine ⟨by omega, ?_⟩
  have w_1 := gz_w ((gp_I s 75 (1 : Int).toNat) + 1)
  refine ⟨by omega, ?_⟩
  intro s_2 e_3
  have hs_4 : zM z s_2 := by rw [e_3]; exact zw75 hs _ _
  have q_5 : gp_I s_2 81 20 = 0 := by rw [e_3]; exact q0
  have q_6 : gp_I s_2 84 0 = 0 := by rw [e_3]; exact q1
  have q_7 : gp_I s_2 84 1 = 0 := by rw [e_3]; exact q2
  have q_8 : gp_I s_2 84 2 = 0 := by rw [e_3]; exact q3
  have q_9 : gp_I s_2 84 3 = 0 := by rw [e_3]; exact q4
  have q_10 : gp_I s_2 85 0 = 0 := by rw [e_3]; exact q5
  have q_11 : gp_I s_2 85 1 = 0 := by rw [e_3]; exact q6
  have q_12 : gp_I s_2 85 2 = 0 := by rw [e_3]; exact q7
  have q_13 : gp_I s_2 85 3 = 0 := by rw [e_3]; exact q8
  have q_14 : (-2147483648) ≤ gp_I s_2 75 1 ∧ gp_I s_2 75 1 ≤ 2147483647 := by have x_15 : gp_I s_2 75 1 = gp_wr ((gp_I s 75 (1 : Int).toNat) + 1) := (by rw [e_3]; rfl); omega
  have w_16 := gz_w ((-1000000000) - 1)
  have e_17 : gp_wr ((-1000000000) - 1) = (-1000000001) := by omega
  try rw [e_17]
  exact k s_2 hs_4 (by omega) (by omega) (by omega) (by omega) (by omega) (by omega) (by omega) (by omega) (by omega) (by omega)
set_option maxRecDepth 100000 in
/-- GatheredPointsModel.judge [(-2147483648, -1), (-2147483648, 2147483647)] -/
theorem zm3183_0 {z : gH} {L d : Nat} {K : Option gV → gH → Prop} {s : gH} (p0 : Int) (p1 : Int) (hs : zM z s) (h_p0 : (-2147483648) ≤ p0 ∧ p0 ≤ (-1)) (h_p1 : (-2147483648) ≤ p1 ∧ p1 ≤ 2147483647) (q0 : gp_I s 81 20 = 0) (q1 : gp_I s 84 0 = 0) (q2 : gp_I s 84 1 = 0) (q3 : gp_I s 84 2 = 0) (q4 : gp_I s 84 3 = 0) (q5 : gp_I s 85 0 = 0) (q6 : gp_I s 85 1 = 0) (q7 : gp_I s 85 2 = 0) (q8 : gp_I s 85 3 = 0) (k : ∀ (t : gH), zM z t → ((-2147483648) ≤ gp_I t 75 1 ∧ gp_I t 75 1 ≤ 2147483647) → (gp_I t 81 20 = 0) → (gp_I t 84 0 = 0) → (gp_I t 84 1 = 0) → (gp_I t 84 2 = 0) → (gp_I t 84 3 = 0) → (gp_I t 85 0 = 0) → (gp_I t 85 1 = 0) → (gp_I t 85 2 = 0) → (gp_I t 85 3 = 0) → K (some (gp_i (-1000000001))) t) : gs_C L (d + 1) 3183 4 [gp_r (some 74), gp_i p0, gp_i p1] s K := by
  refine s_3183_e _ _ ?_
  refine zm3076_0 _ hs (by omega) (⟨_, rfl, ?_⟩)
  refine ⟨fun h_1 => ?_, fun h_1 => ?_⟩
  · refine s_3183_14 _ _ _ ?_
    refine zm3074_11 hs (by omega) (by omega) (by omega) (by omega) (by omega) (by omega) (by omega) (by omega) (by omega) (fun s_2 hs_3 q_4 q_5 q_6 q_7 q_8 q_9 q_10 q_11 q_12 q_13 => ⟨_, rfl, ?_⟩)
    exact k s_2 hs_3 (by omega) (by omega) (by omega) (by omega) (by omega) (by omega) (by omega) (by omega) (by omega) (by omega)
  · exfalso; omega
set_option maxRecDepth 100000 in
/-- GatheredPointsModel.judge [(4, 2147483647), (-2147483648, 2147483647)] -/
theorem zm3183_1 {z : gH} {L d : Nat} {K : Option gV → gH → Prop} {s : gH} (p0 : Int) (p1 : Int) (hs : zM z s) (h_p0 : 4 ≤ p0 ∧ p0 ≤ 2147483647) (h_p1 : (-2147483648) ≤ p1 ∧ p1 ≤ 2147483647) (q0 : gp_I s 81 20 = 0) (q1 : gp_I s 84 0 = 0) (q2 : gp_I s 84 1 = 0) (q3 : gp_I s 84 2 = 0) (q4 : gp_I s 84 3 = 0) (q5 : gp_I s 85 0 = 0) (q6 : gp_I s 85 1 = 0) (q7 : gp_I s 85 2 = 0) (q8 : gp_I s 85 3 = 0) (k : ∀ (t : gH), zM z t → ((-2147483648) ≤ gp_I t 75 1 ∧ gp_I t 75 1 ≤ 2147483647) → (gp_I t 81 20 = 0) → (gp_I t 84 0 = 0) → (gp_I t 84 1 = 0) → (gp_I t 84 2 = 0) → (gp_I t 84 3 = 0) → (gp_I t 85 0 = 0) → (gp_I t 85 1 = 0) → (gp_I t 85 2 = 0) → (gp_I t 85 3 = 0) → K (some (gp_i (-1000000001))) t) : gs_C L (d + 1) 3183 4 [gp_r (some 74), gp_i p0, gp_i p1] s K := by
  refine s_3183_e _ _ ?_
  refine zm3076_1 _ hs (by omega) (⟨_, rfl, ?_⟩)
  refine ⟨fun h_1 => ?_, fun h_1 => ?_⟩
  · refine s_3183_14 _ _ _ ?_
    refine zm3074_11 hs (by omega) (by omega) (by omega) (by omega) (by omega) (by omega) (by omega) (by omega) (by omega) (fun s_2 hs_3 q_4 q_5 q_6 q_7 q_8 q_9 q_10 q_11 q_12 q_13 => ⟨_, rfl, ?_⟩)
    exact k s_2 hs_3 (by omega) (by omega) (by omega) (by omega) (by omega) (by omega) (by omega) (by omega) (by omega) (by omega)
  · exfalso; omega
set_option maxRecDepth 100000 in
/-- GatheredPointsModel.judge [(0, 0), (-2147483648, -1)] -/
theorem zm3183_2 {z : gH} {L d : Nat} {K : Option gV → gH → Prop} {s : gH} (p1 : Int) (hs : zM z s) (h_p1 : (-2147483648) ≤ p1 ∧ p1 ≤ (-1)) (q0 : gp_I s 81 20 = 0) (q1 : gp_I s 84 0 = 0) (q2 : gp_I s 84 1 = 0) (q3 : gp_I s 84 2 = 0) (q4 : gp_I s 84 3 = 0) (q5 : gp_I s 85 0 = 0) (q6 : gp_I s 85 1 = 0) (q7 : gp_I s 85 2 = 0) (q8 : gp_I s 85 3 = 0) (k : ∀ (t : gH), zM z t → ((-2147483648) ≤ gp_I t 75 1 ∧ gp_I t 75 1 ≤ 2147483647) → (gp_I t 81 20 = 0) → (gp_I t 84 0 = 0) → (gp_I t 84 1 = 0) → (gp_I t 84 2 = 0) → (gp_I t 84 3 = 0) → (gp_I t 85 0 = 0) → (gp_I t 85 1 = 0) → (gp_I t 85 2 = 0) → (gp_I t 85 3 = 0) → K (some (gp_i (-1000000001))) t) : gs_C L (d + 1) 3183 4 [gp_r (some 74), gp_i 0, gp_i p1] s K := by
  refine s_3183_e _ _ ?_
  refine zm3076_2 hs (⟨_, rfl, ?_⟩)
  refine ⟨fun h_1 => ?_, fun h_1 => ?_⟩
  · exfalso; omega
  · refine zm3077_0 _ hs (by omega) (⟨_, rfl, ?_⟩)
    refine ⟨fun h_2 => ?_, fun h_2 => ?_⟩
    · refine s_3183_14 _ _ _ ?_
      refine zm3074_11 hs (by omega) (by omega) (by omega) (by omega) (by omega) (by omega) (by omega) (by omega) (by omega) (fun s_3 hs_4 q_5 q_6 q_7 q_8 q_9 q_10 q_11 q_12 q_13 q_14 => ⟨_, rfl, ?_⟩)
      exact k s_3 hs_4 (by omega) (by omega) (by omega) (by omega) (by omega) (by omega) (by omega) (by omega) (by omega) (by omega)
    · exfalso; omega
set_option maxRecDepth 100000 in
/-- GatheredPointsModel.judge [(0, 0), (2, 2147483647)] -/
theorem zm3183_3 {z : gH} {L d : Nat} {K : Option gV → gH → Prop} {s : gH} (p1 : Int) (hs : zM z s) (h_p1 : 2 ≤ p1 ∧ p1 ≤ 2147483647) (q0 : gp_I s 81 20 = 0) (q1 : gp_I s 84 0 = 0) (q2 : gp_I s 84 1 = 0) (q3 : gp_I s 84 2 = 0) (q4 : gp_I s 84 3 = 0) (q5 : gp_I s 85 0 = 0) (q6 : gp_I s 85 1 = 0) (q7 : gp_I s 85 2 = 0) (q8 : gp_I s 85 3 = 0) (k : ∀ (t : gH), zM z t → ((-2147483648) ≤ gp_I t 75 1 ∧ gp_I t 75 1 ≤ 2147483647) → (gp_I t 81 20 = 0) → (gp_I t 84 0 = 0) → (gp_I t 84 1 = 0) → (gp_I t 84 2 = 0) → (gp_I t 84 3 = 0) → (gp_I t 85 0 = 0) → (gp_I t 85 1 = 0) → (gp_I t 85 2 = 0) → (gp_I t 85 3 = 0) → K (some (gp_i (-1000000001))) t) : gs_C L (d + 1) 3183 4 [gp_r (some 74), gp_i 0, gp_i p1] s K := by
  refine s_3183_e _ _ ?_
  refine zm3076_2 hs (⟨_, rfl, ?_⟩)
  refine ⟨fun h_1 => ?_, fun h_1 => ?_⟩
  · exfalso; omega
  · refine zm3077_1 _ hs (by omega) (⟨_, rfl, ?_⟩)
    refine ⟨fun h_2 => ?_, fun h_2 => ?_⟩
    · refine s_3183_14 _ _ _ ?_
      refine zm3074_11 hs (by omega) (by omega) (by omega) (by omega) (by omega) (by omega) (by omega) (by omega) (by omega) (fun s_3 hs_4 q_5 q_6 q_7 q_8 q_9 q_10 q_11 q_12 q_13 q_14 => ⟨_, rfl, ?_⟩)
      exact k s_3 hs_4 (by omega) (by omega) (by omega) (by omega) (by omega) (by omega) (by omega) (by omega) (by omega) (by omega)
    · exfalso; omega
set_option maxRecDepth 100000 in
/-- GatheredPointsModel.judge [(1, 1), (-2147483648, -1)] -/
theorem zm3183_4 {z : gH} {L d : Nat} {K : Option gV → gH → Prop} {s : gH} (p1 : Int) (hs : zM z s) (h_p1 : (-2147483648) ≤ p1 ∧ p1 ≤ (-1)) (q0 : gp_I s 81 20 = 0) (q1 : gp_I s 84 0 = 0) (q2 : gp_I s 84 1 = 0) (q3 : gp_I s 84 2 = 0) (q4 : gp_I s 84 3 = 0) (q5 : gp_I s 85 0 = 0) (q6 : gp_I s 85 1 = 0) (q7 : gp_I s 85 2 = 0) (q8 : gp_I s 85 3 = 0) (k : ∀ (t : gH), zM z t → ((-2147483648) ≤ gp_I t 75 1 ∧ gp_I t 75 1 ≤ 2147483647) → (gp_I t 81 20 = 0) → (gp_I t 84 0 = 0) → (gp_I t 84 1 = 0) → (gp_I t 84 2 = 0) → (gp_I t 84 3 = 0) → (gp_I t 85 0 = 0) → (gp_I t 85 1 = 0) → (gp_I t 85 2 = 0) → (gp_I t 85 3 = 0) → K (some (gp_i (-1000000001))) t) : gs_C L (d + 1) 3183 4 [gp_r (some 74), gp_i 1, gp_i p1] s K := by
  refine s_3183_e _ _ ?_
  refine zm3076_3 hs (⟨_, rfl, ?_⟩)
  refine ⟨fun h_1 => ?_, fun h_1 => ?_⟩
  · exfalso; omega
  · refine zm3077_0 _ hs (by omega) (⟨_, rfl, ?_⟩)
    refine ⟨fun h_2 => ?_, fun h_2 => ?_⟩
    · refine s_3183_14 _ _ _ ?_
      refine zm3074_11 hs (by omega) (by omega) (by omega) (by omega) (by omega) (by omega) (by omega) (by omega) (by omega) (fun s_3 hs_4 q_5 q_6 q_7 q_8 q_9 q_10 q_11 q_12 q_13 q_14 => ⟨_, rfl, ?_⟩)
      exact k s_3 hs_4 (by omega) (by omega) (by omega) (by omega) (by omega) (by omega) (by omega) (by omega) (by omega) (by omega)
    · exfalso; omega
set_option maxRecDepth 100000 in
/-- GatheredPointsModel.judge [(1, 1), (2, 2147483647)] -/
theorem zm3183_5 {z : gH} {L d : Nat} {K : Option gV → gH → Prop} {s : gH} (p1 : Int) (hs : zM z s) (h_p1 : 2 ≤ p1 ∧ p1 ≤ 2147483647) (q0 : gp_I s 81 20 = 0) (q1 : gp_I s 84 0 = 0) (q2 : gp_I s 84 1 = 0) (q3 : gp_I s 84 2 = 0) (q4 : gp_I s 84 3 = 0) (q5 : gp_I s 85 0 = 0) (q6 : gp_I s 85 1 = 0) (q7 : gp_I s 85 2 = 0) (q8 : gp_I s 85 3 = 0) (k : ∀ (t : gH), zM z t → ((-2147483648) ≤ gp_I t 75 1 ∧ gp_I t 75 1 ≤ 2147483647) → (gp_I t 81 20 = 0) → (gp_I t 84 0 = 0) → (gp_I t 84 1 = 0) → (gp_I t 84 2 = 0) → (gp_I t 84 3 = 0) → (gp_I t 85 0 = 0) → (gp_I t 85 1 = 0) → (gp_I t 85 2 = 0) → (gp_I t 85 3 = 0) → K (some (gp_i (-1000000001))) t) : gs_C L (d + 1) 3183 4 [gp_r (some 74), gp_i 1, gp_i p1] s K := by
  refine s_3183_e _ _ ?_
  refine zm3076_3 hs (⟨_, rfl, ?_⟩)
  refine ⟨fun h_1 => ?_, fun h_1 => ?_⟩
  · exfalso; omega
  · refine zm3077_1 _ hs (by omega) (⟨_, rfl, ?_⟩)
    refine ⟨fun h_2 => ?_, fun h_2 => ?_⟩
    · refine s_3183_14 _ _ _ ?_
      refine zm3074_11 hs (by omega) (by omega) (by omega) (by omega) (by omega) (by omega) (by omega) (by omega) (by omega) (fun s_3 hs_4 q_5 q_6 q_7 q_8 q_9 q_10 q_11 q_12 q_13 q_14 => ⟨_, rfl, ?_⟩)
      exact k s_3 hs_4 (by omega) (by omega) (by omega) (by omega) (by omega) (by omega) (by omega) (by omega) (by omega) (by omega)
    · exfalso; omega
set_option maxRecDepth 100000 in
/-- GatheredPointsModel.judge [(2, 2), (-2147483648, -1)] -/
theorem zm3183_6 {z : gH} {L d : Nat} {K : Option gV → gH → Prop} {s : gH} (p1 : Int) (hs : zM z s) (h_p1 : (-2147483648) ≤ p1 ∧ p1 ≤ (-1)) (q0 : gp_I s 81 20 = 0) (q1 : gp_I s 84 0 = 0) (q2 : gp_I s 84 1 = 0) (q3 : gp_I s 84 2 = 0) (q4 : gp_I s 84 3 = 0) (q5 : gp_I s 85 0 = 0) (q6 : gp_I s 85 1 = 0) (q7 : gp_I s 85 2 = 0) (q8 : gp_I s 85 3 = 0) (k : ∀ (t : gH), zM z t → ((-2147483648) ≤ gp_I t 75 1 ∧ gp_I t 75 1 ≤ 2147483647) → (gp_I t 81 20 = 0) → (gp_I t 84 0 = 0) → (gp_I t 84 1 = 0) → (gp_I t 84 2 = 0) → (gp_I t 84 3 = 0) → (gp_I t 85 0 = 0) → (gp_I t 85 1 = 0) → (gp_I t 85 2 = 0) → (gp_I t 85 3 = 0) → K (some (gp_i (-1000000001))) t) : gs_C L (d + 1) 3183 4 [gp_r (some 74), gp_i 2, gp_i p1] s K := by
  refine s_3183_e _ _ ?_
  refine zm3076_4 hs (⟨_, rfl, ?_⟩)
  refine ⟨fun h_1 => ?_, fun h_1 => ?_⟩
  · exfalso; omega
  · refine zm3077_0 _ hs (by omega) (⟨_, rfl, ?_⟩)
    refine ⟨fun h_2 => ?_, fun h_2 => ?_⟩
    · refine s_3183_14 _ _ _ ?_
      refine zm3074_11 hs (by omega) (by omega) (by omega) (by omega) (by omega) (by omega) (by omega) (by omega) (by omega) (fun s_3 hs_4 q_5 q_6 q_7 q_8 q_9 q_10 q_11 q_12 q_13 q_14 => ⟨_, rfl, ?_⟩)
      exact k s_3 hs_4 (by omega) (by omega) (by omega) (by omega) (by omega) (by omega) (by omega) (by omega) (by omega) (by omega)
    · exfalso; omega
set_option maxRecDepth 100000 in
/-- GatheredPointsModel.judge [(2, 2), (2, 2147483647)] -/
theorem zm3183_7 {z : gH} {L d : Nat} {K : Option gV → gH → Prop} {s : gH} (p1 : Int) (hs : zM z s) (h_p1 : 2 ≤ p1 ∧ p1 ≤ 2147483647) (q0 : gp_I s 81 20 = 0) (q1 : gp_I s 84 0 = 0) (q2 : gp_I s 84 1 = 0) (q3 : gp_I s 84 2 = 0) (q4 : gp_I s 84 3 = 0) (q5 : gp_I s 85 0 = 0) (q6 : gp_I s 85 1 = 0) (q7 : gp_I s 85 2 = 0) (q8 : gp_I s 85 3 = 0) (k : ∀ (t : gH), zM z t → ((-2147483648) ≤ gp_I t 75 1 ∧ gp_I t 75 1 ≤ 2147483647) → (gp_I t 81 20 = 0) → (gp_I t 84 0 = 0) → (gp_I t 84 1 = 0) → (gp_I t 84 2 = 0) → (gp_I t 84 3 = 0) → (gp_I t 85 0 = 0) → (gp_I t 85 1 = 0) → (gp_I t 85 2 = 0) → (gp_I t 85 3 = 0) → K (some (gp_i (-1000000001))) t) : gs_C L (d + 1) 3183 4 [gp_r (some 74), gp_i 2, gp_i p1] s K := by
  refine s_3183_e _ _ ?_
  refine zm3076_4 hs (⟨_, rfl, ?_⟩)
  refine ⟨fun h_1 => ?_, fun h_1 => ?_⟩
  · exfalso; omega
  · refine zm3077_1 _ hs (by omega) (⟨_, rfl, ?_⟩)
    refine ⟨fun h_2 => ?_, fun h_2 => ?_⟩
    · refine s_3183_14 _ _ _ ?_
      refine zm3074_11 hs (by omega) (by omega) (by omega) (by omega) (by omega) (by omega) (by omega) (by omega) (by omega) (fun s_3 hs_4 q_5 q_6 q_7 q_8 q_9 q_10 q_11 q_12 q_13 q_14 => ⟨_, rfl, ?_⟩)
      exact k s_3 hs_4 (by omega) (by omega) (by omega) (by omega) (by omega) (by omega) (by omega) (by omega) (by omega) (by omega)
    · exfalso; omega
set_option maxRecDepth 100000 in
/-- GatheredPointsModel.judge [(3, 3), (-2147483648, -1)] -/
theorem zm3183_8 {z : gH} {L d : Nat} {K : Option gV → gH → Prop} {s : gH} (p1 : Int) (hs : zM z s) (h_p1 : (-2147483648) ≤ p1 ∧ p1 ≤ (-1)) (q0 : gp_I s 81 20 = 0) (q1 : gp_I s 84 0 = 0) (q2 : gp_I s 84 1 = 0) (q3 : gp_I s 84 2 = 0) (q4 : gp_I s 84 3 = 0) (q5 : gp_I s 85 0 = 0) (q6 : gp_I s 85 1 = 0) (q7 : gp_I s 85 2 = 0) (q8 : gp_I s 85 3 = 0) (k : ∀ (t : gH), zM z t → ((-2147483648) ≤ gp_I t 75 1 ∧ gp_I t 75 1 ≤ 2147483647) → (gp_I t 81 20 = 0) → (gp_I t 84 0 = 0) → (gp_I t 84 1 = 0) → (gp_I t 84 2 = 0) → (gp_I t 84 3 = 0) → (gp_I t 85 0 = 0) → (gp_I t 85 1 = 0) → (gp_I t 85 2 = 0) → (gp_I t 85 3 = 0) → K (some (gp_i (-1000000001))) t) : gs_C L (d + 1) 3183 4 [gp_r (some 74), gp_i 3, gp_i p1] s K := by
  refine s_3183_e _ _ ?_
  refine zm3076_5 hs (⟨_, rfl, ?_⟩)
  refine ⟨fun h_1 => ?_, fun h_1 => ?_⟩
  · exfalso; omega
  · refine zm3077_0 _ hs (by omega) (⟨_, rfl, ?_⟩)
    refine ⟨fun h_2 => ?_, fun h_2 => ?_⟩
    · refine s_3183_14 _ _ _ ?_
      refine zm3074_11 hs (by omega) (by omega) (by omega) (by omega) (by omega) (by omega) (by omega) (by omega) (by omega) (fun s_3 hs_4 q_5 q_6 q_7 q_8 q_9 q_10 q_11 q_12 q_13 q_14 => ⟨_, rfl, ?_⟩)
      exact k s_3 hs_4 (by omega) (by omega) (by omega) (by omega) (by omega) (by omega) (by omega) (by omega) (by omega) (by omega)
    · exfalso; omega
set_option maxRecDepth 100000 in
/-- GatheredPointsModel.judge [(3, 3), (2, 2147483647)] -/
theorem zm3183_9 {z : gH} {L d : Nat} {K : Option gV → gH → Prop} {s : gH} (p1 : Int) (hs : zM z s) (h_p1 : 2 ≤ p1 ∧ p1 ≤ 2147483647) (q0 : gp_I s 81 20 = 0) (q1 : gp_I s 84 0 = 0) (q2 : gp_I s 84 1 = 0) (q3 : gp_I s 84 2 = 0) (q4 : gp_I s 84 3 = 0) (q5 : gp_I s 85 0 = 0) (q6 : gp_I s 85 1 = 0) (q7 : gp_I s 85 2 = 0) (q8 : gp_I s 85 3 = 0) (k : ∀ (t : gH), zM z t → ((-2147483648) ≤ gp_I t 75 1 ∧ gp_I t 75 1 ≤ 2147483647) → (gp_I t 81 20 = 0) → (gp_I t 84 0 = 0) → (gp_I t 84 1 = 0) → (gp_I t 84 2 = 0) → (gp_I t 84 3 = 0) → (gp_I t 85 0 = 0) → (gp_I t 85 1 = 0) → (gp_I t 85 2 = 0) → (gp_I t 85 3 = 0) → K (some (gp_i (-1000000001))) t) : gs_C L (d + 1) 3183 4 [gp_r (some 74), gp_i 3, gp_i p1] s K := by
  refine s_3183_e _ _ ?_
  refine zm3076_5 hs (⟨_, rfl, ?_⟩)
  refine ⟨fun h_1 => ?_, fun h_1 => ?_⟩
  · exfalso; omega
  · refine zm3077_1 _ hs (by omega) (⟨_, rfl, ?_⟩)
    refine ⟨fun h_2 => ?_, fun h_2 => ?_⟩
    · refine s_3183_14 _ _ _ ?_
      refine zm3074_11 hs (by omega) (by omega) (by omega) (by omega) (by omega) (by omega) (by omega) (by omega) (by omega) (fun s_3 hs_4 q_5 q_6 q_7 q_8 q_9 q_10 q_11 q_12 q_13 q_14 => ⟨_, rfl, ?_⟩)
      exact k s_3 hs_4 (by omega) (by omega) (by omega) (by omega) (by omega) (by omega) (by omega) (by omega) (by omega) (by omega)
    · exfalso; omega
set_option maxRecDepth 100000 in
/-- GatheredPointsModel.finds [(2, 2)] -/
theorem zm3074_12 {z : gH} {L d : Nat} {K : Option gV → gH → Prop} {s : gH}  (hs : zM z s)  (q0 : gp_I s 81 20 = 0) (q1 : gp_I s 84 0 = 0) (q2 : gp_I s 84 1 = 0) (q3 : gp_I s 84 2 = 0) (q4 : gp_I s 84 3 = 0) (q5 : gp_I s 85 0 = 0) (q6 : gp_I s 85 1 = 0) (q7 : gp_I s 85 2 = 0) (q8 : gp_I s 85 3 = 0) (k : ∀ (t : gH), zM z t → ((-2147483648) ≤ gp_I t 75 2 ∧ gp_I t 75 2 ≤ 2147483647) → (gp_I t 81 20 = 0) → (gp_I t 84 0 = 0) → (gp_I t 84 1 = 0) → (gp_I t 84 2 = 0) → (gp_I t 84 3 = 0) → (gp_I t 85 0 = 0) → (gp_I t 85 1 = 0) → (gp_I t 85 2 = 0) → (gp_I t 85 3 = 0) → K (some (gp_i (-1000000002))) t) : gs_C L d 3074 2 [gp_r (some 74), gp_i 2] s K := by
  refine s_3074_e _ ?_
  refine ⟨by omega, ?_⟩
  have w_1 := gz_w ((gp_I s 75 (2 : Int).toNat) + 1)
  refine ⟨by omega, ?_⟩
  intro s_2 e_3
  have hs_4 : zM z s_2 := by rw [e_3]; exact zw75 hs _ _
  have q_5 : gp_I s_2 81 20 = 0 := by rw [e_3]; exact q0
  have q_6 : gp_I s_2 84 0 = 0 := by rw [e_3]; exact q1
  have q_7 : gp_I s_2 84 1 = 0 := by rw [e_3]; exact q2
  have q_8 : gp_I s_2 84 2 = 0 := by rw [e_3]; exact q3
  have q_9 : gp_I s_2 84 3 = 0 := by rw [e_3]; exact q4
  have q_10 : gp_I s_2 85 0 = 0 := by rw [e_3]; exact q5
  have q_11 : gp_I s_2 85 1 = 0 := by rw [e_3]; exact q6
  have q_12 : gp_I s_2 85 2 = 0 := by rw [e_3]; exact q7
  have q_13 : gp_I s_2 85 3 = 0 := by rw [e_3]; exact q8
  have q_14 : (-2147483648) ≤ gp_I s_2 75 2 ∧ gp_I s_2 75 2 ≤ 2147483647 := by have x_15 : gp_I s_2 75 2 = gp_wr ((gp_I s 75 (2 : Int).toNat) + 1) := (by rw [e_3]; rfl); omega
  have w_16 := gz_w ((-1000000000) - 2)
  have e_17 : gp_wr ((-1000000000) - 2) = (-1000000002) := by omega
  try rw [e_17]
  exact k s_2 hs_4 (by omega) (by omega) (by omega) (by omega) (by omega) (by omega) (by omega) (by omega) (by omega) (by omega)
set_option maxRecDepth 100000 in
/-- GatheredPointsModel.judge [(0, 0), (0, 0)] -/
theorem zm3183_10 {z : gH} {L d : Nat} {K : Option gV → gH → Prop} {s : gH}  (hs : zM z s)  (q0 : gp_I s 81 20 = 0) (q1 : gp_I s 84 0 = 0) (q2 : gp_I s 84 1 = 0) (q3 : gp_I s 84 2 = 0) (q4 : gp_I s 84 3 = 0) (q5 : gp_I s 85 0 = 0) (q6 : gp_I s 85 1 = 0) (q7 : gp_I s 85 2 = 0) (q8 : gp_I s 85 3 = 0) (k : ∀ (t : gH), zM z t → ((-2147483648) ≤ gp_I t 75 2 ∧ gp_I t 75 2 ≤ 2147483647) → (gp_I t 81 20 = 0) → (gp_I t 84 0 = 0) → (gp_I t 84 1 = 0) → (gp_I t 84 2 = 0) → (gp_I t 84 3 = 0) → (gp_I t 85 0 = 0) → (gp_I t 85 1 = 0) → (gp_I t 85 2 = 0) → (gp_I t 85 3 = 0) → K (some (gp_i (-1000000002))) t) : gs_C L (d + 1) 3183 4 [gp_r (some 74), gp_i 0, gp_i 0] s K := by
  refine s_3183_e _ _ ?_
  refine zm3076_2 hs (⟨_, rfl, ?_⟩)
  refine ⟨fun h_1 => ?_, fun h_1 => ?_⟩
  · exfalso; omega
  · refine zm3077_2 hs (⟨_, rfl, ?_⟩)
    refine ⟨fun h_2 => ?_, fun h_2 => ?_⟩
    · exfalso; omega
    · refine ⟨by omega, ?_⟩
      try rw [show gp_I s 84 (0 : Int).toNat = 0 from q1]
      refine ⟨fun h_3 => ?_, fun h_3 => ?_⟩
      · refine zm3074_12 hs (by omega) (by omega) (by omega) (by omega) (by omega) (by omega) (by omega) (by omega) (by omega) (fun s_4 hs_5 q_6 q_7 q_8 q_9 q_10 q_11 q_12 q_13 q_14 q_15 => ⟨_, rfl, ?_⟩)
        exact k s_4 hs_5 (by omega) (by omega) (by omega) (by omega) (by omega) (by omega) (by omega) (by omega) (by omega) (by omega)
      · exfalso; omega
set_option maxRecDepth 100000 in
/-- GatheredPointsModel.judge [(0, 0), (1, 1)] -/
theorem zm3183_11 {z : gH} {L d : Nat} {K : Option gV → gH → Prop} {s : gH}  (hs : zM z s)  (q0 : gp_I s 81 20 = 0) (q1 : gp_I s 84 0 = 0) (q2 : gp_I s 84 1 = 0) (q3 : gp_I s 84 2 = 0) (q4 : gp_I s 84 3 = 0) (q5 : gp_I s 85 0 = 0) (q6 : gp_I s 85 1 = 0) (q7 : gp_I s 85 2 = 0) (q8 : gp_I s 85 3 = 0) (k : ∀ (t : gH), zM z t → ((-2147483648) ≤ gp_I t 75 2 ∧ gp_I t 75 2 ≤ 2147483647) → (gp_I t 81 20 = 0) → (gp_I t 84 0 = 0) → (gp_I t 84 1 = 0) → (gp_I t 84 2 = 0) → (gp_I t 84 3 = 0) → (gp_I t 85 0 = 0) → (gp_I t 85 1 = 0) → (gp_I t 85 2 = 0) → (gp_I t 85 3 = 0) → K (some (gp_i (-1000000002))) t) : gs_C L (d + 1) 3183 4 [gp_r (some 74), gp_i 0, gp_i 1] s K := by
  refine s_3183_e _ _ ?_
  refine zm3076_2 hs (⟨_, rfl, ?_⟩)
  refine ⟨fun h_1 => ?_, fun h_1 => ?_⟩
  · exfalso; omega
  · refine zm3077_3 hs (⟨_, rfl, ?_⟩)
    refine ⟨fun h_2 => ?_, fun h_2 => ?_⟩
    · exfalso; omega
    · refine ⟨by omega, ?_⟩
      try rw [show gp_I s 84 (0 : Int).toNat = 0 from q1]
      refine ⟨fun h_3 => ?_, fun h_3 => ?_⟩
      · refine zm3074_12 hs (by omega) (by omega) (by omega) (by omega) (by omega) (by omega) (by omega) (by omega) (by omega) (fun s_4 hs_5 q_6 q_7 q_8 q_9 q_10 q_11 q_12 q_13 q_14 q_15 => ⟨_, rfl, ?_⟩)
        exact k s_4 hs_5 (by omega) (by omega) (by omega) (by omega) (by omega) (by omega) (by omega) (by omega) (by omega) (by omega)
      · exfalso; omega
set_option maxRecDepth 100000 in
/-- GatheredPointsModel.judge [(1, 1), (0, 0)] -/
theorem zm3183_12 {z : gH} {L d : Nat} {K : Option gV → gH → Prop} {s : gH}  (hs : zM z s)  (q0 : gp_I s 81 20 = 0) (q1 : gp_I s 84 0 = 0) (q2 : gp_I s 84 1 = 0) (q3 : gp_I s 84 2 = 0) (q4 : gp_I s 84 3 = 0) (q5 : gp_I s 85 0 = 0) (q6 : gp_I s 85 1 = 0) (q7 : gp_I s 85 2 = 0) (q8 : gp_I s 85 3 = 0) (k : ∀ (t : gH), zM z t → ((-2147483648) ≤ gp_I t 75 2 ∧ gp_I t 75 2 ≤ 2147483647) → (gp_I t 81 20 = 0) → (gp_I t 84 0 = 0) → (gp_I t 84 1 = 0) → (gp_I t 84 2 = 0) → (gp_I t 84 3 = 0) → (gp_I t 85 0 = 0) → (gp_I t 85 1 = 0) → (gp_I t 85 2 = 0) → (gp_I t 85 3 = 0) → K (some (gp_i (-1000000002))) t) : gs_C L (d + 1) 3183 4 [gp_r (some 74), gp_i 1, gp_i 0] s K := by
  refine s_3183_e _ _ ?_
  refine zm3076_3 hs (⟨_, rfl, ?_⟩)
  refine ⟨fun h_1 => ?_, fun h_1 => ?_⟩
  · exfalso; omega
  · refine zm3077_2 hs (⟨_, rfl, ?_⟩)
    refine ⟨fun h_2 => ?_, fun h_2 => ?_⟩
    · exfalso; omega
    · refine ⟨by omega, ?_⟩
      try rw [show gp_I s 84 (1 : Int).toNat = 0 from q2]
      refine ⟨fun h_3 => ?_, fun h_3 => ?_⟩
      · refine zm3074_12 hs (by omega) (by omega) (by omega) (by omega) (by omega) (by omega) (by omega) (by omega) (by omega) (fun s_4 hs_5 q_6 q_7 q_8 q_9 q_10 q_11 q_12 q_13 q_14 q_15 => ⟨_, rfl, ?_⟩)
        exact k s_4 hs_5 (by omega) (by omega) (by omega) (by omega) (by omega) (by omega) (by omega) (by omega) (by omega) (by omega)
      · exfalso; omega
set_option maxRecDepth 100000 in
/-- GatheredPointsModel.judge [(1, 1), (1, 1)] -/
theorem zm3183_13 {z : gH} {L d : Nat} {K : Option gV → gH → Prop} {s : gH}  (hs : zM z s)  (q0 : gp_I s 81 20 = 0) (q1 : gp_I s 84 0 = 0) (q2 : gp_I s 84 1 = 0) (q3 : gp_I s 84 2 = 0) (q4 : gp_I s 84 3 = 0) (q5 : gp_I s 85 0 = 0) (q6 : gp_I s 85 1 = 0) (q7 : gp_I s 85 2 = 0) (q8 : gp_I s 85 3 = 0) (k : ∀ (t : gH), zM z t → ((-2147483648) ≤ gp_I t 75 2 ∧ gp_I t 75 2 ≤ 2147483647) → (gp_I t 81 20 = 0) → (gp_I t 84 0 = 0) → (gp_I t 84 1 = 0) → (gp_I t 84 2 = 0) → (gp_I t 84 3 = 0) → (gp_I t 85 0 = 0) → (gp_I t 85 1 = 0) → (gp_I t 85 2 = 0) → (gp_I t 85 3 = 0) → K (some (gp_i (-1000000002))) t) : gs_C L (d + 1) 3183 4 [gp_r (some 74), gp_i 1, gp_i 1] s K := by
  refine s_3183_e _ _ ?_
  refine zm3076_3 hs (⟨_, rfl, ?_⟩)
  refine ⟨fun h_1 => ?_, fun h_1 => ?_⟩
  · exfalso; omega
  · refine zm3077_3 hs (⟨_, rfl, ?_⟩)
    refine ⟨fun h_2 => ?_, fun h_2 => ?_⟩
    · exfalso; omega
    · refine ⟨by omega, ?_⟩
      try rw [show gp_I s 84 (1 : Int).toNat = 0 from q2]
      refine ⟨fun h_3 => ?_, fun h_3 => ?_⟩
      · refine zm3074_12 hs (by omega) (by omega) (by omega) (by omega) (by omega) (by omega) (by omega) (by omega) (by omega) (fun s_4 hs_5 q_6 q_7 q_8 q_9 q_10 q_11 q_12 q_13 q_14 q_15 => ⟨_, rfl, ?_⟩)
        exact k s_4 hs_5 (by omega) (by omega) (by omega) (by omega) (by omega) (by omega) (by omega) (by omega) (by omega) (by omega)
      · exfalso; omega
set_option maxRecDepth 100000 in
/-- GatheredPointsModel.judge [(2, 2), (0, 0)] -/
theorem zm3183_14 {z : gH} {L d : Nat} {K : Option gV → gH → Prop} {s : gH}  (hs : zM z s)  (q0 : gp_I s 81 20 = 0) (q1 : gp_I s 84 0 = 0) (q2 : gp_I s 84 1 = 0) (q3 : gp_I s 84 2 = 0) (q4 : gp_I s 84 3 = 0) (q5 : gp_I s 85 0 = 0) (q6 : gp_I s 85 1 = 0) (q7 : gp_I s 85 2 = 0) (q8 : gp_I s 85 3 = 0) (k : ∀ (t : gH), zM z t → ((-2147483648) ≤ gp_I t 75 2 ∧ gp_I t 75 2 ≤ 2147483647) → (gp_I t 81 20 = 0) → (gp_I t 84 0 = 0) → (gp_I t 84 1 = 0) → (gp_I t 84 2 = 0) → (gp_I t 84 3 = 0) → (gp_I t 85 0 = 0) → (gp_I t 85 1 = 0) → (gp_I t 85 2 = 0) → (gp_I t 85 3 = 0) → K (some (gp_i (-1000000002))) t) : gs_C L (d + 1) 3183 4 [gp_r (some 74), gp_i 2, gp_i 0] s K := by
  refine s_3183_e _ _ ?_
  refine zm3076_4 hs (⟨_, rfl, ?_⟩)
  refine ⟨fun h_1 => ?_, fun h_1 => ?_⟩
  · exfalso; omega
  · refine zm3077_2 hs (⟨_, rfl, ?_⟩)
    refine ⟨fun h_2 => ?_, fun h_2 => ?_⟩
    · exfalso; omega
    · refine ⟨by omega, ?_⟩
      try rw [show gp_I s 84 (2 : Int).toNat = 0 from q3]
      refine ⟨fun h_3 => ?_, fun h_3 => ?_⟩
      · refine zm3074_12 hs (by omega) (by omega) (by omega) (by omega) (by omega) (by omega) (by omega) (by omega) (by omega) (fun s_4 hs_5 q_6 q_7 q_8 q_9 q_10 q_11 q_12 q_13 q_14 q_15 => ⟨_, rfl, ?_⟩)
        exact k s_4 hs_5 (by omega) (by omega) (by omega) (by omega) (by omega) (by omega) (by omega) (by omega) (by omega) (by omega)
      · exfalso; omega
set_option maxRecDepth 100000 in
/-- GatheredPointsModel.judge [(2, 2), (1, 1)] -/
theorem zm3183_15 {z : gH} {L d : Nat} {K : Option gV → gH → Prop} {s : gH}  (hs : zM z s)  (q0 : gp_I s 81 20 = 0) (q1 : gp_I s 84 0 = 0) (q2 : gp_I s 84 1 = 0) (q3 : gp_I s 84 2 = 0) (q4 : gp_I s 84 3 = 0) (q5 : gp_I s 85 0 = 0) (q6 : gp_I s 85 1 = 0) (q7 : gp_I s 85 2 = 0) (q8 : gp_I s 85 3 = 0) (k : ∀ (t : gH), zM z t → ((-2147483648) ≤ gp_I t 75 2 ∧ gp_I t 75 2 ≤ 2147483647) → (gp_I t 81 20 = 0) → (gp_I t 84 0 = 0) → (gp_I t 84 1 = 0) → (gp_I t 84 2 = 0) → (gp_I t 84 3 = 0) → (gp_I t 85 0 = 0) → (gp_I t 85 1 = 0) → (gp_I t 85 2 = 0) → (gp_I t 85 3 = 0) → K (some (gp_i (-1000000002))) t) : gs_C L (d + 1) 3183 4 [gp_r (some 74), gp_i 2, gp_i 1] s K := by
  refine s_3183_e _ _ ?_
  refine zm3076_4 hs (⟨_, rfl, ?_⟩)
  refine ⟨fun h_1 => ?_, fun h_1 => ?_⟩
  · exfalso; omega
  · refine zm3077_3 hs (⟨_, rfl, ?_⟩)
    refine ⟨fun h_2 => ?_, fun h_2 => ?_⟩
    · exfalso; omega
    · refine ⟨by omega, ?_⟩
      try rw [show gp_I s 84 (2 : Int).toNat = 0 from q3]
      refine ⟨fun h_3 => ?_, fun h_3 => ?_⟩
      · refine zm3074_12 hs (by omega) (by omega) (by omega) (by omega) (by omega) (by omega) (by omega) (by omega) (by omega) (fun s_4 hs_5 q_6 q_7 q_8 q_9 q_10 q_11 q_12 q_13 q_14 q_15 => ⟨_, rfl, ?_⟩)
        exact k s_4 hs_5 (by omega) (by omega) (by omega) (by omega) (by omega) (by omega) (by omega) (by omega) (by omega) (by omega)
      · exfalso; omega
set_option maxRecDepth 100000 in
/-- GatheredPointsModel.judge [(3, 3), (0, 0)] -/
theorem zm3183_16 {z : gH} {L d : Nat} {K : Option gV → gH → Prop} {s : gH}  (hs : zM z s)  (q0 : gp_I s 81 20 = 0) (q1 : gp_I s 84 0 = 0) (q2 : gp_I s 84 1 = 0) (q3 : gp_I s 84 2 = 0) (q4 : gp_I s 84 3 = 0) (q5 : gp_I s 85 0 = 0) (q6 : gp_I s 85 1 = 0) (q7 : gp_I s 85 2 = 0) (q8 : gp_I s 85 3 = 0) (k : ∀ (t : gH), zM z t → ((-2147483648) ≤ gp_I t 75 2 ∧ gp_I t 75 2 ≤ 2147483647) → (gp_I t 81 20 = 0) → (gp_I t 84 0 = 0) → (gp_I t 84 1 = 0) → (gp_I t 84 2 = 0) → (gp_I t 84 3 = 0) → (gp_I t 85 0 = 0) → (gp_I t 85 1 = 0) → (gp_I t 85 2 = 0) → (gp_I t 85 3 = 0) → K (some (gp_i (-1000000002))) t) : gs_C L (d + 1) 3183 4 [gp_r (some 74), gp_i 3, gp_i 0] s K := by
  refine s_3183_e _ _ ?_
  refine zm3076_5 hs (⟨_, rfl, ?_⟩)
  refine ⟨fun h_1 => ?_, fun h_1 => ?_⟩
  · exfalso; omega
  · refine zm3077_2 hs (⟨_, rfl, ?_⟩)
    refine ⟨fun h_2 => ?_, fun h_2 => ?_⟩
    · exfalso; omega
    · refine ⟨by omega, ?_⟩
      try rw [show gp_I s 84 (3 : Int).toNat = 0 from q4]
      refine ⟨fun h_3 => ?_, fun h_3 => ?_⟩
      · refine zm3074_12 hs (by omega) (by omega) (by omega) (by omega) (by omega) (by omega) (by omega) (by omega) (by omega) (fun s_4 hs_5 q_6 q_7 q_8 q_9 q_10 q_11 q_12 q_13 q_14 q_15 => ⟨_, rfl, ?_⟩)
        exact k s_4 hs_5 (by omega) (by omega) (by omega) (by omega) (by omega) (by omega) (by omega) (by omega) (by omega) (by omega)
      · exfalso; omega
set_option maxRecDepth 100000 in
/-- GatheredPointsModel.judge [(3, 3), (1, 1)] -/
theorem zm3183_17 {z : gH} {L d : Nat} {K : Option gV → gH → Prop} {s : gH}  (hs : zM z s)  (q0 : gp_I s 81 20 = 0) (q1 : gp_I s 84 0 = 0) (q2 : gp_I s 84 1 = 0) (q3 : gp_I s 84 2 = 0) (q4 : gp_I s 84 3 = 0) (q5 : gp_I s 85 0 = 0) (q6 : gp_I s 85 1 = 0) (q7 : gp_I s 85 2 = 0) (q8 : gp_I s 85 3 = 0) (k : ∀ (t : gH), zM z t → ((-2147483648) ≤ gp_I t 75 2 ∧ gp_I t 75 2 ≤ 2147483647) → (gp_I t 81 20 = 0) → (gp_I t 84 0 = 0) → (gp_I t 84 1 = 0) → (gp_I t 84 2 = 0) → (gp_I t 84 3 = 0) → (gp_I t 85 0 = 0) → (gp_I t 85 1 = 0) → (gp_I t 85 2 = 0) → (gp_I t 85 3 = 0) → K (some (gp_i (-1000000002))) t) : gs_C L (d + 1) 3183 4 [gp_r (some 74), gp_i 3, gp_i 1] s K := by
  refine s_3183_e _ _ ?_
  refine zm3076_5 hs (⟨_, rfl, ?_⟩)
  refine ⟨fun h_1 => ?_, fun h_1 => ?_⟩
  · exfalso; omega
  · refine zm3077_3 hs (⟨_, rfl, ?_⟩)
    refine ⟨fun h_2 => ?_, fun h_2 => ?_⟩
    · exfalso; omega
    · refine ⟨by omega, ?_⟩
      try rw [show gp_I s 84 (3 : Int).toNat = 0 from q4]
      refine ⟨fun h_3 => ?_, fun h_3 => ?_⟩
      · refine zm3074_12 hs (by omega) (by omega) (by omega) (by omega) (by omega) (by omega) (by omega) (by omega) (by omega) (fun s_4 hs_5 q_6 q_7 q_8 q_9 q_10 q_11 q_12 q_13 q_14 q_15 => ⟨_, rfl, ?_⟩)
        exact k s_4 hs_5 (by omega) (by omega) (by omega) (by omega) (by omega) (by omega) (by omega) (by omega) (by omega) (by omega)
      · exfalso; omega
set_option maxRecDepth 100000 in
/-- GatheredPointsModel.seed [(-2147483648, 2147483647)] -/
theorem zm3184_0 {z : gH} {L d : Nat} {K : Option gV → gH → Prop} {s : gH} (p0 : Int) (hs : zM z s) (h_p0 : (-2147483648) ≤ p0 ∧ p0 ≤ 2147483647) (q0 : gp_I s 74 11 = 0) (q1 : gp_I s 74 43 = 0) (q2 : gp_I s 74 57 = 0) (q3 : gp_I s 74 58 = 0) (q4 : gp_I s 74 7 = 1) (q5 : gp_I s 74 9 = 0) (k : ∀ (t : gH), zM z t → (gp_I t 74 11 = 0) → (gp_I t 74 43 = 0) → (gp_I t 74 57 = 0) → (gp_I t 74 58 = 0) → ((-2147483648) ≤ gp_I t 74 7 ∧ gp_I t 74 7 ≤ 2147483647) → (gp_I t 74 9 = 0) → K (some (gp_i 1)) t) : gs_C L d 3184 3 [gp_r (some 74), gp_i p0] s K := by
  refine s_3184_e _ ?_
  try rw [show gp_I s 74 7 = 1 from q4]
  intro s_1 e_2
  have hs_3 : zM z s_1 := by rw [e_2]; exact zw74_7 hs 0 _
  have q_4 : gp_I s_1 74 11 = 0 := by rw [e_2]; exact q0
  have q_5 : gp_I s_1 74 43 = 0 := by rw [e_2]; exact q1
  have q_6 : gp_I s_1 74 57 = 0 := by rw [e_2]; exact q2
  have q_7 : gp_I s_1 74 58 = 0 := by rw [e_2]; exact q3
  have q_8 : gp_I s_1 74 9 = 0 := by rw [e_2]; exact q5
  have q_9 : (-2147483648) ≤ gp_I s_1 74 7 ∧ gp_I s_1 74 7 ≤ 2147483647 := by have x_10 : gp_I s_1 74 7 = p0 := (by rw [e_2]; rfl); omega
  exact k s_1 hs_3 (by omega) (by omega) (by omega) (by omega) (by omega) (by omega)
set_option maxRecDepth 100000 in
/-- GatheredPointsModel.copies [(0, 0), (8, 8)] -/
theorem zm3084_2 {z : gH} {L d : Nat} {K : Option gV → gH → Prop} {s : gH}  (hs : zM z s)  (q0 : gp_I s 74 11 = 0) (q1 : gp_I s 74 43 = 0) (q2 : gp_I s 74 57 = 0) (q3 : gp_I s 74 58 = 0) (q4 : gp_I s 74 7 = 1) (q5 : gp_I s 74 9 = 0) (q6 : gp_I s 81 20 = 0) (k : ∀ (t : gH), zM z t → (gp_I t 74 11 = 0) → (gp_I t 74 43 = 0) → (gp_I t 74 57 = 0) → (gp_I t 74 58 = 0) → (gp_I t 74 7 = 1) → (gp_I t 74 9 = 0) → (gp_I t 81 20 = 0) → K none t) : gs_C L d 3084 6 [gp_r (some 74), gp_i 0, gp_i 8] s K := by
  refine s_3084_e _ _ ?_
  refine ⟨by omega, ?_⟩
  have f_1 := zr81 hs ((0 : Int).toNat)
  have e_2 : gp_I s 81 (0 : Int).toNat = 1 := by omega
  try rw [e_2]
  refine ⟨by omega, ?_⟩
  intro s_3 e_4
  have hs_5 : zM z s_3 := by rw [e_4]; exact zw81 hs _ _ (by omega)
  have q_6 : gp_I s_3 74 11 = 0 := by rw [e_4]; exact q0
  have q_7 : gp_I s_3 74 43 = 0 := by rw [e_4]; exact q1
  have q_8 : gp_I s_3 74 57 = 0 := by rw [e_4]; exact q2
  have q_9 : gp_I s_3 74 58 = 0 := by rw [e_4]; exact q3
  have q_10 : gp_I s_3 74 7 = 1 := by rw [e_4]; exact q4
  have q_11 : gp_I s_3 74 9 = 0 := by rw [e_4]; exact q5
  have q_12 : gp_I s_3 81 20 = 0 := by rw [e_4]; exact q6
  refine s_3084_14 _ _ _ _ _ ?_
  refine ⟨by omega, ?_⟩
  have f_13 := zr81 hs_5 ((0 : Int).toNat)
  have e_14 : gp_I s_3 81 (0 : Int).toNat = 1 := by omega
  try rw [e_14]
  refine ⟨fun h_15 => ?_, fun h_15 => ?_⟩
  · have w_16 := gz_w (64 * 0)
    have e_17 : gp_wr (64 * 0) = 0 := by omega
    try rw [e_17]
    have w_18 := gz_w (0 + 0)
    have e_19 : gp_wr (0 + 0) = 0 := by omega
    try rw [e_19]
    have w_20 := gz_w (64 * 8)
    have e_21 : gp_wr (64 * 8) = 512 := by omega
    try rw [e_21]
    have w_22 := gz_w (512 + 0)
    have e_23 : gp_wr (512 + 0) = 512 := by omega
    try rw [e_23]
    refine ⟨by omega, ?_⟩
    try rw [zr76 hs_5 ((0 : Int).toNat)]
    refine ⟨by omega, ?_⟩
    intro s_24 e_25
    have hs_26 : zM z s_24 := by rw [e_25]; exact zw76 hs_5 _ _ rfl
    have q_27 : gp_I s_24 74 11 = 0 := by rw [e_25]; exact q_6
    have q_28 : gp_I s_24 74 43 = 0 := by rw [e_25]; exact q_7
    have q_29 : gp_I s_24 74 57 = 0 := by rw [e_25]; exact q_8
    have q_30 : gp_I s_24 74 58 = 0 := by rw [e_25]; exact q_9
    have q_31 : gp_I s_24 74 7 = 1 := by rw [e_25]; exact q_10
    have q_32 : gp_I s_24 74 9 = 0 := by rw [e_25]; exact q_11
    have q_33 : gp_I s_24 81 20 = 0 := by rw [e_25]; exact q_12
    refine ⟨by omega, ?_⟩
    try rw [zr77 hs_26 ((0 : Int).toNat)]
    refine ⟨by omega, ?_⟩
    intro s_34 e_35
    have hs_36 : zM z s_34 := by rw [e_35]; exact zw77 hs_26 _ _ rfl
    have q_37 : gp_I s_34 74 11 = 0 := by rw [e_35]; exact q_27
    have q_38 : gp_I s_34 74 43 = 0 := by rw [e_35]; exact q_28
    have q_39 : gp_I s_34 74 57 = 0 := by rw [e_35]; exact q_29
    have q_40 : gp_I s_34 74 58 = 0 := by rw [e_35]; exact q_30
    have q_41 : gp_I s_34 74 7 = 1 := by rw [e_35]; exact q_31
    have q_42 : gp_I s_34 74 9 = 0 := by rw [e_35]; exact q_32
    have q_43 : gp_I s_34 81 20 = 0 := by rw [e_35]; exact q_33
    refine ⟨by omega, ?_⟩
    have f_44 := zr78 hs_36 ((0 : Int).toNat)
    have e_45 : gp_I s_34 78 (0 : Int).toNat = 0 := by omega
    try rw [e_45]
    refine ⟨by omega, ?_⟩
    intro s_46 e_47
    have hs_48 : zM z s_46 := by rw [e_47]; exact zw78 hs_36 _ _ (by omega)
    have q_49 : gp_I s_46 74 11 = 0 := by rw [e_47]; exact q_37
    have q_50 : gp_I s_46 74 43 = 0 := by rw [e_47]; exact q_38
    have q_51 : gp_I s_46 74 57 = 0 := by rw [e_47]; exact q_39
    have q_52 : gp_I s_46 74 58 = 0 := by rw [e_47]; exact q_40
    have q_53 : gp_I s_46 74 7 = 1 := by rw [e_47]; exact q_41
    have q_54 : gp_I s_46 74 9 = 0 := by rw [e_47]; exact q_42
    have q_55 : gp_I s_46 81 20 = 0 := by rw [e_47]; exact q_43
    refine ⟨by omega, ?_⟩
    have f_56 := zr79 hs_48 ((0 : Int).toNat)
    have e_57 : gp_I s_46 79 (0 : Int).toNat = 0 := by omega
    try rw [e_57]
    refine ⟨by omega, ?_⟩
    intro s_58 e_59
    have hs_60 : zM z s_58 := by rw [e_59]; exact zw79 hs_48 _ _ (by omega)
    have q_61 : gp_I s_58 74 11 = 0 := by rw [e_59]; exact q_49
    have q_62 : gp_I s_58 74 43 = 0 := by rw [e_59]; exact q_50
    have q_63 : gp_I s_58 74 57 = 0 := by rw [e_59]; exact q_51
    have q_64 : gp_I s_58 74 58 = 0 := by rw [e_59]; exact q_52
    have q_65 : gp_I s_58 74 7 = 1 := by rw [e_59]; exact q_53
    have q_66 : gp_I s_58 74 9 = 0 := by rw [e_59]; exact q_54
    have q_67 : gp_I s_58 81 20 = 0 := by rw [e_59]; exact q_55
    refine ⟨by omega, ?_⟩
    have f_68 := zr80 hs_60 ((0 : Int).toNat)
    have e_69 : gp_I s_58 80 (0 : Int).toNat = 0 := by omega
    try rw [e_69]
    refine ⟨by omega, ?_⟩
    intro s_70 e_71
    have hs_72 : zM z s_70 := by rw [e_71]; exact zw80 hs_60 _ _ (by omega)
    have q_73 : gp_I s_70 74 11 = 0 := by rw [e_71]; exact q_61
    have q_74 : gp_I s_70 74 43 = 0 := by rw [e_71]; exact q_62
    have q_75 : gp_I s_70 74 57 = 0 := by rw [e_71]; exact q_63
    have q_76 : gp_I s_70 74 58 = 0 := by rw [e_71]; exact q_64
    have q_77 : gp_I s_70 74 7 = 1 := by rw [e_71]; exact q_65
    have q_78 : gp_I s_70 74 9 = 0 := by rw [e_71]; exact q_66
    have q_79 : gp_I s_70 81 20 = 0 := by rw [e_71]; exact q_67
    have w_80 := gz_w (0 + 1)
    have e_81 : gp_wr (0 + 1) = 1 := by omega
    try rw [e_81]
    refine s_3084_14 _ _ _ _ _ ?_
    refine ⟨by omega, ?_⟩
    have f_82 := zr81 hs_72 ((0 : Int).toNat)
    have e_83 : gp_I s_70 81 (0 : Int).toNat = 1 := by omega
    try rw [e_83]
    refine ⟨fun h_84 => ?_, fun h_84 => ?_⟩
    · exfalso; omega
    · exact k s_70 hs_72 (by omega) (by omega) (by omega) (by omega) (by omega) (by omega) (by omega)
  · exfalso; omega
set_option maxRecDepth 100000 in
/-- GatheredPointsModel.copies [(0, 1), (8, 9)] -/
theorem zm3084_3 {z : gH} {L d : Nat} {K : Option gV → gH → Prop} {s : gH} (p0 : Int) (p1 : Int) (hs : zM z s) (h_p0 : 0 ≤ p0 ∧ p0 ≤ 1) (h_p1 : 8 ≤ p1 ∧ p1 ≤ 9) (q0 : gp_I s 74 11 = 0) (q1 : gp_I s 74 43 = 0) (q2 : gp_I s 74 57 = 0) (q3 : gp_I s 74 58 = 0) (q4 : gp_I s 74 7 = 1) (q5 : gp_I s 74 9 = 0) (q6 : gp_I s 81 20 = 0) (k : ∀ (t : gH), zM z t → (gp_I t 74 11 = 0) → (gp_I t 74 43 = 0) → (gp_I t 74 57 = 0) → (gp_I t 74 58 = 0) → (gp_I t 74 7 = 1) → (gp_I t 74 9 = 0) → (gp_I t 81 20 = 0) → K none t) : gs_C L d 3084 6 [gp_r (some 74), gp_i p0, gp_i p1] s K := by
  refine s_3084_e _ _ ?_
  refine ⟨by omega, ?_⟩
  have f_1 := zr81 hs p0.toNat
  have e_2 : gp_I s 81 p0.toNat = 1 := by omega
  try rw [e_2]
  refine ⟨by omega, ?_⟩
  intro s_3 e_4
  have hs_5 : zM z s_3 := by rw [e_4]; exact zw81 hs _ _ (by omega)
  have q_6 : gp_I s_3 74 11 = 0 := by rw [e_4]; exact q0
  have q_7 : gp_I s_3 74 43 = 0 := by rw [e_4]; exact q1
  have q_8 : gp_I s_3 74 57 = 0 := by rw [e_4]; exact q2
  have q_9 : gp_I s_3 74 58 = 0 := by rw [e_4]; exact q3
  have q_10 : gp_I s_3 74 7 = 1 := by rw [e_4]; exact q4
  have q_11 : gp_I s_3 74 9 = 0 := by rw [e_4]; exact q5
  have q_12 : gp_I s_3 81 20 = 0 := by rw [e_4]; exact gz_oI (by omega) q6
  refine s_3084_14 _ _ _ _ _ ?_
  refine ⟨by omega, ?_⟩
  have f_13 := zr81 hs_5 p0.toNat
  have e_14 : gp_I s_3 81 p0.toNat = 1 := by omega
  try rw [e_14]
  refine ⟨fun h_15 => ?_, fun h_15 => ?_⟩
  · have w_16 := gz_w (64 * p0)
    have w_17 := gz_w ((gp_wr (64 * p0)) + 0)
    have w_18 := gz_w (64 * p1)
    have w_19 := gz_w ((gp_wr (64 * p1)) + 0)
    refine ⟨by omega, ?_⟩
    try rw [zr76 hs_5 ((gp_wr ((gp_wr (64 * p0)) + 0)).toNat)]
    refine ⟨by omega, ?_⟩
    intro s_20 e_21
    have hs_22 : zM z s_20 := by rw [e_21]; exact zw76 hs_5 _ _ rfl
    have q_23 : gp_I s_20 74 11 = 0 := by rw [e_21]; exact q_6
    have q_24 : gp_I s_20 74 43 = 0 := by rw [e_21]; exact q_7
    have q_25 : gp_I s_20 74 57 = 0 := by rw [e_21]; exact q_8
    have q_26 : gp_I s_20 74 58 = 0 := by rw [e_21]; exact q_9
    have q_27 : gp_I s_20 74 7 = 1 := by rw [e_21]; exact q_10
    have q_28 : gp_I s_20 74 9 = 0 := by rw [e_21]; exact q_11
    have q_29 : gp_I s_20 81 20 = 0 := by rw [e_21]; exact q_12
    refine ⟨by omega, ?_⟩
    try rw [zr77 hs_22 ((gp_wr ((gp_wr (64 * p0)) + 0)).toNat)]
    refine ⟨by omega, ?_⟩
    intro s_30 e_31
    have hs_32 : zM z s_30 := by rw [e_31]; exact zw77 hs_22 _ _ rfl
    have q_33 : gp_I s_30 74 11 = 0 := by rw [e_31]; exact q_23
    have q_34 : gp_I s_30 74 43 = 0 := by rw [e_31]; exact q_24
    have q_35 : gp_I s_30 74 57 = 0 := by rw [e_31]; exact q_25
    have q_36 : gp_I s_30 74 58 = 0 := by rw [e_31]; exact q_26
    have q_37 : gp_I s_30 74 7 = 1 := by rw [e_31]; exact q_27
    have q_38 : gp_I s_30 74 9 = 0 := by rw [e_31]; exact q_28
    have q_39 : gp_I s_30 81 20 = 0 := by rw [e_31]; exact q_29
    refine ⟨by omega, ?_⟩
    have f_40 := zr78 hs_32 ((gp_wr ((gp_wr (64 * p0)) + 0)).toNat)
    have e_41 : gp_I s_30 78 (gp_wr ((gp_wr (64 * p0)) + 0)).toNat = 0 := by omega
    try rw [e_41]
    refine ⟨by omega, ?_⟩
    intro s_42 e_43
    have hs_44 : zM z s_42 := by rw [e_43]; exact zw78 hs_32 _ _ (by omega)
    have q_45 : gp_I s_42 74 11 = 0 := by rw [e_43]; exact q_33
    have q_46 : gp_I s_42 74 43 = 0 := by rw [e_43]; exact q_34
    have q_47 : gp_I s_42 74 57 = 0 := by rw [e_43]; exact q_35
    have q_48 : gp_I s_42 74 58 = 0 := by rw [e_43]; exact q_36
    have q_49 : gp_I s_42 74 7 = 1 := by rw [e_43]; exact q_37
    have q_50 : gp_I s_42 74 9 = 0 := by rw [e_43]; exact q_38
    have q_51 : gp_I s_42 81 20 = 0 := by rw [e_43]; exact q_39
    refine ⟨by omega, ?_⟩
    have f_52 := zr79 hs_44 ((gp_wr ((gp_wr (64 * p0)) + 0)).toNat)
    have e_53 : gp_I s_42 79 (gp_wr ((gp_wr (64 * p0)) + 0)).toNat = 0 := by omega
    try rw [e_53]
    refine ⟨by omega, ?_⟩
    intro s_54 e_55
    have hs_56 : zM z s_54 := by rw [e_55]; exact zw79 hs_44 _ _ (by omega)
    have q_57 : gp_I s_54 74 11 = 0 := by rw [e_55]; exact q_45
    have q_58 : gp_I s_54 74 43 = 0 := by rw [e_55]; exact q_46
    have q_59 : gp_I s_54 74 57 = 0 := by rw [e_55]; exact q_47
    have q_60 : gp_I s_54 74 58 = 0 := by rw [e_55]; exact q_48
    have q_61 : gp_I s_54 74 7 = 1 := by rw [e_55]; exact q_49
    have q_62 : gp_I s_54 74 9 = 0 := by rw [e_55]; exact q_50
    have q_63 : gp_I s_54 81 20 = 0 := by rw [e_55]; exact q_51
    refine ⟨by omega, ?_⟩
    have f_64 := zr80 hs_56 ((gp_wr ((gp_wr (64 * p0)) + 0)).toNat)
    have e_65 : gp_I s_54 80 (gp_wr ((gp_wr (64 * p0)) + 0)).toNat = 0 := by omega
    try rw [e_65]
    refine ⟨by omega, ?_⟩
    intro s_66 e_67
    have hs_68 : zM z s_66 := by rw [e_67]; exact zw80 hs_56 _ _ (by omega)
    have q_69 : gp_I s_66 74 11 = 0 := by rw [e_67]; exact q_57
    have q_70 : gp_I s_66 74 43 = 0 := by rw [e_67]; exact q_58
    have q_71 : gp_I s_66 74 57 = 0 := by rw [e_67]; exact q_59
    have q_72 : gp_I s_66 74 58 = 0 := by rw [e_67]; exact q_60
    have q_73 : gp_I s_66 74 7 = 1 := by rw [e_67]; exact q_61
    have q_74 : gp_I s_66 74 9 = 0 := by rw [e_67]; exact q_62
    have q_75 : gp_I s_66 81 20 = 0 := by rw [e_67]; exact q_63
    have w_76 := gz_w (0 + 1)
    have e_77 : gp_wr (0 + 1) = 1 := by omega
    try rw [e_77]
    refine s_3084_14 _ _ _ _ _ ?_
    refine ⟨by omega, ?_⟩
    have f_78 := zr81 hs_68 p0.toNat
    have e_79 : gp_I s_66 81 p0.toNat = 1 := by omega
    try rw [e_79]
    refine ⟨fun h_80 => ?_, fun h_80 => ?_⟩
    · exfalso; omega
    · exact k s_66 hs_68 (by omega) (by omega) (by omega) (by omega) (by omega) (by omega) (by omega)
  · exfalso; omega
set_option maxRecDepth 100000 in
/-- GatheredPointsModel.copies [(0, 2), (8, 10)] -/
theorem zm3084_4 {z : gH} {L d : Nat} {K : Option gV → gH → Prop} {s : gH} (p0 : Int) (p1 : Int) (hs : zM z s) (h_p0 : 0 ≤ p0 ∧ p0 ≤ 2) (h_p1 : 8 ≤ p1 ∧ p1 ≤ 10) (q0 : gp_I s 74 11 = 0) (q1 : gp_I s 74 43 = 0) (q2 : gp_I s 74 57 = 0) (q3 : gp_I s 74 58 = 0) (q4 : gp_I s 74 7 = 1) (q5 : gp_I s 74 9 = 0) (q6 : gp_I s 81 20 = 0) (k : ∀ (t : gH), zM z t → (gp_I t 74 11 = 0) → (gp_I t 74 43 = 0) → (gp_I t 74 57 = 0) → (gp_I t 74 58 = 0) → (gp_I t 74 7 = 1) → (gp_I t 74 9 = 0) → (gp_I t 81 20 = 0) → K none t) : gs_C L d 3084 6 [gp_r (some 74), gp_i p0, gp_i p1] s K := by
  refine s_3084_e _ _ ?_
  refine ⟨by omega, ?_⟩
  have f_1 := zr81 hs p0.toNat
  have e_2 : gp_I s 81 p0.toNat = 1 := by omega
  try rw [e_2]
  refine ⟨by omega, ?_⟩
  intro s_3 e_4
  have hs_5 : zM z s_3 := by rw [e_4]; exact zw81 hs _ _ (by omega)
  have q_6 : gp_I s_3 74 11 = 0 := by rw [e_4]; exact q0
  have q_7 : gp_I s_3 74 43 = 0 := by rw [e_4]; exact q1
  have q_8 : gp_I s_3 74 57 = 0 := by rw [e_4]; exact q2
  have q_9 : gp_I s_3 74 58 = 0 := by rw [e_4]; exact q3
  have q_10 : gp_I s_3 74 7 = 1 := by rw [e_4]; exact q4
  have q_11 : gp_I s_3 74 9 = 0 := by rw [e_4]; exact q5
  have q_12 : gp_I s_3 81 20 = 0 := by rw [e_4]; exact gz_oI (by omega) q6
  refine s_3084_14 _ _ _ _ _ ?_
  refine ⟨by omega, ?_⟩
  have f_13 := zr81 hs_5 p0.toNat
  have e_14 : gp_I s_3 81 p0.toNat = 1 := by omega
  try rw [e_14]
  refine ⟨fun h_15 => ?_, fun h_15 => ?_⟩
  · have w_16 := gz_w (64 * p0)
    have w_17 := gz_w ((gp_wr (64 * p0)) + 0)
    have w_18 := gz_w (64 * p1)
    have w_19 := gz_w ((gp_wr (64 * p1)) + 0)
    refine ⟨by omega, ?_⟩
    try rw [zr76 hs_5 ((gp_wr ((gp_wr (64 * p0)) + 0)).toNat)]
    refine ⟨by omega, ?_⟩
    intro s_20 e_21
    have hs_22 : zM z s_20 := by rw [e_21]; exact zw76 hs_5 _ _ rfl
    have q_23 : gp_I s_20 74 11 = 0 := by rw [e_21]; exact q_6
    have q_24 : gp_I s_20 74 43 = 0 := by rw [e_21]; exact q_7
    have q_25 : gp_I s_20 74 57 = 0 := by rw [e_21]; exact q_8
    have q_26 : gp_I s_20 74 58 = 0 := by rw [e_21]; exact q_9
    have q_27 : gp_I s_20 74 7 = 1 := by rw [e_21]; exact q_10
    have q_28 : gp_I s_20 74 9 = 0 := by rw [e_21]; exact q_11
    have q_29 : gp_I s_20 81 20 = 0 := by rw [e_21]; exact q_12
    refine ⟨by omega, ?_⟩
    try rw [zr77 hs_22 ((gp_wr ((gp_wr (64 * p0)) + 0)).toNat)]
    refine ⟨by omega, ?_⟩
    intro s_30 e_31
    have hs_32 : zM z s_30 := by rw [e_31]; exact zw77 hs_22 _ _ rfl
    have q_33 : gp_I s_30 74 11 = 0 := by rw [e_31]; exact q_23
    have q_34 : gp_I s_30 74 43 = 0 := by rw [e_31]; exact q_24
    have q_35 : gp_I s_30 74 57 = 0 := by rw [e_31]; exact q_25
    have q_36 : gp_I s_30 74 58 = 0 := by rw [e_31]; exact q_26
    have q_37 : gp_I s_30 74 7 = 1 := by rw [e_31]; exact q_27
    have q_38 : gp_I s_30 74 9 = 0 := by rw [e_31]; exact q_28
    have q_39 : gp_I s_30 81 20 = 0 := by rw [e_31]; exact q_29
    refine ⟨by omega, ?_⟩
    have f_40 := zr78 hs_32 ((gp_wr ((gp_wr (64 * p0)) + 0)).toNat)
    have e_41 : gp_I s_30 78 (gp_wr ((gp_wr (64 * p0)) + 0)).toNat = 0 := by omega
    try rw [e_41]
    refine ⟨by omega, ?_⟩
    intro s_42 e_43
    have hs_44 : zM z s_42 := by rw [e_43]; exact zw78 hs_32 _ _ (by omega)
    have q_45 : gp_I s_42 74 11 = 0 := by rw [e_43]; exact q_33
    have q_46 : gp_I s_42 74 43 = 0 := by rw [e_43]; exact q_34
    have q_47 : gp_I s_42 74 57 = 0 := by rw [e_43]; exact q_35
    have q_48 : gp_I s_42 74 58 = 0 := by rw [e_43]; exact q_36
    have q_49 : gp_I s_42 74 7 = 1 := by rw [e_43]; exact q_37
    have q_50 : gp_I s_42 74 9 = 0 := by rw [e_43]; exact q_38
    have q_51 : gp_I s_42 81 20 = 0 := by rw [e_43]; exact q_39
    refine ⟨by omega, ?_⟩
    have f_52 := zr79 hs_44 ((gp_wr ((gp_wr (64 * p0)) + 0)).toNat)
    have e_53 : gp_I s_42 79 (gp_wr ((gp_wr (64 * p0)) + 0)).toNat = 0 := by omega
    try rw [e_53]
    refine ⟨by omega, ?_⟩
    intro s_54 e_55
    have hs_56 : zM z s_54 := by rw [e_55]; exact zw79 hs_44 _ _ (by omega)
    have q_57 : gp_I s_54 74 11 = 0 := by rw [e_55]; exact q_45
    have q_58 : gp_I s_54 74 43 = 0 := by rw [e_55]; exact q_46
    have q_59 : gp_I s_54 74 57 = 0 := by rw [e_55]; exact q_47
    have q_60 : gp_I s_54 74 58 = 0 := by rw [e_55]; exact q_48
    have q_61 : gp_I s_54 74 7 = 1 := by rw [e_55]; exact q_49
    have q_62 : gp_I s_54 74 9 = 0 := by rw [e_55]; exact q_50
    have q_63 : gp_I s_54 81 20 = 0 := by rw [e_55]; exact q_51
    refine ⟨by omega, ?_⟩
    have f_64 := zr80 hs_56 ((gp_wr ((gp_wr (64 * p0)) + 0)).toNat)
    have e_65 : gp_I s_54 80 (gp_wr ((gp_wr (64 * p0)) + 0)).toNat = 0 := by omega
    try rw [e_65]
    refine ⟨by omega, ?_⟩
    intro s_66 e_67
    have hs_68 : zM z s_66 := by rw [e_67]; exact zw80 hs_56 _ _ (by omega)
    have q_69 : gp_I s_66 74 11 = 0 := by rw [e_67]; exact q_57
    have q_70 : gp_I s_66 74 43 = 0 := by rw [e_67]; exact q_58
    have q_71 : gp_I s_66 74 57 = 0 := by rw [e_67]; exact q_59
    have q_72 : gp_I s_66 74 58 = 0 := by rw [e_67]; exact q_60
    have q_73 : gp_I s_66 74 7 = 1 := by rw [e_67]; exact q_61
    have q_74 : gp_I s_66 74 9 = 0 := by rw [e_67]; exact q_62
    have q_75 : gp_I s_66 81 20 = 0 := by rw [e_67]; exact q_63
    have w_76 := gz_w (0 + 1)
    have e_77 : gp_wr (0 + 1) = 1 := by omega
    try rw [e_77]
    refine s_3084_14 _ _ _ _ _ ?_
    refine ⟨by omega, ?_⟩
    have f_78 := zr81 hs_68 p0.toNat
    have e_79 : gp_I s_66 81 p0.toNat = 1 := by omega
    try rw [e_79]
    refine ⟨fun h_80 => ?_, fun h_80 => ?_⟩
    · exfalso; omega
    · exact k s_66 hs_68 (by omega) (by omega) (by omega) (by omega) (by omega) (by omega) (by omega)
  · exfalso; omega
set_option maxRecDepth 100000 in
/-- GatheredPointsModel.copies [(0, 7), (8, 15)] -/
theorem zm3084_5 {z : gH} {L d : Nat} {K : Option gV → gH → Prop} {s : gH} (p0 : Int) (p1 : Int) (hs : zM z s) (h_p0 : 0 ≤ p0 ∧ p0 ≤ 7) (h_p1 : 8 ≤ p1 ∧ p1 ≤ 15) (q0 : gp_I s 74 11 = 0) (q1 : gp_I s 74 43 = 0) (q2 : gp_I s 74 57 = 0) (q3 : gp_I s 74 58 = 0) (q4 : gp_I s 74 7 = 1) (q5 : gp_I s 74 9 = 0) (q6 : gp_I s 81 20 = 0) (k : ∀ (t : gH), zM z t → (gp_I t 74 11 = 0) → (gp_I t 74 43 = 0) → (gp_I t 74 57 = 0) → (gp_I t 74 58 = 0) → (gp_I t 74 7 = 1) → (gp_I t 74 9 = 0) → (gp_I t 81 20 = 0) → K none t) : gs_C L d 3084 6 [gp_r (some 74), gp_i p0, gp_i p1] s K := by
  refine s_3084_e _ _ ?_
  refine ⟨by omega, ?_⟩
  have f_1 := zr81 hs p0.toNat
  have e_2 : gp_I s 81 p0.toNat = 1 := by omega
  try rw [e_2]
  refine ⟨by omega, ?_⟩
  intro s_3 e_4
  have hs_5 : zM z s_3 := by rw [e_4]; exact zw81 hs _ _ (by omega)
  have q_6 : gp_I s_3 74 11 = 0 := by rw [e_4]; exact q0
  have q_7 : gp_I s_3 74 43 = 0 := by rw [e_4]; exact q1
  have q_8 : gp_I s_3 74 57 = 0 := by rw [e_4]; exact q2
  have q_9 : gp_I s_3 74 58 = 0 := by rw [e_4]; exact q3
  have q_10 : gp_I s_3 74 7 = 1 := by rw [e_4]; exact q4
  have q_11 : gp_I s_3 74 9 = 0 := by rw [e_4]; exact q5
  have q_12 : gp_I s_3 81 20 = 0 := by rw [e_4]; exact gz_oI (by omega) q6
  refine s_3084_14 _ _ _ _ _ ?_
  refine ⟨by omega, ?_⟩
  have f_13 := zr81 hs_5 p0.toNat
  have e_14 : gp_I s_3 81 p0.toNat = 1 := by omega
  try rw [e_14]
  refine ⟨fun h_15 => ?_, fun h_15 => ?_⟩
  · have w_16 := gz_w (64 * p0)
    have w_17 := gz_w ((gp_wr (64 * p0)) + 0)
    have w_18 := gz_w (64 * p1)
    have w_19 := gz_w ((gp_wr (64 * p1)) + 0)
    refine ⟨by omega, ?_⟩
    try rw [zr76 hs_5 ((gp_wr ((gp_wr (64 * p0)) + 0)).toNat)]
    refine ⟨by omega, ?_⟩
    intro s_20 e_21
    have hs_22 : zM z s_20 := by rw [e_21]; exact zw76 hs_5 _ _ rfl
    have q_23 : gp_I s_20 74 11 = 0 := by rw [e_21]; exact q_6
    have q_24 : gp_I s_20 74 43 = 0 := by rw [e_21]; exact q_7
    have q_25 : gp_I s_20 74 57 = 0 := by rw [e_21]; exact q_8
    have q_26 : gp_I s_20 74 58 = 0 := by rw [e_21]; exact q_9
    have q_27 : gp_I s_20 74 7 = 1 := by rw [e_21]; exact q_10
    have q_28 : gp_I s_20 74 9 = 0 := by rw [e_21]; exact q_11
    have q_29 : gp_I s_20 81 20 = 0 := by rw [e_21]; exact q_12
    refine ⟨by omega, ?_⟩
    try rw [zr77 hs_22 ((gp_wr ((gp_wr (64 * p0)) + 0)).toNat)]
    refine ⟨by omega, ?_⟩
    intro s_30 e_31
    have hs_32 : zM z s_30 := by rw [e_31]; exact zw77 hs_22 _ _ rfl
    have q_33 : gp_I s_30 74 11 = 0 := by rw [e_31]; exact q_23
    have q_34 : gp_I s_30 74 43 = 0 := by rw [e_31]; exact q_24
    have q_35 : gp_I s_30 74 57 = 0 := by rw [e_31]; exact q_25
    have q_36 : gp_I s_30 74 58 = 0 := by rw [e_31]; exact q_26
    have q_37 : gp_I s_30 74 7 = 1 := by rw [e_31]; exact q_27
    have q_38 : gp_I s_30 74 9 = 0 := by rw [e_31]; exact q_28
    have q_39 : gp_I s_30 81 20 = 0 := by rw [e_31]; exact q_29
    refine ⟨by omega, ?_⟩
    have f_40 := zr78 hs_32 ((gp_wr ((gp_wr (64 * p0)) + 0)).toNat)
    have e_41 : gp_I s_30 78 (gp_wr ((gp_wr (64 * p0)) + 0)).toNat = 0 := by omega
    try rw [e_41]
    refine ⟨by omega, ?_⟩
    intro s_42 e_43
    have hs_44 : zM z s_42 := by rw [e_43]; exact zw78 hs_32 _ _ (by omega)
    have q_45 : gp_I s_42 74 11 = 0 := by rw [e_43]; exact q_33
    have q_46 : gp_I s_42 74 43 = 0 := by rw [e_43]; exact q_34
    have q_47 : gp_I s_42 74 57 = 0 := by rw [e_43]; exact q_35
    have q_48 : gp_I s_42 74 58 = 0 := by rw [e_43]; exact q_36
    have q_49 : gp_I s_42 74 7 = 1 := by rw [e_43]; exact q_37
    have q_50 : gp_I s_42 74 9 = 0 := by rw [e_43]; exact q_38
    have q_51 : gp_I s_42 81 20 = 0 := by rw [e_43]; exact q_39
    refine ⟨by omega, ?_⟩
    have f_52 := zr79 hs_44 ((gp_wr ((gp_wr (64 * p0)) + 0)).toNat)
    have e_53 : gp_I s_42 79 (gp_wr ((gp_wr (64 * p0)) + 0)).toNat = 0 := by omega
    try rw [e_53]
    refine ⟨by omega, ?_⟩
    intro s_54 e_55
    have hs_56 : zM z s_54 := by rw [e_55]; exact zw79 hs_44 _ _ (by omega)
    have q_57 : gp_I s_54 74 11 = 0 := by rw [e_55]; exact q_45
    have q_58 : gp_I s_54 74 43 = 0 := by rw [e_55]; exact q_46
    have q_59 : gp_I s_54 74 57 = 0 := by rw [e_55]; exact q_47
    have q_60 : gp_I s_54 74 58 = 0 := by rw [e_55]; exact q_48
    have q_61 : gp_I s_54 74 7 = 1 := by rw [e_55]; exact q_49
    have q_62 : gp_I s_54 74 9 = 0 := by rw [e_55]; exact q_50
    have q_63 : gp_I s_54 81 20 = 0 := by rw [e_55]; exact q_51
    refine ⟨by omega, ?_⟩
    have f_64 := zr80 hs_56 ((gp_wr ((gp_wr (64 * p0)) + 0)).toNat)
    have e_65 : gp_I s_54 80 (gp_wr ((gp_wr (64 * p0)) + 0)).toNat = 0 := by omega
    try rw [e_65]
    refine ⟨by omega, ?_⟩
    intro s_66 e_67
    have hs_68 : zM z s_66 := by rw [e_67]; exact zw80 hs_56 _ _ (by omega)
    have q_69 : gp_I s_66 74 11 = 0 := by rw [e_67]; exact q_57
    have q_70 : gp_I s_66 74 43 = 0 := by rw [e_67]; exact q_58
    have q_71 : gp_I s_66 74 57 = 0 := by rw [e_67]; exact q_59
    have q_72 : gp_I s_66 74 58 = 0 := by rw [e_67]; exact q_60
    have q_73 : gp_I s_66 74 7 = 1 := by rw [e_67]; exact q_61
    have q_74 : gp_I s_66 74 9 = 0 := by rw [e_67]; exact q_62
    have q_75 : gp_I s_66 81 20 = 0 := by rw [e_67]; exact q_63
    have w_76 := gz_w (0 + 1)
    have e_77 : gp_wr (0 + 1) = 1 := by omega
    try rw [e_77]
    refine s_3084_14 _ _ _ _ _ ?_
    refine ⟨by omega, ?_⟩
    have f_78 := zr81 hs_68 p0.toNat
    have e_79 : gp_I s_66 81 p0.toNat = 1 := by omega
    try rw [e_79]
    refine ⟨fun h_80 => ?_, fun h_80 => ?_⟩
    · exfalso; omega
    · exact k s_66 hs_68 (by omega) (by omega) (by omega) (by omega) (by omega) (by omega) (by omega)
  · exfalso; omega
set_option maxRecDepth 100000 in
/-- GatheredPointsModel.image, the loop at 2 -/
theorem zm3186_0_l2_0 {z : gH} {L d : Nat} {K : Option gV → gH → Prop}   (k : ∀ (t : gH), zM z t → (gp_I t 74 11 = 0) → (gp_I t 74 43 = 0) → (gp_I t 74 57 = 0) → (gp_I t 74 58 = 0) → (gp_I t 74 7 = 1) → (gp_I t 74 9 = 1) → (gp_I t 81 20 = 0) → K (some (gp_i 1)) t)  : ∀ (n : Nat) (v1 : Int) (s : gH), zM z s → (9 - v1).toNat < n → (0 ≤ v1 ∧ v1 ≤ 8) → (gp_I s 74 11 = 0) → (gp_I s 74 43 = 0) → (gp_I s 74 57 = 0) → (gp_I s 74 58 = 0) → (gp_I s 74 7 = 1) → (gp_I s 74 9 = 0) → (gp_I s 81 20 = 0) → gs_E L (d + 1) 3186 2 [gp_r (some 74), gp_i v1] [] s K := by
  intro n
  induction n with
  | zero => intro v1 s hs hm i0 i1 i2 i3 i4 i5 i6 i7; exact absurd hm (Nat.not_lt_zero _)
  | succ n ih =>
    intro v1 s hs hm i0 i1 i2 i3 i4 i5 i6 i7
    refine s_3186_2 _ ?_
    refine ⟨fun h_1 => ?_, fun h_1 => ?_⟩
    · have w_2 := gz_w (8 + v1)
      refine zm3084_5 _ _ hs (by omega) (by omega) (by omega) (by omega) (by omega) (by omega) (by omega) (by omega) (by omega) (fun s_3 hs_4 q_5 q_6 q_7 q_8 q_9 q_10 q_11 => ⟨rfl, ?_⟩)
      have w_12 := gz_w (v1 + 1)
      exact ih _ s_3 hs_4 (by omega) (by omega) (by omega) (by omega) (by omega) (by omega) (by omega) (by omega) (by omega)
    · have e_13 : v1 = 8 := by omega
      subst e_13
      try rw [show gp_I s 74 7 = 1 from i5]
      intro s_14 e_15
      have hs_16 : zM z s_14 := by rw [e_15]; exact zw74_8 hs 0 _
      have q_17 : gp_I s_14 74 11 = 0 := by rw [e_15]; exact i1
      have q_18 : gp_I s_14 74 43 = 0 := by rw [e_15]; exact i2
      have q_19 : gp_I s_14 74 57 = 0 := by rw [e_15]; exact i3
      have q_20 : gp_I s_14 74 58 = 0 := by rw [e_15]; exact i4
      have q_21 : gp_I s_14 74 7 = 1 := by rw [e_15]; exact i5
      have q_22 : gp_I s_14 74 9 = 0 := by rw [e_15]; exact i6
      have q_23 : gp_I s_14 81 20 = 0 := by rw [e_15]; exact i7
      try rw [show gp_I s_14 74 9 = 0 from q_22]
      have w_24 := gz_w (0 + 1)
      have e_25 : gp_wr (0 + 1) = 1 := by omega
      try rw [e_25]
      intro s_26 e_27
      have hs_28 : zM z s_26 := by rw [e_27]; exact zw74_9 hs_16 0 _
      have q_29 : gp_I s_26 74 11 = 0 := by rw [e_27]; exact q_17
      have q_30 : gp_I s_26 74 43 = 0 := by rw [e_27]; exact q_18
      have q_31 : gp_I s_26 74 57 = 0 := by rw [e_27]; exact q_19
      have q_32 : gp_I s_26 74 58 = 0 := by rw [e_27]; exact q_20
      have q_33 : gp_I s_26 74 7 = 1 := by rw [e_27]; exact q_21
      have q_34 : gp_I s_26 81 20 = 0 := by rw [e_27]; exact q_23
      have q_35 : gp_I s_26 74 9 = 1 := by rw [e_27]; rfl
      try rw [show gp_I s_26 74 9 = 1 from q_35]
      exact k s_26 hs_28 (by omega) (by omega) (by omega) (by omega) (by omega) (by omega) (by omega)
set_option maxRecDepth 100000 in
/-- GatheredPointsModel.image [] -/
theorem zm3186_0 {z : gH} {L d : Nat} {K : Option gV → gH → Prop} {s : gH}  (hs : zM z s)  (q0 : gp_I s 74 11 = 0) (q1 : gp_I s 74 43 = 0) (q2 : gp_I s 74 57 = 0) (q3 : gp_I s 74 58 = 0) (q4 : gp_I s 74 7 = 1) (q5 : gp_I s 74 9 = 0) (q6 : gp_I s 81 20 = 0) (k : ∀ (t : gH), zM z t → (gp_I t 74 11 = 0) → (gp_I t 74 43 = 0) → (gp_I t 74 57 = 0) → (gp_I t 74 58 = 0) → (gp_I t 74 7 = 1) → (gp_I t 74 9 = 1) → (gp_I t 81 20 = 0) → K (some (gp_i 1)) t) : gs_C L (d + 1) 3186 2 [gp_r (some 74)] s K := by
  refine s_3186_e ?_
  exact zm3186_0_l2_0 k _ _ s hs (Nat.lt_succ_self _) (by omega) (by omega) (by omega) (by omega) (by omega) (by omega) (by omega) (by omega)
set_option maxRecDepth 100000 in
/-- GatheredPointsModel.restore [] -/
theorem zm3187_0 {z : gH} {L d : Nat} {K : Option gV → gH → Prop} {s : gH}  (hs : zM z s)  (q0 : gp_I s 74 11 = 0) (q1 : gp_I s 74 43 = 0) (q2 : gp_I s 74 57 = 0) (q3 : gp_I s 74 58 = 0) (q4 : gp_I s 74 7 = 1) (q5 : gp_I s 74 9 = 0) (q6 : gp_I s 81 20 = 0) (k : ∀ (t : gH), zM z t → (gp_I t 74 11 = 0) → (gp_I t 74 43 = 0) → (gp_I t 74 57 = 0) → (gp_I t 74 58 = 0) → (gp_I t 74 7 = 1) → (gp_I t 74 9 = 0) → ((-2147483648) ≤ gp_I t 75 2 ∧ gp_I t 75 2 ≤ 2147483647) → (gp_I t 81 20 = 0) → K (some (gp_i (-1000000002))) t) : gs_C L (d + 1) 3187 2 [gp_r (some 74)] s K := by
  refine s_3187_e ?_
  try rw [show gp_I s 74 9 = 0 from q5]
  refine ⟨fun h_1 => ?_, fun h_1 => ?_⟩
  · refine zm3074_5 hs (by omega) (by omega) (by omega) (by omega) (by omega) (by omega) (by omega) (fun s_2 hs_3 q_4 q_5 q_6 q_7 q_8 q_9 q_10 q_11 => ⟨_, rfl, ?_⟩)
    exact k s_2 hs_3 (by omega) (by omega) (by omega) (by omega) (by omega) (by omega) (by omega) (by omega)
  · exfalso; omega
set_option maxRecDepth 100000 in
/-- GatheredPointsModel.count [(-2147483648, -1)] -/
theorem zm3188_0 {z : gH} {L d : Nat} {K : Option gV → gH → Prop} {s : gH} (p0 : Int) (hs : zM z s) (h_p0 : (-2147483648) ≤ p0 ∧ p0 ≤ (-1)) (q0 : gp_I s 74 11 = 0) (q1 : gp_I s 74 43 = 0) (q2 : gp_I s 74 57 = 0) (q3 : gp_I s 74 58 = 0) (q4 : gp_I s 74 7 = 1) (q5 : gp_I s 74 9 = 0) (q6 : gp_I s 81 20 = 0) (k : ∀ (t : gH), zM z t → (gp_I t 74 11 = 0) → (gp_I t 74 43 = 0) → (gp_I t 74 57 = 0) → (gp_I t 74 58 = 0) → (gp_I t 74 7 = 1) → (gp_I t 74 9 = 0) → ((-2147483648) ≤ gp_I t 75 1 ∧ gp_I t 75 1 ≤ 2147483647) → (gp_I t 81 20 = 0) → K (some (gp_i (-1000000001))) t) : gs_C L (d + 1) 3188 4 [gp_r (some 74), gp_i p0] s K := by
  refine s_3188_e _ ?_
  refine ⟨fun h_1 => ?_, fun h_1 => ?_, fun h_1 => ?_, fun h_1 => ?_, fun h_1 => ?_, fun h_1 => ?_⟩
  · exfalso; omega
  · exfalso; omega
  · exfalso; omega
  · exfalso; omega
  · exfalso; omega
  · refine zm3074_1 hs (by omega) (by omega) (by omega) (by omega) (by omega) (by omega) (by omega) (fun s_2 hs_3 q_4 q_5 q_6 q_7 q_8 q_9 q_10 q_11 => ⟨_, rfl, ?_⟩)
    exact k s_2 hs_3 (by omega) (by omega) (by omega) (by omega) (by omega) (by omega) (by omega) (by omega)
set_option maxRecDepth 100000 in
/-- GatheredPointsModel.sizes [] -/
theorem zm3185_0 {z : gH} {L d : Nat} {K : Option gV → gH → Prop} {s : gH}  (hs : zM z s)  (q0 : gp_I s 81 20 = 0) (k : K (some (gp_i 8)) s) : gs_C L d 3185 3 [gp_r (some 74)] s K := by
  refine s_3185_e ?_
  refine s_3185_4 _ _ ?_
  refine ⟨fun h_1 => ?_, fun h_1 => ?_⟩
  · refine ⟨by omega, ?_⟩
    have f_2 := zr81 hs ((0 : Int).toNat)
    have e_3 : gp_I s 81 (0 : Int).toNat = 1 := by omega
    try rw [e_3]
    have w_4 := gz_w (0 + 1)
    have e_5 : gp_wr (0 + 1) = 1 := by omega
    try rw [e_5]
    have w_6 := gz_w (0 + 1)
    have e_7 : gp_wr (0 + 1) = 1 := by omega
    try rw [e_7]
    refine s_3185_4 _ _ ?_
    refine ⟨fun h_8 => ?_, fun h_8 => ?_⟩
    · refine ⟨by omega, ?_⟩
      have f_9 := zr81 hs ((1 : Int).toNat)
      have e_10 : gp_I s 81 (1 : Int).toNat = 1 := by omega
      try rw [e_10]
      have w_11 := gz_w (1 + 1)
      have e_12 : gp_wr (1 + 1) = 2 := by omega
      try rw [e_12]
      have w_13 := gz_w (1 + 1)
      have e_14 : gp_wr (1 + 1) = 2 := by omega
      try rw [e_14]
      refine s_3185_4 _ _ ?_
      refine ⟨fun h_15 => ?_, fun h_15 => ?_⟩
      · refine ⟨by omega, ?_⟩
        have f_16 := zr81 hs ((2 : Int).toNat)
        have e_17 : gp_I s 81 (2 : Int).toNat = 1 := by omega
        try rw [e_17]
        have w_18 := gz_w (2 + 1)
        have e_19 : gp_wr (2 + 1) = 3 := by omega
        try rw [e_19]
        have w_20 := gz_w (2 + 1)
        have e_21 : gp_wr (2 + 1) = 3 := by omega
        try rw [e_21]
        refine s_3185_4 _ _ ?_
        refine ⟨fun h_22 => ?_, fun h_22 => ?_⟩
        · refine ⟨by omega, ?_⟩
          have f_23 := zr81 hs ((3 : Int).toNat)
          have e_24 : gp_I s 81 (3 : Int).toNat = 1 := by omega
          try rw [e_24]
          have w_25 := gz_w (3 + 1)
          have e_26 : gp_wr (3 + 1) = 4 := by omega
          try rw [e_26]
          have w_27 := gz_w (3 + 1)
          have e_28 : gp_wr (3 + 1) = 4 := by omega
          try rw [e_28]
          refine s_3185_4 _ _ ?_
          refine ⟨fun h_29 => ?_, fun h_29 => ?_⟩
          · refine ⟨by omega, ?_⟩
            have f_30 := zr81 hs ((4 : Int).toNat)
            have e_31 : gp_I s 81 (4 : Int).toNat = 1 := by omega
            try rw [e_31]
            have w_32 := gz_w (4 + 1)
            have e_33 : gp_wr (4 + 1) = 5 := by omega
            try rw [e_33]
            have w_34 := gz_w (4 + 1)
            have e_35 : gp_wr (4 + 1) = 5 := by omega
            try rw [e_35]
            refine s_3185_4 _ _ ?_
            refine ⟨fun h_36 => ?_, fun h_36 => ?_⟩
            · refine ⟨by omega, ?_⟩
              have f_37 := zr81 hs ((5 : Int).toNat)
              have e_38 : gp_I s 81 (5 : Int).toNat = 1 := by omega
              try rw [e_38]
              have w_39 := gz_w (5 + 1)
              have e_40 : gp_wr (5 + 1) = 6 := by omega
              try rw [e_40]
              have w_41 := gz_w (5 + 1)
              have e_42 : gp_wr (5 + 1) = 6 := by omega
              try rw [e_42]
              refine s_3185_4 _ _ ?_
              refine ⟨fun h_43 => ?_, fun h_43 => ?_⟩
              · refine ⟨by omega, ?_⟩
                have f_44 := zr81 hs ((6 : Int).toNat)
                have e_45 : gp_I s 81 (6 : Int).toNat = 1 := by omega
                try rw [e_45]
                have w_46 := gz_w (6 + 1)
                have e_47 : gp_wr (6 + 1) = 7 := by omega
                try rw [e_47]
                have w_48 := gz_w (6 + 1)
                have e_49 : gp_wr (6 + 1) = 7 := by omega
                try rw [e_49]
                refine s_3185_4 _ _ ?_
                refine ⟨fun h_50 => ?_, fun h_50 => ?_⟩
                · refine ⟨by omega, ?_⟩
                  have f_51 := zr81 hs ((7 : Int).toNat)
                  have e_52 : gp_I s 81 (7 : Int).toNat = 1 := by omega
                  try rw [e_52]
                  have w_53 := gz_w (7 + 1)
                  have e_54 : gp_wr (7 + 1) = 8 := by omega
                  try rw [e_54]
                  have w_55 := gz_w (7 + 1)
                  have e_56 : gp_wr (7 + 1) = 8 := by omega
                  try rw [e_56]
                  refine s_3185_4 _ _ ?_
                  refine ⟨fun h_57 => ?_, fun h_57 => ?_⟩
                  · exfalso; omega
                  · exact k
                · exfalso; omega
              · exfalso; omega
            · exfalso; omega
          · exfalso; omega
        · exfalso; omega
      · exfalso; omega
    · exfalso; omega
  · exfalso; omega
set_option maxRecDepth 100000 in
/-- GatheredPointsModel.count [(0, 0)] -/
theorem zm3188_1 {z : gH} {L d : Nat} {K : Option gV → gH → Prop} {s : gH}  (hs : zM z s)  (q0 : gp_I s 74 11 = 0) (q1 : gp_I s 74 43 = 0) (q2 : gp_I s 74 57 = 0) (q3 : gp_I s 74 58 = 0) (q4 : gp_I s 74 7 = 1) (q5 : gp_I s 74 9 = 0) (q6 : gp_I s 81 20 = 0) (k : K (some (gp_i 8)) s) : gs_C L (d + 1) 3188 4 [gp_r (some 74), gp_i 0] s K := by
  refine s_3188_e _ ?_
  refine ⟨fun h_1 => ?_, fun h_1 => ?_, fun h_1 => ?_, fun h_1 => ?_, fun h_1 => ?_, fun h_1 => ?_⟩
  · refine zm3185_0 hs (by omega) (⟨_, rfl, ?_⟩)
    exact k
  · exfalso; omega
  · exfalso; omega
  · exfalso; omega
  · exfalso; omega
  · exfalso; omega
set_option maxRecDepth 100000 in
/-- GatheredPointsModel.side [(0, 0), (0, 0), (0, 0)] -/
theorem zm3082_2 {z : gH} {L d : Nat} {K : Option gV → gH → Prop} {s : gH}  (hs : zM z s)   (k : K (some (gp_l (0#64))) s) : gs_C L d 3082 4 [gp_r (some 74), gp_i 0, gp_i 0, gp_i 0] s K := by
  refine s_3082_e _ _ _ ?_
  refine ⟨fun h_1 => ?_, fun h_1 => ?_⟩
  · have w_2 := gz_w (64 * 0)
    have e_3 : gp_wr (64 * 0) = 0 := by omega
    try rw [e_3]
    have w_4 := gz_w (0 + 0)
    have e_5 : gp_wr (0 + 0) = 0 := by omega
    try rw [e_5]
    refine ⟨by omega, ?_⟩
    try rw [zr76 hs ((0 : Int).toNat)]
    refine s_3082_29 _ _ _ _ ?_
    exact k
  · exfalso; omega
set_option maxRecDepth 100000 in
/-- GatheredPointsModel.shut [(0, 0), (0, 0), (0, 0)] -/
theorem zm3083_2 {z : gH} {L d : Nat} {K : Option gV → gH → Prop} {s : gH}  (hs : zM z s)   (k : K (some (gp_i 0)) s) : gs_C L d 3083 4 [gp_r (some 74), gp_i 0, gp_i 0, gp_i 0] s K := by
  refine s_3083_e _ _ _ ?_
  refine ⟨fun h_1 => ?_, fun h_1 => ?_⟩
  · have w_2 := gz_w (64 * 0)
    have e_3 : gp_wr (64 * 0) = 0 := by omega
    try rw [e_3]
    have w_4 := gz_w (0 + 0)
    have e_5 : gp_wr (0 + 0) = 0 := by omega
    try rw [e_5]
    refine ⟨by omega, ?_⟩
    have f_6 := zr78 hs ((0 : Int).toNat)
    have e_7 : gp_I s 78 (0 : Int).toNat = 0 := by omega
    try rw [e_7]
    refine s_3083_29 _ _ _ _ ?_
    exact k
  · exfalso; omega
set_option maxRecDepth 100000 in
/-- GatheredPointsModel.side [(0, 0), (0, 0), (1, 1)] -/
theorem zm3082_3 {z : gH} {L d : Nat} {K : Option gV → gH → Prop} {s : gH}  (hs : zM z s)   (k : K (some (gp_l (0#64))) s) : gs_C L d 3082 4 [gp_r (some 74), gp_i 0, gp_i 0, gp_i 1] s K := by
  refine s_3082_e _ _ _ ?_
  refine ⟨fun h_1 => ?_, fun h_1 => ?_⟩
  · exfalso; omega
  · have w_2 := gz_w (64 * 0)
    have e_3 : gp_wr (64 * 0) = 0 := by omega
    try rw [e_3]
    have w_4 := gz_w (0 + 0)
    have e_5 : gp_wr (0 + 0) = 0 := by omega
    try rw [e_5]
    refine ⟨by omega, ?_⟩
    try rw [zr77 hs ((0 : Int).toNat)]
    refine s_3082_29 _ _ _ _ ?_
    exact k
set_option maxRecDepth 100000 in
/-- GatheredPointsModel.shut [(0, 0), (0, 0), (1, 1)] -/
theorem zm3083_3 {z : gH} {L d : Nat} {K : Option gV → gH → Prop} {s : gH}  (hs : zM z s)   (k : K (some (gp_i 0)) s) : gs_C L d 3083 4 [gp_r (some 74), gp_i 0, gp_i 0, gp_i 1] s K := by
  refine s_3083_e _ _ _ ?_
  refine ⟨fun h_1 => ?_, fun h_1 => ?_⟩
  · exfalso; omega
  · have w_2 := gz_w (64 * 0)
    have e_3 : gp_wr (64 * 0) = 0 := by omega
    try rw [e_3]
    have w_4 := gz_w (0 + 0)
    have e_5 : gp_wr (0 + 0) = 0 := by omega
    try rw [e_5]
    refine ⟨by omega, ?_⟩
    have f_6 := zr79 hs ((0 : Int).toNat)
    have e_7 : gp_I s 79 (0 : Int).toNat = 0 := by omega
    try rw [e_7]
    refine s_3083_29 _ _ _ _ ?_
    exact k
set_option maxRecDepth 100000 in
/-- GatheredPointsModel.isSure [(0, 0)] -/
theorem zm3103_1 {z : gH} {L d : Nat} {K : Option gV → gH → Prop} {s : gH}  (hs : zM z s)  (q0 : gp_I s 81 20 = 0) (k : K (some (gp_i 1)) s) : gs_C L (d + 1) 3103 9 [gp_r (some 74), gp_i 0] s K := by
  refine s_3103_e _ ?_
  refine s_3103_2 _ _ _ _ _ _ _ _ ?_
  refine ⟨by omega, ?_⟩
  have f_1 := zr81 hs ((0 : Int).toNat)
  have e_2 : gp_I s 81 (0 : Int).toNat = 1 := by omega
  try rw [e_2]
  refine ⟨fun h_3 => ?_, fun h_3 => ?_⟩
  · have w_4 := gz_w (64 * 0)
    have e_5 : gp_wr (64 * 0) = 0 := by omega
    try rw [e_5]
    have w_6 := gz_w (0 + 0)
    have e_7 : gp_wr (0 + 0) = 0 := by omega
    try rw [e_7]
    have e_8 : (1#64) <<< ((0 : Int) % 64).toNat = 1#64 := by decide
    try rw [e_8]
    refine s_3103_27 _ _ _ _ _ _ _ ?_
    refine ⟨fun h_9 => ?_, fun h_9 => ?_⟩
    · exfalso; omega
    · refine zm3078_5 hs (⟨_, rfl, ?_⟩)
      refine ⟨fun h_10 => ?_, fun h_10 => ?_⟩
      · exfalso; omega
      · have w_11 := gz_w (64 * 0)
        have e_12 : gp_wr (64 * 0) = 0 := by omega
        try rw [e_12]
        have w_13 := gz_w (0 + 0)
        have e_14 : gp_wr (0 + 0) = 0 := by omega
        try rw [e_14]
        refine ⟨by omega, ?_⟩
        try rw [zr76 hs ((0 : Int).toNat)]
        have w_15 := gz_w (64 * 0)
        have e_16 : gp_wr (64 * 0) = 0 := by omega
        try rw [e_16]
        have w_17 := gz_w (0 + 0)
        have e_18 : gp_wr (0 + 0) = 0 := by omega
        try rw [e_18]
        refine ⟨by omega, ?_⟩
        try rw [zr77 hs ((0 : Int).toNat)]
        have e_19 : (0#64) ||| (0#64) = 0#64 := by decide
        try rw [e_19]
        refine s_3103_73 _ _ _ _ _ _ _ _ _ ?_
        have e_20 : (1#64) ||| (0#64) = 1#64 := by decide
        try rw [e_20]
        have w_21 := gz_w (0 + (-1))
        have e_22 : gp_wr (0 + (-1)) = (-1) := by omega
        try rw [e_22]
        refine s_3103_27 _ _ _ _ _ _ _ ?_
        refine ⟨fun h_23 => ?_, fun h_23 => ?_⟩
        · refine s_3103_85 _ _ _ _ _ _ _ ?_
          refine ⟨fun h_24 => ?_, fun h_24 => ?_⟩
          · exfalso; omega
          · refine s_3103_94 _ _ _ _ _ _ _ ?_
            refine ⟨fun h_25 => ?_, fun h_25 => ?_⟩
            · refine zm3078_5 hs (⟨_, rfl, ?_⟩)
              refine ⟨fun h_26 => ?_, fun h_26 => ?_⟩
              · exfalso; omega
              · refine zm3082_2 hs (⟨_, rfl, ?_⟩)
                have e_27 : gp_cmp (0#64) (0#64) = 0 := by decide
                try rw [e_27]
                refine ⟨fun h_28 => ?_, fun h_28 => ?_⟩
                · refine s_3103_129 _ _ _ _ _ _ _ _ ?_
                  refine ⟨fun h_29 => ?_, fun h_29 => ?_⟩
                  · exfalso; omega
                  · refine ⟨by omega, ?_⟩
                    try rw [zr76 hs ((0 : Int).toNat)]
                    have e_30 : gp_cmp (0#64) (0#64) = 0 := by decide
                    try rw [e_30]
                    refine ⟨fun h_31 => ?_, fun h_31 => ?_⟩
                    · refine zm3083_2 hs (⟨_, rfl, ?_⟩)
                      refine ⟨by omega, ?_⟩
                      have f_32 := zr78 hs ((0 : Int).toNat)
                      have e_33 : gp_I s 78 (0 : Int).toNat = 0 := by omega
                      try rw [e_33]
                      refine ⟨fun h_34 => ?_, fun h_34 => ?_⟩
                      · exfalso; omega
                      · refine s_3103_165 _ _ _ _ _ _ _ ?_
                        refine ⟨by omega, ?_⟩
                        try rw [zr77 hs ((0 : Int).toNat)]
                        have e_35 : gp_cmp (0#64) (0#64) = 0 := by decide
                        try rw [e_35]
                        refine ⟨fun h_36 => ?_, fun h_36 => ?_⟩
                        · refine zm3083_2 hs (⟨_, rfl, ?_⟩)
                          refine ⟨by omega, ?_⟩
                          have f_37 := zr79 hs ((0 : Int).toNat)
                          have e_38 : gp_I s 79 (0 : Int).toNat = 0 := by omega
                          try rw [e_38]
                          refine ⟨fun h_39 => ?_, fun h_39 => ?_⟩
                          · exfalso; omega
                          · refine s_3103_196 _ _ _ _ _ _ _ ?_
                            have w_40 := gz_w (0 + 1)
                            have e_41 : gp_wr (0 + 1) = 1 := by omega
                            try rw [e_41]
                            refine s_3103_94 _ _ _ _ _ _ _ ?_
                            refine ⟨fun h_42 => ?_, fun h_42 => ?_⟩
                            · refine zm3078_5 hs (⟨_, rfl, ?_⟩)
                              refine ⟨fun h_43 => ?_, fun h_43 => ?_⟩
                              · exfalso; omega
                              · refine zm3082_3 hs (⟨_, rfl, ?_⟩)
                                have e_44 : gp_cmp (0#64) (0#64) = 0 := by decide
                                try rw [e_44]
                                refine ⟨fun h_45 => ?_, fun h_45 => ?_⟩
                                · refine s_3103_129 _ _ _ _ _ _ _ _ ?_
                                  refine ⟨fun h_46 => ?_, fun h_46 => ?_⟩
                                  · exfalso; omega
                                  · refine ⟨by omega, ?_⟩
                                    try rw [zr76 hs ((0 : Int).toNat)]
                                    have e_47 : gp_cmp (0#64) (0#64) = 0 := by decide
                                    try rw [e_47]
                                    refine ⟨fun h_48 => ?_, fun h_48 => ?_⟩
                                    · refine zm3083_3 hs (⟨_, rfl, ?_⟩)
                                      refine ⟨by omega, ?_⟩
                                      have f_49 := zr78 hs ((0 : Int).toNat)
                                      have e_50 : gp_I s 78 (0 : Int).toNat = 0 := by omega
                                      try rw [e_50]
                                      refine ⟨fun h_51 => ?_, fun h_51 => ?_⟩
                                      · exfalso; omega
                                      · refine s_3103_165 _ _ _ _ _ _ _ ?_
                                        refine ⟨by omega, ?_⟩
                                        try rw [zr77 hs ((0 : Int).toNat)]
                                        have e_52 : gp_cmp (0#64) (0#64) = 0 := by decide
                                        try rw [e_52]
                                        refine ⟨fun h_53 => ?_, fun h_53 => ?_⟩
                                        · refine zm3083_3 hs (⟨_, rfl, ?_⟩)
                                          refine ⟨by omega, ?_⟩
                                          have f_54 := zr79 hs ((0 : Int).toNat)
                                          have e_55 : gp_I s 79 (0 : Int).toNat = 0 := by omega
                                          try rw [e_55]
                                          refine ⟨fun h_56 => ?_, fun h_56 => ?_⟩
                                          · exfalso; omega
                                          · refine s_3103_196 _ _ _ _ _ _ _ ?_
                                            have w_57 := gz_w (1 + 1)
                                            have e_58 : gp_wr (1 + 1) = 2 := by omega
                                            try rw [e_58]
                                            refine s_3103_94 _ _ _ _ _ _ _ ?_
                                            refine ⟨fun h_59 => ?_, fun h_59 => ?_⟩
                                            · exfalso; omega
                                            · refine s_3103_202 _ _ _ _ _ _ _ ?_
                                              have w_60 := gz_w (0 + 1)
                                              have e_61 : gp_wr (0 + 1) = 1 := by omega
                                              try rw [e_61]
                                              refine s_3103_85 _ _ _ _ _ _ _ ?_
                                              refine ⟨fun h_62 => ?_, fun h_62 => ?_⟩
                                              · have w_63 := gz_w (0 + 1)
                                                have e_64 : gp_wr (0 + 1) = 1 := by omega
                                                try rw [e_64]
                                                refine s_3103_2 _ _ _ _ _ _ _ _ ?_
                                                refine ⟨by omega, ?_⟩
                                                have f_65 := zr81 hs ((0 : Int).toNat)
                                                have e_66 : gp_I s 81 (0 : Int).toNat = 1 := by omega
                                                try rw [e_66]
                                                refine ⟨fun h_67 => ?_, fun h_67 => ?_⟩
                                                · exfalso; omega
                                                · exact k
                                              · exfalso; omega
                                        · exfalso; omega
                                    · exfalso; omega
                                · exfalso; omega
                            · exfalso; omega
                        · exfalso; omega
                    · exfalso; omega
                · exfalso; omega
            · exfalso; omega
        · exfalso; omega
  · exfalso; omega
set_option maxRecDepth 100000 in
/-- GatheredPointsModel.side [(1, 1), (0, 0), (0, 0)] -/
theorem zm3082_4 {z : gH} {L d : Nat} {K : Option gV → gH → Prop} {s : gH}  (hs : zM z s)   (k : K (some (gp_l (0#64))) s) : gs_C L d 3082 4 [gp_r (some 74), gp_i 1, gp_i 0, gp_i 0] s K := by
  refine s_3082_e _ _ _ ?_
  refine ⟨fun h_1 => ?_, fun h_1 => ?_⟩
  · have w_2 := gz_w (64 * 1)
    have e_3 : gp_wr (64 * 1) = 64 := by omega
    try rw [e_3]
    have w_4 := gz_w (64 + 0)
    have e_5 : gp_wr (64 + 0) = 64 := by omega
    try rw [e_5]
    refine ⟨by omega, ?_⟩
    try rw [zr76 hs ((64 : Int).toNat)]
    refine s_3082_29 _ _ _ _ ?_
    exact k
  · exfalso; omega
set_option maxRecDepth 100000 in
/-- GatheredPointsModel.shut [(1, 1), (0, 0), (0, 0)] -/
theorem zm3083_4 {z : gH} {L d : Nat} {K : Option gV → gH → Prop} {s : gH}  (hs : zM z s)   (k : K (some (gp_i 0)) s) : gs_C L d 3083 4 [gp_r (some 74), gp_i 1, gp_i 0, gp_i 0] s K := by
  refine s_3083_e _ _ _ ?_
  refine ⟨fun h_1 => ?_, fun h_1 => ?_⟩
  · have w_2 := gz_w (64 * 1)
    have e_3 : gp_wr (64 * 1) = 64 := by omega
    try rw [e_3]
    have w_4 := gz_w (64 + 0)
    have e_5 : gp_wr (64 + 0) = 64 := by omega
    try rw [e_5]
    refine ⟨by omega, ?_⟩
    have f_6 := zr78 hs ((64 : Int).toNat)
    have e_7 : gp_I s 78 (64 : Int).toNat = 0 := by omega
    try rw [e_7]
    refine s_3083_29 _ _ _ _ ?_
    exact k
  · exfalso; omega
set_option maxRecDepth 100000 in
/-- GatheredPointsModel.side [(1, 1), (0, 0), (1, 1)] -/
theorem zm3082_5 {z : gH} {L d : Nat} {K : Option gV → gH → Prop} {s : gH}  (hs : zM z s)   (k : K (some (gp_l (0#64))) s) : gs_C L d 3082 4 [gp_r (some 74), gp_i 1, gp_i 0, gp_i 1] s K := by
  refine s_3082_e _ _ _ ?_
  refine ⟨fun h_1 => ?_, fun h_1 => ?_⟩
  · exfalso; omega
  · have w_2 := gz_w (64 * 1)
    have e_3 : gp_wr (64 * 1) = 64 := by omega
    try rw [e_3]
    have w_4 := gz_w (64 + 0)
    have e_5 : gp_wr (64 + 0) = 64 := by omega
    try rw [e_5]
    refine ⟨by omega, ?_⟩
    try rw [zr77 hs ((64 : Int).toNat)]
    refine s_3082_29 _ _ _ _ ?_
    exact k
set_option maxRecDepth 100000 in
/-- GatheredPointsModel.shut [(1, 1), (0, 0), (1, 1)] -/
theorem zm3083_5 {z : gH} {L d : Nat} {K : Option gV → gH → Prop} {s : gH}  (hs : zM z s)   (k : K (some (gp_i 0)) s) : gs_C L d 3083 4 [gp_r (some 74), gp_i 1, gp_i 0, gp_i 1] s K := by
  refine s_3083_e _ _ _ ?_
  refine ⟨fun h_1 => ?_, fun h_1 => ?_⟩
  · exfalso; omega
  · have w_2 := gz_w (64 * 1)
    have e_3 : gp_wr (64 * 1) = 64 := by omega
    try rw [e_3]
    have w_4 := gz_w (64 + 0)
    have e_5 : gp_wr (64 + 0) = 64 := by omega
    try rw [e_5]
    refine ⟨by omega, ?_⟩
    have f_6 := zr79 hs ((64 : Int).toNat)
    have e_7 : gp_I s 79 (64 : Int).toNat = 0 := by omega
    try rw [e_7]
    refine s_3083_29 _ _ _ _ ?_
    exact k
set_option maxRecDepth 100000 in
/-- GatheredPointsModel.isSure [(1, 1)] -/
theorem zm3103_2 {z : gH} {L d : Nat} {K : Option gV → gH → Prop} {s : gH}  (hs : zM z s)  (q0 : gp_I s 81 20 = 0) (k : K (some (gp_i 1)) s) : gs_C L (d + 1) 3103 9 [gp_r (some 74), gp_i 1] s K := by
  refine s_3103_e _ ?_
  refine s_3103_2 _ _ _ _ _ _ _ _ ?_
  refine ⟨by omega, ?_⟩
  have f_1 := zr81 hs ((1 : Int).toNat)
  have e_2 : gp_I s 81 (1 : Int).toNat = 1 := by omega
  try rw [e_2]
  refine ⟨fun h_3 => ?_, fun h_3 => ?_⟩
  · have w_4 := gz_w (64 * 1)
    have e_5 : gp_wr (64 * 1) = 64 := by omega
    try rw [e_5]
    have w_6 := gz_w (64 + 0)
    have e_7 : gp_wr (64 + 0) = 64 := by omega
    try rw [e_7]
    have e_8 : (1#64) <<< ((0 : Int) % 64).toNat = 1#64 := by decide
    try rw [e_8]
    refine s_3103_27 _ _ _ _ _ _ _ ?_
    refine ⟨fun h_9 => ?_, fun h_9 => ?_⟩
    · exfalso; omega
    · refine zm3078_5 hs (⟨_, rfl, ?_⟩)
      refine ⟨fun h_10 => ?_, fun h_10 => ?_⟩
      · exfalso; omega
      · have w_11 := gz_w (64 * 1)
        have e_12 : gp_wr (64 * 1) = 64 := by omega
        try rw [e_12]
        have w_13 := gz_w (64 + 0)
        have e_14 : gp_wr (64 + 0) = 64 := by omega
        try rw [e_14]
        refine ⟨by omega, ?_⟩
        try rw [zr76 hs ((64 : Int).toNat)]
        have w_15 := gz_w (64 * 1)
        have e_16 : gp_wr (64 * 1) = 64 := by omega
        try rw [e_16]
        have w_17 := gz_w (64 + 0)
        have e_18 : gp_wr (64 + 0) = 64 := by omega
        try rw [e_18]
        refine ⟨by omega, ?_⟩
        try rw [zr77 hs ((64 : Int).toNat)]
        have e_19 : (0#64) ||| (0#64) = 0#64 := by decide
        try rw [e_19]
        refine s_3103_73 _ _ _ _ _ _ _ _ _ ?_
        have e_20 : (1#64) ||| (0#64) = 1#64 := by decide
        try rw [e_20]
        have w_21 := gz_w (0 + (-1))
        have e_22 : gp_wr (0 + (-1)) = (-1) := by omega
        try rw [e_22]
        refine s_3103_27 _ _ _ _ _ _ _ ?_
        refine ⟨fun h_23 => ?_, fun h_23 => ?_⟩
        · refine s_3103_85 _ _ _ _ _ _ _ ?_
          refine ⟨fun h_24 => ?_, fun h_24 => ?_⟩
          · exfalso; omega
          · refine s_3103_94 _ _ _ _ _ _ _ ?_
            refine ⟨fun h_25 => ?_, fun h_25 => ?_⟩
            · refine zm3078_5 hs (⟨_, rfl, ?_⟩)
              refine ⟨fun h_26 => ?_, fun h_26 => ?_⟩
              · exfalso; omega
              · refine zm3082_4 hs (⟨_, rfl, ?_⟩)
                have e_27 : gp_cmp (0#64) (0#64) = 0 := by decide
                try rw [e_27]
                refine ⟨fun h_28 => ?_, fun h_28 => ?_⟩
                · refine s_3103_129 _ _ _ _ _ _ _ _ ?_
                  refine ⟨fun h_29 => ?_, fun h_29 => ?_⟩
                  · exfalso; omega
                  · refine ⟨by omega, ?_⟩
                    try rw [zr76 hs ((64 : Int).toNat)]
                    have e_30 : gp_cmp (0#64) (0#64) = 0 := by decide
                    try rw [e_30]
                    refine ⟨fun h_31 => ?_, fun h_31 => ?_⟩
                    · refine zm3083_4 hs (⟨_, rfl, ?_⟩)
                      refine ⟨by omega, ?_⟩
                      have f_32 := zr78 hs ((64 : Int).toNat)
                      have e_33 : gp_I s 78 (64 : Int).toNat = 0 := by omega
                      try rw [e_33]
                      refine ⟨fun h_34 => ?_, fun h_34 => ?_⟩
                      · exfalso; omega
                      · refine s_3103_165 _ _ _ _ _ _ _ ?_
                        refine ⟨by omega, ?_⟩
                        try rw [zr77 hs ((64 : Int).toNat)]
                        have e_35 : gp_cmp (0#64) (0#64) = 0 := by decide
                        try rw [e_35]
                        refine ⟨fun h_36 => ?_, fun h_36 => ?_⟩
                        · refine zm3083_4 hs (⟨_, rfl, ?_⟩)
                          refine ⟨by omega, ?_⟩
                          have f_37 := zr79 hs ((64 : Int).toNat)
                          have e_38 : gp_I s 79 (64 : Int).toNat = 0 := by omega
                          try rw [e_38]
                          refine ⟨fun h_39 => ?_, fun h_39 => ?_⟩
                          · exfalso; omega
                          · refine s_3103_196 _ _ _ _ _ _ _ ?_
                            have w_40 := gz_w (0 + 1)
                            have e_41 : gp_wr (0 + 1) = 1 := by omega
                            try rw [e_41]
                            refine s_3103_94 _ _ _ _ _ _ _ ?_
                            refine ⟨fun h_42 => ?_, fun h_42 => ?_⟩
                            · refine zm3078_5 hs (⟨_, rfl, ?_⟩)
                              refine ⟨fun h_43 => ?_, fun h_43 => ?_⟩
                              · exfalso; omega
                              · refine zm3082_5 hs (⟨_, rfl, ?_⟩)
                                have e_44 : gp_cmp (0#64) (0#64) = 0 := by decide
                                try rw [e_44]
                                refine ⟨fun h_45 => ?_, fun h_45 => ?_⟩
                                · refine s_3103_129 _ _ _ _ _ _ _ _ ?_
                                  refine ⟨fun h_46 => ?_, fun h_46 => ?_⟩
                                  · exfalso; omega
                                  · refine ⟨by omega, ?_⟩
                                    try rw [zr76 hs ((64 : Int).toNat)]
                                    have e_47 : gp_cmp (0#64) (0#64) = 0 := by decide
                                    try rw [e_47]
                                    refine ⟨fun h_48 => ?_, fun h_48 => ?_⟩
                                    · refine zm3083_5 hs (⟨_, rfl, ?_⟩)
                                      refine ⟨by omega, ?_⟩
                                      have f_49 := zr78 hs ((64 : Int).toNat)
                                      have e_50 : gp_I s 78 (64 : Int).toNat = 0 := by omega
                                      try rw [e_50]
                                      refine ⟨fun h_51 => ?_, fun h_51 => ?_⟩
                                      · exfalso; omega
                                      · refine s_3103_165 _ _ _ _ _ _ _ ?_
                                        refine ⟨by omega, ?_⟩
                                        try rw [zr77 hs ((64 : Int).toNat)]
                                        have e_52 : gp_cmp (0#64) (0#64) = 0 := by decide
                                        try rw [e_52]
                                        refine ⟨fun h_53 => ?_, fun h_53 => ?_⟩
                                        · refine zm3083_5 hs (⟨_, rfl, ?_⟩)
                                          refine ⟨by omega, ?_⟩
                                          have f_54 := zr79 hs ((64 : Int).toNat)
                                          have e_55 : gp_I s 79 (64 : Int).toNat = 0 := by omega
                                          try rw [e_55]
                                          refine ⟨fun h_56 => ?_, fun h_56 => ?_⟩
                                          · exfalso; omega
                                          · refine s_3103_196 _ _ _ _ _ _ _ ?_
                                            have w_57 := gz_w (1 + 1)
                                            have e_58 : gp_wr (1 + 1) = 2 := by omega
                                            try rw [e_58]
                                            refine s_3103_94 _ _ _ _ _ _ _ ?_
                                            refine ⟨fun h_59 => ?_, fun h_59 => ?_⟩
                                            · exfalso; omega
                                            · refine s_3103_202 _ _ _ _ _ _ _ ?_
                                              have w_60 := gz_w (0 + 1)
                                              have e_61 : gp_wr (0 + 1) = 1 := by omega
                                              try rw [e_61]
                                              refine s_3103_85 _ _ _ _ _ _ _ ?_
                                              refine ⟨fun h_62 => ?_, fun h_62 => ?_⟩
                                              · have w_63 := gz_w (0 + 1)
                                                have e_64 : gp_wr (0 + 1) = 1 := by omega
                                                try rw [e_64]
                                                refine s_3103_2 _ _ _ _ _ _ _ _ ?_
                                                refine ⟨by omega, ?_⟩
                                                have f_65 := zr81 hs ((1 : Int).toNat)
                                                have e_66 : gp_I s 81 (1 : Int).toNat = 1 := by omega
                                                try rw [e_66]
                                                refine ⟨fun h_67 => ?_, fun h_67 => ?_⟩
                                                · exfalso; omega
                                                · exact k
                                              · exfalso; omega
                                        · exfalso; omega
                                    · exfalso; omega
                                · exfalso; omega
                            · exfalso; omega
                        · exfalso; omega
                    · exfalso; omega
                · exfalso; omega
            · exfalso; omega
        · exfalso; omega
  · exfalso; omega
set_option maxRecDepth 100000 in
/-- GatheredPointsModel.side [(2, 2), (0, 0), (0, 0)] -/
theorem zm3082_6 {z : gH} {L d : Nat} {K : Option gV → gH → Prop} {s : gH}  (hs : zM z s)   (k : K (some (gp_l (0#64))) s) : gs_C L d 3082 4 [gp_r (some 74), gp_i 2, gp_i 0, gp_i 0] s K := by
  refine s_3082_e _ _ _ ?_
  refine ⟨fun h_1 => ?_, fun h_1 => ?_⟩
  · have w_2 := gz_w (64 * 2)
    have e_3 : gp_wr (64 * 2) = 128 := by omega
    try rw [e_3]
    have w_4 := gz_w (128 + 0)
    have e_5 : gp_wr (128 + 0) = 128 := by omega
    try rw [e_5]
    refine ⟨by omega, ?_⟩
    try rw [zr76 hs ((128 : Int).toNat)]
    refine s_3082_29 _ _ _ _ ?_
    exact k
  · exfalso; omega
set_option maxRecDepth 100000 in
/-- GatheredPointsModel.shut [(2, 2), (0, 0), (0, 0)] -/
theorem zm3083_6 {z : gH} {L d : Nat} {K : Option gV → gH → Prop} {s : gH}  (hs : zM z s)   (k : K (some (gp_i 0)) s) : gs_C L d 3083 4 [gp_r (some 74), gp_i 2, gp_i 0, gp_i 0] s K := by
  refine s_3083_e _ _ _ ?_
  refine ⟨fun h_1 => ?_, fun h_1 => ?_⟩
  · have w_2 := gz_w (64 * 2)
    have e_3 : gp_wr (64 * 2) = 128 := by omega
    try rw [e_3]
    have w_4 := gz_w (128 + 0)
    have e_5 : gp_wr (128 + 0) = 128 := by omega
    try rw [e_5]
    refine ⟨by omega, ?_⟩
    have f_6 := zr78 hs ((128 : Int).toNat)
    have e_7 : gp_I s 78 (128 : Int).toNat = 0 := by omega
    try rw [e_7]
    refine s_3083_29 _ _ _ _ ?_
    exact k
  · exfalso; omega
set_option maxRecDepth 100000 in
/-- GatheredPointsModel.side [(2, 2), (0, 0), (1, 1)] -/
theorem zm3082_7 {z : gH} {L d : Nat} {K : Option gV → gH → Prop} {s : gH}  (hs : zM z s)   (k : K (some (gp_l (0#64))) s) : gs_C L d 3082 4 [gp_r (some 74), gp_i 2, gp_i 0, gp_i 1] s K := by
  refine s_3082_e _ _ _ ?_
  refine ⟨fun h_1 => ?_, fun h_1 => ?_⟩
  · exfalso; omega
  · have w_2 := gz_w (64 * 2)
    have e_3 : gp_wr (64 * 2) = 128 := by omega
    try rw [e_3]
    have w_4 := gz_w (128 + 0)
    have e_5 : gp_wr (128 + 0) = 128 := by omega
    try rw [e_5]
    refine ⟨by omega, ?_⟩
    try rw [zr77 hs ((128 : Int).toNat)]
    refine s_3082_29 _ _ _ _ ?_
    exact k
set_option maxRecDepth 100000 in
/-- GatheredPointsModel.shut [(2, 2), (0, 0), (1, 1)] -/
theorem zm3083_7 {z : gH} {L d : Nat} {K : Option gV → gH → Prop} {s : gH}  (hs : zM z s)   (k : K (some (gp_i 0)) s) : gs_C L d 3083 4 [gp_r (some 74), gp_i 2, gp_i 0, gp_i 1] s K := by
  refine s_3083_e _ _ _ ?_
  refine ⟨fun h_1 => ?_, fun h_1 => ?_⟩
  · exfalso; omega
  · have w_2 := gz_w (64 * 2)
    have e_3 : gp_wr (64 * 2) = 128 := by omega
    try rw [e_3]
    have w_4 := gz_w (128 + 0)
    have e_5 : gp_wr (128 + 0) = 128 := by omega
    try rw [e_5]
    refine ⟨by omega, ?_⟩
    have f_6 := zr79 hs ((128 : Int).toNat)
    have e_7 : gp_I s 79 (128 : Int).toNat = 0 := by omega
    try rw [e_7]
    refine s_3083_29 _ _ _ _ ?_
    exact k
set_option maxRecDepth 100000 in
/-- GatheredPointsModel.isSure [(2, 2)] -/
theorem zm3103_3 {z : gH} {L d : Nat} {K : Option gV → gH → Prop} {s : gH}  (hs : zM z s)  (q0 : gp_I s 81 20 = 0) (k : K (some (gp_i 1)) s) : gs_C L (d + 1) 3103 9 [gp_r (some 74), gp_i 2] s K := by
  refine s_3103_e _ ?_
  refine s_3103_2 _ _ _ _ _ _ _ _ ?_
  refine ⟨by omega, ?_⟩
  have f_1 := zr81 hs ((2 : Int).toNat)
  have e_2 : gp_I s 81 (2 : Int).toNat = 1 := by omega
  try rw [e_2]
  refine ⟨fun h_3 => ?_, fun h_3 => ?_⟩
  · have w_4 := gz_w (64 * 2)
    have e_5 : gp_wr (64 * 2) = 128 := by omega
    try rw [e_5]
    have w_6 := gz_w (128 + 0)
    have e_7 : gp_wr (128 + 0) = 128 := by omega
    try rw [e_7]
    have e_8 : (1#64) <<< ((0 : Int) % 64).toNat = 1#64 := by decide
    try rw [e_8]
    refine s_3103_27 _ _ _ _ _ _ _ ?_
    refine ⟨fun h_9 => ?_, fun h_9 => ?_⟩
    · exfalso; omega
    · refine zm3078_5 hs (⟨_, rfl, ?_⟩)
      refine ⟨fun h_10 => ?_, fun h_10 => ?_⟩
      · exfalso; omega
      · have w_11 := gz_w (64 * 2)
        have e_12 : gp_wr (64 * 2) = 128 := by omega
        try rw [e_12]
        have w_13 := gz_w (128 + 0)
        have e_14 : gp_wr (128 + 0) = 128 := by omega
        try rw [e_14]
        refine ⟨by omega, ?_⟩
        try rw [zr76 hs ((128 : Int).toNat)]
        have w_15 := gz_w (64 * 2)
        have e_16 : gp_wr (64 * 2) = 128 := by omega
        try rw [e_16]
        have w_17 := gz_w (128 + 0)
        have e_18 : gp_wr (128 + 0) = 128 := by omega
        try rw [e_18]
        refine ⟨by omega, ?_⟩
        try rw [zr77 hs ((128 : Int).toNat)]
        have e_19 : (0#64) ||| (0#64) = 0#64 := by decide
        try rw [e_19]
        refine s_3103_73 _ _ _ _ _ _ _ _ _ ?_
        have e_20 : (1#64) ||| (0#64) = 1#64 := by decide
        try rw [e_20]
        have w_21 := gz_w (0 + (-1))
        have e_22 : gp_wr (0 + (-1)) = (-1) := by omega
        try rw [e_22]
        refine s_3103_27 _ _ _ _ _ _ _ ?_
        refine ⟨fun h_23 => ?_, fun h_23 => ?_⟩
        · refine s_3103_85 _ _ _ _ _ _ _ ?_
          refine ⟨fun h_24 => ?_, fun h_24 => ?_⟩
          · exfalso; omega
          · refine s_3103_94 _ _ _ _ _ _ _ ?_
            refine ⟨fun h_25 => ?_, fun h_25 => ?_⟩
            · refine zm3078_5 hs (⟨_, rfl, ?_⟩)
              refine ⟨fun h_26 => ?_, fun h_26 => ?_⟩
              · exfalso; omega
              · refine zm3082_6 hs (⟨_, rfl, ?_⟩)
                have e_27 : gp_cmp (0#64) (0#64) = 0 := by decide
                try rw [e_27]
                refine ⟨fun h_28 => ?_, fun h_28 => ?_⟩
                · refine s_3103_129 _ _ _ _ _ _ _ _ ?_
                  refine ⟨fun h_29 => ?_, fun h_29 => ?_⟩
                  · exfalso; omega
                  · refine ⟨by omega, ?_⟩
                    try rw [zr76 hs ((128 : Int).toNat)]
                    have e_30 : gp_cmp (0#64) (0#64) = 0 := by decide
                    try rw [e_30]
                    refine ⟨fun h_31 => ?_, fun h_31 => ?_⟩
                    · refine zm3083_6 hs (⟨_, rfl, ?_⟩)
                      refine ⟨by omega, ?_⟩
                      have f_32 := zr78 hs ((128 : Int).toNat)
                      have e_33 : gp_I s 78 (128 : Int).toNat = 0 := by omega
                      try rw [e_33]
                      refine ⟨fun h_34 => ?_, fun h_34 => ?_⟩
                      · exfalso; omega
                      · refine s_3103_165 _ _ _ _ _ _ _ ?_
                        refine ⟨by omega, ?_⟩
                        try rw [zr77 hs ((128 : Int).toNat)]
                        have e_35 : gp_cmp (0#64) (0#64) = 0 := by decide
                        try rw [e_35]
                        refine ⟨fun h_36 => ?_, fun h_36 => ?_⟩
                        · refine zm3083_6 hs (⟨_, rfl, ?_⟩)
                          refine ⟨by omega, ?_⟩
                          have f_37 := zr79 hs ((128 : Int).toNat)
                          have e_38 : gp_I s 79 (128 : Int).toNat = 0 := by omega
                          try rw [e_38]
                          refine ⟨fun h_39 => ?_, fun h_39 => ?_⟩
                          · exfalso; omega
                          · refine s_3103_196 _ _ _ _ _ _ _ ?_
                            have w_40 := gz_w (0 + 1)
                            have e_41 : gp_wr (0 + 1) = 1 := by omega
                            try rw [e_41]
                            refine s_3103_94 _ _ _ _ _ _ _ ?_
                            refine ⟨fun h_42 => ?_, fun h_42 => ?_⟩
                            · refine zm3078_5 hs (⟨_, rfl, ?_⟩)
                              refine ⟨fun h_43 => ?_, fun h_43 => ?_⟩
                              · exfalso; omega
                              · refine zm3082_7 hs (⟨_, rfl, ?_⟩)
                                have e_44 : gp_cmp (0#64) (0#64) = 0 := by decide
                                try rw [e_44]
                                refine ⟨fun h_45 => ?_, fun h_45 => ?_⟩
                                · refine s_3103_129 _ _ _ _ _ _ _ _ ?_
                                  refine ⟨fun h_46 => ?_, fun h_46 => ?_⟩
                                  · exfalso; omega
                                  · refine ⟨by omega, ?_⟩
                                    try rw [zr76 hs ((128 : Int).toNat)]
                                    have e_47 : gp_cmp (0#64) (0#64) = 0 := by decide
                                    try rw [e_47]
                                    refine ⟨fun h_48 => ?_, fun h_48 => ?_⟩
                                    · refine zm3083_7 hs (⟨_, rfl, ?_⟩)
                                      refine ⟨by omega, ?_⟩
                                      have f_49 := zr78 hs ((128 : Int).toNat)
                                      have e_50 : gp_I s 78 (128 : Int).toNat = 0 := by omega
                                      try rw [e_50]
                                      refine ⟨fun h_51 => ?_, fun h_51 => ?_⟩
                                      · exfalso; omega
                                      · refine s_3103_165 _ _ _ _ _ _ _ ?_
                                        refine ⟨by omega, ?_⟩
                                        try rw [zr77 hs ((128 : Int).toNat)]
                                        have e_52 : gp_cmp (0#64) (0#64) = 0 := by decide
                                        try rw [e_52]
                                        refine ⟨fun h_53 => ?_, fun h_53 => ?_⟩
                                        · refine zm3083_7 hs (⟨_, rfl, ?_⟩)
                                          refine ⟨by omega, ?_⟩
                                          have f_54 := zr79 hs ((128 : Int).toNat)
                                          have e_55 : gp_I s 79 (128 : Int).toNat = 0 := by omega
                                          try rw [e_55]
                                          refine ⟨fun h_56 => ?_, fun h_56 => ?_⟩
                                          · exfalso; omega
                                          · refine s_3103_196 _ _ _ _ _ _ _ ?_
                                            have w_57 := gz_w (1 + 1)
                                            have e_58 : gp_wr (1 + 1) = 2 := by omega
                                            try rw [e_58]
                                            refine s_3103_94 _ _ _ _ _ _ _ ?_
                                            refine ⟨fun h_59 => ?_, fun h_59 => ?_⟩
                                            · exfalso; omega
                                            · refine s_3103_202 _ _ _ _ _ _ _ ?_
                                              have w_60 := gz_w (0 + 1)
                                              have e_61 : gp_wr (0 + 1) = 1 := by omega
                                              try rw [e_61]
                                              refine s_3103_85 _ _ _ _ _ _ _ ?_
                                              refine ⟨fun h_62 => ?_, fun h_62 => ?_⟩
                                              · have w_63 := gz_w (0 + 1)
                                                have e_64 : gp_wr (0 + 1) = 1 := by omega
                                                try rw [e_64]
                                                refine s_3103_2 _ _ _ _ _ _ _ _ ?_
                                                refine ⟨by omega, ?_⟩
                                                have f_65 := zr81 hs ((2 : Int).toNat)
                                                have e_66 : gp_I s 81 (2 : Int).toNat = 1 := by omega
                                                try rw [e_66]
                                                refine ⟨fun h_67 => ?_, fun h_67 => ?_⟩
                                                · exfalso; omega
                                                · exact k
                                              · exfalso; omega
                                        · exfalso; omega
                                    · exfalso; omega
                                · exfalso; omega
                            · exfalso; omega
                        · exfalso; omega
                    · exfalso; omega
                · exfalso; omega
            · exfalso; omega
        · exfalso; omega
  · exfalso; omega
set_option maxRecDepth 100000 in
/-- GatheredPointsModel.side [(3, 3), (0, 0), (0, 0)] -/
theorem zm3082_8 {z : gH} {L d : Nat} {K : Option gV → gH → Prop} {s : gH}  (hs : zM z s)   (k : K (some (gp_l (0#64))) s) : gs_C L d 3082 4 [gp_r (some 74), gp_i 3, gp_i 0, gp_i 0] s K := by
  refine s_3082_e _ _ _ ?_
  refine ⟨fun h_1 => ?_, fun h_1 => ?_⟩
  · have w_2 := gz_w (64 * 3)
    have e_3 : gp_wr (64 * 3) = 192 := by omega
    try rw [e_3]
    have w_4 := gz_w (192 + 0)
    have e_5 : gp_wr (192 + 0) = 192 := by omega
    try rw [e_5]
    refine ⟨by omega, ?_⟩
    try rw [zr76 hs ((192 : Int).toNat)]
    refine s_3082_29 _ _ _ _ ?_
    exact k
  · exfalso; omega
set_option maxRecDepth 100000 in
/-- GatheredPointsModel.shut [(3, 3), (0, 0), (0, 0)] -/
theorem zm3083_8 {z : gH} {L d : Nat} {K : Option gV → gH → Prop} {s : gH}  (hs : zM z s)   (k : K (some (gp_i 0)) s) : gs_C L d 3083 4 [gp_r (some 74), gp_i 3, gp_i 0, gp_i 0] s K := by
  refine s_3083_e _ _ _ ?_
  refine ⟨fun h_1 => ?_, fun h_1 => ?_⟩
  · have w_2 := gz_w (64 * 3)
    have e_3 : gp_wr (64 * 3) = 192 := by omega
    try rw [e_3]
    have w_4 := gz_w (192 + 0)
    have e_5 : gp_wr (192 + 0) = 192 := by omega
    try rw [e_5]
    refine ⟨by omega, ?_⟩
    have f_6 := zr78 hs ((192 : Int).toNat)
    have e_7 : gp_I s 78 (192 : Int).toNat = 0 := by omega
    try rw [e_7]
    refine s_3083_29 _ _ _ _ ?_
    exact k
  · exfalso; omega
set_option maxRecDepth 100000 in
/-- GatheredPointsModel.side [(3, 3), (0, 0), (1, 1)] -/
theorem zm3082_9 {z : gH} {L d : Nat} {K : Option gV → gH → Prop} {s : gH}  (hs : zM z s)   (k : K (some (gp_l (0#64))) s) : gs_C L d 3082 4 [gp_r (some 74), gp_i 3, gp_i 0, gp_i 1] s K := by
  refine s_3082_e _ _ _ ?_
  refine ⟨fun h_1 => ?_, fun h_1 => ?_⟩
  · exfalso; omega
  · have w_2 := gz_w (64 * 3)
    have e_3 : gp_wr (64 * 3) = 192 := by omega
    try rw [e_3]
    have w_4 := gz_w (192 + 0)
    have e_5 : gp_wr (192 + 0) = 192 := by omega
    try rw [e_5]
    refine ⟨by omega, ?_⟩
    try rw [zr77 hs ((192 : Int).toNat)]
    refine s_3082_29 _ _ _ _ ?_
    exact k
set_option maxRecDepth 100000 in
/-- GatheredPointsModel.shut [(3, 3), (0, 0), (1, 1)] -/
theorem zm3083_9 {z : gH} {L d : Nat} {K : Option gV → gH → Prop} {s : gH}  (hs : zM z s)   (k : K (some (gp_i 0)) s) : gs_C L d 3083 4 [gp_r (some 74), gp_i 3, gp_i 0, gp_i 1] s K := by
  refine s_3083_e _ _ _ ?_
  refine ⟨fun h_1 => ?_, fun h_1 => ?_⟩
  · exfalso; omega
  · have w_2 := gz_w (64 * 3)
    have e_3 : gp_wr (64 * 3) = 192 := by omega
    try rw [e_3]
    have w_4 := gz_w (192 + 0)
    have e_5 : gp_wr (192 + 0) = 192 := by omega
    try rw [e_5]
    refine ⟨by omega, ?_⟩
    have f_6 := zr79 hs ((192 : Int).toNat)
    have e_7 : gp_I s 79 (192 : Int).toNat = 0 := by omega
    try rw [e_7]
    refine s_3083_29 _ _ _ _ ?_
    exact k
set_option maxRecDepth 100000 in
/-- GatheredPointsModel.isSure [(3, 3)] -/
theorem zm3103_4 {z : gH} {L d : Nat} {K : Option gV → gH → Prop} {s : gH}  (hs : zM z s)  (q0 : gp_I s 81 20 = 0) (k : K (some (gp_i 1)) s) : gs_C L (d + 1) 3103 9 [gp_r (some 74), gp_i 3] s K := by
  refine s_3103_e _ ?_
  refine s_3103_2 _ _ _ _ _ _ _ _ ?_
  refine ⟨by omega, ?_⟩
  have f_1 := zr81 hs ((3 : Int).toNat)
  have e_2 : gp_I s 81 (3 : Int).toNat = 1 := by omega
  try rw [e_2]
  refine ⟨fun h_3 => ?_, fun h_3 => ?_⟩
  · have w_4 := gz_w (64 * 3)
    have e_5 : gp_wr (64 * 3) = 192 := by omega
    try rw [e_5]
    have w_6 := gz_w (192 + 0)
    have e_7 : gp_wr (192 + 0) = 192 := by omega
    try rw [e_7]
    have e_8 : (1#64) <<< ((0 : Int) % 64).toNat = 1#64 := by decide
    try rw [e_8]
    refine s_3103_27 _ _ _ _ _ _ _ ?_
    refine ⟨fun h_9 => ?_, fun h_9 => ?_⟩
    · exfalso; omega
    · refine zm3078_5 hs (⟨_, rfl, ?_⟩)
      refine ⟨fun h_10 => ?_, fun h_10 => ?_⟩
      · exfalso; omega
      · have w_11 := gz_w (64 * 3)
        have e_12 : gp_wr (64 * 3) = 192 := by omega
        try rw [e_12]
        have w_13 := gz_w (192 + 0)
        have e_14 : gp_wr (192 + 0) = 192 := by omega
        try rw [e_14]
        refine ⟨by omega, ?_⟩
        try rw [zr76 hs ((192 : Int).toNat)]
        have w_15 := gz_w (64 * 3)
        have e_16 : gp_wr (64 * 3) = 192 := by omega
        try rw [e_16]
        have w_17 := gz_w (192 + 0)
        have e_18 : gp_wr (192 + 0) = 192 := by omega
        try rw [e_18]
        refine ⟨by omega, ?_⟩
        try rw [zr77 hs ((192 : Int).toNat)]
        have e_19 : (0#64) ||| (0#64) = 0#64 := by decide
        try rw [e_19]
        refine s_3103_73 _ _ _ _ _ _ _ _ _ ?_
        have e_20 : (1#64) ||| (0#64) = 1#64 := by decide
        try rw [e_20]
        have w_21 := gz_w (0 + (-1))
        have e_22 : gp_wr (0 + (-1)) = (-1) := by omega
        try rw [e_22]
        refine s_3103_27 _ _ _ _ _ _ _ ?_
        refine ⟨fun h_23 => ?_, fun h_23 => ?_⟩
        · refine s_3103_85 _ _ _ _ _ _ _ ?_
          refine ⟨fun h_24 => ?_, fun h_24 => ?_⟩
          · exfalso; omega
          · refine s_3103_94 _ _ _ _ _ _ _ ?_
            refine ⟨fun h_25 => ?_, fun h_25 => ?_⟩
            · refine zm3078_5 hs (⟨_, rfl, ?_⟩)
              refine ⟨fun h_26 => ?_, fun h_26 => ?_⟩
              · exfalso; omega
              · refine zm3082_8 hs (⟨_, rfl, ?_⟩)
                have e_27 : gp_cmp (0#64) (0#64) = 0 := by decide
                try rw [e_27]
                refine ⟨fun h_28 => ?_, fun h_28 => ?_⟩
                · refine s_3103_129 _ _ _ _ _ _ _ _ ?_
                  refine ⟨fun h_29 => ?_, fun h_29 => ?_⟩
                  · exfalso; omega
                  · refine ⟨by omega, ?_⟩
                    try rw [zr76 hs ((192 : Int).toNat)]
                    have e_30 : gp_cmp (0#64) (0#64) = 0 := by decide
                    try rw [e_30]
                    refine ⟨fun h_31 => ?_, fun h_31 => ?_⟩
                    · refine zm3083_8 hs (⟨_, rfl, ?_⟩)
                      refine ⟨by omega, ?_⟩
                      have f_32 := zr78 hs ((192 : Int).toNat)
                      have e_33 : gp_I s 78 (192 : Int).toNat = 0 := by omega
                      try rw [e_33]
                      refine ⟨fun h_34 => ?_, fun h_34 => ?_⟩
                      · exfalso; omega
                      · refine s_3103_165 _ _ _ _ _ _ _ ?_
                        refine ⟨by omega, ?_⟩
                        try rw [zr77 hs ((192 : Int).toNat)]
                        have e_35 : gp_cmp (0#64) (0#64) = 0 := by decide
                        try rw [e_35]
                        refine ⟨fun h_36 => ?_, fun h_36 => ?_⟩
                        · refine zm3083_8 hs (⟨_, rfl, ?_⟩)
                          refine ⟨by omega, ?_⟩
                          have f_37 := zr79 hs ((192 : Int).toNat)
                          have e_38 : gp_I s 79 (192 : Int).toNat = 0 := by omega
                          try rw [e_38]
                          refine ⟨fun h_39 => ?_, fun h_39 => ?_⟩
                          · exfalso; omega
                          · refine s_3103_196 _ _ _ _ _ _ _ ?_
                            have w_40 := gz_w (0 + 1)
                            have e_41 : gp_wr (0 + 1) = 1 := by omega
                            try rw [e_41]
                            refine s_3103_94 _ _ _ _ _ _ _ ?_
                            refine ⟨fun h_42 => ?_, fun h_42 => ?_⟩
                            · refine zm3078_5 hs (⟨_, rfl, ?_⟩)
                              refine ⟨fun h_43 => ?_, fun h_43 => ?_⟩
                              · exfalso; omega
                              · refine zm3082_9 hs (⟨_, rfl, ?_⟩)
                                have e_44 : gp_cmp (0#64) (0#64) = 0 := by decide
                                try rw [e_44]
                                refine ⟨fun h_45 => ?_, fun h_45 => ?_⟩
                                · refine s_3103_129 _ _ _ _ _ _ _ _ ?_
                                  refine ⟨fun h_46 => ?_, fun h_46 => ?_⟩
                                  · exfalso; omega
                                  · refine ⟨by omega, ?_⟩
                                    try rw [zr76 hs ((192 : Int).toNat)]
                                    have e_47 : gp_cmp (0#64) (0#64) = 0 := by decide
                                    try rw [e_47]
                                    refine ⟨fun h_48 => ?_, fun h_48 => ?_⟩
                                    · refine zm3083_9 hs (⟨_, rfl, ?_⟩)
                                      refine ⟨by omega, ?_⟩
                                      have f_49 := zr78 hs ((192 : Int).toNat)
                                      have e_50 : gp_I s 78 (192 : Int).toNat = 0 := by omega
                                      try rw [e_50]
                                      refine ⟨fun h_51 => ?_, fun h_51 => ?_⟩
                                      · exfalso; omega
                                      · refine s_3103_165 _ _ _ _ _ _ _ ?_
                                        refine ⟨by omega, ?_⟩
                                        try rw [zr77 hs ((192 : Int).toNat)]
                                        have e_52 : gp_cmp (0#64) (0#64) = 0 := by decide
                                        try rw [e_52]
                                        refine ⟨fun h_53 => ?_, fun h_53 => ?_⟩
                                        · refine zm3083_9 hs (⟨_, rfl, ?_⟩)
                                          refine ⟨by omega, ?_⟩
                                          have f_54 := zr79 hs ((192 : Int).toNat)
                                          have e_55 : gp_I s 79 (192 : Int).toNat = 0 := by omega
                                          try rw [e_55]
                                          refine ⟨fun h_56 => ?_, fun h_56 => ?_⟩
                                          · exfalso; omega
                                          · refine s_3103_196 _ _ _ _ _ _ _ ?_
                                            have w_57 := gz_w (1 + 1)
                                            have e_58 : gp_wr (1 + 1) = 2 := by omega
                                            try rw [e_58]
                                            refine s_3103_94 _ _ _ _ _ _ _ ?_
                                            refine ⟨fun h_59 => ?_, fun h_59 => ?_⟩
                                            · exfalso; omega
                                            · refine s_3103_202 _ _ _ _ _ _ _ ?_
                                              have w_60 := gz_w (0 + 1)
                                              have e_61 : gp_wr (0 + 1) = 1 := by omega
                                              try rw [e_61]
                                              refine s_3103_85 _ _ _ _ _ _ _ ?_
                                              refine ⟨fun h_62 => ?_, fun h_62 => ?_⟩
                                              · have w_63 := gz_w (0 + 1)
                                                have e_64 : gp_wr (0 + 1) = 1 := by omega
                                                try rw [e_64]
                                                refine s_3103_2 _ _ _ _ _ _ _ _ ?_
                                                refine ⟨by omega, ?_⟩
                                                have f_65 := zr81 hs ((3 : Int).toNat)
                                                have e_66 : gp_I s 81 (3 : Int).toNat = 1 := by omega
                                                try rw [e_66]
                                                refine ⟨fun h_67 => ?_, fun h_67 => ?_⟩
                                                · exfalso; omega
                                                · exact k
                                              · exfalso; omega
                                        · exfalso; omega
                                    · exfalso; omega
                                · exfalso; omega
                            · exfalso; omega
                        · exfalso; omega
                    · exfalso; omega
                · exfalso; omega
            · exfalso; omega
        · exfalso; omega
  · exfalso; omega
set_option maxRecDepth 100000 in
/-- GatheredPointsModel.side [(4, 4), (0, 0), (0, 0)] -/
theorem zm3082_10 {z : gH} {L d : Nat} {K : Option gV → gH → Prop} {s : gH}  (hs : zM z s)   (k : K (some (gp_l (0#64))) s) : gs_C L d 3082 4 [gp_r (some 74), gp_i 4, gp_i 0, gp_i 0] s K := by
  refine s_3082_e _ _ _ ?_
  refine ⟨fun h_1 => ?_, fun h_1 => ?_⟩
  · have w_2 := gz_w (64 * 4)
    have e_3 : gp_wr (64 * 4) = 256 := by omega
    try rw [e_3]
    have w_4 := gz_w (256 + 0)
    have e_5 : gp_wr (256 + 0) = 256 := by omega
    try rw [e_5]
    refine ⟨by omega, ?_⟩
    try rw [zr76 hs ((256 : Int).toNat)]
    refine s_3082_29 _ _ _ _ ?_
    exact k
  · exfalso; omega
set_option maxRecDepth 100000 in
/-- GatheredPointsModel.shut [(4, 4), (0, 0), (0, 0)] -/
theorem zm3083_10 {z : gH} {L d : Nat} {K : Option gV → gH → Prop} {s : gH}  (hs : zM z s)   (k : K (some (gp_i 0)) s) : gs_C L d 3083 4 [gp_r (some 74), gp_i 4, gp_i 0, gp_i 0] s K := by
  refine s_3083_e _ _ _ ?_
  refine ⟨fun h_1 => ?_, fun h_1 => ?_⟩
  · have w_2 := gz_w (64 * 4)
    have e_3 : gp_wr (64 * 4) = 256 := by omega
    try rw [e_3]
    have w_4 := gz_w (256 + 0)
    have e_5 : gp_wr (256 + 0) = 256 := by omega
    try rw [e_5]
    refine ⟨by omega, ?_⟩
    have f_6 := zr78 hs ((256 : Int).toNat)
    have e_7 : gp_I s 78 (256 : Int).toNat = 0 := by omega
    try rw [e_7]
    refine s_3083_29 _ _ _ _ ?_
    exact k
  · exfalso; omega
set_option maxRecDepth 100000 in
/-- GatheredPointsModel.side [(4, 4), (0, 0), (1, 1)] -/
theorem zm3082_11 {z : gH} {L d : Nat} {K : Option gV → gH → Prop} {s : gH}  (hs : zM z s)   (k : K (some (gp_l (0#64))) s) : gs_C L d 3082 4 [gp_r (some 74), gp_i 4, gp_i 0, gp_i 1] s K := by
  refine s_3082_e _ _ _ ?_
  refine ⟨fun h_1 => ?_, fun h_1 => ?_⟩
  · exfalso; omega
  · have w_2 := gz_w (64 * 4)
    have e_3 : gp_wr (64 * 4) = 256 := by omega
    try rw [e_3]
    have w_4 := gz_w (256 + 0)
    have e_5 : gp_wr (256 + 0) = 256 := by omega
    try rw [e_5]
    refine ⟨by omega, ?_⟩
    try rw [zr77 hs ((256 : Int).toNat)]
    refine s_3082_29 _ _ _ _ ?_
    exact k
set_option maxRecDepth 100000 in
/-- GatheredPointsModel.shut [(4, 4), (0, 0), (1, 1)] -/
theorem zm3083_11 {z : gH} {L d : Nat} {K : Option gV → gH → Prop} {s : gH}  (hs : zM z s)   (k : K (some (gp_i 0)) s) : gs_C L d 3083 4 [gp_r (some 74), gp_i 4, gp_i 0, gp_i 1] s K := by
  refine s_3083_e _ _ _ ?_
  refine ⟨fun h_1 => ?_, fun h_1 => ?_⟩
  · exfalso; omega
  · have w_2 := gz_w (64 * 4)
    have e_3 : gp_wr (64 * 4) = 256 := by omega
    try rw [e_3]
    have w_4 := gz_w (256 + 0)
    have e_5 : gp_wr (256 + 0) = 256 := by omega
    try rw [e_5]
    refine ⟨by omega, ?_⟩
    have f_6 := zr79 hs ((256 : Int).toNat)
    have e_7 : gp_I s 79 (256 : Int).toNat = 0 := by omega
    try rw [e_7]
    refine s_3083_29 _ _ _ _ ?_
    exact k
set_option maxRecDepth 100000 in
/-- GatheredPointsModel.isSure [(4, 4)] -/
theorem zm3103_5 {z : gH} {L d : Nat} {K : Option gV → gH → Prop} {s : gH}  (hs : zM z s)  (q0 : gp_I s 81 20 = 0) (k : K (some (gp_i 1)) s) : gs_C L (d + 1) 3103 9 [gp_r (some 74), gp_i 4] s K := by
  refine s_3103_e _ ?_
  refine s_3103_2 _ _ _ _ _ _ _ _ ?_
  refine ⟨by omega, ?_⟩
  have f_1 := zr81 hs ((4 : Int).toNat)
  have e_2 : gp_I s 81 (4 : Int).toNat = 1 := by omega
  try rw [e_2]
  refine ⟨fun h_3 => ?_, fun h_3 => ?_⟩
  · have w_4 := gz_w (64 * 4)
    have e_5 : gp_wr (64 * 4) = 256 := by omega
    try rw [e_5]
    have w_6 := gz_w (256 + 0)
    have e_7 : gp_wr (256 + 0) = 256 := by omega
    try rw [e_7]
    have e_8 : (1#64) <<< ((0 : Int) % 64).toNat = 1#64 := by decide
    try rw [e_8]
    refine s_3103_27 _ _ _ _ _ _ _ ?_
    refine ⟨fun h_9 => ?_, fun h_9 => ?_⟩
    · exfalso; omega
    · refine zm3078_5 hs (⟨_, rfl, ?_⟩)
      refine ⟨fun h_10 => ?_, fun h_10 => ?_⟩
      · exfalso; omega
      · have w_11 := gz_w (64 * 4)
        have e_12 : gp_wr (64 * 4) = 256 := by omega
        try rw [e_12]
        have w_13 := gz_w (256 + 0)
        have e_14 : gp_wr (256 + 0) = 256 := by omega
        try rw [e_14]
        refine ⟨by omega, ?_⟩
        try rw [zr76 hs ((256 : Int).toNat)]
        have w_15 := gz_w (64 * 4)
        have e_16 : gp_wr (64 * 4) = 256 := by omega
        try rw [e_16]
        have w_17 := gz_w (256 + 0)
        have e_18 : gp_wr (256 + 0) = 256 := by omega
        try rw [e_18]
        refine ⟨by omega, ?_⟩
        try rw [zr77 hs ((256 : Int).toNat)]
        have e_19 : (0#64) ||| (0#64) = 0#64 := by decide
        try rw [e_19]
        refine s_3103_73 _ _ _ _ _ _ _ _ _ ?_
        have e_20 : (1#64) ||| (0#64) = 1#64 := by decide
        try rw [e_20]
        have w_21 := gz_w (0 + (-1))
        have e_22 : gp_wr (0 + (-1)) = (-1) := by omega
        try rw [e_22]
        refine s_3103_27 _ _ _ _ _ _ _ ?_
        refine ⟨fun h_23 => ?_, fun h_23 => ?_⟩
        · refine s_3103_85 _ _ _ _ _ _ _ ?_
          refine ⟨fun h_24 => ?_, fun h_24 => ?_⟩
          · exfalso; omega
          · refine s_3103_94 _ _ _ _ _ _ _ ?_
            refine ⟨fun h_25 => ?_, fun h_25 => ?_⟩
            · refine zm3078_5 hs (⟨_, rfl, ?_⟩)
              refine ⟨fun h_26 => ?_, fun h_26 => ?_⟩
              · exfalso; omega
              · refine zm3082_10 hs (⟨_, rfl, ?_⟩)
                have e_27 : gp_cmp (0#64) (0#64) = 0 := by decide
                try rw [e_27]
                refine ⟨fun h_28 => ?_, fun h_28 => ?_⟩
                · refine s_3103_129 _ _ _ _ _ _ _ _ ?_
                  refine ⟨fun h_29 => ?_, fun h_29 => ?_⟩
                  · exfalso; omega
                  · refine ⟨by omega, ?_⟩
                    try rw [zr76 hs ((256 : Int).toNat)]
                    have e_30 : gp_cmp (0#64) (0#64) = 0 := by decide
                    try rw [e_30]
                    refine ⟨fun h_31 => ?_, fun h_31 => ?_⟩
                    · refine zm3083_10 hs (⟨_, rfl, ?_⟩)
                      refine ⟨by omega, ?_⟩
                      have f_32 := zr78 hs ((256 : Int).toNat)
                      have e_33 : gp_I s 78 (256 : Int).toNat = 0 := by omega
                      try rw [e_33]
                      refine ⟨fun h_34 => ?_, fun h_34 => ?_⟩
                      · exfalso; omega
                      · refine s_3103_165 _ _ _ _ _ _ _ ?_
                        refine ⟨by omega, ?_⟩
                        try rw [zr77 hs ((256 : Int).toNat)]
                        have e_35 : gp_cmp (0#64) (0#64) = 0 := by decide
                        try rw [e_35]
                        refine ⟨fun h_36 => ?_, fun h_36 => ?_⟩
                        · refine zm3083_10 hs (⟨_, rfl, ?_⟩)
                          refine ⟨by omega, ?_⟩
                          have f_37 := zr79 hs ((256 : Int).toNat)
                          have e_38 : gp_I s 79 (256 : Int).toNat = 0 := by omega
                          try rw [e_38]
                          refine ⟨fun h_39 => ?_, fun h_39 => ?_⟩
                          · exfalso; omega
                          · refine s_3103_196 _ _ _ _ _ _ _ ?_
                            have w_40 := gz_w (0 + 1)
                            have e_41 : gp_wr (0 + 1) = 1 := by omega
                            try rw [e_41]
                            refine s_3103_94 _ _ _ _ _ _ _ ?_
                            refine ⟨fun h_42 => ?_, fun h_42 => ?_⟩
                            · refine zm3078_5 hs (⟨_, rfl, ?_⟩)
                              refine ⟨fun h_43 => ?_, fun h_43 => ?_⟩
                              · exfalso; omega
                              · refine zm3082_11 hs (⟨_, rfl, ?_⟩)
                                have e_44 : gp_cmp (0#64) (0#64) = 0 := by decide
                                try rw [e_44]
                                refine ⟨fun h_45 => ?_, fun h_45 => ?_⟩
                                · refine s_3103_129 _ _ _ _ _ _ _ _ ?_
                                  refine ⟨fun h_46 => ?_, fun h_46 => ?_⟩
                                  · exfalso; omega
                                  · refine ⟨by omega, ?_⟩
                                    try rw [zr76 hs ((256 : Int).toNat)]
                                    have e_47 : gp_cmp (0#64) (0#64) = 0 := by decide
                                    try rw [e_47]
                                    refine ⟨fun h_48 => ?_, fun h_48 => ?_⟩
                                    · refine zm3083_11 hs (⟨_, rfl, ?_⟩)
                                      refine ⟨by omega, ?_⟩
                                      have f_49 := zr78 hs ((256 : Int).toNat)
                                      have e_50 : gp_I s 78 (256 : Int).toNat = 0 := by omega
                                      try rw [e_50]
                                      refine ⟨fun h_51 => ?_, fun h_51 => ?_⟩
                                      · exfalso; omega
                                      · refine s_3103_165 _ _ _ _ _ _ _ ?_
                                        refine ⟨by omega, ?_⟩
                                        try rw [zr77 hs ((256 : Int).toNat)]
                                        have e_52 : gp_cmp (0#64) (0#64) = 0 := by decide
                                        try rw [e_52]
                                        refine ⟨fun h_53 => ?_, fun h_53 => ?_⟩
                                        · refine zm3083_11 hs (⟨_, rfl, ?_⟩)
                                          refine ⟨by omega, ?_⟩
                                          have f_54 := zr79 hs ((256 : Int).toNat)
                                          have e_55 : gp_I s 79 (256 : Int).toNat = 0 := by omega
                                          try rw [e_55]
                                          refine ⟨fun h_56 => ?_, fun h_56 => ?_⟩
                                          · exfalso; omega
                                          · refine s_3103_196 _ _ _ _ _ _ _ ?_
                                            have w_57 := gz_w (1 + 1)
                                            have e_58 : gp_wr (1 + 1) = 2 := by omega
                                            try rw [e_58]
                                            refine s_3103_94 _ _ _ _ _ _ _ ?_
                                            refine ⟨fun h_59 => ?_, fun h_59 => ?_⟩
                                            · exfalso; omega
                                            · refine s_3103_202 _ _ _ _ _ _ _ ?_
                                              have w_60 := gz_w (0 + 1)
                                              have e_61 : gp_wr (0 + 1) = 1 := by omega
                                              try rw [e_61]
                                              refine s_3103_85 _ _ _ _ _ _ _ ?_
                                              refine ⟨fun h_62 => ?_, fun h_62 => ?_⟩
                                              · have w_63 := gz_w (0 + 1)
                                                have e_64 : gp_wr (0 + 1) = 1 := by omega
                                                try rw [e_64]
                                                refine s_3103_2 _ _ _ _ _ _ _ _ ?_
                                                refine ⟨by omega, ?_⟩
                                                have f_65 := zr81 hs ((4 : Int).toNat)
                                                have e_66 : gp_I s 81 (4 : Int).toNat = 1 := by omega
                                                try rw [e_66]
                                                refine ⟨fun h_67 => ?_, fun h_67 => ?_⟩
                                                · exfalso; omega
                                                · exact k
                                              · exfalso; omega
                                        · exfalso; omega
                                    · exfalso; omega
                                · exfalso; omega
                            · exfalso; omega
                        · exfalso; omega
                    · exfalso; omega
                · exfalso; omega
            · exfalso; omega
        · exfalso; omega
  · exfalso; omega
set_option maxRecDepth 100000 in
/-- GatheredPointsModel.side [(5, 5), (0, 0), (0, 0)] -/
theorem zm3082_12 {z : gH} {L d : Nat} {K : Option gV → gH → Prop} {s : gH}  (hs : zM z s)   (k : K (some (gp_l (0#64))) s) : gs_C L d 3082 4 [gp_r (some 74), gp_i 5, gp_i 0, gp_i 0] s K := by
  refine s_3082_e _ _ _ ?_
  refine ⟨fun h_1 => ?_, fun h_1 => ?_⟩
  · have w_2 := gz_w (64 * 5)
    have e_3 : gp_wr (64 * 5) = 320 := by omega
    try rw [e_3]
    have w_4 := gz_w (320 + 0)
    have e_5 : gp_wr (320 + 0) = 320 := by omega
    try rw [e_5]
    refine ⟨by omega, ?_⟩
    try rw [zr76 hs ((320 : Int).toNat)]
    refine s_3082_29 _ _ _ _ ?_
    exact k
  · exfalso; omega
set_option maxRecDepth 100000 in
/-- GatheredPointsModel.shut [(5, 5), (0, 0), (0, 0)] -/
theorem zm3083_12 {z : gH} {L d : Nat} {K : Option gV → gH → Prop} {s : gH}  (hs : zM z s)   (k : K (some (gp_i 0)) s) : gs_C L d 3083 4 [gp_r (some 74), gp_i 5, gp_i 0, gp_i 0] s K := by
  refine s_3083_e _ _ _ ?_
  refine ⟨fun h_1 => ?_, fun h_1 => ?_⟩
  · have w_2 := gz_w (64 * 5)
    have e_3 : gp_wr (64 * 5) = 320 := by omega
    try rw [e_3]
    have w_4 := gz_w (320 + 0)
    have e_5 : gp_wr (320 + 0) = 320 := by omega
    try rw [e_5]
    refine ⟨by omega, ?_⟩
    have f_6 := zr78 hs ((320 : Int).toNat)
    have e_7 : gp_I s 78 (320 : Int).toNat = 0 := by omega
    try rw [e_7]
    refine s_3083_29 _ _ _ _ ?_
    exact k
  · exfalso; omega
set_option maxRecDepth 100000 in
/-- GatheredPointsModel.side [(5, 5), (0, 0), (1, 1)] -/
theorem zm3082_13 {z : gH} {L d : Nat} {K : Option gV → gH → Prop} {s : gH}  (hs : zM z s)   (k : K (some (gp_l (0#64))) s) : gs_C L d 3082 4 [gp_r (some 74), gp_i 5, gp_i 0, gp_i 1] s K := by
  refine s_3082_e _ _ _ ?_
  refine ⟨fun h_1 => ?_, fun h_1 => ?_⟩
  · exfalso; omega
  · have w_2 := gz_w (64 * 5)
    have e_3 : gp_wr (64 * 5) = 320 := by omega
    try rw [e_3]
    have w_4 := gz_w (320 + 0)
    have e_5 : gp_wr (320 + 0) = 320 := by omega
    try rw [e_5]
    refine ⟨by omega, ?_⟩
    try rw [zr77 hs ((320 : Int).toNat)]
    refine s_3082_29 _ _ _ _ ?_
    exact k
set_option maxRecDepth 100000 in
/-- GatheredPointsModel.shut [(5, 5), (0, 0), (1, 1)] -/
theorem zm3083_13 {z : gH} {L d : Nat} {K : Option gV → gH → Prop} {s : gH}  (hs : zM z s)   (k : K (some (gp_i 0)) s) : gs_C L d 3083 4 [gp_r (some 74), gp_i 5, gp_i 0, gp_i 1] s K := by
  refine s_3083_e _ _ _ ?_
  refine ⟨fun h_1 => ?_, fun h_1 => ?_⟩
  · exfalso; omega
  · have w_2 := gz_w (64 * 5)
    have e_3 : gp_wr (64 * 5) = 320 := by omega
    try rw [e_3]
    have w_4 := gz_w (320 + 0)
    have e_5 : gp_wr (320 + 0) = 320 := by omega
    try rw [e_5]
    refine ⟨by omega, ?_⟩
    have f_6 := zr79 hs ((320 : Int).toNat)
    have e_7 : gp_I s 79 (320 : Int).toNat = 0 := by omega
    try rw [e_7]
    refine s_3083_29 _ _ _ _ ?_
    exact k
set_option maxRecDepth 100000 in
/-- GatheredPointsModel.isSure [(5, 5)] -/
theorem zm3103_6 {z : gH} {L d : Nat} {K : Option gV → gH → Prop} {s : gH}  (hs : zM z s)  (q0 : gp_I s 81 20 = 0) (k : K (some (gp_i 1)) s) : gs_C L (d + 1) 3103 9 [gp_r (some 74), gp_i 5] s K := by
  refine s_3103_e _ ?_
  refine s_3103_2 _ _ _ _ _ _ _ _ ?_
  refine ⟨by omega, ?_⟩
  have f_1 := zr81 hs ((5 : Int).toNat)
  have e_2 : gp_I s 81 (5 : Int).toNat = 1 := by omega
  try rw [e_2]
  refine ⟨fun h_3 => ?_, fun h_3 => ?_⟩
  · have w_4 := gz_w (64 * 5)
    have e_5 : gp_wr (64 * 5) = 320 := by omega
    try rw [e_5]
    have w_6 := gz_w (320 + 0)
    have e_7 : gp_wr (320 + 0) = 320 := by omega
    try rw [e_7]
    have e_8 : (1#64) <<< ((0 : Int) % 64).toNat = 1#64 := by decide
    try rw [e_8]
    refine s_3103_27 _ _ _ _ _ _ _ ?_
    refine ⟨fun h_9 => ?_, fun h_9 => ?_⟩
    · exfalso; omega
    · refine zm3078_5 hs (⟨_, rfl, ?_⟩)
      refine ⟨fun h_10 => ?_, fun h_10 => ?_⟩
      · exfalso; omega
      · have w_11 := gz_w (64 * 5)
        have e_12 : gp_wr (64 * 5) = 320 := by omega
        try rw [e_12]
        have w_13 := gz_w (320 + 0)
        have e_14 : gp_wr (320 + 0) = 320 := by omega
        try rw [e_14]
        refine ⟨by omega, ?_⟩
        try rw [zr76 hs ((320 : Int).toNat)]
        have w_15 := gz_w (64 * 5)
        have e_16 : gp_wr (64 * 5) = 320 := by omega
        try rw [e_16]
        have w_17 := gz_w (320 + 0)
        have e_18 : gp_wr (320 + 0) = 320 := by omega
        try rw [e_18]
        refine ⟨by omega, ?_⟩
        try rw [zr77 hs ((320 : Int).toNat)]
        have e_19 : (0#64) ||| (0#64) = 0#64 := by decide
        try rw [e_19]
        refine s_3103_73 _ _ _ _ _ _ _ _ _ ?_
        have e_20 : (1#64) ||| (0#64) = 1#64 := by decide
        try rw [e_20]
        have w_21 := gz_w (0 + (-1))
        have e_22 : gp_wr (0 + (-1)) = (-1) := by omega
        try rw [e_22]
        refine s_3103_27 _ _ _ _ _ _ _ ?_
        refine ⟨fun h_23 => ?_, fun h_23 => ?_⟩
        · refine s_3103_85 _ _ _ _ _ _ _ ?_
          refine ⟨fun h_24 => ?_, fun h_24 => ?_⟩
          · exfalso; omega
          · refine s_3103_94 _ _ _ _ _ _ _ ?_
            refine ⟨fun h_25 => ?_, fun h_25 => ?_⟩
            · refine zm3078_5 hs (⟨_, rfl, ?_⟩)
              refine ⟨fun h_26 => ?_, fun h_26 => ?_⟩
              · exfalso; omega
              · refine zm3082_12 hs (⟨_, rfl, ?_⟩)
                have e_27 : gp_cmp (0#64) (0#64) = 0 := by decide
                try rw [e_27]
                refine ⟨fun h_28 => ?_, fun h_28 => ?_⟩
                · refine s_3103_129 _ _ _ _ _ _ _ _ ?_
                  refine ⟨fun h_29 => ?_, fun h_29 => ?_⟩
                  · exfalso; omega
                  · refine ⟨by omega, ?_⟩
                    try rw [zr76 hs ((320 : Int).toNat)]
                    have e_30 : gp_cmp (0#64) (0#64) = 0 := by decide
                    try rw [e_30]
                    refine ⟨fun h_31 => ?_, fun h_31 => ?_⟩
                    · refine zm3083_12 hs (⟨_, rfl, ?_⟩)
                      refine ⟨by omega, ?_⟩
                      have f_32 := zr78 hs ((320 : Int).toNat)
                      have e_33 : gp_I s 78 (320 : Int).toNat = 0 := by omega
                      try rw [e_33]
                      refine ⟨fun h_34 => ?_, fun h_34 => ?_⟩
                      · exfalso; omega
                      · refine s_3103_165 _ _ _ _ _ _ _ ?_
                        refine ⟨by omega, ?_⟩
                        try rw [zr77 hs ((320 : Int).toNat)]
                        have e_35 : gp_cmp (0#64) (0#64) = 0 := by decide
                        try rw [e_35]
                        refine ⟨fun h_36 => ?_, fun h_36 => ?_⟩
                        · refine zm3083_12 hs (⟨_, rfl, ?_⟩)
                          refine ⟨by omega, ?_⟩
                          have f_37 := zr79 hs ((320 : Int).toNat)
                          have e_38 : gp_I s 79 (320 : Int).toNat = 0 := by omega
                          try rw [e_38]
                          refine ⟨fun h_39 => ?_, fun h_39 => ?_⟩
                          · exfalso; omega
                          · refine s_3103_196 _ _ _ _ _ _ _ ?_
                            have w_40 := gz_w (0 + 1)
                            have e_41 : gp_wr (0 + 1) = 1 := by omega
                            try rw [e_41]
                            refine s_3103_94 _ _ _ _ _ _ _ ?_
                            refine ⟨fun h_42 => ?_, fun h_42 => ?_⟩
                            · refine zm3078_5 hs (⟨_, rfl, ?_⟩)
                              refine ⟨fun h_43 => ?_, fun h_43 => ?_⟩
                              · exfalso; omega
                              · refine zm3082_13 hs (⟨_, rfl, ?_⟩)
                                have e_44 : gp_cmp (0#64) (0#64) = 0 := by decide
                                try rw [e_44]
                                refine ⟨fun h_45 => ?_, fun h_45 => ?_⟩
                                · refine s_3103_129 _ _ _ _ _ _ _ _ ?_
                                  refine ⟨fun h_46 => ?_, fun h_46 => ?_⟩
                                  · exfalso; omega
                                  · refine ⟨by omega, ?_⟩
                                    try rw [zr76 hs ((320 : Int).toNat)]
                                    have e_47 : gp_cmp (0#64) (0#64) = 0 := by decide
                                    try rw [e_47]
                                    refine ⟨fun h_48 => ?_, fun h_48 => ?_⟩
                                    · refine zm3083_13 hs (⟨_, rfl, ?_⟩)
                                      refine ⟨by omega, ?_⟩
                                      have f_49 := zr78 hs ((320 : Int).toNat)
                                      have e_50 : gp_I s 78 (320 : Int).toNat = 0 := by omega
                                      try rw [e_50]
                                      refine ⟨fun h_51 => ?_, fun h_51 => ?_⟩
                                      · exfalso; omega
                                      · refine s_3103_165 _ _ _ _ _ _ _ ?_
                                        refine ⟨by omega, ?_⟩
                                        try rw [zr77 hs ((320 : Int).toNat)]
                                        have e_52 : gp_cmp (0#64) (0#64) = 0 := by decide
                                        try rw [e_52]
                                        refine ⟨fun h_53 => ?_, fun h_53 => ?_⟩
                                        · refine zm3083_13 hs (⟨_, rfl, ?_⟩)
                                          refine ⟨by omega, ?_⟩
                                          have f_54 := zr79 hs ((320 : Int).toNat)
                                          have e_55 : gp_I s 79 (320 : Int).toNat = 0 := by omega
                                          try rw [e_55]
                                          refine ⟨fun h_56 => ?_, fun h_56 => ?_⟩
                                          · exfalso; omega
                                          · refine s_3103_196 _ _ _ _ _ _ _ ?_
                                            have w_57 := gz_w (1 + 1)
                                            have e_58 : gp_wr (1 + 1) = 2 := by omega
                                            try rw [e_58]
                                            refine s_3103_94 _ _ _ _ _ _ _ ?_
                                            refine ⟨fun h_59 => ?_, fun h_59 => ?_⟩
                                            · exfalso; omega
                                            · refine s_3103_202 _ _ _ _ _ _ _ ?_
                                              have w_60 := gz_w (0 + 1)
                                              have e_61 : gp_wr (0 + 1) = 1 := by omega
                                              try rw [e_61]
                                              refine s_3103_85 _ _ _ _ _ _ _ ?_
                                              refine ⟨fun h_62 => ?_, fun h_62 => ?_⟩
                                              · have w_63 := gz_w (0 + 1)
                                                have e_64 : gp_wr (0 + 1) = 1 := by omega
                                                try rw [e_64]
                                                refine s_3103_2 _ _ _ _ _ _ _ _ ?_
                                                refine ⟨by omega, ?_⟩
                                                have f_65 := zr81 hs ((5 : Int).toNat)
                                                have e_66 : gp_I s 81 (5 : Int).toNat = 1 := by omega
                                                try rw [e_66]
                                                refine ⟨fun h_67 => ?_, fun h_67 => ?_⟩
                                                · exfalso; omega
                                                · exact k
                                              · exfalso; omega
                                        · exfalso; omega
                                    · exfalso; omega
                                · exfalso; omega
                            · exfalso; omega
                        · exfalso; omega
                    · exfalso; omega
                · exfalso; omega
            · exfalso; omega
        · exfalso; omega
  · exfalso; omega
set_option maxRecDepth 100000 in
/-- GatheredPointsModel.side [(6, 6), (0, 0), (0, 0)] -/
theorem zm3082_14 {z : gH} {L d : Nat} {K : Option gV → gH → Prop} {s : gH}  (hs : zM z s)   (k : K (some (gp_l (0#64))) s) : gs_C L d 3082 4 [gp_r (some 74), gp_i 6, gp_i 0, gp_i 0] s K := by
  refine s_3082_e _ _ _ ?_
  refine ⟨fun h_1 => ?_, fun h_1 => ?_⟩
  · have w_2 := gz_w (64 * 6)
    have e_3 : gp_wr (64 * 6) = 384 := by omega
    try rw [e_3]
    have w_4 := gz_w (384 + 0)
    have e_5 : gp_wr (384 + 0) = 384 := by omega
    try rw [e_5]
    refine ⟨by omega, ?_⟩
    try rw [zr76 hs ((384 : Int).toNat)]
    refine s_3082_29 _ _ _ _ ?_
    exact k
  · exfalso; omega
set_option maxRecDepth 100000 in
/-- GatheredPointsModel.shut [(6, 6), (0, 0), (0, 0)] -/
theorem zm3083_14 {z : gH} {L d : Nat} {K : Option gV → gH → Prop} {s : gH}  (hs : zM z s)   (k : K (some (gp_i 0)) s) : gs_C L d 3083 4 [gp_r (some 74), gp_i 6, gp_i 0, gp_i 0] s K := by
  refine s_3083_e _ _ _ ?_
  refine ⟨fun h_1 => ?_, fun h_1 => ?_⟩
  · have w_2 := gz_w (64 * 6)
    have e_3 : gp_wr (64 * 6) = 384 := by omega
    try rw [e_3]
    have w_4 := gz_w (384 + 0)
    have e_5 : gp_wr (384 + 0) = 384 := by omega
    try rw [e_5]
    refine ⟨by omega, ?_⟩
    have f_6 := zr78 hs ((384 : Int).toNat)
    have e_7 : gp_I s 78 (384 : Int).toNat = 0 := by omega
    try rw [e_7]
    refine s_3083_29 _ _ _ _ ?_
    exact k
  · exfalso; omega
set_option maxRecDepth 100000 in
/-- GatheredPointsModel.side [(6, 6), (0, 0), (1, 1)] -/
theorem zm3082_15 {z : gH} {L d : Nat} {K : Option gV → gH → Prop} {s : gH}  (hs : zM z s)   (k : K (some (gp_l (0#64))) s) : gs_C L d 3082 4 [gp_r (some 74), gp_i 6, gp_i 0, gp_i 1] s K := by
  refine s_3082_e _ _ _ ?_
  refine ⟨fun h_1 => ?_, fun h_1 => ?_⟩
  · exfalso; omega
  · have w_2 := gz_w (64 * 6)
    have e_3 : gp_wr (64 * 6) = 384 := by omega
    try rw [e_3]
    have w_4 := gz_w (384 + 0)
    have e_5 : gp_wr (384 + 0) = 384 := by omega
    try rw [e_5]
    refine ⟨by omega, ?_⟩
    try rw [zr77 hs ((384 : Int).toNat)]
    refine s_3082_29 _ _ _ _ ?_
    exact k
set_option maxRecDepth 100000 in
/-- GatheredPointsModel.shut [(6, 6), (0, 0), (1, 1)] -/
theorem zm3083_15 {z : gH} {L d : Nat} {K : Option gV → gH → Prop} {s : gH}  (hs : zM z s)   (k : K (some (gp_i 0)) s) : gs_C L d 3083 4 [gp_r (some 74), gp_i 6, gp_i 0, gp_i 1] s K := by
  refine s_3083_e _ _ _ ?_
  refine ⟨fun h_1 => ?_, fun h_1 => ?_⟩
  · exfalso; omega
  · have w_2 := gz_w (64 * 6)
    have e_3 : gp_wr (64 * 6) = 384 := by omega
    try rw [e_3]
    have w_4 := gz_w (384 + 0)
    have e_5 : gp_wr (384 + 0) = 384 := by omega
    try rw [e_5]
    refine ⟨by omega, ?_⟩
    have f_6 := zr79 hs ((384 : Int).toNat)
    have e_7 : gp_I s 79 (384 : Int).toNat = 0 := by omega
    try rw [e_7]
    refine s_3083_29 _ _ _ _ ?_
    exact k
set_option maxRecDepth 100000 in
/-- GatheredPointsModel.isSure [(6, 6)] -/
theorem zm3103_7 {z : gH} {L d : Nat} {K : Option gV → gH → Prop} {s : gH}  (hs : zM z s)  (q0 : gp_I s 81 20 = 0) (k : K (some (gp_i 1)) s) : gs_C L (d + 1) 3103 9 [gp_r (some 74), gp_i 6] s K := by
  refine s_3103_e _ ?_
  refine s_3103_2 _ _ _ _ _ _ _ _ ?_
  refine ⟨by omega, ?_⟩
  have f_1 := zr81 hs ((6 : Int).toNat)
  have e_2 : gp_I s 81 (6 : Int).toNat = 1 := by omega
  try rw [e_2]
  refine ⟨fun h_3 => ?_, fun h_3 => ?_⟩
  · have w_4 := gz_w (64 * 6)
    have e_5 : gp_wr (64 * 6) = 384 := by omega
    try rw [e_5]
    have w_6 := gz_w (384 + 0)
    have e_7 : gp_wr (384 + 0) = 384 := by omega
    try rw [e_7]
    have e_8 : (1#64) <<< ((0 : Int) % 64).toNat = 1#64 := by decide
    try rw [e_8]
    refine s_3103_27 _ _ _ _ _ _ _ ?_
    refine ⟨fun h_9 => ?_, fun h_9 => ?_⟩
    · exfalso; omega
    · refine zm3078_5 hs (⟨_, rfl, ?_⟩)
      refine ⟨fun h_10 => ?_, fun h_10 => ?_⟩
      · exfalso; omega
      · have w_11 := gz_w (64 * 6)
        have e_12 : gp_wr (64 * 6) = 384 := by omega
        try rw [e_12]
        have w_13 := gz_w (384 + 0)
        have e_14 : gp_wr (384 + 0) = 384 := by omega
        try rw [e_14]
        refine ⟨by omega, ?_⟩
        try rw [zr76 hs ((384 : Int).toNat)]
        have w_15 := gz_w (64 * 6)
        have e_16 : gp_wr (64 * 6) = 384 := by omega
        try rw [e_16]
        have w_17 := gz_w (384 + 0)
        have e_18 : gp_wr (384 + 0) = 384 := by omega
        try rw [e_18]
        refine ⟨by omega, ?_⟩
        try rw [zr77 hs ((384 : Int).toNat)]
        have e_19 : (0#64) ||| (0#64) = 0#64 := by decide
        try rw [e_19]
        refine s_3103_73 _ _ _ _ _ _ _ _ _ ?_
        have e_20 : (1#64) ||| (0#64) = 1#64 := by decide
        try rw [e_20]
        have w_21 := gz_w (0 + (-1))
        have e_22 : gp_wr (0 + (-1)) = (-1) := by omega
        try rw [e_22]
        refine s_3103_27 _ _ _ _ _ _ _ ?_
        refine ⟨fun h_23 => ?_, fun h_23 => ?_⟩
        · refine s_3103_85 _ _ _ _ _ _ _ ?_
          refine ⟨fun h_24 => ?_, fun h_24 => ?_⟩
          · exfalso; omega
          · refine s_3103_94 _ _ _ _ _ _ _ ?_
            refine ⟨fun h_25 => ?_, fun h_25 => ?_⟩
            · refine zm3078_5 hs (⟨_, rfl, ?_⟩)
              refine ⟨fun h_26 => ?_, fun h_26 => ?_⟩
              · exfalso; omega
              · refine zm3082_14 hs (⟨_, rfl, ?_⟩)
                have e_27 : gp_cmp (0#64) (0#64) = 0 := by decide
                try rw [e_27]
                refine ⟨fun h_28 => ?_, fun h_28 => ?_⟩
                · refine s_3103_129 _ _ _ _ _ _ _ _ ?_
                  refine ⟨fun h_29 => ?_, fun h_29 => ?_⟩
                  · exfalso; omega
                  · refine ⟨by omega, ?_⟩
                    try rw [zr76 hs ((384 : Int).toNat)]
                    have e_30 : gp_cmp (0#64) (0#64) = 0 := by decide
                    try rw [e_30]
                    refine ⟨fun h_31 => ?_, fun h_31 => ?_⟩
                    · refine zm3083_14 hs (⟨_, rfl, ?_⟩)
                      refine ⟨by omega, ?_⟩
                      have f_32 := zr78 hs ((384 : Int).toNat)
                      have e_33 : gp_I s 78 (384 : Int).toNat = 0 := by omega
                      try rw [e_33]
                      refine ⟨fun h_34 => ?_, fun h_34 => ?_⟩
                      · exfalso; omega
                      · refine s_3103_165 _ _ _ _ _ _ _ ?_
                        refine ⟨by omega, ?_⟩
                        try rw [zr77 hs ((384 : Int).toNat)]
                        have e_35 : gp_cmp (0#64) (0#64) = 0 := by decide
                        try rw [e_35]
                        refine ⟨fun h_36 => ?_, fun h_36 => ?_⟩
                        · refine zm3083_14 hs (⟨_, rfl, ?_⟩)
                          refine ⟨by omega, ?_⟩
                          have f_37 := zr79 hs ((384 : Int).toNat)
                          have e_38 : gp_I s 79 (384 : Int).toNat = 0 := by omega
                          try rw [e_38]
                          refine ⟨fun h_39 => ?_, fun h_39 => ?_⟩
                          · exfalso; omega
                          · refine s_3103_196 _ _ _ _ _ _ _ ?_
                            have w_40 := gz_w (0 + 1)
                            have e_41 : gp_wr (0 + 1) = 1 := by omega
                            try rw [e_41]
                            refine s_3103_94 _ _ _ _ _ _ _ ?_
                            refine ⟨fun h_42 => ?_, fun h_42 => ?_⟩
                            · refine zm3078_5 hs (⟨_, rfl, ?_⟩)
                              refine ⟨fun h_43 => ?_, fun h_43 => ?_⟩
                              · exfalso; omega
                              · refine zm3082_15 hs (⟨_, rfl, ?_⟩)
                                have e_44 : gp_cmp (0#64) (0#64) = 0 := by decide
                                try rw [e_44]
                                refine ⟨fun h_45 => ?_, fun h_45 => ?_⟩
                                · refine s_3103_129 _ _ _ _ _ _ _ _ ?_
                                  refine ⟨fun h_46 => ?_, fun h_46 => ?_⟩
                                  · exfalso; omega
                                  · refine ⟨by omega, ?_⟩
                                    try rw [zr76 hs ((384 : Int).toNat)]
                                    have e_47 : gp_cmp (0#64) (0#64) = 0 := by decide
                                    try rw [e_47]
                                    refine ⟨fun h_48 => ?_, fun h_48 => ?_⟩
                                    · refine zm3083_15 hs (⟨_, rfl, ?_⟩)
                                      refine ⟨by omega, ?_⟩
                                      have f_49 := zr78 hs ((384 : Int).toNat)
                                      have e_50 : gp_I s 78 (384 : Int).toNat = 0 := by omega
                                      try rw [e_50]
                                      refine ⟨fun h_51 => ?_, fun h_51 => ?_⟩
                                      · exfalso; omega
                                      · refine s_3103_165 _ _ _ _ _ _ _ ?_
                                        refine ⟨by omega, ?_⟩
                                        try rw [zr77 hs ((384 : Int).toNat)]
                                        have e_52 : gp_cmp (0#64) (0#64) = 0 := by decide
                                        try rw [e_52]
                                        refine ⟨fun h_53 => ?_, fun h_53 => ?_⟩
                                        · refine zm3083_15 hs (⟨_, rfl, ?_⟩)
                                          refine ⟨by omega, ?_⟩
                                          have f_54 := zr79 hs ((384 : Int).toNat)
                                          have e_55 : gp_I s 79 (384 : Int).toNat = 0 := by omega
                                          try rw [e_55]
                                          refine ⟨fun h_56 => ?_, fun h_56 => ?_⟩
                                          · exfalso; omega
                                          · refine s_3103_196 _ _ _ _ _ _ _ ?_
                                            have w_57 := gz_w (1 + 1)
                                            have e_58 : gp_wr (1 + 1) = 2 := by omega
                                            try rw [e_58]
                                            refine s_3103_94 _ _ _ _ _ _ _ ?_
                                            refine ⟨fun h_59 => ?_, fun h_59 => ?_⟩
                                            · exfalso; omega
                                            · refine s_3103_202 _ _ _ _ _ _ _ ?_
                                              have w_60 := gz_w (0 + 1)
                                              have e_61 : gp_wr (0 + 1) = 1 := by omega
                                              try rw [e_61]
                                              refine s_3103_85 _ _ _ _ _ _ _ ?_
                                              refine ⟨fun h_62 => ?_, fun h_62 => ?_⟩
                                              · have w_63 := gz_w (0 + 1)
                                                have e_64 : gp_wr (0 + 1) = 1 := by omega
                                                try rw [e_64]
                                                refine s_3103_2 _ _ _ _ _ _ _ _ ?_
                                                refine ⟨by omega, ?_⟩
                                                have f_65 := zr81 hs ((6 : Int).toNat)
                                                have e_66 : gp_I s 81 (6 : Int).toNat = 1 := by omega
                                                try rw [e_66]
                                                refine ⟨fun h_67 => ?_, fun h_67 => ?_⟩
                                                · exfalso; omega
                                                · exact k
                                              · exfalso; omega
                                        · exfalso; omega
                                    · exfalso; omega
                                · exfalso; omega
                            · exfalso; omega
                        · exfalso; omega
                    · exfalso; omega
                · exfalso; omega
            · exfalso; omega
        · exfalso; omega
  · exfalso; omega
set_option maxRecDepth 100000 in
/-- GatheredPointsModel.side [(7, 7), (0, 0), (0, 0)] -/
theorem zm3082_16 {z : gH} {L d : Nat} {K : Option gV → gH → Prop} {s : gH}  (hs : zM z s)   (k : K (some (gp_l (0#64))) s) : gs_C L d 3082 4 [gp_r (some 74), gp_i 7, gp_i 0, gp_i 0] s K := by
  refine s_3082_e _ _ _ ?_
  refine ⟨fun h_1 => ?_, fun h_1 => ?_⟩
  · have w_2 := gz_w (64 * 7)
    have e_3 : gp_wr (64 * 7) = 448 := by omega
    try rw [e_3]
    have w_4 := gz_w (448 + 0)
    have e_5 : gp_wr (448 + 0) = 448 := by omega
    try rw [e_5]
    refine ⟨by omega, ?_⟩
    try rw [zr76 hs ((448 : Int).toNat)]
    refine s_3082_29 _ _ _ _ ?_
    exact k
  · exfalso; omega
set_option maxRecDepth 100000 in
/-- GatheredPointsModel.shut [(7, 7), (0, 0), (0, 0)] -/
theorem zm3083_16 {z : gH} {L d : Nat} {K : Option gV → gH → Prop} {s : gH}  (hs : zM z s)   (k : K (some (gp_i 0)) s) : gs_C L d 3083 4 [gp_r (some 74), gp_i 7, gp_i 0, gp_i 0] s K := by
  refine s_3083_e _ _ _ ?_
  refine ⟨fun h_1 => ?_, fun h_1 => ?_⟩
  · have w_2 := gz_w (64 * 7)
    have e_3 : gp_wr (64 * 7) = 448 := by omega
    try rw [e_3]
    have w_4 := gz_w (448 + 0)
    have e_5 : gp_wr (448 + 0) = 448 := by omega
    try rw [e_5]
    refine ⟨by omega, ?_⟩
    have f_6 := zr78 hs ((448 : Int).toNat)
    have e_7 : gp_I s 78 (448 : Int).toNat = 0 := by omega
    try rw [e_7]
    refine s_3083_29 _ _ _ _ ?_
    exact k
  · exfalso; omega
set_option maxRecDepth 100000 in
/-- GatheredPointsModel.side [(7, 7), (0, 0), (1, 1)] -/
theorem zm3082_17 {z : gH} {L d : Nat} {K : Option gV → gH → Prop} {s : gH}  (hs : zM z s)   (k : K (some (gp_l (0#64))) s) : gs_C L d 3082 4 [gp_r (some 74), gp_i 7, gp_i 0, gp_i 1] s K := by
  refine s_3082_e _ _ _ ?_
  refine ⟨fun h_1 => ?_, fun h_1 => ?_⟩
  · exfalso; omega
  · have w_2 := gz_w (64 * 7)
    have e_3 : gp_wr (64 * 7) = 448 := by omega
    try rw [e_3]
    have w_4 := gz_w (448 + 0)
    have e_5 : gp_wr (448 + 0) = 448 := by omega
    try rw [e_5]
    refine ⟨by omega, ?_⟩
    try rw [zr77 hs ((448 : Int).toNat)]
    refine s_3082_29 _ _ _ _ ?_
    exact k
set_option maxRecDepth 100000 in
/-- GatheredPointsModel.shut [(7, 7), (0, 0), (1, 1)] -/
theorem zm3083_17 {z : gH} {L d : Nat} {K : Option gV → gH → Prop} {s : gH}  (hs : zM z s)   (k : K (some (gp_i 0)) s) : gs_C L d 3083 4 [gp_r (some 74), gp_i 7, gp_i 0, gp_i 1] s K := by
  refine s_3083_e _ _ _ ?_
  refine ⟨fun h_1 => ?_, fun h_1 => ?_⟩
  · exfalso; omega
  · have w_2 := gz_w (64 * 7)
    have e_3 : gp_wr (64 * 7) = 448 := by omega
    try rw [e_3]
    have w_4 := gz_w (448 + 0)
    have e_5 : gp_wr (448 + 0) = 448 := by omega
    try rw [e_5]
    refine ⟨by omega, ?_⟩
    have f_6 := zr79 hs ((448 : Int).toNat)
    have e_7 : gp_I s 79 (448 : Int).toNat = 0 := by omega
    try rw [e_7]
    refine s_3083_29 _ _ _ _ ?_
    exact k
set_option maxRecDepth 100000 in
/-- GatheredPointsModel.isSure [(7, 7)] -/
theorem zm3103_8 {z : gH} {L d : Nat} {K : Option gV → gH → Prop} {s : gH}  (hs : zM z s)  (q0 : gp_I s 81 20 = 0) (k : K (some (gp_i 1)) s) : gs_C L (d + 1) 3103 9 [gp_r (some 74), gp_i 7] s K := by
  refine s_3103_e _ ?_
  refine s_3103_2 _ _ _ _ _ _ _ _ ?_
  refine ⟨by omega, ?_⟩
  have f_1 := zr81 hs ((7 : Int).toNat)
  have e_2 : gp_I s 81 (7 : Int).toNat = 1 := by omega
  try rw [e_2]
  refine ⟨fun h_3 => ?_, fun h_3 => ?_⟩
  · have w_4 := gz_w (64 * 7)
    have e_5 : gp_wr (64 * 7) = 448 := by omega
    try rw [e_5]
    have w_6 := gz_w (448 + 0)
    have e_7 : gp_wr (448 + 0) = 448 := by omega
    try rw [e_7]
    have e_8 : (1#64) <<< ((0 : Int) % 64).toNat = 1#64 := by decide
    try rw [e_8]
    refine s_3103_27 _ _ _ _ _ _ _ ?_
    refine ⟨fun h_9 => ?_, fun h_9 => ?_⟩
    · exfalso; omega
    · refine zm3078_5 hs (⟨_, rfl, ?_⟩)
      refine ⟨fun h_10 => ?_, fun h_10 => ?_⟩
      · exfalso; omega
      · have w_11 := gz_w (64 * 7)
        have e_12 : gp_wr (64 * 7) = 448 := by omega
        try rw [e_12]
        have w_13 := gz_w (448 + 0)
        have e_14 : gp_wr (448 + 0) = 448 := by omega
        try rw [e_14]
        refine ⟨by omega, ?_⟩
        try rw [zr76 hs ((448 : Int).toNat)]
        have w_15 := gz_w (64 * 7)
        have e_16 : gp_wr (64 * 7) = 448 := by omega
        try rw [e_16]
        have w_17 := gz_w (448 + 0)
        have e_18 : gp_wr (448 + 0) = 448 := by omega
        try rw [e_18]
        refine ⟨by omega, ?_⟩
        try rw [zr77 hs ((448 : Int).toNat)]
        have e_19 : (0#64) ||| (0#64) = 0#64 := by decide
        try rw [e_19]
        refine s_3103_73 _ _ _ _ _ _ _ _ _ ?_
        have e_20 : (1#64) ||| (0#64) = 1#64 := by decide
        try rw [e_20]
        have w_21 := gz_w (0 + (-1))
        have e_22 : gp_wr (0 + (-1)) = (-1) := by omega
        try rw [e_22]
        refine s_3103_27 _ _ _ _ _ _ _ ?_
        refine ⟨fun h_23 => ?_, fun h_23 => ?_⟩
        · refine s_3103_85 _ _ _ _ _ _ _ ?_
          refine ⟨fun h_24 => ?_, fun h_24 => ?_⟩
          · exfalso; omega
          · refine s_3103_94 _ _ _ _ _ _ _ ?_
            refine ⟨fun h_25 => ?_, fun h_25 => ?_⟩
            · refine zm3078_5 hs (⟨_, rfl, ?_⟩)
              refine ⟨fun h_26 => ?_, fun h_26 => ?_⟩
              · exfalso; omega
              · refine zm3082_16 hs (⟨_, rfl, ?_⟩)
                have e_27 : gp_cmp (0#64) (0#64) = 0 := by decide
                try rw [e_27]
                refine ⟨fun h_28 => ?_, fun h_28 => ?_⟩
                · refine s_3103_129 _ _ _ _ _ _ _ _ ?_
                  refine ⟨fun h_29 => ?_, fun h_29 => ?_⟩
                  · exfalso; omega
                  · refine ⟨by omega, ?_⟩
                    try rw [zr76 hs ((448 : Int).toNat)]
                    have e_30 : gp_cmp (0#64) (0#64) = 0 := by decide
                    try rw [e_30]
                    refine ⟨fun h_31 => ?_, fun h_31 => ?_⟩
                    · refine zm3083_16 hs (⟨_, rfl, ?_⟩)
                      refine ⟨by omega, ?_⟩
                      have f_32 := zr78 hs ((448 : Int).toNat)
                      have e_33 : gp_I s 78 (448 : Int).toNat = 0 := by omega
                      try rw [e_33]
                      refine ⟨fun h_34 => ?_, fun h_34 => ?_⟩
                      · exfalso; omega
                      · refine s_3103_165 _ _ _ _ _ _ _ ?_
                        refine ⟨by omega, ?_⟩
                        try rw [zr77 hs ((448 : Int).toNat)]
                        have e_35 : gp_cmp (0#64) (0#64) = 0 := by decide
                        try rw [e_35]
                        refine ⟨fun h_36 => ?_, fun h_36 => ?_⟩
                        · refine zm3083_16 hs (⟨_, rfl, ?_⟩)
                          refine ⟨by omega, ?_⟩
                          have f_37 := zr79 hs ((448 : Int).toNat)
                          have e_38 : gp_I s 79 (448 : Int).toNat = 0 := by omega
                          try rw [e_38]
                          refine ⟨fun h_39 => ?_, fun h_39 => ?_⟩
                          · exfalso; omega
                          · refine s_3103_196 _ _ _ _ _ _ _ ?_
                            have w_40 := gz_w (0 + 1)
                            have e_41 : gp_wr (0 + 1) = 1 := by omega
                            try rw [e_41]
                            refine s_3103_94 _ _ _ _ _ _ _ ?_
                            refine ⟨fun h_42 => ?_, fun h_42 => ?_⟩
                            · refine zm3078_5 hs (⟨_, rfl, ?_⟩)
                              refine ⟨fun h_43 => ?_, fun h_43 => ?_⟩
                              · exfalso; omega
                              · refine zm3082_17 hs (⟨_, rfl, ?_⟩)
                                have e_44 : gp_cmp (0#64) (0#64) = 0 := by decide
                                try rw [e_44]
                                refine ⟨fun h_45 => ?_, fun h_45 => ?_⟩
                                · refine s_3103_129 _ _ _ _ _ _ _ _ ?_
                                  refine ⟨fun h_46 => ?_, fun h_46 => ?_⟩
                                  · exfalso; omega
                                  · refine ⟨by omega, ?_⟩
                                    try rw [zr76 hs ((448 : Int).toNat)]
                                    have e_47 : gp_cmp (0#64) (0#64) = 0 := by decide
                                    try rw [e_47]
                                    refine ⟨fun h_48 => ?_, fun h_48 => ?_⟩
                                    · refine zm3083_17 hs (⟨_, rfl, ?_⟩)
                                      refine ⟨by omega, ?_⟩
                                      have f_49 := zr78 hs ((448 : Int).toNat)
                                      have e_50 : gp_I s 78 (448 : Int).toNat = 0 := by omega
                                      try rw [e_50]
                                      refine ⟨fun h_51 => ?_, fun h_51 => ?_⟩
                                      · exfalso; omega
                                      · refine s_3103_165 _ _ _ _ _ _ _ ?_
                                        refine ⟨by omega, ?_⟩
                                        try rw [zr77 hs ((448 : Int).toNat)]
                                        have e_52 : gp_cmp (0#64) (0#64) = 0 := by decide
                                        try rw [e_52]
                                        refine ⟨fun h_53 => ?_, fun h_53 => ?_⟩
                                        · refine zm3083_17 hs (⟨_, rfl, ?_⟩)
                                          refine ⟨by omega, ?_⟩
                                          have f_54 := zr79 hs ((448 : Int).toNat)
                                          have e_55 : gp_I s 79 (448 : Int).toNat = 0 := by omega
                                          try rw [e_55]
                                          refine ⟨fun h_56 => ?_, fun h_56 => ?_⟩
                                          · exfalso; omega
                                          · refine s_3103_196 _ _ _ _ _ _ _ ?_
                                            have w_57 := gz_w (1 + 1)
                                            have e_58 : gp_wr (1 + 1) = 2 := by omega
                                            try rw [e_58]
                                            refine s_3103_94 _ _ _ _ _ _ _ ?_
                                            refine ⟨fun h_59 => ?_, fun h_59 => ?_⟩
                                            · exfalso; omega
                                            · refine s_3103_202 _ _ _ _ _ _ _ ?_
                                              have w_60 := gz_w (0 + 1)
                                              have e_61 : gp_wr (0 + 1) = 1 := by omega
                                              try rw [e_61]
                                              refine s_3103_85 _ _ _ _ _ _ _ ?_
                                              refine ⟨fun h_62 => ?_, fun h_62 => ?_⟩
                                              · have w_63 := gz_w (0 + 1)
                                                have e_64 : gp_wr (0 + 1) = 1 := by omega
                                                try rw [e_64]
                                                refine s_3103_2 _ _ _ _ _ _ _ _ ?_
                                                refine ⟨by omega, ?_⟩
                                                have f_65 := zr81 hs ((7 : Int).toNat)
                                                have e_66 : gp_I s 81 (7 : Int).toNat = 1 := by omega
                                                try rw [e_66]
                                                refine ⟨fun h_67 => ?_, fun h_67 => ?_⟩
                                                · exfalso; omega
                                                · exact k
                                              · exfalso; omega
                                        · exfalso; omega
                                    · exfalso; omega
                                · exfalso; omega
                            · exfalso; omega
                        · exfalso; omega
                    · exfalso; omega
                · exfalso; omega
            · exfalso; omega
        · exfalso; omega
  · exfalso; omega
set_option maxRecDepth 100000 in
/-- GatheredPointsModel.count [(1, 1)] -/
theorem zm3188_2 {z : gH} {L d : Nat} {K : Option gV → gH → Prop} {s : gH}  (hs : zM z s)  (q0 : gp_I s 74 11 = 0) (q1 : gp_I s 74 43 = 0) (q2 : gp_I s 74 57 = 0) (q3 : gp_I s 74 58 = 0) (q4 : gp_I s 74 7 = 1) (q5 : gp_I s 74 9 = 0) (q6 : gp_I s 81 20 = 0) (k : K (some (gp_i 8)) s) : gs_C L (d + 2) 3188 4 [gp_r (some 74), gp_i 1] s K := by
  refine s_3188_e _ ?_
  refine ⟨fun h_1 => ?_, fun h_1 => ?_, fun h_1 => ?_, fun h_1 => ?_, fun h_1 => ?_, fun h_1 => ?_⟩
  · exfalso; omega
  · refine s_3188_43 _ _ _ ?_
    refine ⟨fun h_2 => ?_, fun h_2 => ?_⟩
    · refine zm3103_1 hs (by omega) (⟨_, rfl, ?_⟩)
      refine ⟨fun h_3 => ?_, fun h_3 => ?_⟩
      · exfalso; omega
      · refine s_3188_63 _ _ _ _ _ ?_
        have w_4 := gz_w (0 + 1)
        have e_5 : gp_wr (0 + 1) = 1 := by omega
        try rw [e_5]
        have w_6 := gz_w (0 + 1)
        have e_7 : gp_wr (0 + 1) = 1 := by omega
        try rw [e_7]
        refine s_3188_43 _ _ _ ?_
        refine ⟨fun h_8 => ?_, fun h_8 => ?_⟩
        · refine zm3103_2 hs (by omega) (⟨_, rfl, ?_⟩)
          refine ⟨fun h_9 => ?_, fun h_9 => ?_⟩
          · exfalso; omega
          · refine s_3188_63 _ _ _ _ _ ?_
            have w_10 := gz_w (1 + 1)
            have e_11 : gp_wr (1 + 1) = 2 := by omega
            try rw [e_11]
            have w_12 := gz_w (1 + 1)
            have e_13 : gp_wr (1 + 1) = 2 := by omega
            try rw [e_13]
            refine s_3188_43 _ _ _ ?_
            refine ⟨fun h_14 => ?_, fun h_14 => ?_⟩
            · refine zm3103_3 hs (by omega) (⟨_, rfl, ?_⟩)
              refine ⟨fun h_15 => ?_, fun h_15 => ?_⟩
              · exfalso; omega
              · refine s_3188_63 _ _ _ _ _ ?_
                have w_16 := gz_w (2 + 1)
                have e_17 : gp_wr (2 + 1) = 3 := by omega
                try rw [e_17]
                have w_18 := gz_w (2 + 1)
                have e_19 : gp_wr (2 + 1) = 3 := by omega
                try rw [e_19]
                refine s_3188_43 _ _ _ ?_
                refine ⟨fun h_20 => ?_, fun h_20 => ?_⟩
                · refine zm3103_4 hs (by omega) (⟨_, rfl, ?_⟩)
                  refine ⟨fun h_21 => ?_, fun h_21 => ?_⟩
                  · exfalso; omega
                  · refine s_3188_63 _ _ _ _ _ ?_
                    have w_22 := gz_w (3 + 1)
                    have e_23 : gp_wr (3 + 1) = 4 := by omega
                    try rw [e_23]
                    have w_24 := gz_w (3 + 1)
                    have e_25 : gp_wr (3 + 1) = 4 := by omega
                    try rw [e_25]
                    refine s_3188_43 _ _ _ ?_
                    refine ⟨fun h_26 => ?_, fun h_26 => ?_⟩
                    · refine zm3103_5 hs (by omega) (⟨_, rfl, ?_⟩)
                      refine ⟨fun h_27 => ?_, fun h_27 => ?_⟩
                      · exfalso; omega
                      · refine s_3188_63 _ _ _ _ _ ?_
                        have w_28 := gz_w (4 + 1)
                        have e_29 : gp_wr (4 + 1) = 5 := by omega
                        try rw [e_29]
                        have w_30 := gz_w (4 + 1)
                        have e_31 : gp_wr (4 + 1) = 5 := by omega
                        try rw [e_31]
                        refine s_3188_43 _ _ _ ?_
                        refine ⟨fun h_32 => ?_, fun h_32 => ?_⟩
                        · refine zm3103_6 hs (by omega) (⟨_, rfl, ?_⟩)
                          refine ⟨fun h_33 => ?_, fun h_33 => ?_⟩
                          · exfalso; omega
                          · refine s_3188_63 _ _ _ _ _ ?_
                            have w_34 := gz_w (5 + 1)
                            have e_35 : gp_wr (5 + 1) = 6 := by omega
                            try rw [e_35]
                            have w_36 := gz_w (5 + 1)
                            have e_37 : gp_wr (5 + 1) = 6 := by omega
                            try rw [e_37]
                            refine s_3188_43 _ _ _ ?_
                            refine ⟨fun h_38 => ?_, fun h_38 => ?_⟩
                            · refine zm3103_7 hs (by omega) (⟨_, rfl, ?_⟩)
                              refine ⟨fun h_39 => ?_, fun h_39 => ?_⟩
                              · exfalso; omega
                              · refine s_3188_63 _ _ _ _ _ ?_
                                have w_40 := gz_w (6 + 1)
                                have e_41 : gp_wr (6 + 1) = 7 := by omega
                                try rw [e_41]
                                have w_42 := gz_w (6 + 1)
                                have e_43 : gp_wr (6 + 1) = 7 := by omega
                                try rw [e_43]
                                refine s_3188_43 _ _ _ ?_
                                refine ⟨fun h_44 => ?_, fun h_44 => ?_⟩
                                · refine zm3103_8 hs (by omega) (⟨_, rfl, ?_⟩)
                                  refine ⟨fun h_45 => ?_, fun h_45 => ?_⟩
                                  · exfalso; omega
                                  · refine s_3188_63 _ _ _ _ _ ?_
                                    have w_46 := gz_w (7 + 1)
                                    have e_47 : gp_wr (7 + 1) = 8 := by omega
                                    try rw [e_47]
                                    have w_48 := gz_w (7 + 1)
                                    have e_49 : gp_wr (7 + 1) = 8 := by omega
                                    try rw [e_49]
                                    refine s_3188_43 _ _ _ ?_
                                    refine ⟨fun h_50 => ?_, fun h_50 => ?_⟩
                                    · exfalso; omega
                                    · exact k
                                · exfalso; omega
                            · exfalso; omega
                        · exfalso; omega
                    · exfalso; omega
                · exfalso; omega
            · exfalso; omega
        · exfalso; omega
    · exfalso; omega
  · exfalso; omega
  · exfalso; omega
  · exfalso; omega
  · exfalso; omega
set_option maxRecDepth 100000 in
/-- GatheredPointsModel.count [(2, 2)] -/
theorem zm3188_3 {z : gH} {L d : Nat} {K : Option gV → gH → Prop} {s : gH}  (hs : zM z s)  (q0 : gp_I s 74 11 = 0) (q1 : gp_I s 74 43 = 0) (q2 : gp_I s 74 57 = 0) (q3 : gp_I s 74 58 = 0) (q4 : gp_I s 74 7 = 1) (q5 : gp_I s 74 9 = 0) (q6 : gp_I s 81 20 = 0) (k : K (some (gp_i 0)) s) : gs_C L (d + 1) 3188 4 [gp_r (some 74), gp_i 2] s K := by
  refine s_3188_e _ ?_
  refine ⟨fun h_1 => ?_, fun h_1 => ?_, fun h_1 => ?_, fun h_1 => ?_, fun h_1 => ?_, fun h_1 => ?_⟩
  · exfalso; omega
  · exfalso; omega
  · try rw [show gp_I s 74 11 = 0 from q0]
    exact k
  · exfalso; omega
  · exfalso; omega
  · exfalso; omega
set_option maxRecDepth 100000 in
/-- GatheredPointsModel.count [(3, 3)] -/
theorem zm3188_4 {z : gH} {L d : Nat} {K : Option gV → gH → Prop} {s : gH}  (hs : zM z s)  (q0 : gp_I s 74 11 = 0) (q1 : gp_I s 74 43 = 0) (q2 : gp_I s 74 57 = 0) (q3 : gp_I s 74 58 = 0) (q4 : gp_I s 74 7 = 1) (q5 : gp_I s 74 9 = 0) (q6 : gp_I s 81 20 = 0) (k : K (some (gp_i 0)) s) : gs_C L (d + 1) 3188 4 [gp_r (some 74), gp_i 3] s K := by
  refine s_3188_e _ ?_
  refine ⟨fun h_1 => ?_, fun h_1 => ?_, fun h_1 => ?_, fun h_1 => ?_, fun h_1 => ?_, fun h_1 => ?_⟩
  · exfalso; omega
  · exfalso; omega
  · exfalso; omega
  · try rw [show gp_I s 74 58 = 0 from q3]
    refine ⟨fun h_2 => ?_, fun h_2 => ?_⟩
    · refine s_3188_93 _ _ _ _ ?_
      exact k
    · exfalso; omega
  · exfalso; omega
  · exfalso; omega
set_option maxRecDepth 100000 in
/-- GatheredPointsModel.count [(4, 4)] -/
theorem zm3188_5 {z : gH} {L d : Nat} {K : Option gV → gH → Prop} {s : gH}  (hs : zM z s)  (q0 : gp_I s 74 11 = 0) (q1 : gp_I s 74 43 = 0) (q2 : gp_I s 74 57 = 0) (q3 : gp_I s 74 58 = 0) (q4 : gp_I s 74 7 = 1) (q5 : gp_I s 74 9 = 0) (q6 : gp_I s 81 20 = 0) (k : K (some (gp_i 1)) s) : gs_C L (d + 1) 3188 4 [gp_r (some 74), gp_i 4] s K := by
  refine s_3188_e _ ?_
  refine ⟨fun h_1 => ?_, fun h_1 => ?_, fun h_1 => ?_, fun h_1 => ?_, fun h_1 => ?_, fun h_1 => ?_⟩
  · exfalso; omega
  · exfalso; omega
  · exfalso; omega
  · exfalso; omega
  · try rw [show gp_I s 74 7 = 1 from q4]
    exact k
  · exfalso; omega
set_option maxRecDepth 100000 in
/-- GatheredPointsModel.count [(5, 2147483647)] -/
theorem zm3188_6 {z : gH} {L d : Nat} {K : Option gV → gH → Prop} {s : gH} (p0 : Int) (hs : zM z s) (h_p0 : 5 ≤ p0 ∧ p0 ≤ 2147483647) (q0 : gp_I s 74 11 = 0) (q1 : gp_I s 74 43 = 0) (q2 : gp_I s 74 57 = 0) (q3 : gp_I s 74 58 = 0) (q4 : gp_I s 74 7 = 1) (q5 : gp_I s 74 9 = 0) (q6 : gp_I s 81 20 = 0) (k : ∀ (t : gH), zM z t → (gp_I t 74 11 = 0) → (gp_I t 74 43 = 0) → (gp_I t 74 57 = 0) → (gp_I t 74 58 = 0) → (gp_I t 74 7 = 1) → (gp_I t 74 9 = 0) → ((-2147483648) ≤ gp_I t 75 1 ∧ gp_I t 75 1 ≤ 2147483647) → (gp_I t 81 20 = 0) → K (some (gp_i (-1000000001))) t) : gs_C L (d + 1) 3188 4 [gp_r (some 74), gp_i p0] s K := by
  refine s_3188_e _ ?_
  refine ⟨fun h_1 => ?_, fun h_1 => ?_, fun h_1 => ?_, fun h_1 => ?_, fun h_1 => ?_, fun h_1 => ?_⟩
  · exfalso; omega
  · exfalso; omega
  · exfalso; omega
  · exfalso; omega
  · exfalso; omega
  · refine zm3074_1 hs (by omega) (by omega) (by omega) (by omega) (by omega) (by omega) (by omega) (fun s_2 hs_3 q_4 q_5 q_6 q_7 q_8 q_9 q_10 q_11 => ⟨_, rfl, ?_⟩)
    exact k s_2 hs_3 (by omega) (by omega) (by omega) (by omega) (by omega) (by omega) (by omega) (by omega)
set_option maxRecDepth 100000 in
/-- GatheredPointsModel.isIn [('r', -2147483648, 0), 1, 6] -/
theorem zm3073_34 {z : gH} {L d : Nat} {K : Option gV → gH → Prop} {s : gH} (p0 : BitVec 64) (hs : zM z s) (h_p0 : (-2147483648) ≤ p0.toInt ∧ p0.toInt ≤ 0)  (k : K (some (gp_i 0)) s) : gs_C L d 3073 6 [gp_l p0, gp_l (1#64), gp_l (6#64)] s K := by
  refine s_3073_e _ _ _ ?_
  have w_1 : (1#64).toInt = 1 := by decide
  have w_2 := gz_cmp p0 (1#64)
  have e_3 : gp_cmp p0 (1#64) = (-1) := by omega
  try rw [e_3]
  refine ⟨fun h_4 => ?_, fun h_4 => ?_⟩
  · refine s_3073_17 _ _ _ ?_
    refine s_3073_18 _ _ _ _ ?_
    refine ⟨by omega, ?_⟩
    exact k
  · exfalso; omega
set_option maxRecDepth 100000 in
/-- GatheredPointsModel.finds [(1, 1)] -/
theorem zm3074_13 {z : gH} {L d : Nat} {K : Option gV → gH → Prop} {s : gH}  (hs : zM z s)  (q0 : gp_I s 75 1 = 0) (q1 : gp_I s 75 2 = 0) (q2 : gp_I s 75 3 = 0) (q3 : gp_I s 75 4 = 0) (q4 : gp_I s 75 5 = 0) (q5 : gp_I s 75 6 = 0) (k : ∀ (t : gH), zM z t → (gp_I t 75 1 = 1) → (gp_I t 75 2 = 0) → (gp_I t 75 3 = 0) → (gp_I t 75 4 = 0) → (gp_I t 75 5 = 0) → (gp_I t 75 6 = 0) → K (some (gp_i (-1000000001))) t) : gs_C L d 3074 2 [gp_r (some 74), gp_i 1] s K := by
  refine s_3074_e _ ?_
  refine ⟨by omega, ?_⟩
  try rw [show gp_I s 75 (1 : Int).toNat = 0 from q0]
  have w_1 := gz_w (0 + 1)
  have e_2 : gp_wr (0 + 1) = 1 := by omega
  try rw [e_2]
  refine ⟨by omega, ?_⟩
  intro s_3 e_4
  have hs_5 : zM z s_3 := by rw [e_4]; exact zw75 hs _ _
  have q_6 : gp_I s_3 75 2 = 0 := by rw [e_4]; exact q1
  have q_7 : gp_I s_3 75 3 = 0 := by rw [e_4]; exact q2
  have q_8 : gp_I s_3 75 4 = 0 := by rw [e_4]; exact q3
  have q_9 : gp_I s_3 75 5 = 0 := by rw [e_4]; exact q4
  have q_10 : gp_I s_3 75 6 = 0 := by rw [e_4]; exact q5
  have q_11 : gp_I s_3 75 1 = 1 := by rw [e_4]; rfl
  have w_13 := gz_w ((-1000000000) - 1)
  have e_14 : gp_wr ((-1000000000) - 1) = (-1000000001) := by omega
  try rw [e_14]
  exact k s_3 hs_5 (by omega) (by omega) (by omega) (by omega) (by omega) (by omega)
set_option maxRecDepth 100000 in
/-- GatheredPointsModel.told [(-2147483648, 0)] -/
theorem zm3189_0 {z : gH} {L d : Nat} {K : Option gV → gH → Prop} {s : gH} (p0 : Int) (hs : zM z s) (h_p0 : (-2147483648) ≤ p0 ∧ p0 ≤ 0) (q0 : gp_I s 75 1 = 0) (q1 : gp_I s 75 2 = 0) (q2 : gp_I s 75 3 = 0) (q3 : gp_I s 75 4 = 0) (q4 : gp_I s 75 5 = 0) (q5 : gp_I s 75 6 = 0) (k : ∀ (t : gH), zM z t → (gp_I t 75 1 = 1) → (gp_I t 75 2 = 0) → (gp_I t 75 3 = 0) → (gp_I t 75 4 = 0) → (gp_I t 75 5 = 0) → (gp_I t 75 6 = 0) → K (some (gp_i (-1000000001))) t) : gs_C L (d + 1) 3189 2 [gp_r (some 74), gp_i p0] s K := by
  refine s_3189_e _ ?_
  have w_1 := gz_oi (p0) (by omega)
  have e_2 : BitVec.ofInt 64 6 = 6#64 := by decide
  try rw [e_2]
  refine zm3073_34 _ hs (by omega) (⟨_, rfl, ?_⟩)
  refine ⟨fun h_3 => ?_, fun h_3 => ?_⟩
  · refine zm3074_13 hs (by omega) (by omega) (by omega) (by omega) (by omega) (by omega) (fun s_4 hs_5 q_6 q_7 q_8 q_9 q_10 q_11 => ⟨_, rfl, ?_⟩)
    refine s_3189_26 _ _ ?_
    exact k s_4 hs_5 (by omega) (by omega) (by omega) (by omega) (by omega) (by omega)
  · exfalso; omega
set_option maxRecDepth 100000 in
/-- GatheredPointsModel.isIn [1, 1, 6] -/
theorem zm3073_35 {z : gH} {L d : Nat} {K : Option gV → gH → Prop} {s : gH}  (hs : zM z s)   (k : K (some (gp_i 1)) s) : gs_C L d 3073 6 [gp_l (1#64), gp_l (1#64), gp_l (6#64)] s K := by
  refine s_3073_e _ _ _ ?_
  have e_1 : gp_cmp (1#64) (1#64) = 0 := by decide
  try rw [e_1]
  refine ⟨fun h_2 => ?_, fun h_2 => ?_⟩
  · exfalso; omega
  · have e_3 : gp_cmp (1#64) (6#64) = (-1) := by decide
    try rw [e_3]
    refine ⟨fun h_4 => ?_, fun h_4 => ?_⟩
    · exfalso; omega
    · refine s_3073_18 _ _ _ _ ?_
      refine ⟨by omega, ?_⟩
      exact k
set_option maxRecDepth 100000 in
/-- GatheredPointsModel.told [(1, 1)] -/
theorem zm3189_1 {z : gH} {L d : Nat} {K : Option gV → gH → Prop} {s : gH}  (hs : zM z s)  (q0 : gp_I s 75 1 = 0) (q1 : gp_I s 75 2 = 0) (q2 : gp_I s 75 3 = 0) (q3 : gp_I s 75 4 = 0) (q4 : gp_I s 75 5 = 0) (q5 : gp_I s 75 6 = 0) (k : K (some (gp_i 0)) s) : gs_C L (d + 1) 3189 2 [gp_r (some 74), gp_i 1] s K := by
  refine s_3189_e _ ?_
  have e_1 : BitVec.ofInt 64 1 = 1#64 := by decide
  try rw [e_1]
  have e_2 : BitVec.ofInt 64 6 = 6#64 := by decide
  try rw [e_2]
  refine zm3073_35 hs (⟨_, rfl, ?_⟩)
  refine ⟨fun h_3 => ?_, fun h_3 => ?_⟩
  · exfalso; omega
  · refine ⟨by omega, ?_⟩
    try rw [show gp_I s 75 (1 : Int).toNat = 0 from q0]
    refine s_3189_26 _ _ ?_
    exact k
set_option maxRecDepth 100000 in
/-- GatheredPointsModel.isIn [2, 1, 6] -/
theorem zm3073_36 {z : gH} {L d : Nat} {K : Option gV → gH → Prop} {s : gH}  (hs : zM z s)   (k : K (some (gp_i 1)) s) : gs_C L d 3073 6 [gp_l (2#64), gp_l (1#64), gp_l (6#64)] s K := by
  refine s_3073_e _ _ _ ?_
  have e_1 : gp_cmp (2#64) (1#64) = 1 := by decide
  try rw [e_1]
  refine ⟨fun h_2 => ?_, fun h_2 => ?_⟩
  · exfalso; omega
  · have e_3 : gp_cmp (2#64) (6#64) = (-1) := by decide
    try rw [e_3]
    refine ⟨fun h_4 => ?_, fun h_4 => ?_⟩
    · exfalso; omega
    · refine s_3073_18 _ _ _ _ ?_
      refine ⟨by omega, ?_⟩
      exact k
set_option maxRecDepth 100000 in
/-- GatheredPointsModel.told [(2, 2)] -/
theorem zm3189_2 {z : gH} {L d : Nat} {K : Option gV → gH → Prop} {s : gH}  (hs : zM z s)  (q0 : gp_I s 75 1 = 0) (q1 : gp_I s 75 2 = 0) (q2 : gp_I s 75 3 = 0) (q3 : gp_I s 75 4 = 0) (q4 : gp_I s 75 5 = 0) (q5 : gp_I s 75 6 = 0) (k : K (some (gp_i 0)) s) : gs_C L (d + 1) 3189 2 [gp_r (some 74), gp_i 2] s K := by
  refine s_3189_e _ ?_
  have e_1 : BitVec.ofInt 64 2 = 2#64 := by decide
  try rw [e_1]
  have e_2 : BitVec.ofInt 64 6 = 6#64 := by decide
  try rw [e_2]
  refine zm3073_36 hs (⟨_, rfl, ?_⟩)
  refine ⟨fun h_3 => ?_, fun h_3 => ?_⟩
  · exfalso; omega
  · refine ⟨by omega, ?_⟩
    try rw [show gp_I s 75 (2 : Int).toNat = 0 from q1]
    refine s_3189_26 _ _ ?_
    exact k
set_option maxRecDepth 100000 in
/-- GatheredPointsModel.isIn [3, 1, 6] -/
theorem zm3073_37 {z : gH} {L d : Nat} {K : Option gV → gH → Prop} {s : gH}  (hs : zM z s)   (k : K (some (gp_i 1)) s) : gs_C L d 3073 6 [gp_l (3#64), gp_l (1#64), gp_l (6#64)] s K := by
  refine s_3073_e _ _ _ ?_
  have e_1 : gp_cmp (3#64) (1#64) = 1 := by decide
  try rw [e_1]
  refine ⟨fun h_2 => ?_, fun h_2 => ?_⟩
  · exfalso; omega
  · have e_3 : gp_cmp (3#64) (6#64) = (-1) := by decide
    try rw [e_3]
    refine ⟨fun h_4 => ?_, fun h_4 => ?_⟩
    · exfalso; omega
    · refine s_3073_18 _ _ _ _ ?_
      refine ⟨by omega, ?_⟩
      exact k
set_option maxRecDepth 100000 in
/-- GatheredPointsModel.told [(3, 3)] -/
theorem zm3189_3 {z : gH} {L d : Nat} {K : Option gV → gH → Prop} {s : gH}  (hs : zM z s)  (q0 : gp_I s 75 1 = 0) (q1 : gp_I s 75 2 = 0) (q2 : gp_I s 75 3 = 0) (q3 : gp_I s 75 4 = 0) (q4 : gp_I s 75 5 = 0) (q5 : gp_I s 75 6 = 0) (k : K (some (gp_i 0)) s) : gs_C L (d + 1) 3189 2 [gp_r (some 74), gp_i 3] s K := by
  refine s_3189_e _ ?_
  have e_1 : BitVec.ofInt 64 3 = 3#64 := by decide
  try rw [e_1]
  have e_2 : BitVec.ofInt 64 6 = 6#64 := by decide
  try rw [e_2]
  refine zm3073_37 hs (⟨_, rfl, ?_⟩)
  refine ⟨fun h_3 => ?_, fun h_3 => ?_⟩
  · exfalso; omega
  · refine ⟨by omega, ?_⟩
    try rw [show gp_I s 75 (3 : Int).toNat = 0 from q2]
    refine s_3189_26 _ _ ?_
    exact k
set_option maxRecDepth 100000 in
/-- GatheredPointsModel.isIn [4, 1, 6] -/
theorem zm3073_38 {z : gH} {L d : Nat} {K : Option gV → gH → Prop} {s : gH}  (hs : zM z s)   (k : K (some (gp_i 1)) s) : gs_C L d 3073 6 [gp_l (4#64), gp_l (1#64), gp_l (6#64)] s K := by
  refine s_3073_e _ _ _ ?_
  have e_1 : gp_cmp (4#64) (1#64) = 1 := by decide
  try rw [e_1]
  refine ⟨fun h_2 => ?_, fun h_2 => ?_⟩
  · exfalso; omega
  · have e_3 : gp_cmp (4#64) (6#64) = (-1) := by decide
    try rw [e_3]
    refine ⟨fun h_4 => ?_, fun h_4 => ?_⟩
    · exfalso; omega
    · refine s_3073_18 _ _ _ _ ?_
      refine ⟨by omega, ?_⟩
      exact k
set_option maxRecDepth 100000 in
/-- GatheredPointsModel.told [(4, 4)] -/
theorem zm3189_4 {z : gH} {L d : Nat} {K : Option gV → gH → Prop} {s : gH}  (hs : zM z s)  (q0 : gp_I s 75 1 = 0) (q1 : gp_I s 75 2 = 0) (q2 : gp_I s 75 3 = 0) (q3 : gp_I s 75 4 = 0) (q4 : gp_I s 75 5 = 0) (q5 : gp_I s 75 6 = 0) (k : K (some (gp_i 0)) s) : gs_C L (d + 1) 3189 2 [gp_r (some 74), gp_i 4] s K := by
  refine s_3189_e _ ?_
  have e_1 : BitVec.ofInt 64 4 = 4#64 := by decide
  try rw [e_1]
  have e_2 : BitVec.ofInt 64 6 = 6#64 := by decide
  try rw [e_2]
  refine zm3073_38 hs (⟨_, rfl, ?_⟩)
  refine ⟨fun h_3 => ?_, fun h_3 => ?_⟩
  · exfalso; omega
  · refine ⟨by omega, ?_⟩
    try rw [show gp_I s 75 (4 : Int).toNat = 0 from q3]
    refine s_3189_26 _ _ ?_
    exact k
set_option maxRecDepth 100000 in
/-- GatheredPointsModel.isIn [5, 1, 6] -/
theorem zm3073_39 {z : gH} {L d : Nat} {K : Option gV → gH → Prop} {s : gH}  (hs : zM z s)   (k : K (some (gp_i 1)) s) : gs_C L d 3073 6 [gp_l (5#64), gp_l (1#64), gp_l (6#64)] s K := by
  refine s_3073_e _ _ _ ?_
  have e_1 : gp_cmp (5#64) (1#64) = 1 := by decide
  try rw [e_1]
  refine ⟨fun h_2 => ?_, fun h_2 => ?_⟩
  · exfalso; omega
  · have e_3 : gp_cmp (5#64) (6#64) = (-1) := by decide
    try rw [e_3]
    refine ⟨fun h_4 => ?_, fun h_4 => ?_⟩
    · exfalso; omega
    · refine s_3073_18 _ _ _ _ ?_
      refine ⟨by omega, ?_⟩
      exact k
set_option maxRecDepth 100000 in
/-- GatheredPointsModel.told [(5, 5)] -/
theorem zm3189_5 {z : gH} {L d : Nat} {K : Option gV → gH → Prop} {s : gH}  (hs : zM z s)  (q0 : gp_I s 75 1 = 0) (q1 : gp_I s 75 2 = 0) (q2 : gp_I s 75 3 = 0) (q3 : gp_I s 75 4 = 0) (q4 : gp_I s 75 5 = 0) (q5 : gp_I s 75 6 = 0) (k : K (some (gp_i 0)) s) : gs_C L (d + 1) 3189 2 [gp_r (some 74), gp_i 5] s K := by
  refine s_3189_e _ ?_
  have e_1 : BitVec.ofInt 64 5 = 5#64 := by decide
  try rw [e_1]
  have e_2 : BitVec.ofInt 64 6 = 6#64 := by decide
  try rw [e_2]
  refine zm3073_39 hs (⟨_, rfl, ?_⟩)
  refine ⟨fun h_3 => ?_, fun h_3 => ?_⟩
  · exfalso; omega
  · refine ⟨by omega, ?_⟩
    try rw [show gp_I s 75 (5 : Int).toNat = 0 from q4]
    refine s_3189_26 _ _ ?_
    exact k
set_option maxRecDepth 100000 in
/-- GatheredPointsModel.isIn [6, 1, 6] -/
theorem zm3073_40 {z : gH} {L d : Nat} {K : Option gV → gH → Prop} {s : gH}  (hs : zM z s)   (k : K (some (gp_i 1)) s) : gs_C L d 3073 6 [gp_l (6#64), gp_l (1#64), gp_l (6#64)] s K := by
  refine s_3073_e _ _ _ ?_
  have e_1 : gp_cmp (6#64) (1#64) = 1 := by decide
  try rw [e_1]
  refine ⟨fun h_2 => ?_, fun h_2 => ?_⟩
  · exfalso; omega
  · have e_3 : gp_cmp (6#64) (6#64) = 0 := by decide
    try rw [e_3]
    refine ⟨fun h_4 => ?_, fun h_4 => ?_⟩
    · exfalso; omega
    · refine s_3073_18 _ _ _ _ ?_
      refine ⟨by omega, ?_⟩
      exact k
set_option maxRecDepth 100000 in
/-- GatheredPointsModel.told [(6, 6)] -/
theorem zm3189_6 {z : gH} {L d : Nat} {K : Option gV → gH → Prop} {s : gH}  (hs : zM z s)  (q0 : gp_I s 75 1 = 0) (q1 : gp_I s 75 2 = 0) (q2 : gp_I s 75 3 = 0) (q3 : gp_I s 75 4 = 0) (q4 : gp_I s 75 5 = 0) (q5 : gp_I s 75 6 = 0) (k : K (some (gp_i 0)) s) : gs_C L (d + 1) 3189 2 [gp_r (some 74), gp_i 6] s K := by
  refine s_3189_e _ ?_
  have e_1 : BitVec.ofInt 64 6 = 6#64 := by decide
  try rw [e_1]
  have e_2 : BitVec.ofInt 64 6 = 6#64 := by decide
  try rw [e_2]
  refine zm3073_40 hs (⟨_, rfl, ?_⟩)
  refine ⟨fun h_3 => ?_, fun h_3 => ?_⟩
  · exfalso; omega
  · refine ⟨by omega, ?_⟩
    try rw [show gp_I s 75 (6 : Int).toNat = 0 from q5]
    refine s_3189_26 _ _ ?_
    exact k
set_option maxRecDepth 100000 in
/-- GatheredPointsModel.isIn [('r', 7, 2147483647), 1, 6] -/
theorem zm3073_41 {z : gH} {L d : Nat} {K : Option gV → gH → Prop} {s : gH} (p0 : BitVec 64) (hs : zM z s) (h_p0 : 7 ≤ p0.toInt ∧ p0.toInt ≤ 2147483647)  (k : K (some (gp_i 0)) s) : gs_C L d 3073 6 [gp_l p0, gp_l (1#64), gp_l (6#64)] s K := by
  refine s_3073_e _ _ _ ?_
  have w_1 : (1#64).toInt = 1 := by decide
  have w_2 := gz_cmp p0 (1#64)
  have e_3 : gp_cmp p0 (1#64) = 1 := by omega
  try rw [e_3]
  refine ⟨fun h_4 => ?_, fun h_4 => ?_⟩
  · exfalso; omega
  · have w_5 : (6#64).toInt = 6 := by decide
    have w_6 := gz_cmp p0 (6#64)
    have e_7 : gp_cmp p0 (6#64) = 1 := by omega
    try rw [e_7]
    refine ⟨fun h_8 => ?_, fun h_8 => ?_⟩
    · refine s_3073_17 _ _ _ ?_
      refine s_3073_18 _ _ _ _ ?_
      refine ⟨by omega, ?_⟩
      exact k
    · exfalso; omega
set_option maxRecDepth 100000 in
/-- GatheredPointsModel.told [(7, 2147483647)] -/
theorem zm3189_7 {z : gH} {L d : Nat} {K : Option gV → gH → Prop} {s : gH} (p0 : Int) (hs : zM z s) (h_p0 : 7 ≤ p0 ∧ p0 ≤ 2147483647) (q0 : gp_I s 75 1 = 0) (q1 : gp_I s 75 2 = 0) (q2 : gp_I s 75 3 = 0) (q3 : gp_I s 75 4 = 0) (q4 : gp_I s 75 5 = 0) (q5 : gp_I s 75 6 = 0) (k : ∀ (t : gH), zM z t → (gp_I t 75 1 = 1) → (gp_I t 75 2 = 0) → (gp_I t 75 3 = 0) → (gp_I t 75 4 = 0) → (gp_I t 75 5 = 0) → (gp_I t 75 6 = 0) → K (some (gp_i (-1000000001))) t) : gs_C L (d + 1) 3189 2 [gp_r (some 74), gp_i p0] s K := by
  refine s_3189_e _ ?_
  have w_1 := gz_oi (p0) (by omega)
  have e_2 : BitVec.ofInt 64 6 = 6#64 := by decide
  try rw [e_2]
  refine zm3073_41 _ hs (by omega) (⟨_, rfl, ?_⟩)
  refine ⟨fun h_3 => ?_, fun h_3 => ?_⟩
  · refine zm3074_13 hs (by omega) (by omega) (by omega) (by omega) (by omega) (by omega) (fun s_4 hs_5 q_6 q_7 q_8 q_9 q_10 q_11 => ⟨_, rfl, ?_⟩)
    refine s_3189_26 _ _ ?_
    exact k s_4 hs_5 (by omega) (by omega) (by omega) (by omega) (by omega) (by omega)
  · exfalso; omega
set_option maxRecDepth 100000 in
/-- GatheredPointsModel.isIn [('r', 1, 255), 1, 255] -/
theorem zm3073_42 {z : gH} {L d : Nat} {K : Option gV → gH → Prop} {s : gH} (p0 : BitVec 64) (hs : zM z s) (h_p0 : 1 ≤ p0.toInt ∧ p0.toInt ≤ 255)  (k : K (some (gp_i 1)) s) : gs_C L d 3073 6 [gp_l p0, gp_l (1#64), gp_l (255#64)] s K := by
  refine s_3073_e _ _ _ ?_
  have w_1 : (1#64).toInt = 1 := by decide
  have w_2 := gz_cmp p0 (1#64)
  refine ⟨fun h_3 => ?_, fun h_3 => ?_⟩
  · exfalso; omega
  · have w_4 : (255#64).toInt = 255 := by decide
    have w_5 := gz_cmp p0 (255#64)
    refine ⟨fun h_6 => ?_, fun h_6 => ?_⟩
    · exfalso; omega
    · refine s_3073_18 _ _ _ _ ?_
      refine ⟨by omega, ?_⟩
      exact k
set_option maxRecDepth 100000 in
/-- GatheredPointsModel.side [(16, 16), (0, 0), (0, 1)] -/
theorem zm3082_18 {z : gH} {L d : Nat} {K : Option gV → gH → Prop} {s : gH} (p2 : Int) (hs : zM z s) (h_p2 : 0 ≤ p2 ∧ p2 ≤ 1)  (k : K (some (gp_l (0#64))) s) : gs_C L d 3082 4 [gp_r (some 74), gp_i 16, gp_i 0, gp_i p2] s K := by
  refine s_3082_e _ _ _ ?_
  refine ⟨fun h_1 => ?_, fun h_1 => ?_⟩
  · have e_2 : p2 = 0 := by omega
    subst e_2
    have w_3 := gz_w (64 * 16)
    have e_4 : gp_wr (64 * 16) = 1024 := by omega
    try rw [e_4]
    have w_5 := gz_w (1024 + 0)
    have e_6 : gp_wr (1024 + 0) = 1024 := by omega
    try rw [e_6]
    refine ⟨by omega, ?_⟩
    try rw [zr76 hs ((1024 : Int).toNat)]
    refine s_3082_29 _ _ _ _ ?_
    exact k
  · have e_7 : p2 = 1 := by omega
    subst e_7
    have w_8 := gz_w (64 * 16)
    have e_9 : gp_wr (64 * 16) = 1024 := by omega
    try rw [e_9]
    have w_10 := gz_w (1024 + 0)
    have e_11 : gp_wr (1024 + 0) = 1024 := by omega
    try rw [e_11]
    refine ⟨by omega, ?_⟩
    try rw [zr77 hs ((1024 : Int).toNat)]
    refine s_3082_29 _ _ _ _ ?_
    exact k
set_option maxRecDepth 100000 in
/-- GatheredPointsModel.optionsAt [(0, 0)] -/
theorem zm3165_0 {z : gH} {L d : Nat} {K : Option gV → gH → Prop} {s : gH}  (hs : zM z s)   (k : K (some (gp_l (0#64))) s) : gs_C L (d + 1) 3165 2 [gp_r (some 74), gp_i 0] s K := by
  refine s_3165_e _ ?_
  have w_1 := gz_w (16 + 0)
  have e_2 : gp_wr (16 + 0) = 16 := by omega
  try rw [e_2]
  refine ⟨by omega, ?_⟩
  have f_3 := zr112 hs ((0 : Int).toNat)
  have e_4 : gp_I s 112 (0 : Int).toNat = 0 := by omega
  try rw [e_4]
  have f_5 := zr74_56 hs 56
  refine zm3082_18 _ hs (by omega) (⟨_, rfl, ?_⟩)
  exact k
set_option maxRecDepth 100000 in
/-- GatheredPointsModel.side [(17, 17), (0, 0), (0, 1)] -/
theorem zm3082_19 {z : gH} {L d : Nat} {K : Option gV → gH → Prop} {s : gH} (p2 : Int) (hs : zM z s) (h_p2 : 0 ≤ p2 ∧ p2 ≤ 1)  (k : K (some (gp_l (0#64))) s) : gs_C L d 3082 4 [gp_r (some 74), gp_i 17, gp_i 0, gp_i p2] s K := by
  refine s_3082_e _ _ _ ?_
  refine ⟨fun h_1 => ?_, fun h_1 => ?_⟩
  · have e_2 : p2 = 0 := by omega
    subst e_2
    have w_3 := gz_w (64 * 17)
    have e_4 : gp_wr (64 * 17) = 1088 := by omega
    try rw [e_4]
    have w_5 := gz_w (1088 + 0)
    have e_6 : gp_wr (1088 + 0) = 1088 := by omega
    try rw [e_6]
    refine ⟨by omega, ?_⟩
    try rw [zr76 hs ((1088 : Int).toNat)]
    refine s_3082_29 _ _ _ _ ?_
    exact k
  · have e_7 : p2 = 1 := by omega
    subst e_7
    have w_8 := gz_w (64 * 17)
    have e_9 : gp_wr (64 * 17) = 1088 := by omega
    try rw [e_9]
    have w_10 := gz_w (1088 + 0)
    have e_11 : gp_wr (1088 + 0) = 1088 := by omega
    try rw [e_11]
    refine ⟨by omega, ?_⟩
    try rw [zr77 hs ((1088 : Int).toNat)]
    refine s_3082_29 _ _ _ _ ?_
    exact k
set_option maxRecDepth 100000 in
/-- GatheredPointsModel.optionsAt [(1, 1)] -/
theorem zm3165_1 {z : gH} {L d : Nat} {K : Option gV → gH → Prop} {s : gH}  (hs : zM z s)   (k : K (some (gp_l (0#64))) s) : gs_C L (d + 1) 3165 2 [gp_r (some 74), gp_i 1] s K := by
  refine s_3165_e _ ?_
  have w_1 := gz_w (16 + 1)
  have e_2 : gp_wr (16 + 1) = 17 := by omega
  try rw [e_2]
  refine ⟨by omega, ?_⟩
  have f_3 := zr112 hs ((1 : Int).toNat)
  have e_4 : gp_I s 112 (1 : Int).toNat = 0 := by omega
  try rw [e_4]
  have f_5 := zr74_56 hs 56
  refine zm3082_19 _ hs (by omega) (⟨_, rfl, ?_⟩)
  exact k
set_option maxRecDepth 100000 in
/-- GatheredPointsModel.side [(18, 18), (0, 0), (0, 1)] -/
theorem zm3082_20 {z : gH} {L d : Nat} {K : Option gV → gH → Prop} {s : gH} (p2 : Int) (hs : zM z s) (h_p2 : 0 ≤ p2 ∧ p2 ≤ 1)  (k : K (some (gp_l (0#64))) s) : gs_C L d 3082 4 [gp_r (some 74), gp_i 18, gp_i 0, gp_i p2] s K := by
  refine s_3082_e _ _ _ ?_
  refine ⟨fun h_1 => ?_, fun h_1 => ?_⟩
  · have e_2 : p2 = 0 := by omega
    subst e_2
    have w_3 := gz_w (64 * 18)
    have e_4 : gp_wr (64 * 18) = 1152 := by omega
    try rw [e_4]
    have w_5 := gz_w (1152 + 0)
    have e_6 : gp_wr (1152 + 0) = 1152 := by omega
    try rw [e_6]
    refine ⟨by omega, ?_⟩
    try rw [zr76 hs ((1152 : Int).toNat)]
    refine s_3082_29 _ _ _ _ ?_
    exact k
  · have e_7 : p2 = 1 := by omega
    subst e_7
    have w_8 := gz_w (64 * 18)
    have e_9 : gp_wr (64 * 18) = 1152 := by omega
    try rw [e_9]
    have w_10 := gz_w (1152 + 0)
    have e_11 : gp_wr (1152 + 0) = 1152 := by omega
    try rw [e_11]
    refine ⟨by omega, ?_⟩
    try rw [zr77 hs ((1152 : Int).toNat)]
    refine s_3082_29 _ _ _ _ ?_
    exact k
set_option maxRecDepth 100000 in
/-- GatheredPointsModel.optionsAt [(2, 2)] -/
theorem zm3165_2 {z : gH} {L d : Nat} {K : Option gV → gH → Prop} {s : gH}  (hs : zM z s)   (k : K (some (gp_l (0#64))) s) : gs_C L (d + 1) 3165 2 [gp_r (some 74), gp_i 2] s K := by
  refine s_3165_e _ ?_
  have w_1 := gz_w (16 + 2)
  have e_2 : gp_wr (16 + 2) = 18 := by omega
  try rw [e_2]
  refine ⟨by omega, ?_⟩
  have f_3 := zr112 hs ((2 : Int).toNat)
  have e_4 : gp_I s 112 (2 : Int).toNat = 0 := by omega
  try rw [e_4]
  have f_5 := zr74_56 hs 56
  refine zm3082_20 _ hs (by omega) (⟨_, rfl, ?_⟩)
  exact k
set_option maxRecDepth 100000 in
/-- GatheredPointsModel.allMoves [] -/
theorem zm3166_0 {z : gH} {L d : Nat} {K : Option gV → gH → Prop} {s : gH}  (hs : zM z s)   (k : K (some (gp_i 0)) s) : gs_C L (d + 2) 3166 3 [gp_r (some 74)] s K := by
  refine s_3166_e ?_
  refine s_3166_4 _ _ ?_
  have f_1 := zr74_55 hs 55
  refine ⟨fun h_2 => ?_, fun h_2 => ?_⟩
  · refine zm3165_0 hs (⟨_, rfl, ?_⟩)
    refine zm3079_1 hs (⟨_, rfl, ?_⟩)
    have w_3 := gz_w (0 + 0)
    have e_4 : gp_wr (0 + 0) = 0 := by omega
    try rw [e_4]
    have w_5 := gz_w (0 + 1)
    have e_6 : gp_wr (0 + 1) = 1 := by omega
    try rw [e_6]
    refine s_3166_4 _ _ ?_
    have f_7 := zr74_55 hs 55
    refine ⟨fun h_8 => ?_, fun h_8 => ?_⟩
    · refine zm3165_1 hs (⟨_, rfl, ?_⟩)
      refine zm3079_1 hs (⟨_, rfl, ?_⟩)
      have w_9 := gz_w (0 + 0)
      have e_10 : gp_wr (0 + 0) = 0 := by omega
      try rw [e_10]
      have w_11 := gz_w (1 + 1)
      have e_12 : gp_wr (1 + 1) = 2 := by omega
      try rw [e_12]
      refine s_3166_4 _ _ ?_
      have f_13 := zr74_55 hs 55
      refine ⟨fun h_14 => ?_, fun h_14 => ?_⟩
      · have e_15 : gp_I s 74 55 = 3 := by omega
        try rw [e_15]
        refine zm3165_2 hs (⟨_, rfl, ?_⟩)
        refine zm3079_1 hs (⟨_, rfl, ?_⟩)
        have w_16 := gz_w (0 + 0)
        have e_17 : gp_wr (0 + 0) = 0 := by omega
        try rw [e_17]
        have w_18 := gz_w (2 + 1)
        have e_19 : gp_wr (2 + 1) = 3 := by omega
        try rw [e_19]
        refine s_3166_4 _ _ ?_
        have f_20 := zr74_55 hs 55
        have e_21 : gp_I s 74 55 = 3 := by omega
        try rw [e_21]
        refine ⟨fun h_22 => ?_, fun h_22 => ?_⟩
        · exfalso; omega
        · exact k
      · have e_23 : gp_I s 74 55 = 2 := by omega
        try rw [e_23]
        exact k
    · have e_24 : gp_I s 74 55 = 1 := by omega
      try rw [e_24]
      exact k
  · have e_25 : gp_I s 74 55 = 0 := by omega
    try rw [e_25]
    exact k
set_option maxRecDepth 100000 in
/-- GatheredPointsModel.isOver [] -/
theorem zm3167_0 {z : gH} {L d : Nat} {K : Option gV → gH → Prop} {s : gH}  (hs : zM z s)   (k : K (some (gp_i 1)) s) : gs_C L (d + 3) 3167 1 [gp_r (some 74)] s K := by
  refine s_3167_e ?_
  refine zm3166_0 hs (⟨_, rfl, ?_⟩)
  refine ⟨fun h_1 => ?_, fun h_1 => ?_⟩
  · refine s_3167_12 _ ?_
    refine ⟨by omega, ?_⟩
    exact k
  · exfalso; omega
