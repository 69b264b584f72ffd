set_option maxRecDepth 100000 in
/-- GatheredPoints.go [(-2147483648, 2147483647), (-2147483648, 2147483647)] -/
theorem zx2835_0 {z : gH} {L d : Nat} {K : Option gV → gH → Prop} {s : gH} (p0 : Int) (p1 : Int) (hs : xM z s) (h_p0 : (-2147483648) ≤ p0 ∧ p0 ≤ 2147483647) (h_p1 : (-2147483648) ≤ p1 ∧ p1 ≤ 2147483647) (q0 : gp_I s 1 2 = 0) (q1 : gp_I s 1 6 = 0) (q2 : gp_I s 1 7 = 1) (q3 : gp_I s 51 8 = 0) (q4 : gp_I s 57 1 = 0) (q5 : gp_I s 57 3 = 0) (q6 : gp_I s 60 8 = 0) (q7 : gp_R s 25 6 = none) (q8 : gp_R s 25 7 = none) (q9 : gp_R s 25 8 = none) (q10 : gp_R s 25 9 = none) (q11 : ∀ k, k < 8 → gp_R s 4 k = some 25) (q12 : gp_R s 51 6 = some 55) (q13 : gp_R s 51 7 = some 56) (q14 : ∀ k, k < 3 → gp_R s 52 k = some 25) (q15 : gp_R s 60 6 = some 64) (q16 : gp_R s 60 7 = some 65) (q17 : ∀ k, k < 3 → gp_R s 61 k = some 25) (q18 : gp_us s = 606895) (q19 : gp_sz s = 117) (k : ∀ (t : gH), xM z t → (gp_I t 1 2 = 0) → (gp_I t 1 6 = 0) → (gp_I t 1 7 = 1) → ((-2147483648) ≤ gp_I t 2 2 ∧ gp_I t 2 2 ≤ 2147483647) → (gp_I t 51 8 = 0) → (gp_I t 57 1 = 0) → (gp_I t 57 3 = 0) → (gp_I t 60 8 = 0) → (gp_R t 25 6 = none) → (gp_R t 25 7 = none) → (gp_R t 25 8 = none) → (gp_R t 25 9 = none) → (∀ k, k < 8 → gp_R t 4 k = some 25) → (gp_R t 51 6 = some 55) → (gp_R t 51 7 = some 56) → (∀ k, k < 3 → gp_R t 52 k = some 25) → (gp_R t 60 6 = some 64) → (gp_R t 60 7 = some 65) → (∀ k, k < 3 → gp_R t 61 k = some 25) → (gp_us t = 606895) → (gp_sz t = 117) → K (some (gp_i (-1000000002))) t) : gs_C L (d + 1) 2835 4 [gp_r (some 1), gp_i p0, gp_i p1] s K := by
  refine s_2835_e _ _ ?_
  try rw [show gp_I s 57 1 = 0 from q4]
  refine ⟨fun h_1 => ?_, fun h_1 => ?_⟩
  · refine zx2855_9 hs (by omega) (by omega) (by omega) (by omega) (by omega) (by omega) (by omega) q7 q8 q9 q10 q11 q12 q13 q14 q15 q16 q17 q18 q19 (fun s_2 hs_3 q_4 q_5 q_6 q_7 q_8 q_9 q_10 q_11 q_12 q_13 q_14 q_15 q_16 q_17 q_18 q_19 q_20 q_21 q_22 q_23 q_24 => ⟨_, rfl, ?_⟩)
    exact k s_2 hs_3 (by omega) (by omega) (by omega) (by omega) (by omega) (by omega) (by omega) (by omega) q_12 q_13 q_14 q_15 q_16 q_17 q_18 q_19 q_20 q_21 q_22 q_23 q_24
  · exfalso; omega
set_option maxRecDepth 100000 in
/-- GatheredPoints.refused [(1, 1)] -/
theorem zx2855_10 {z : gH} {L d : Nat} {K : Option gV → gH → Prop} {s : gH}  (hs : xM z s)  (q0 : gp_I s 1 2 = 0) (q1 : gp_I s 1 6 = 0) (q2 : gp_I s 1 7 = 1) (q3 : gp_I s 51 8 = 0) (q4 : gp_I s 57 1 = 0) (q5 : gp_I s 57 3 = 0) (q6 : gp_I s 60 8 = 0) (q7 : gp_R s 25 6 = none) (q8 : gp_R s 25 7 = none) (q9 : gp_R s 25 8 = none) (q10 : gp_R s 25 9 = none) (q11 : ∀ k, k < 8 → gp_R s 4 k = some 25) (q12 : gp_R s 51 6 = some 55) (q13 : gp_R s 51 7 = some 56) (q14 : ∀ k, k < 3 → gp_R s 52 k = some 25) (q15 : gp_R s 60 6 = some 64) (q16 : gp_R s 60 7 = some 65) (q17 : ∀ k, k < 3 → gp_R s 61 k = some 25) (q18 : gp_us s = 606895) (q19 : gp_sz s = 117) (k : ∀ (t : gH), xM z t → (gp_I t 1 2 = 0) → (gp_I t 1 6 = 0) → (gp_I t 1 7 = 1) → ((-2147483648) ≤ gp_I t 2 1 ∧ gp_I t 2 1 ≤ 2147483647) → (gp_I t 51 8 = 0) → (gp_I t 57 1 = 0) → (gp_I t 57 3 = 0) → (gp_I t 60 8 = 0) → (gp_R t 25 6 = none) → (gp_R t 25 7 = none) → (gp_R t 25 8 = none) → (gp_R t 25 9 = none) → (∀ k, k < 8 → gp_R t 4 k = some 25) → (gp_R t 51 6 = some 55) → (gp_R t 51 7 = some 56) → (∀ k, k < 3 → gp_R t 52 k = some 25) → (gp_R t 60 6 = some 64) → (gp_R t 60 7 = some 65) → (∀ k, k < 3 → gp_R t 61 k = some 25) → (gp_us t = 606895) → (gp_sz t = 117) → K (some (gp_i (-1000000001))) t) : gs_C L d 2855 2 [gp_r (some 1), gp_i 1] s K := by
  refine s_2855_e _ ?_
  refine ⟨by omega, ?_⟩
  have w_1 := gz_w ((gp_I s 2 (1 : Int).toNat) + 1)
  refine ⟨by omega, ?_⟩
  intro s_2 e_3
  have hs_4 : xM z s_2 := by rw [e_3]; exact xw2 hs _ _
  have q_5 : gp_I s_2 1 2 = 0 := by rw [e_3]; exact q0
  have q_6 : gp_I s_2 1 6 = 0 := by rw [e_3]; exact q1
  have q_7 : gp_I s_2 1 7 = 1 := by rw [e_3]; exact q2
  have q_8 : gp_I s_2 51 8 = 0 := by rw [e_3]; exact q3
  have q_9 : gp_I s_2 57 1 = 0 := by rw [e_3]; exact q4
  have q_10 : gp_I s_2 57 3 = 0 := by rw [e_3]; exact q5
  have q_11 : gp_I s_2 60 8 = 0 := by rw [e_3]; exact q6
  have q_12 : gp_R s_2 25 6 = none := by rw [e_3]; exact q7
  have q_13 : gp_R s_2 25 7 = none := by rw [e_3]; exact q8
  have q_14 : gp_R s_2 25 8 = none := by rw [e_3]; exact q9
  have q_15 : gp_R s_2 25 9 = none := by rw [e_3]; exact q10
  have q_16 : ∀ k, k < 8 → gp_R s_2 4 k = some 25 := by rw [e_3]; exact q11
  have q_17 : gp_R s_2 51 6 = some 55 := by rw [e_3]; exact q12
  have q_18 : gp_R s_2 51 7 = some 56 := by rw [e_3]; exact q13
  have q_19 : ∀ k, k < 3 → gp_R s_2 52 k = some 25 := by rw [e_3]; exact q14
  have q_20 : gp_R s_2 60 6 = some 64 := by rw [e_3]; exact q15
  have q_21 : gp_R s_2 60 7 = some 65 := by rw [e_3]; exact q16
  have q_22 : ∀ k, k < 3 → gp_R s_2 61 k = some 25 := by rw [e_3]; exact q17
  have q_23 : gp_us s_2 = 606895 := by rw [e_3]; exact q18
  have q_24 : gp_sz s_2 = 117 := by rw [e_3]; exact q19
  have q_25 : (-2147483648) ≤ gp_I s_2 2 1 ∧ gp_I s_2 2 1 ≤ 2147483647 := by have x_26 : gp_I s_2 2 1 = gp_wr ((gp_I s 2 (1 : Int).toNat) + 1) := (by rw [e_3]; rfl); omega
  have w_27 := gz_w ((-1000000000) - 1)
  have e_28 : gp_wr ((-1000000000) - 1) = (-1000000001) := by omega
  try rw [e_28]
  exact k s_2 hs_4 (by omega) (by omega) (by omega) (by omega) (by omega) (by omega) (by omega) (by omega) q_12 q_13 q_14 q_15 q_16 q_17 q_18 q_19 q_20 q_21 q_22 q_23 q_24
set_option maxRecDepth 100000 in
/-- GatheredPoints.play [(-2147483648, 0)] -/
theorem zx2836_0 {z : gH} {L d : Nat} {K : Option gV → gH → Prop} {s : gH} (p0 : Int) (hs : xM z s) (h_p0 : (-2147483648) ≤ p0 ∧ p0 ≤ 0) (q0 : gp_I s 1 2 = 0) (q1 : gp_I s 1 6 = 0) (q2 : gp_I s 1 7 = 1) (q3 : gp_I s 51 8 = 0) (q4 : gp_I s 57 1 = 0) (q5 : gp_I s 57 3 = 0) (q6 : gp_I s 60 8 = 0) (q7 : gp_R s 25 6 = none) (q8 : gp_R s 25 7 = none) (q9 : gp_R s 25 8 = none) (q10 : gp_R s 25 9 = none) (q11 : ∀ k, k < 8 → gp_R s 4 k = some 25) (q12 : gp_R s 51 6 = some 55) (q13 : gp_R s 51 7 = some 56) (q14 : ∀ k, k < 3 → gp_R s 52 k = some 25) (q15 : gp_R s 60 6 = some 64) (q16 : gp_R s 60 7 = some 65) (q17 : ∀ k, k < 3 → gp_R s 61 k = some 25) (q18 : gp_us s = 606895) (q19 : gp_sz s = 117) (k : ∀ (t : gH), xM z t → (gp_I t 1 2 = 0) → (gp_I t 1 6 = 0) → (gp_I t 1 7 = 1) → ((-2147483648) ≤ gp_I t 2 1 ∧ gp_I t 2 1 ≤ 2147483647) → (gp_I t 51 8 = 0) → (gp_I t 57 1 = 0) → (gp_I t 57 3 = 0) → (gp_I t 60 8 = 0) → (gp_R t 25 6 = none) → (gp_R t 25 7 = none) → (gp_R t 25 8 = none) → (gp_R t 25 9 = none) → (∀ k, k < 8 → gp_R t 4 k = some 25) → (gp_R t 51 6 = some 55) → (gp_R t 51 7 = some 56) → (∀ k, k < 3 → gp_R t 52 k = some 25) → (gp_R t 60 6 = some 64) → (gp_R t 60 7 = some 65) → (∀ k, k < 3 → gp_R t 61 k = some 25) → (gp_us t = 606895) → (gp_sz t = 117) → K (some (gp_i (-1000000001))) t) : gs_C L (d + 1) 2836 3 [gp_r (some 1), gp_i p0] s K := by
  refine s_2836_e _ ?_
  refine ⟨fun h_1 => ?_, fun h_1 => ?_⟩
  · refine s_2836_11 _ _ ?_
    refine zx2855_10 hs (by omega) (by omega) (by omega) (by omega) (by omega) (by omega) (by omega) q7 q8 q9 q10 q11 q12 q13 q14 q15 q16 q17 q18 q19 (fun s_2 hs_3 q_4 q_5 q_6 q_7 q_8 q_9 q_10 q_11 q_12 q_13 q_14 q_15 q_16 q_17 q_18 q_19 q_20 q_21 q_22 q_23 q_24 => ⟨_, rfl, ?_⟩)
    exact k s_2 hs_3 (by omega) (by omega) (by omega) (by omega) (by omega) (by omega) (by omega) (by omega) q_12 q_13 q_14 q_15 q_16 q_17 q_18 q_19 q_20 q_21 q_22 q_23 q_24
  · exfalso; omega
set_option maxRecDepth 100000 in
/-- GatheredPoints.play [(1, 20)] -/
theorem zx2836_1 {z : gH} {L d : Nat} {K : Option gV → gH → Prop} {s : gH} (p0 : Int) (hs : xM z s) (h_p0 : 1 ≤ p0 ∧ p0 ≤ 20) (q0 : gp_I s 1 2 = 0) (q1 : gp_I s 1 6 = 0) (q2 : gp_I s 1 7 = 1) (q3 : gp_I s 51 8 = 0) (q4 : gp_I s 57 1 = 0) (q5 : gp_I s 57 3 = 0) (q6 : gp_I s 60 8 = 0) (q7 : gp_R s 25 6 = none) (q8 : gp_R s 25 7 = none) (q9 : gp_R s 25 8 = none) (q10 : gp_R s 25 9 = none) (q11 : ∀ k, k < 8 → gp_R s 4 k = some 25) (q12 : gp_R s 51 6 = some 55) (q13 : gp_R s 51 7 = some 56) (q14 : ∀ k, k < 3 → gp_R s 52 k = some 25) (q15 : gp_R s 60 6 = some 64) (q16 : gp_R s 60 7 = some 65) (q17 : ∀ k, k < 3 → gp_R s 61 k = some 25) (q18 : gp_us s = 606895) (q19 : gp_sz s = 117) (k : ∀ (t : gH), xM z t → (gp_I t 1 2 = 0) → (gp_I t 1 6 = 0) → (gp_I t 1 7 = 1) → ((-2147483648) ≤ gp_I t 2 2 ∧ gp_I t 2 2 ≤ 2147483647) → (gp_I t 51 8 = 0) → (gp_I t 57 1 = 0) → (gp_I t 57 3 = 0) → (gp_I t 60 8 = 0) → (gp_R t 25 6 = none) → (gp_R t 25 7 = none) → (gp_R t 25 8 = none) → (gp_R t 25 9 = none) → (∀ k, k < 8 → gp_R t 4 k = some 25) → (gp_R t 51 6 = some 55) → (gp_R t 51 7 = some 56) → (∀ k, k < 3 → gp_R t 52 k = some 25) → (gp_R t 60 6 = some 64) → (gp_R t 60 7 = some 65) → (∀ k, k < 3 → gp_R t 61 k = some 25) → (gp_us t = 606895) → (gp_sz t = 117) → K (some (gp_i (-1000000002))) t) : gs_C L (d + 1) 2836 3 [gp_r (some 1), gp_i p0] s K := by
  refine s_2836_e _ ?_
  refine ⟨fun h_1 => ?_, fun h_1 => ?_⟩
  · exfalso; omega
  · refine ⟨fun h_2 => ?_, fun h_2 => ?_⟩
    · exfalso; omega
    · try rw [show gp_I s 57 1 = 0 from q4]
      refine ⟨fun h_3 => ?_, fun h_3 => ?_⟩
      · refine zx2855_9 hs (by omega) (by omega) (by omega) (by omega) (by omega) (by omega) (by omega) q7 q8 q9 q10 q11 q12 q13 q14 q15 q16 q17 q18 q19 (fun s_4 hs_5 q_6 q_7 q_8 q_9 q_10 q_11 q_12 q_13 q_14 q_15 q_16 q_17 q_18 q_19 q_20 q_21 q_22 q_23 q_24 q_25 q_26 => ⟨_, rfl, ?_⟩)
        exact k s_4 hs_5 (by omega) (by omega) (by omega) (by omega) (by omega) (by omega) (by omega) (by omega) q_14 q_15 q_16 q_17 q_18 q_19 q_20 q_21 q_22 q_23 q_24 q_25 q_26
      · exfalso; omega
set_option maxRecDepth 100000 in
/-- GatheredPoints.play [(21, 2147483647)] -/
theorem zx2836_2 {z : gH} {L d : Nat} {K : Option gV → gH → Prop} {s : gH} (p0 : Int) (hs : xM z s) (h_p0 : 21 ≤ p0 ∧ p0 ≤ 2147483647) (q0 : gp_I s 1 2 = 0) (q1 : gp_I s 1 6 = 0) (q2 : gp_I s 1 7 = 1) (q3 : gp_I s 51 8 = 0) (q4 : gp_I s 57 1 = 0) (q5 : gp_I s 57 3 = 0) (q6 : gp_I s 60 8 = 0) (q7 : gp_R s 25 6 = none) (q8 : gp_R s 25 7 = none) (q9 : gp_R s 25 8 = none) (q10 : gp_R s 25 9 = none) (q11 : ∀ k, k < 8 → gp_R s 4 k = some 25) (q12 : gp_R s 51 6 = some 55) (q13 : gp_R s 51 7 = some 56) (q14 : ∀ k, k < 3 → gp_R s 52 k = some 25) (q15 : gp_R s 60 6 = some 64) (q16 : gp_R s 60 7 = some 65) (q17 : ∀ k, k < 3 → gp_R s 61 k = some 25) (q18 : gp_us s = 606895) (q19 : gp_sz s = 117) (k : ∀ (t : gH), xM z t → (gp_I t 1 2 = 0) → (gp_I t 1 6 = 0) → (gp_I t 1 7 = 1) → ((-2147483648) ≤ gp_I t 2 1 ∧ gp_I t 2 1 ≤ 2147483647) → (gp_I t 51 8 = 0) → (gp_I t 57 1 = 0) → (gp_I t 57 3 = 0) → (gp_I t 60 8 = 0) → (gp_R t 25 6 = none) → (gp_R t 25 7 = none) → (gp_R t 25 8 = none) → (gp_R t 25 9 = none) → (∀ k, k < 8 → gp_R t 4 k = some 25) → (gp_R t 51 6 = some 55) → (gp_R t 51 7 = some 56) → (∀ k, k < 3 → gp_R t 52 k = some 25) → (gp_R t 60 6 = some 64) → (gp_R t 60 7 = some 65) → (∀ k, k < 3 → gp_R t 61 k = some 25) → (gp_us t = 606895) → (gp_sz t = 117) → K (some (gp_i (-1000000001))) t) : gs_C L (d + 1) 2836 3 [gp_r (some 1), gp_i p0] s K := by
  refine s_2836_e _ ?_
  refine ⟨fun h_1 => ?_, fun h_1 => ?_⟩
  · exfalso; omega
  · refine ⟨fun h_2 => ?_, fun h_2 => ?_⟩
    · refine s_2836_11 _ _ ?_
      refine zx2855_10 hs (by omega) (by omega) (by omega) (by omega) (by omega) (by omega) (by omega) q7 q8 q9 q10 q11 q12 q13 q14 q15 q16 q17 q18 q19 (fun s_3 hs_4 q_5 q_6 q_7 q_8 q_9 q_10 q_11 q_12 q_13 q_14 q_15 q_16 q_17 q_18 q_19 q_20 q_21 q_22 q_23 q_24 q_25 => ⟨_, rfl, ?_⟩)
      exact k s_3 hs_4 (by omega) (by omega) (by omega) (by omega) (by omega) (by omega) (by omega) (by omega) q_13 q_14 q_15 q_16 q_17 q_18 q_19 q_20 q_21 q_22 q_23 q_24 q_25
    · exfalso; omega
set_option maxRecDepth 100000 in
/-- GatheredPoints.loose [(-2147483648, 0)] -/
theorem zx2837_0 {z : gH} {L d : Nat} {K : Option gV → gH → Prop} {s : gH} (p0 : Int) (hs : xM z s) (h_p0 : (-2147483648) ≤ p0 ∧ p0 ≤ 0) (q0 : gp_I s 1 2 = 0) (q1 : gp_I s 1 6 = 0) (q2 : gp_I s 1 7 = 1) (q3 : gp_I s 51 8 = 0) (q4 : gp_I s 57 1 = 0) (q5 : gp_I s 57 3 = 0) (q6 : gp_I s 60 8 = 0) (q7 : gp_R s 25 6 = none) (q8 : gp_R s 25 7 = none) (q9 : gp_R s 25 8 = none) (q10 : gp_R s 25 9 = none) (q11 : ∀ k, k < 8 → gp_R s 4 k = some 25) (q12 : gp_R s 51 6 = some 55) (q13 : gp_R s 51 7 = some 56) (q14 : ∀ k, k < 3 → gp_R s 52 k = some 25) (q15 : gp_R s 60 6 = some 64) (q16 : gp_R s 60 7 = some 65) (q17 : ∀ k, k < 3 → gp_R s 61 k = some 25) (q18 : gp_us s = 606895) (q19 : gp_sz s = 117) (k : ∀ (t : gH), xM z t → (gp_I t 1 2 = 0) → (gp_I t 1 6 = 0) → (gp_I t 1 7 = 1) → ((-2147483648) ≤ gp_I t 2 1 ∧ gp_I t 2 1 ≤ 2147483647) → (gp_I t 51 8 = 0) → (gp_I t 57 1 = 0) → (gp_I t 57 3 = 0) → (gp_I t 60 8 = 0) → (gp_R t 25 6 = none) → (gp_R t 25 7 = none) → (gp_R t 25 8 = none) → (gp_R t 25 9 = none) → (∀ k, k < 8 → gp_R t 4 k = some 25) → (gp_R t 51 6 = some 55) → (gp_R t 51 7 = some 56) → (∀ k, k < 3 → gp_R t 52 k = some 25) → (gp_R t 60 6 = some 64) → (gp_R t 60 7 = some 65) → (∀ k, k < 3 → gp_R t 61 k = some 25) → (gp_us t = 606895) → (gp_sz t = 117) → K (some (gp_i (-1000000001))) t) : gs_C L (d + 1) 2837 3 [gp_r (some 1), gp_i p0] s K := by
  refine s_2837_e _ ?_
  refine ⟨fun h_1 => ?_, fun h_1 => ?_⟩
  · refine s_2837_11 _ _ ?_
    refine zx2855_10 hs (by omega) (by omega) (by omega) (by omega) (by omega) (by omega) (by omega) q7 q8 q9 q10 q11 q12 q13 q14 q15 q16 q17 q18 q19 (fun s_2 hs_3 q_4 q_5 q_6 q_7 q_8 q_9 q_10 q_11 q_12 q_13 q_14 q_15 q_16 q_17 q_18 q_19 q_20 q_21 q_22 q_23 q_24 => ⟨_, rfl, ?_⟩)
    exact k s_2 hs_3 (by omega) (by omega) (by omega) (by omega) (by omega) (by omega) (by omega) (by omega) q_12 q_13 q_14 q_15 q_16 q_17 q_18 q_19 q_20 q_21 q_22 q_23 q_24
  · exfalso; omega
set_option maxRecDepth 100000 in
/-- GatheredPoints.loose [(1, 20)] -/
theorem zx2837_1 {z : gH} {L d : Nat} {K : Option gV → gH → Prop} {s : gH} (p0 : Int) (hs : xM z s) (h_p0 : 1 ≤ p0 ∧ p0 ≤ 20) (q0 : gp_I s 1 2 = 0) (q1 : gp_I s 1 6 = 0) (q2 : gp_I s 1 7 = 1) (q3 : gp_I s 51 8 = 0) (q4 : gp_I s 57 1 = 0) (q5 : gp_I s 57 3 = 0) (q6 : gp_I s 60 8 = 0) (q7 : gp_R s 25 6 = none) (q8 : gp_R s 25 7 = none) (q9 : gp_R s 25 8 = none) (q10 : gp_R s 25 9 = none) (q11 : ∀ k, k < 8 → gp_R s 4 k = some 25) (q12 : gp_R s 51 6 = some 55) (q13 : gp_R s 51 7 = some 56) (q14 : ∀ k, k < 3 → gp_R s 52 k = some 25) (q15 : gp_R s 60 6 = some 64) (q16 : gp_R s 60 7 = some 65) (q17 : ∀ k, k < 3 → gp_R s 61 k = some 25) (q18 : gp_us s = 606895) (q19 : gp_sz s = 117) (k : ∀ (t : gH), xM z t → (gp_I t 1 2 = 0) → (gp_I t 1 6 = 0) → (gp_I t 1 7 = 1) → ((-2147483648) ≤ gp_I t 2 2 ∧ gp_I t 2 2 ≤ 2147483647) → (gp_I t 51 8 = 0) → (gp_I t 57 1 = 0) → (gp_I t 57 3 = 0) → (gp_I t 60 8 = 0) → (gp_R t 25 6 = none) → (gp_R t 25 7 = none) → (gp_R t 25 8 = none) → (gp_R t 25 9 = none) → (∀ k, k < 8 → gp_R t 4 k = some 25) → (gp_R t 51 6 = some 55) → (gp_R t 51 7 = some 56) → (∀ k, k < 3 → gp_R t 52 k = some 25) → (gp_R t 60 6 = some 64) → (gp_R t 60 7 = some 65) → (∀ k, k < 3 → gp_R t 61 k = some 25) → (gp_us t = 606895) → (gp_sz t = 117) → K (some (gp_i (-1000000002))) t) : gs_C L (d + 1) 2837 3 [gp_r (some 1), gp_i p0] s K := by
  refine s_2837_e _ ?_
  refine ⟨fun h_1 => ?_, fun h_1 => ?_⟩
  · exfalso; omega
  · refine ⟨fun h_2 => ?_, fun h_2 => ?_⟩
    · exfalso; omega
    · try rw [show gp_I s 57 1 = 0 from q4]
      refine ⟨fun h_3 => ?_, fun h_3 => ?_⟩
      · refine zx2855_9 hs (by omega) (by omega) (by omega) (by omega) (by omega) (by omega) (by omega) q7 q8 q9 q10 q11 q12 q13 q14 q15 q16 q17 q18 q19 (fun s_4 hs_5 q_6 q_7 q_8 q_9 q_10 q_11 q_12 q_13 q_14 q_15 q_16 q_17 q_18 q_19 q_20 q_21 q_22 q_23 q_24 q_25 q_26 => ⟨_, rfl, ?_⟩)
        exact k s_4 hs_5 (by omega) (by omega) (by omega) (by omega) (by omega) (by omega) (by omega) (by omega) q_14 q_15 q_16 q_17 q_18 q_19 q_20 q_21 q_22 q_23 q_24 q_25 q_26
      · exfalso; omega
set_option maxRecDepth 100000 in
/-- GatheredPoints.loose [(21, 2147483647)] -/
theorem zx2837_2 {z : gH} {L d : Nat} {K : Option gV → gH → Prop} {s : gH} (p0 : Int) (hs : xM z s) (h_p0 : 21 ≤ p0 ∧ p0 ≤ 2147483647) (q0 : gp_I s 1 2 = 0) (q1 : gp_I s 1 6 = 0) (q2 : gp_I s 1 7 = 1) (q3 : gp_I s 51 8 = 0) (q4 : gp_I s 57 1 = 0) (q5 : gp_I s 57 3 = 0) (q6 : gp_I s 60 8 = 0) (q7 : gp_R s 25 6 = none) (q8 : gp_R s 25 7 = none) (q9 : gp_R s 25 8 = none) (q10 : gp_R s 25 9 = none) (q11 : ∀ k, k < 8 → gp_R s 4 k = some 25) (q12 : gp_R s 51 6 = some 55) (q13 : gp_R s 51 7 = some 56) (q14 : ∀ k, k < 3 → gp_R s 52 k = some 25) (q15 : gp_R s 60 6 = some 64) (q16 : gp_R s 60 7 = some 65) (q17 : ∀ k, k < 3 → gp_R s 61 k = some 25) (q18 : gp_us s = 606895) (q19 : gp_sz s = 117) (k : ∀ (t : gH), xM z t → (gp_I t 1 2 = 0) → (gp_I t 1 6 = 0) → (gp_I t 1 7 = 1) → ((-2147483648) ≤ gp_I t 2 1 ∧ gp_I t 2 1 ≤ 2147483647) → (gp_I t 51 8 = 0) → (gp_I t 57 1 = 0) → (gp_I t 57 3 = 0) → (gp_I t 60 8 = 0) → (gp_R t 25 6 = none) → (gp_R t 25 7 = none) → (gp_R t 25 8 = none) → (gp_R t 25 9 = none) → (∀ k, k < 8 → gp_R t 4 k = some 25) → (gp_R t 51 6 = some 55) → (gp_R t 51 7 = some 56) → (∀ k, k < 3 → gp_R t 52 k = some 25) → (gp_R t 60 6 = some 64) → (gp_R t 60 7 = some 65) → (∀ k, k < 3 → gp_R t 61 k = some 25) → (gp_us t = 606895) → (gp_sz t = 117) → K (some (gp_i (-1000000001))) t) : gs_C L (d + 1) 2837 3 [gp_r (some 1), gp_i p0] s K := by
  refine s_2837_e _ ?_
  refine ⟨fun h_1 => ?_, fun h_1 => ?_⟩
  · exfalso; omega
  · refine ⟨fun h_2 => ?_, fun h_2 => ?_⟩
    · refine s_2837_11 _ _ ?_
      refine zx2855_10 hs (by omega) (by omega) (by omega) (by omega) (by omega) (by omega) (by omega) q7 q8 q9 q10 q11 q12 q13 q14 q15 q16 q17 q18 q19 (fun s_3 hs_4 q_5 q_6 q_7 q_8 q_9 q_10 q_11 q_12 q_13 q_14 q_15 q_16 q_17 q_18 q_19 q_20 q_21 q_22 q_23 q_24 q_25 => ⟨_, rfl, ?_⟩)
      exact k s_3 hs_4 (by omega) (by omega) (by omega) (by omega) (by omega) (by omega) (by omega) (by omega) q_13 q_14 q_15 q_16 q_17 q_18 q_19 q_20 q_21 q_22 q_23 q_24 q_25
    · exfalso; omega
set_option maxRecDepth 100000 in
/-- GatheredPoints.refused [(2, 2)] -/
theorem zx2855_11 {z : gH} {L d : Nat} {K : Option gV → gH → Prop} {s : gH}  (hs : xM z s)  (q0 : gp_I s 1 2 = 0) (q1 : gp_I s 1 6 = 0) (q2 : gp_I s 1 7 = 1) (q3 : gp_I s 51 8 = 0) (q4 : gp_I s 57 1 = 0) (q5 : gp_I s 57 3 = 0) (q6 : gp_I s 60 8 = 0) (q7 : ∀ k, k < 8 → gp_R s 4 k = some 25) (q8 : gp_R s 51 6 = some 55) (q9 : gp_R s 51 7 = some 56) (q10 : gp_R s 60 6 = some 64) (q11 : gp_R s 60 7 = some 65) (q12 : gp_us s = 606895) (q13 : gp_sz s = 117) (k : ∀ (t : gH), xM z t → (gp_I t 1 2 = 0) → (gp_I t 1 6 = 0) → (gp_I t 1 7 = 1) → ((-2147483648) ≤ gp_I t 2 2 ∧ gp_I t 2 2 ≤ 2147483647) → (gp_I t 51 8 = 0) → (gp_I t 57 1 = 0) → (gp_I t 57 3 = 0) → (gp_I t 60 8 = 0) → (∀ k, k < 8 → gp_R t 4 k = some 25) → (gp_R t 51 6 = some 55) → (gp_R t 51 7 = some 56) → (gp_R t 60 6 = some 64) → (gp_R t 60 7 = some 65) → (gp_us t = 606895) → (gp_sz t = 117) → K (some (gp_i (-1000000002))) t) : gs_C L d 2855 2 [gp_r (some 1), gp_i 2] s K := by
  refine s_2855_e _ ?_
  refine ⟨by omega, ?_⟩
  have w_1 := gz_w ((gp_I s 2 (2 : Int).toNat) + 1)
  refine ⟨by omega, ?_⟩
  intro s_2 e_3
  have hs_4 : xM z s_2 := by rw [e_3]; exact xw2 hs _ _
  have q_5 : gp_I s_2 1 2 = 0 := by rw [e_3]; exact q0
  have q_6 : gp_I s_2 1 6 = 0 := by rw [e_3]; exact q1
  have q_7 : gp_I s_2 1 7 = 1 := by rw [e_3]; exact q2
  have q_8 : gp_I s_2 51 8 = 0 := by rw [e_3]; exact q3
  have q_9 : gp_I s_2 57 1 = 0 := by rw [e_3]; exact q4
  have q_10 : gp_I s_2 57 3 = 0 := by rw [e_3]; exact q5
  have q_11 : gp_I s_2 60 8 = 0 := by rw [e_3]; exact q6
  have q_12 : ∀ k, k < 8 → gp_R s_2 4 k = some 25 := by rw [e_3]; exact q7
  have q_13 : gp_R s_2 51 6 = some 55 := by rw [e_3]; exact q8
  have q_14 : gp_R s_2 51 7 = some 56 := by rw [e_3]; exact q9
  have q_15 : gp_R s_2 60 6 = some 64 := by rw [e_3]; exact q10
  have q_16 : gp_R s_2 60 7 = some 65 := by rw [e_3]; exact q11
  have q_17 : gp_us s_2 = 606895 := by rw [e_3]; exact q12
  have q_18 : gp_sz s_2 = 117 := by rw [e_3]; exact q13
  have q_19 : (-2147483648) ≤ gp_I s_2 2 2 ∧ gp_I s_2 2 2 ≤ 2147483647 := by have x_20 : gp_I s_2 2 2 = gp_wr ((gp_I s 2 (2 : Int).toNat) + 1) := (by rw [e_3]; rfl); omega
  have w_21 := gz_w ((-1000000000) - 2)
  have e_22 : gp_wr ((-1000000000) - 2) = (-1000000002) := by omega
  try rw [e_22]
  exact k s_2 hs_4 (by omega) (by omega) (by omega) (by omega) (by omega) (by omega) (by omega) (by omega) q_12 q_13 q_14 q_15 q_16 q_17 q_18
set_option maxRecDepth 100000 in
/-- GatheredPoints.back [] -/
theorem zx2838_0 {z : gH} {L d : Nat} {K : Option gV → gH → Prop} {s : gH}  (hs : xM z s)  (q0 : gp_I s 1 2 = 0) (q1 : gp_I s 1 6 = 0) (q2 : gp_I s 1 7 = 1) (q3 : gp_I s 51 8 = 0) (q4 : gp_I s 57 1 = 0) (q5 : gp_I s 57 3 = 0) (q6 : gp_I s 60 8 = 0) (q7 : ∀ k, k < 8 → gp_R s 4 k = some 25) (q8 : gp_R s 51 6 = some 55) (q9 : gp_R s 51 7 = some 56) (q10 : gp_R s 60 6 = some 64) (q11 : gp_R s 60 7 = some 65) (q12 : gp_us s = 606895) (q13 : gp_sz s = 117) (k : ∀ (t : gH), xM z t → (gp_I t 1 2 = 0) → (gp_I t 1 6 = 0) → (gp_I t 1 7 = 1) → ((-2147483648) ≤ gp_I t 2 2 ∧ gp_I t 2 2 ≤ 2147483647) → (gp_I t 51 8 = 0) → (gp_I t 57 1 = 0) → (gp_I t 57 3 = 0) → (gp_I t 60 8 = 0) → (∀ k, k < 8 → gp_R t 4 k = some 25) → (gp_R t 51 6 = some 55) → (gp_R t 51 7 = some 56) → (gp_R t 60 6 = some 64) → (gp_R t 60 7 = some 65) → (gp_us t = 606895) → (gp_sz t = 117) → K (some (gp_i (-1000000002))) t) : gs_C L (d + 1) 2838 1 [gp_r (some 1)] s K := by
  refine s_2838_e ?_
  try rw [show gp_I s 57 1 = 0 from q4]
  refine ⟨fun h_1 => ?_, fun h_1 => ?_⟩
  · refine s_2838_20 ?_
    refine zx2855_11 hs (by omega) (by omega) (by omega) (by omega) (by omega) (by omega) (by omega) q7 q8 q9 q10 q11 q12 q13 (fun s_2 hs_3 q_4 q_5 q_6 q_7 q_8 q_9 q_10 q_11 q_12 q_13 q_14 q_15 q_16 q_17 q_18 => ⟨_, rfl, ?_⟩)
    exact k s_2 hs_3 (by omega) (by omega) (by omega) (by omega) (by omega) (by omega) (by omega) (by omega) q_12 q_13 q_14 q_15 q_16 q_17 q_18
  · exfalso; omega
set_option maxRecDepth 100000 in
/-- GatheredPoints.matchOf [(-2147483648, -1)] -/
theorem zx2839_0 {z : gH} {L d : Nat} {K : Option gV → gH → Prop} {s : gH} (p0 : Int) (hs : xM z s) (h_p0 : (-2147483648) ≤ p0 ∧ p0 ≤ (-1)) (q0 : gp_I s 1 2 = 0) (q1 : gp_I s 1 6 = 0) (q2 : gp_I s 1 7 = 1) (q3 : gp_I s 51 8 = 0) (q4 : gp_I s 57 1 = 0) (q5 : gp_I s 57 3 = 0) (q6 : gp_I s 60 8 = 0) (q7 : gp_R s 25 6 = none) (q8 : gp_R s 25 7 = none) (q9 : gp_R s 25 8 = none) (q10 : gp_R s 25 9 = none) (q11 : ∀ k, k < 8 → gp_R s 4 k = some 25) (q12 : gp_R s 51 6 = some 55) (q13 : gp_R s 51 7 = some 56) (q14 : ∀ k, k < 3 → gp_R s 52 k = some 25) (q15 : gp_R s 60 6 = some 64) (q16 : gp_R s 60 7 = some 65) (q17 : ∀ k, k < 3 → gp_R s 61 k = some 25) (q18 : gp_us s = 606895) (q19 : gp_sz s = 117) (k : ∀ (t : gH), xM z t → (gp_I t 1 2 = 0) → (gp_I t 1 6 = 0) → (gp_I t 1 7 = 1) → ((-2147483648) ≤ gp_I t 2 1 ∧ gp_I t 2 1 ≤ 2147483647) → (gp_I t 51 8 = 0) → (gp_I t 57 1 = 0) → (gp_I t 57 3 = 0) → (gp_I t 60 8 = 0) → (gp_R t 25 6 = none) → (gp_R t 25 7 = none) → (gp_R t 25 8 = none) → (gp_R t 25 9 = none) → (∀ k, k < 8 → gp_R t 4 k = some 25) → (gp_R t 51 6 = some 55) → (gp_R t 51 7 = some 56) → (∀ k, k < 3 → gp_R t 52 k = some 25) → (gp_R t 60 6 = some 64) → (gp_R t 60 7 = some 65) → (∀ k, k < 3 → gp_R t 61 k = some 25) → (gp_us t = 606895) → (gp_sz t = 117) → K (some (gp_i (-1000000001))) t) : gs_C L (d + 1) 2839 2 [gp_r (some 1), gp_i p0] s K := by
  refine s_2839_e _ ?_
  refine ⟨fun h_1 => ?_, fun h_1 => ?_⟩
  · refine s_2839_9 _ ?_
    refine zx2855_10 hs (by omega) (by omega) (by omega) (by omega) (by omega) (by omega) (by omega) q7 q8 q9 q10 q11 q12 q13 q14 q15 q16 q17 q18 q19 (fun s_2 hs_3 q_4 q_5 q_6 q_7 q_8 q_9 q_10 q_11 q_12 q_13 q_14 q_15 q_16 q_17 q_18 q_19 q_20 q_21 q_22 q_23 q_24 => ⟨_, rfl, ?_⟩)
    exact k s_2 hs_3 (by omega) (by omega) (by omega) (by omega) (by omega) (by omega) (by omega) (by omega) q_12 q_13 q_14 q_15 q_16 q_17 q_18 q_19 q_20 q_21 q_22 q_23 q_24
  · exfalso; omega
set_option maxRecDepth 100000 in
/-- GatheredPoints.matchOf [(0, 5)] -/
theorem zx2839_1 {z : gH} {L d : Nat} {K : Option gV → gH → Prop} {s : gH} (p0 : Int) (hs : xM z s) (h_p0 : 0 ≤ p0 ∧ p0 ≤ 5) (q0 : gp_I s 1 2 = 0) (q1 : gp_I s 1 6 = 0) (q2 : gp_I s 1 7 = 1) (q3 : gp_I s 51 8 = 0) (q4 : gp_I s 57 1 = 0) (q5 : gp_I s 57 3 = 0) (q6 : gp_I s 60 8 = 0) (q7 : gp_R s 25 6 = none) (q8 : gp_R s 25 7 = none) (q9 : gp_R s 25 8 = none) (q10 : gp_R s 25 9 = none) (q11 : ∀ k, k < 8 → gp_R s 4 k = some 25) (q12 : gp_R s 51 6 = some 55) (q13 : gp_R s 51 7 = some 56) (q14 : ∀ k, k < 3 → gp_R s 52 k = some 25) (q15 : gp_R s 60 6 = some 64) (q16 : gp_R s 60 7 = some 65) (q17 : ∀ k, k < 3 → gp_R s 61 k = some 25) (q18 : gp_us s = 606895) (q19 : gp_sz s = 117) (k : ∀ (t : gH), xM z t → (gp_I t 1 2 = 0) → (gp_I t 1 6 = 0) → (gp_I t 1 7 = 1) → ((-2147483648) ≤ gp_I t 2 2 ∧ gp_I t 2 2 ≤ 2147483647) → (gp_I t 51 8 = 0) → (gp_I t 57 1 = 0) → (gp_I t 57 3 = 0) → (gp_I t 60 8 = 0) → (gp_R t 25 6 = none) → (gp_R t 25 7 = none) → (gp_R t 25 8 = none) → (gp_R t 25 9 = none) → (∀ k, k < 8 → gp_R t 4 k = some 25) → (gp_R t 51 6 = some 55) → (gp_R t 51 7 = some 56) → (∀ k, k < 3 → gp_R t 52 k = some 25) → (gp_R t 60 6 = some 64) → (gp_R t 60 7 = some 65) → (∀ k, k < 3 → gp_R t 61 k = some 25) → (gp_us t = 606895) → (gp_sz t = 117) → K (some (gp_i (-1000000002))) t) : gs_C L (d + 1) 2839 2 [gp_r (some 1), gp_i p0] s K := by
  refine s_2839_e _ ?_
  refine ⟨fun h_1 => ?_, fun h_1 => ?_⟩
  · exfalso; omega
  · refine ⟨fun h_2 => ?_, fun h_2 => ?_⟩
    · exfalso; omega
    · try rw [show gp_I s 57 1 = 0 from q4]
      refine ⟨fun h_3 => ?_, fun h_3 => ?_⟩
      · refine zx2855_9 hs (by omega) (by omega) (by omega) (by omega) (by omega) (by omega) (by omega) q7 q8 q9 q10 q11 q12 q13 q14 q15 q16 q17 q18 q19 (fun s_4 hs_5 q_6 q_7 q_8 q_9 q_10 q_11 q_12 q_13 q_14 q_15 q_16 q_17 q_18 q_19 q_20 q_21 q_22 q_23 q_24 q_25 q_26 => ⟨_, rfl, ?_⟩)
        exact k s_4 hs_5 (by omega) (by omega) (by omega) (by omega) (by omega) (by omega) (by omega) (by omega) q_14 q_15 q_16 q_17 q_18 q_19 q_20 q_21 q_22 q_23 q_24 q_25 q_26
      · exfalso; omega
set_option maxRecDepth 100000 in
/-- GatheredPoints.matchOf [(6, 2147483647)] -/
theorem zx2839_2 {z : gH} {L d : Nat} {K : Option gV → gH → Prop} {s : gH} (p0 : Int) (hs : xM z s) (h_p0 : 6 ≤ p0 ∧ p0 ≤ 2147483647) (q0 : gp_I s 1 2 = 0) (q1 : gp_I s 1 6 = 0) (q2 : gp_I s 1 7 = 1) (q3 : gp_I s 51 8 = 0) (q4 : gp_I s 57 1 = 0) (q5 : gp_I s 57 3 = 0) (q6 : gp_I s 60 8 = 0) (q7 : gp_R s 25 6 = none) (q8 : gp_R s 25 7 = none) (q9 : gp_R s 25 8 = none) (q10 : gp_R s 25 9 = none) (q11 : ∀ k, k < 8 → gp_R s 4 k = some 25) (q12 : gp_R s 51 6 = some 55) (q13 : gp_R s 51 7 = some 56) (q14 : ∀ k, k < 3 → gp_R s 52 k = some 25) (q15 : gp_R s 60 6 = some 64) (q16 : gp_R s 60 7 = some 65) (q17 : ∀ k, k < 3 → gp_R s 61 k = some 25) (q18 : gp_us s = 606895) (q19 : gp_sz s = 117) (k : ∀ (t : gH), xM z t → (gp_I t 1 2 = 0) → (gp_I t 1 6 = 0) → (gp_I t 1 7 = 1) → ((-2147483648) ≤ gp_I t 2 1 ∧ gp_I t 2 1 ≤ 2147483647) → (gp_I t 51 8 = 0) → (gp_I t 57 1 = 0) → (gp_I t 57 3 = 0) → (gp_I t 60 8 = 0) → (gp_R t 25 6 = none) → (gp_R t 25 7 = none) → (gp_R t 25 8 = none) → (gp_R t 25 9 = none) → (∀ k, k < 8 → gp_R t 4 k = some 25) → (gp_R t 51 6 = some 55) → (gp_R t 51 7 = some 56) → (∀ k, k < 3 → gp_R t 52 k = some 25) → (gp_R t 60 6 = some 64) → (gp_R t 60 7 = some 65) → (∀ k, k < 3 → gp_R t 61 k = some 25) → (gp_us t = 606895) → (gp_sz t = 117) → K (some (gp_i (-1000000001))) t) : gs_C L (d + 1) 2839 2 [gp_r (some 1), gp_i p0] s K := by
  refine s_2839_e _ ?_
  refine ⟨fun h_1 => ?_, fun h_1 => ?_⟩
  · exfalso; omega
  · refine ⟨fun h_2 => ?_, fun h_2 => ?_⟩
    · refine s_2839_9 _ ?_
      refine zx2855_10 hs (by omega) (by omega) (by omega) (by omega) (by omega) (by omega) (by omega) q7 q8 q9 q10 q11 q12 q13 q14 q15 q16 q17 q18 q19 (fun s_3 hs_4 q_5 q_6 q_7 q_8 q_9 q_10 q_11 q_12 q_13 q_14 q_15 q_16 q_17 q_18 q_19 q_20 q_21 q_22 q_23 q_24 q_25 => ⟨_, rfl, ?_⟩)
      exact k s_3 hs_4 (by omega) (by omega) (by omega) (by omega) (by omega) (by omega) (by omega) (by omega) q_13 q_14 q_15 q_16 q_17 q_18 q_19 q_20 q_21 q_22 q_23 q_24 q_25
    · exfalso; omega
set_option maxRecDepth 100000 in
/-- GatheredPoints.moved [(-2147483648, 2147483647)] -/
theorem zx2840_0 {z : gH} {L d : Nat} {K : Option gV → gH → Prop} {s : gH} (p0 : Int) (hs : xM z s) (h_p0 : (-2147483648) ≤ p0 ∧ p0 ≤ 2147483647) (q0 : gp_I s 1 2 = 0) (q1 : gp_I s 1 6 = 0) (q2 : gp_I s 1 7 = 1) (q3 : gp_I s 51 8 = 0) (q4 : gp_I s 57 1 = 0) (q5 : gp_I s 57 3 = 0) (q6 : gp_I s 60 8 = 0) (q7 : gp_R s 25 6 = none) (q8 : gp_R s 25 7 = none) (q9 : gp_R s 25 8 = none) (q10 : gp_R s 25 9 = none) (q11 : ∀ k, k < 8 → gp_R s 4 k = some 25) (q12 : gp_R s 51 6 = some 55) (q13 : gp_R s 51 7 = some 56) (q14 : ∀ k, k < 3 → gp_R s 52 k = some 25) (q15 : gp_R s 60 6 = some 64) (q16 : gp_R s 60 7 = some 65) (q17 : ∀ k, k < 3 → gp_R s 61 k = some 25) (q18 : gp_us s = 606895) (q19 : gp_sz s = 117) (k : ∀ (t : gH), xM z t → (gp_I t 1 2 = 0) → (gp_I t 1 6 = 0) → (gp_I t 1 7 = 1) → ((-2147483648) ≤ gp_I t 2 2 ∧ gp_I t 2 2 ≤ 2147483647) → (gp_I t 51 8 = 0) → (gp_I t 57 1 = 0) → (gp_I t 57 3 = 0) → (gp_I t 60 8 = 0) → (gp_R t 25 6 = none) → (gp_R t 25 7 = none) → (gp_R t 25 8 = none) → (gp_R t 25 9 = none) → (∀ k, k < 8 → gp_R t 4 k = some 25) → (gp_R t 51 6 = some 55) → (gp_R t 51 7 = some 56) → (∀ k, k < 3 → gp_R t 52 k = some 25) → (gp_R t 60 6 = some 64) → (gp_R t 60 7 = some 65) → (∀ k, k < 3 → gp_R t 61 k = some 25) → (gp_us t = 606895) → (gp_sz t = 117) → K (some (gp_i (-1000000002))) t) : gs_C L (d + 1) 2840 2 [gp_r (some 1), gp_i p0] s K := by
  refine s_2840_e _ ?_
  try rw [show gp_I s 57 1 = 0 from q4]
  refine ⟨fun h_1 => ?_, fun h_1 => ?_⟩
  · refine s_2840_25 _ ?_
    refine zx2855_9 hs (by omega) (by omega) (by omega) (by omega) (by omega) (by omega) (by omega) q7 q8 q9 q10 q11 q12 q13 q14 q15 q16 q17 q18 q19 (fun s_2 hs_3 q_4 q_5 q_6 q_7 q_8 q_9 q_10 q_11 q_12 q_13 q_14 q_15 q_16 q_17 q_18 q_19 q_20 q_21 q_22 q_23 q_24 => ⟨_, rfl, ?_⟩)
    exact k s_2 hs_3 (by omega) (by omega) (by omega) (by omega) (by omega) (by omega) (by omega) (by omega) q_12 q_13 q_14 q_15 q_16 q_17 q_18 q_19 q_20 q_21 q_22 q_23 q_24
  · exfalso; omega
set_option maxRecDepth 100000 in
/-- Sheets.beyond [(-2147483648, -1)] -/
theorem zx1793_6 {z : gH} {L d : Nat} {K : Option gV → gH → Prop} {s : gH} (p0 : Int) (hs : xM z s) (h_p0 : (-2147483648) ≤ p0 ∧ p0 ≤ (-1)) (q0 : gp_I s 72 0 = 0) (q1 : gp_I s 72 1 = 0) (q2 : gp_I s 72 2 = 0) (q3 : gp_I s 72 3 = 0) (q4 : gp_I s 73 0 = 0) (q5 : gp_I s 73 1 = 0) (q6 : gp_I s 73 2 = 0) (q7 : gp_I s 73 3 = 0) (k : K (some (gp_i 1)) s) : gs_C L d 1793 2 [gp_r (some 66), gp_i p0] s K := by
  refine s_1793_e _ ?_
  refine ⟨fun h_1 => ?_, fun h_1 => ?_⟩
  · refine s_1793_9 _ ?_
    refine s_1793_14 _ _ ?_
    refine ⟨by omega, ?_⟩
    exact k
  · exfalso; omega
set_option maxRecDepth 100000 in
/-- GatheredPoints.refused [(1, 1)] -/
theorem zx2855_12 {z : gH} {L d : Nat} {K : Option gV → gH → Prop} {s : gH}  (hs : xM z s)  (q0 : gp_I s 1 2 = 0) (q1 : gp_I s 1 6 = 0) (q2 : gp_I s 1 7 = 1) (q3 : gp_I s 51 8 = 0) (q4 : gp_I s 57 1 = 0) (q5 : gp_I s 57 3 = 0) (q6 : gp_I s 72 0 = 0) (q7 : gp_I s 72 1 = 0) (q8 : gp_I s 72 2 = 0) (q9 : gp_I s 72 3 = 0) (q10 : gp_I s 73 0 = 0) (q11 : gp_I s 73 1 = 0) (q12 : gp_I s 73 2 = 0) (q13 : gp_I s 73 3 = 0) (q14 : ∀ k, k < 8 → gp_R s 4 k = some 25) (q15 : gp_R s 51 6 = some 55) (q16 : gp_R s 51 7 = some 56) (q17 : gp_us s = 606895) (q18 : gp_sz s = 117) (k : ∀ (t : gH), xM z t → (gp_I t 1 2 = 0) → (gp_I t 1 6 = 0) → (gp_I t 1 7 = 1) → ((-2147483648) ≤ gp_I t 2 1 ∧ gp_I t 2 1 ≤ 2147483647) → (gp_I t 51 8 = 0) → (gp_I t 57 1 = 0) → (gp_I t 57 3 = 0) → (gp_I t 72 0 = 0) → (gp_I t 72 1 = 0) → (gp_I t 72 2 = 0) → (gp_I t 72 3 = 0) → (gp_I t 73 0 = 0) → (gp_I t 73 1 = 0) → (gp_I t 73 2 = 0) → (gp_I t 73 3 = 0) → (∀ k, k < 8 → gp_R t 4 k = some 25) → (gp_R t 51 6 = some 55) → (gp_R t 51 7 = some 56) → (gp_us t = 606895) → (gp_sz t = 117) → K (some (gp_i (-1000000001))) t) : gs_C L d 2855 2 [gp_r (some 1), gp_i 1] s K := by
  refine s_2855_e _ ?_
  refine ⟨by omega, ?_⟩
  have w_1 := gz_w ((gp_I s 2 (1 : Int).toNat) + 1)
  refine ⟨by omega, ?_⟩
  intro s_2 e_3
  have hs_4 : xM z s_2 := by rw [e_3]; exact xw2 hs _ _
  have q_5 : gp_I s_2 1 2 = 0 := by rw [e_3]; exact q0
  have q_6 : gp_I s_2 1 6 = 0 := by rw [e_3]; exact q1
  have q_7 : gp_I s_2 1 7 = 1 := by rw [e_3]; exact q2
  have q_8 : gp_I s_2 51 8 = 0 := by rw [e_3]; exact q3
  have q_9 : gp_I s_2 57 1 = 0 := by rw [e_3]; exact q4
  have q_10 : gp_I s_2 57 3 = 0 := by rw [e_3]; exact q5
  have q_11 : gp_I s_2 72 0 = 0 := by rw [e_3]; exact q6
  have q_12 : gp_I s_2 72 1 = 0 := by rw [e_3]; exact q7
  have q_13 : gp_I s_2 72 2 = 0 := by rw [e_3]; exact q8
  have q_14 : gp_I s_2 72 3 = 0 := by rw [e_3]; exact q9
  have q_15 : gp_I s_2 73 0 = 0 := by rw [e_3]; exact q10
  have q_16 : gp_I s_2 73 1 = 0 := by rw [e_3]; exact q11
  have q_17 : gp_I s_2 73 2 = 0 := by rw [e_3]; exact q12
  have q_18 : gp_I s_2 73 3 = 0 := by rw [e_3]; exact q13
  have q_19 : ∀ k, k < 8 → gp_R s_2 4 k = some 25 := by rw [e_3]; exact q14
  have q_20 : gp_R s_2 51 6 = some 55 := by rw [e_3]; exact q15
  have q_21 : gp_R s_2 51 7 = some 56 := by rw [e_3]; exact q16
  have q_22 : gp_us s_2 = 606895 := by rw [e_3]; exact q17
  have q_23 : gp_sz s_2 = 117 := by rw [e_3]; exact q18
  have q_24 : (-2147483648) ≤ gp_I s_2 2 1 ∧ gp_I s_2 2 1 ≤ 2147483647 := by have x_25 : gp_I s_2 2 1 = gp_wr ((gp_I s 2 (1 : Int).toNat) + 1) := (by rw [e_3]; rfl); omega
  have w_26 := gz_w ((-1000000000) - 1)
  have e_27 : gp_wr ((-1000000000) - 1) = (-1000000001) := by omega
  try rw [e_27]
  exact k s_2 hs_4 (by omega) (by omega) (by omega) (by omega) (by omega) (by omega) (by omega) (by omega) (by omega) (by omega) (by omega) (by omega) (by omega) (by omega) (by omega) q_19 q_20 q_21 q_22 q_23
set_option maxRecDepth 100000 in
/-- GatheredPoints.sheet [(-2147483648, -1), (-2147483648, 2147483647), (-2147483648, 2147483647)] -/
theorem zx2842_0 {z : gH} {L d : Nat} {K : Option gV → gH → Prop} {s : gH} (p0 : Int) (p1 : Int) (p2 : Int) (hs : xM z s) (h_p0 : (-2147483648) ≤ p0 ∧ p0 ≤ (-1)) (h_p1 : (-2147483648) ≤ p1 ∧ p1 ≤ 2147483647) (h_p2 : (-2147483648) ≤ p2 ∧ p2 ≤ 2147483647) (q0 : gp_I s 1 2 = 0) (q1 : gp_I s 1 6 = 0) (q2 : gp_I s 1 7 = 1) (q3 : gp_I s 51 8 = 0) (q4 : gp_I s 57 1 = 0) (q5 : gp_I s 57 3 = 0) (q6 : gp_I s 72 0 = 0) (q7 : gp_I s 72 1 = 0) (q8 : gp_I s 72 2 = 0) (q9 : gp_I s 72 3 = 0) (q10 : gp_I s 73 0 = 0) (q11 : gp_I s 73 1 = 0) (q12 : gp_I s 73 2 = 0) (q13 : gp_I s 73 3 = 0) (q14 : ∀ k, k < 8 → gp_R s 4 k = some 25) (q15 : gp_R s 51 6 = some 55) (q16 : gp_R s 51 7 = some 56) (q17 : gp_us s = 606895) (q18 : gp_sz s = 117) (k : ∀ (t : gH), xM z t → (gp_I t 1 2 = 0) → (gp_I t 1 6 = 0) → (gp_I t 1 7 = 1) → ((-2147483648) ≤ gp_I t 2 1 ∧ gp_I t 2 1 ≤ 2147483647) → (gp_I t 51 8 = 0) → (gp_I t 57 1 = 0) → (gp_I t 57 3 = 0) → (gp_I t 72 0 = 0) → (gp_I t 72 1 = 0) → (gp_I t 72 2 = 0) → (gp_I t 72 3 = 0) → (gp_I t 73 0 = 0) → (gp_I t 73 1 = 0) → (gp_I t 73 2 = 0) → (gp_I t 73 3 = 0) → (∀ k, k < 8 → gp_R t 4 k = some 25) → (gp_R t 51 6 = some 55) → (gp_R t 51 7 = some 56) → (gp_us t = 606895) → (gp_sz t = 117) → K (some (gp_i (-1000000001))) t) : gs_C L (d + 1) 2842 4 [gp_r (some 1), gp_i p0, gp_i p1, gp_i p2] s K := by
  refine s_2842_e _ _ _ ?_
  refine zx1793_6 _ hs (by omega) (by omega) (by omega) (by omega) (by omega) (by omega) (by omega) (by omega) (by omega) (⟨_, rfl, ?_⟩)
  refine ⟨fun h_1 => ?_, fun h_1 => ?_⟩
  · exfalso; omega
  · refine s_2842_33 _ _ _ ?_
    refine zx2855_12 hs (by omega) (by omega) (by omega) (by omega) (by omega) (by omega) (by omega) (by omega) (by omega) (by omega) (by omega) (by omega) (by omega) (by omega) q14 q15 q16 q17 q18 (fun s_2 hs_3 q_4 q_5 q_6 q_7 q_8 q_9 q_10 q_11 q_12 q_13 q_14 q_15 q_16 q_17 q_18 q_19 q_20 q_21 q_22 q_23 => ⟨_, rfl, ?_⟩)
    exact k s_2 hs_3 (by omega) (by omega) (by omega) (by omega) (by omega) (by omega) (by omega) (by omega) (by omega) (by omega) (by omega) (by omega) (by omega) (by omega) (by omega) q_19 q_20 q_21 q_22 q_23
set_option maxRecDepth 100000 in
/-- Sheets.beyond [(4, 2147483647)] -/
theorem zx1793_7 {z : gH} {L d : Nat} {K : Option gV → gH → Prop} {s : gH} (p0 : Int) (hs : xM z s) (h_p0 : 4 ≤ p0 ∧ p0 ≤ 2147483647) (q0 : gp_I s 72 0 = 0) (q1 : gp_I s 72 1 = 0) (q2 : gp_I s 72 2 = 0) (q3 : gp_I s 72 3 = 0) (q4 : gp_I s 73 0 = 0) (q5 : gp_I s 73 1 = 0) (q6 : gp_I s 73 2 = 0) (q7 : gp_I s 73 3 = 0) (k : K (some (gp_i 1)) s) : gs_C L d 1793 2 [gp_r (some 66), gp_i p0] s K := by
  refine s_1793_e _ ?_
  refine ⟨fun h_1 => ?_, fun h_1 => ?_⟩
  · exfalso; omega
  · refine ⟨fun h_2 => ?_, fun h_2 => ?_⟩
    · exfalso; omega
    · refine s_1793_9 _ ?_
      refine s_1793_14 _ _ ?_
      refine ⟨by omega, ?_⟩
      exact k
set_option maxRecDepth 100000 in
/-- GatheredPoints.sheet [(4, 2147483647), (-2147483648, 2147483647), (-2147483648, 2147483647)] -/
theorem zx2842_1 {z : gH} {L d : Nat} {K : Option gV → gH → Prop} {s : gH} (p0 : Int) (p1 : Int) (p2 : Int) (hs : xM z s) (h_p0 : 4 ≤ p0 ∧ p0 ≤ 2147483647) (h_p1 : (-2147483648) ≤ p1 ∧ p1 ≤ 2147483647) (h_p2 : (-2147483648) ≤ p2 ∧ p2 ≤ 2147483647) (q0 : gp_I s 1 2 = 0) (q1 : gp_I s 1 6 = 0) (q2 : gp_I s 1 7 = 1) (q3 : gp_I s 51 8 = 0) (q4 : gp_I s 57 1 = 0) (q5 : gp_I s 57 3 = 0) (q6 : gp_I s 72 0 = 0) (q7 : gp_I s 72 1 = 0) (q8 : gp_I s 72 2 = 0) (q9 : gp_I s 72 3 = 0) (q10 : gp_I s 73 0 = 0) (q11 : gp_I s 73 1 = 0) (q12 : gp_I s 73 2 = 0) (q13 : gp_I s 73 3 = 0) (q14 : ∀ k, k < 8 → gp_R s 4 k = some 25) (q15 : gp_R s 51 6 = some 55) (q16 : gp_R s 51 7 = some 56) (q17 : gp_us s = 606895) (q18 : gp_sz s = 117) (k : ∀ (t : gH), xM z t → (gp_I t 1 2 = 0) → (gp_I t 1 6 = 0) → (gp_I t 1 7 = 1) → ((-2147483648) ≤ gp_I t 2 1 ∧ gp_I t 2 1 ≤ 2147483647) → (gp_I t 51 8 = 0) → (gp_I t 57 1 = 0) → (gp_I t 57 3 = 0) → (gp_I t 72 0 = 0) → (gp_I t 72 1 = 0) → (gp_I t 72 2 = 0) → (gp_I t 72 3 = 0) → (gp_I t 73 0 = 0) → (gp_I t 73 1 = 0) → (gp_I t 73 2 = 0) → (gp_I t 73 3 = 0) → (∀ k, k < 8 → gp_R t 4 k = some 25) → (gp_R t 51 6 = some 55) → (gp_R t 51 7 = some 56) → (gp_us t = 606895) → (gp_sz t = 117) → K (some (gp_i (-1000000001))) t) : gs_C L (d + 1) 2842 4 [gp_r (some 1), gp_i p0, gp_i p1, gp_i p2] s K := by
  refine s_2842_e _ _ _ ?_
  refine zx1793_7 _ hs (by omega) (by omega) (by omega) (by omega) (by omega) (by omega) (by omega) (by omega) (by omega) (⟨_, rfl, ?_⟩)
  refine ⟨fun h_1 => ?_, fun h_1 => ?_⟩
  · exfalso; omega
  · refine s_2842_33 _ _ _ ?_
    refine zx2855_12 hs (by omega) (by omega) (by omega) (by omega) (by omega) (by omega) (by omega) (by omega) (by omega) (by omega) (by omega) (by omega) (by omega) (by omega) q14 q15 q16 q17 q18 (fun s_2 hs_3 q_4 q_5 q_6 q_7 q_8 q_9 q_10 q_11 q_12 q_13 q_14 q_15 q_16 q_17 q_18 q_19 q_20 q_21 q_22 q_23 => ⟨_, rfl, ?_⟩)
    exact k s_2 hs_3 (by omega) (by omega) (by omega) (by omega) (by omega) (by omega) (by omega) (by omega) (by omega) (by omega) (by omega) (by omega) (by omega) (by omega) (by omega) q_19 q_20 q_21 q_22 q_23
set_option maxRecDepth 100000 in
/-- Sheets.beyond [(0, 0)] -/
theorem zx1793_8 {z : gH} {L d : Nat} {K : Option gV → gH → Prop} {s : gH}  (hs : xM z s)  (q0 : gp_I s 72 0 = 0) (q1 : gp_I s 72 1 = 0) (q2 : gp_I s 72 2 = 0) (q3 : gp_I s 72 3 = 0) (q4 : gp_I s 73 0 = 0) (q5 : gp_I s 73 1 = 0) (q6 : gp_I s 73 2 = 0) (q7 : gp_I s 73 3 = 0) (k : K (some (gp_i 0)) s) : gs_C L d 1793 2 [gp_r (some 66), gp_i 0] s K := by
  refine s_1793_e _ ?_
  refine ⟨fun h_1 => ?_, fun h_1 => ?_⟩
  · exfalso; omega
  · refine ⟨fun h_2 => ?_, fun h_2 => ?_⟩
    · refine s_1793_14 _ _ ?_
      refine ⟨by omega, ?_⟩
      exact k
    · exfalso; omega
set_option maxRecDepth 100000 in
/-- GatheredPoints.sheet [(0, 0), (-2147483648, -1), (-2147483648, 2147483647)] -/
theorem zx2842_2 {z : gH} {L d : Nat} {K : Option gV → gH → Prop} {s : gH} (p1 : Int) (p2 : Int) (hs : xM z s) (h_p1 : (-2147483648) ≤ p1 ∧ p1 ≤ (-1)) (h_p2 : (-2147483648) ≤ p2 ∧ p2 ≤ 2147483647) (q0 : gp_I s 1 2 = 0) (q1 : gp_I s 1 6 = 0) (q2 : gp_I s 1 7 = 1) (q3 : gp_I s 51 8 = 0) (q4 : gp_I s 57 1 = 0) (q5 : gp_I s 57 3 = 0) (q6 : gp_I s 72 0 = 0) (q7 : gp_I s 72 1 = 0) (q8 : gp_I s 72 2 = 0) (q9 : gp_I s 72 3 = 0) (q10 : gp_I s 73 0 = 0) (q11 : gp_I s 73 1 = 0) (q12 : gp_I s 73 2 = 0) (q13 : gp_I s 73 3 = 0) (q14 : ∀ k, k < 8 → gp_R s 4 k = some 25) (q15 : gp_R s 51 6 = some 55) (q16 : gp_R s 51 7 = some 56) (q17 : gp_us s = 606895) (q18 : gp_sz s = 117) (k : ∀ (t : gH), xM z t → (gp_I t 1 2 = 0) → (gp_I t 1 6 = 0) → (gp_I t 1 7 = 1) → ((-2147483648) ≤ gp_I t 2 1 ∧ gp_I t 2 1 ≤ 2147483647) → (gp_I t 51 8 = 0) → (gp_I t 57 1 = 0) → (gp_I t 57 3 = 0) → (gp_I t 72 0 = 0) → (gp_I t 72 1 = 0) → (gp_I t 72 2 = 0) → (gp_I t 72 3 = 0) → (gp_I t 73 0 = 0) → (gp_I t 73 1 = 0) → (gp_I t 73 2 = 0) → (gp_I t 73 3 = 0) → (∀ k, k < 8 → gp_R t 4 k = some 25) → (gp_R t 51 6 = some 55) → (gp_R t 51 7 = some 56) → (gp_us t = 606895) → (gp_sz t = 117) → K (some (gp_i (-1000000001))) t) : gs_C L (d + 1) 2842 4 [gp_r (some 1), gp_i 0, gp_i p1, gp_i p2] s K := by
  refine s_2842_e _ _ _ ?_
  refine zx1793_8 hs (by omega) (by omega) (by omega) (by omega) (by omega) (by omega) (by omega) (by omega) (⟨_, rfl, ?_⟩)
  refine ⟨fun h_1 => ?_, fun h_1 => ?_⟩
  · refine ⟨fun h_2 => ?_, fun h_2 => ?_⟩
    · exfalso; omega
    · refine ⟨fun h_3 => ?_, fun h_3 => ?_⟩
      · exfalso; omega
      · refine ⟨fun h_4 => ?_, fun h_4 => ?_⟩
        · exfalso; omega
        · refine ⟨fun h_5 => ?_, fun h_5 => ?_⟩
          · exfalso; omega
          · refine s_2842_33 _ _ _ ?_
            refine zx2855_12 hs (by omega) (by omega) (by omega) (by omega) (by omega) (by omega) (by omega) (by omega) (by omega) (by omega) (by omega) (by omega) (by omega) (by omega) q14 q15 q16 q17 q18 (fun s_6 hs_7 q_8 q_9 q_10 q_11 q_12 q_13 q_14 q_15 q_16 q_17 q_18 q_19 q_20 q_21 q_22 q_23 q_24 q_25 q_26 q_27 => ⟨_, rfl, ?_⟩)
            exact k s_6 hs_7 (by omega) (by omega) (by omega) (by omega) (by omega) (by omega) (by omega) (by omega) (by omega) (by omega) (by omega) (by omega) (by omega) (by omega) (by omega) q_23 q_24 q_25 q_26 q_27
  · exfalso; omega
set_option maxRecDepth 100000 in
/-- GatheredPoints.sheet [(0, 0), (1, 7), (-2147483648, 2147483647)] -/
theorem zx2842_3 {z : gH} {L d : Nat} {K : Option gV → gH → Prop} {s : gH} (p1 : Int) (p2 : Int) (hs : xM z s) (h_p1 : 1 ≤ p1 ∧ p1 ≤ 7) (h_p2 : (-2147483648) ≤ p2 ∧ p2 ≤ 2147483647) (q0 : gp_I s 1 2 = 0) (q1 : gp_I s 1 6 = 0) (q2 : gp_I s 1 7 = 1) (q3 : gp_I s 51 8 = 0) (q4 : gp_I s 57 1 = 0) (q5 : gp_I s 57 3 = 0) (q6 : gp_I s 72 0 = 0) (q7 : gp_I s 72 1 = 0) (q8 : gp_I s 72 2 = 0) (q9 : gp_I s 72 3 = 0) (q10 : gp_I s 73 0 = 0) (q11 : gp_I s 73 1 = 0) (q12 : gp_I s 73 2 = 0) (q13 : gp_I s 73 3 = 0) (q14 : ∀ k, k < 8 → gp_R s 4 k = some 25) (q15 : gp_R s 51 6 = some 55) (q16 : gp_R s 51 7 = some 56) (q17 : gp_us s = 606895) (q18 : gp_sz s = 117) (k : ∀ (t : gH), xM z t → (gp_I t 1 2 = 0) → (gp_I t 1 6 = 0) → (gp_I t 1 7 = 1) → ((-2147483648) ≤ gp_I t 2 1 ∧ gp_I t 2 1 ≤ 2147483647) → (gp_I t 51 8 = 0) → (gp_I t 57 1 = 0) → (gp_I t 57 3 = 0) → (gp_I t 72 0 = 0) → (gp_I t 72 1 = 0) → (gp_I t 72 2 = 0) → (gp_I t 72 3 = 0) → (gp_I t 73 0 = 0) → (gp_I t 73 1 = 0) → (gp_I t 73 2 = 0) → (gp_I t 73 3 = 0) → (∀ k, k < 8 → gp_R t 4 k = some 25) → (gp_R t 51 6 = some 55) → (gp_R t 51 7 = some 56) → (gp_us t = 606895) → (gp_sz t = 117) → K (some (gp_i (-1000000001))) t) : gs_C L (d + 1) 2842 4 [gp_r (some 1), gp_i 0, gp_i p1, gp_i p2] s K := by
  refine s_2842_e _ _ _ ?_
  refine zx1793_8 hs (by omega) (by omega) (by omega) (by omega) (by omega) (by omega) (by omega) (by omega) (⟨_, rfl, ?_⟩)
  refine ⟨fun h_1 => ?_, fun h_1 => ?_⟩
  · refine ⟨fun h_2 => ?_, fun h_2 => ?_⟩
    · exfalso; omega
    · refine ⟨fun h_3 => ?_, fun h_3 => ?_⟩
      · exfalso; omega
      · refine ⟨fun h_4 => ?_, fun h_4 => ?_⟩
        · exfalso; omega
        · refine ⟨fun h_5 => ?_, fun h_5 => ?_⟩
          · exfalso; omega
          · refine s_2842_33 _ _ _ ?_
            refine zx2855_12 hs (by omega) (by omega) (by omega) (by omega) (by omega) (by omega) (by omega) (by omega) (by omega) (by omega) (by omega) (by omega) (by omega) (by omega) q14 q15 q16 q17 q18 (fun s_6 hs_7 q_8 q_9 q_10 q_11 q_12 q_13 q_14 q_15 q_16 q_17 q_18 q_19 q_20 q_21 q_22 q_23 q_24 q_25 q_26 q_27 => ⟨_, rfl, ?_⟩)
            exact k s_6 hs_7 (by omega) (by omega) (by omega) (by omega) (by omega) (by omega) (by omega) (by omega) (by omega) (by omega) (by omega) (by omega) (by omega) (by omega) (by omega) q_23 q_24 q_25 q_26 q_27
  · exfalso; omega
set_option maxRecDepth 100000 in
/-- GatheredPoints.sheet [(0, 0), (9, 15), (-2147483648, 2147483647)] -/
theorem zx2842_4 {z : gH} {L d : Nat} {K : Option gV → gH → Prop} {s : gH} (p1 : Int) (p2 : Int) (hs : xM z s) (h_p1 : 9 ≤ p1 ∧ p1 ≤ 15) (h_p2 : (-2147483648) ≤ p2 ∧ p2 ≤ 2147483647) (q0 : gp_I s 1 2 = 0) (q1 : gp_I s 1 6 = 0) (q2 : gp_I s 1 7 = 1) (q3 : gp_I s 51 8 = 0) (q4 : gp_I s 57 1 = 0) (q5 : gp_I s 57 3 = 0) (q6 : gp_I s 72 0 = 0) (q7 : gp_I s 72 1 = 0) (q8 : gp_I s 72 2 = 0) (q9 : gp_I s 72 3 = 0) (q10 : gp_I s 73 0 = 0) (q11 : gp_I s 73 1 = 0) (q12 : gp_I s 73 2 = 0) (q13 : gp_I s 73 3 = 0) (q14 : ∀ k, k < 8 → gp_R s 4 k = some 25) (q15 : gp_R s 51 6 = some 55) (q16 : gp_R s 51 7 = some 56) (q17 : gp_us s = 606895) (q18 : gp_sz s = 117) (k : ∀ (t : gH), xM z t → (gp_I t 1 2 = 0) → (gp_I t 1 6 = 0) → (gp_I t 1 7 = 1) → ((-2147483648) ≤ gp_I t 2 1 ∧ gp_I t 2 1 ≤ 2147483647) → (gp_I t 51 8 = 0) → (gp_I t 57 1 = 0) → (gp_I t 57 3 = 0) → (gp_I t 72 0 = 0) → (gp_I t 72 1 = 0) → (gp_I t 72 2 = 0) → (gp_I t 72 3 = 0) → (gp_I t 73 0 = 0) → (gp_I t 73 1 = 0) → (gp_I t 73 2 = 0) → (gp_I t 73 3 = 0) → (∀ k, k < 8 → gp_R t 4 k = some 25) → (gp_R t 51 6 = some 55) → (gp_R t 51 7 = some 56) → (gp_us t = 606895) → (gp_sz t = 117) → K (some (gp_i (-1000000001))) t) : gs_C L (d + 1) 2842 4 [gp_r (some 1), gp_i 0, gp_i p1, gp_i p2] s K := by
  refine s_2842_e _ _ _ ?_
  refine zx1793_8 hs (by omega) (by omega) (by omega) (by omega) (by omega) (by omega) (by omega) (by omega) (⟨_, rfl, ?_⟩)
  refine ⟨fun h_1 => ?_, fun h_1 => ?_⟩
  · refine ⟨fun h_2 => ?_, fun h_2 => ?_⟩
    · exfalso; omega
    · refine ⟨fun h_3 => ?_, fun h_3 => ?_⟩
      · exfalso; omega
      · refine ⟨fun h_4 => ?_, fun h_4 => ?_⟩
        · exfalso; omega
        · refine ⟨fun h_5 => ?_, fun h_5 => ?_⟩
          · exfalso; omega
          · refine s_2842_33 _ _ _ ?_
            refine zx2855_12 hs (by omega) (by omega) (by omega) (by omega) (by omega) (by omega) (by omega) (by omega) (by omega) (by omega) (by omega) (by omega) (by omega) (by omega) q14 q15 q16 q17 q18 (fun s_6 hs_7 q_8 q_9 q_10 q_11 q_12 q_13 q_14 q_15 q_16 q_17 q_18 q_19 q_20 q_21 q_22 q_23 q_24 q_25 q_26 q_27 => ⟨_, rfl, ?_⟩)
            exact k s_6 hs_7 (by omega) (by omega) (by omega) (by omega) (by omega) (by omega) (by omega) (by omega) (by omega) (by omega) (by omega) (by omega) (by omega) (by omega) (by omega) q_23 q_24 q_25 q_26 q_27
  · exfalso; omega
set_option maxRecDepth 100000 in
/-- GatheredPoints.sheet [(0, 0), (17, 31), (-2147483648, 2147483647)] -/
theorem zx2842_5 {z : gH} {L d : Nat} {K : Option gV → gH → Prop} {s : gH} (p1 : Int) (p2 : Int) (hs : xM z s) (h_p1 : 17 ≤ p1 ∧ p1 ≤ 31) (h_p2 : (-2147483648) ≤ p2 ∧ p2 ≤ 2147483647) (q0 : gp_I s 1 2 = 0) (q1 : gp_I s 1 6 = 0) (q2 : gp_I s 1 7 = 1) (q3 : gp_I s 51 8 = 0) (q4 : gp_I s 57 1 = 0) (q5 : gp_I s 57 3 = 0) (q6 : gp_I s 72 0 = 0) (q7 : gp_I s 72 1 = 0) (q8 : gp_I s 72 2 = 0) (q9 : gp_I s 72 3 = 0) (q10 : gp_I s 73 0 = 0) (q11 : gp_I s 73 1 = 0) (q12 : gp_I s 73 2 = 0) (q13 : gp_I s 73 3 = 0) (q14 : ∀ k, k < 8 → gp_R s 4 k = some 25) (q15 : gp_R s 51 6 = some 55) (q16 : gp_R s 51 7 = some 56) (q17 : gp_us s = 606895) (q18 : gp_sz s = 117) (k : ∀ (t : gH), xM z t → (gp_I t 1 2 = 0) → (gp_I t 1 6 = 0) → (gp_I t 1 7 = 1) → ((-2147483648) ≤ gp_I t 2 1 ∧ gp_I t 2 1 ≤ 2147483647) → (gp_I t 51 8 = 0) → (gp_I t 57 1 = 0) → (gp_I t 57 3 = 0) → (gp_I t 72 0 = 0) → (gp_I t 72 1 = 0) → (gp_I t 72 2 = 0) → (gp_I t 72 3 = 0) → (gp_I t 73 0 = 0) → (gp_I t 73 1 = 0) → (gp_I t 73 2 = 0) → (gp_I t 73 3 = 0) → (∀ k, k < 8 → gp_R t 4 k = some 25) → (gp_R t 51 6 = some 55) → (gp_R t 51 7 = some 56) → (gp_us t = 606895) → (gp_sz t = 117) → K (some (gp_i (-1000000001))) t) : gs_C L (d + 1) 2842 4 [gp_r (some 1), gp_i 0, gp_i p1, gp_i p2] s K := by
  refine s_2842_e _ _ _ ?_
  refine zx1793_8 hs (by omega) (by omega) (by omega) (by omega) (by omega) (by omega) (by omega) (by omega) (⟨_, rfl, ?_⟩)
  refine ⟨fun h_1 => ?_, fun h_1 => ?_⟩
  · refine ⟨fun h_2 => ?_, fun h_2 => ?_⟩
    · exfalso; omega
    · refine ⟨fun h_3 => ?_, fun h_3 => ?_⟩
      · exfalso; omega
      · refine ⟨fun h_4 => ?_, fun h_4 => ?_⟩
        · exfalso; omega
        · refine ⟨fun h_5 => ?_, fun h_5 => ?_⟩
          · exfalso; omega
          · refine s_2842_33 _ _ _ ?_
            refine zx2855_12 hs (by omega) (by omega) (by omega) (by omega) (by omega) (by omega) (by omega) (by omega) (by omega) (by omega) (by omega) (by omega) (by omega) (by omega) q14 q15 q16 q17 q18 (fun s_6 hs_7 q_8 q_9 q_10 q_11 q_12 q_13 q_14 q_15 q_16 q_17 q_18 q_19 q_20 q_21 q_22 q_23 q_24 q_25 q_26 q_27 => ⟨_, rfl, ?_⟩)
            exact k s_6 hs_7 (by omega) (by omega) (by omega) (by omega) (by omega) (by omega) (by omega) (by omega) (by omega) (by omega) (by omega) (by omega) (by omega) (by omega) (by omega) q_23 q_24 q_25 q_26 q_27
  · exfalso; omega
set_option maxRecDepth 100000 in
/-- GatheredPoints.sheet [(0, 0), (33, 2147483647), (-2147483648, 2147483647)] -/
theorem zx2842_6 {z : gH} {L d : Nat} {K : Option gV → gH → Prop} {s : gH} (p1 : Int) (p2 : Int) (hs : xM z s) (h_p1 : 33 ≤ p1 ∧ p1 ≤ 2147483647) (h_p2 : (-2147483648) ≤ p2 ∧ p2 ≤ 2147483647) (q0 : gp_I s 1 2 = 0) (q1 : gp_I s 1 6 = 0) (q2 : gp_I s 1 7 = 1) (q3 : gp_I s 51 8 = 0) (q4 : gp_I s 57 1 = 0) (q5 : gp_I s 57 3 = 0) (q6 : gp_I s 72 0 = 0) (q7 : gp_I s 72 1 = 0) (q8 : gp_I s 72 2 = 0) (q9 : gp_I s 72 3 = 0) (q10 : gp_I s 73 0 = 0) (q11 : gp_I s 73 1 = 0) (q12 : gp_I s 73 2 = 0) (q13 : gp_I s 73 3 = 0) (q14 : ∀ k, k < 8 → gp_R s 4 k = some 25) (q15 : gp_R s 51 6 = some 55) (q16 : gp_R s 51 7 = some 56) (q17 : gp_us s = 606895) (q18 : gp_sz s = 117) (k : ∀ (t : gH), xM z t → (gp_I t 1 2 = 0) → (gp_I t 1 6 = 0) → (gp_I t 1 7 = 1) → ((-2147483648) ≤ gp_I t 2 1 ∧ gp_I t 2 1 ≤ 2147483647) → (gp_I t 51 8 = 0) → (gp_I t 57 1 = 0) → (gp_I t 57 3 = 0) → (gp_I t 72 0 = 0) → (gp_I t 72 1 = 0) → (gp_I t 72 2 = 0) → (gp_I t 72 3 = 0) → (gp_I t 73 0 = 0) → (gp_I t 73 1 = 0) → (gp_I t 73 2 = 0) → (gp_I t 73 3 = 0) → (∀ k, k < 8 → gp_R t 4 k = some 25) → (gp_R t 51 6 = some 55) → (gp_R t 51 7 = some 56) → (gp_us t = 606895) → (gp_sz t = 117) → K (some (gp_i (-1000000001))) t) : gs_C L (d + 1) 2842 4 [gp_r (some 1), gp_i 0, gp_i p1, gp_i p2] s K := by
  refine s_2842_e _ _ _ ?_
  refine zx1793_8 hs (by omega) (by omega) (by omega) (by omega) (by omega) (by omega) (by omega) (by omega) (⟨_, rfl, ?_⟩)
  refine ⟨fun h_1 => ?_, fun h_1 => ?_⟩
  · refine ⟨fun h_2 => ?_, fun h_2 => ?_⟩
    · exfalso; omega
    · refine ⟨fun h_3 => ?_, fun h_3 => ?_⟩
      · exfalso; omega
      · refine ⟨fun h_4 => ?_, fun h_4 => ?_⟩
        · exfalso; omega
        · refine ⟨fun h_5 => ?_, fun h_5 => ?_⟩
          · exfalso; omega
          · refine s_2842_33 _ _ _ ?_
            refine zx2855_12 hs (by omega) (by omega) (by omega) (by omega) (by omega) (by omega) (by omega) (by omega) (by omega) (by omega) (by omega) (by omega) (by omega) (by omega) q14 q15 q16 q17 q18 (fun s_6 hs_7 q_8 q_9 q_10 q_11 q_12 q_13 q_14 q_15 q_16 q_17 q_18 q_19 q_20 q_21 q_22 q_23 q_24 q_25 q_26 q_27 => ⟨_, rfl, ?_⟩)
            exact k s_6 hs_7 (by omega) (by omega) (by omega) (by omega) (by omega) (by omega) (by omega) (by omega) (by omega) (by omega) (by omega) (by omega) (by omega) (by omega) (by omega) q_23 q_24 q_25 q_26 q_27
  · exfalso; omega
set_option maxRecDepth 100000 in
/-- Sheets.lay, the loop at 17 -/
theorem zx1795_0_l17_0 {z : gH} {L d : Nat} {K : Option gV → gH → Prop}   (k : ∀ (t : gH), xM z t → (gp_I t 1 2 = 0) → (gp_I t 1 6 = 0) → (gp_I t 1 7 = 1) → (gp_I t 51 8 = 0) → (gp_I t 57 1 = 0) → (gp_I t 57 3 = 0) → (gp_I t 72 0 = 0) → (gp_I t 72 1 = 0) → (gp_I t 72 2 = 0) → (gp_I t 72 3 = 0) → (gp_I t 73 0 = 0) → (gp_I t 73 1 = 0) → (gp_I t 73 2 = 0) → (gp_I t 73 3 = 0) → (∀ k, k < 8 → gp_R t 4 k = some 25) → (gp_R t 51 6 = some 55) → (gp_R t 51 7 = some 56) → (gp_us t = 606895) → (gp_sz t = 117) → K none t)  : ∀ (n : Nat) (v1 : Int) (v2 : Int) (v3 : Int) (v4 : Int) (s : gH), xM z s → (21 - v4).toNat < n → (v1 = 0) → (v2 = 0) → (v3 = 0) → (0 ≤ v4 ∧ v4 ≤ 20) → (gp_I s 1 2 = 0) → (gp_I s 1 6 = 0) → (gp_I s 1 7 = 1) → (gp_I s 51 8 = 0) → (gp_I s 57 1 = 0) → (gp_I s 57 3 = 0) → (gp_I s 72 0 = 0) → (gp_I s 72 1 = 0) → (gp_I s 72 2 = 0) → (gp_I s 72 3 = 0) → (gp_I s 73 0 = 0) → (gp_I s 73 1 = 0) → (gp_I s 73 2 = 0) → (gp_I s 73 3 = 0) → (∀ k, k < 8 → gp_R s 4 k = some 25) → (gp_R s 51 6 = some 55) → (gp_R s 51 7 = some 56) → (gp_us s = 606895) → (gp_sz s = 117) → gs_E L d 1795 17 [gp_r (some 66), gp_i v1, gp_i v2, gp_i v3, gp_i v4] [] s K := by
  intro n
  induction n with
  | zero => intro v1 v2 v3 v4 s hs hm i0 i1 i2 i3 i4 i5 i6 i7 i8 i9 i10 i11 i12 i13 i14 i15 i16 i17 i18 i19 i20 i21 i22; exact absurd hm (Nat.not_lt_zero _)
  | succ n ih =>
    intro v1 v2 v3 v4 s hs hm i0 i1 i2 i3 i4 i5 i6 i7 i8 i9 i10 i11 i12 i13 i14 i15 i16 i17 i18 i19 i20 i21 i22
    subst i0
    subst i1
    subst i2
    refine s_1795_17 _ _ _ _ ?_
    refine ⟨fun h_1 => ?_, fun h_1 => ?_⟩
    · refine ⟨by omega, ?_⟩
      try rw [show gp_R (gp_mk L s) 67 (0 : Int).toNat = some 68 from rfl]
      refine ⟨68, rfl, ?_⟩
      refine ⟨⟨rfl, by show 0 ≤ v4 ∧ v4 < 20; omega⟩, ?_⟩
      intro s_2 e_3
      have hs_4 : xM z s_2 := by rw [e_3]; exact xw68 hs _ _
      have q_5 : gp_I s_2 1 2 = 0 := by rw [e_3]; exact i4
      have q_6 : gp_I s_2 1 6 = 0 := by rw [e_3]; exact i5
      have q_7 : gp_I s_2 1 7 = 1 := by rw [e_3]; exact i6
      have q_8 : gp_I s_2 51 8 = 0 := by rw [e_3]; exact i7
      have q_9 : gp_I s_2 57 1 = 0 := by rw [e_3]; exact i8
      have q_10 : gp_I s_2 57 3 = 0 := by rw [e_3]; exact i9
      have q_11 : gp_I s_2 72 0 = 0 := by rw [e_3]; exact i10
      have q_12 : gp_I s_2 72 1 = 0 := by rw [e_3]; exact i11
      have q_13 : gp_I s_2 72 2 = 0 := by rw [e_3]; exact i12
      have q_14 : gp_I s_2 72 3 = 0 := by rw [e_3]; exact i13
      have q_15 : gp_I s_2 73 0 = 0 := by rw [e_3]; exact i14
      have q_16 : gp_I s_2 73 1 = 0 := by rw [e_3]; exact i15
      have q_17 : gp_I s_2 73 2 = 0 := by rw [e_3]; exact i16
      have q_18 : gp_I s_2 73 3 = 0 := by rw [e_3]; exact i17
      have q_19 : ∀ k, k < 8 → gp_R s_2 4 k = some 25 := by rw [e_3]; exact i18
      have q_20 : gp_R s_2 51 6 = some 55 := by rw [e_3]; exact i19
      have q_21 : gp_R s_2 51 7 = some 56 := by rw [e_3]; exact i20
      have q_22 : gp_us s_2 = 606895 := by rw [e_3]; exact i21
      have q_23 : gp_sz s_2 = 117 := by rw [e_3]; exact i22
      have w_24 := gz_w (v4 + 1)
      exact ih _ _ _ _ s_2 hs_4 (by omega) (by omega) (by omega) (by omega) (by omega) (by omega) (by omega) (by omega) (by omega) (by omega) (by omega) (by omega) (by omega) (by omega) (by omega) (by omega) (by omega) (by omega) (by omega) q_19 q_20 q_21 q_22 q_23
    · have e_25 : v4 = 20 := by omega
      subst e_25
      exact k s hs (by omega) (by omega) (by omega) (by omega) (by omega) (by omega) (by omega) (by omega) (by omega) (by omega) (by omega) (by omega) (by omega) (by omega) i18 i19 i20 i21 i22
set_option maxRecDepth 100000 in
/-- Sheets.lay [(0, 0), (0, 0), (0, 0)] -/
theorem zx1795_0 {z : gH} {L d : Nat} {K : Option gV → gH → Prop} {s : gH}  (hs : xM z s)  (q0 : gp_I s 1 2 = 0) (q1 : gp_I s 1 6 = 0) (q2 : gp_I s 1 7 = 1) (q3 : gp_I s 51 8 = 0) (q4 : gp_I s 57 1 = 0) (q5 : gp_I s 57 3 = 0) (q6 : gp_I s 72 0 = 0) (q7 : gp_I s 72 1 = 0) (q8 : gp_I s 72 2 = 0) (q9 : gp_I s 72 3 = 0) (q10 : gp_I s 73 0 = 0) (q11 : gp_I s 73 1 = 0) (q12 : gp_I s 73 2 = 0) (q13 : gp_I s 73 3 = 0) (q14 : ∀ k, k < 8 → gp_R s 4 k = some 25) (q15 : gp_R s 51 6 = some 55) (q16 : gp_R s 51 7 = some 56) (q17 : gp_us s = 606895) (q18 : gp_sz s = 117) (k : ∀ (t : gH), xM z t → (gp_I t 1 2 = 0) → (gp_I t 1 6 = 0) → (gp_I t 1 7 = 1) → (gp_I t 51 8 = 0) → (gp_I t 57 1 = 0) → (gp_I t 57 3 = 0) → (gp_I t 72 0 = 0) → (gp_I t 72 1 = 0) → (gp_I t 72 2 = 0) → (gp_I t 72 3 = 0) → (gp_I t 73 0 = 0) → (gp_I t 73 1 = 0) → (gp_I t 73 2 = 0) → (gp_I t 73 3 = 0) → (∀ k, k < 8 → gp_R t 4 k = some 25) → (gp_R t 51 6 = some 55) → (gp_R t 51 7 = some 56) → (gp_us t = 606895) → (gp_sz t = 117) → K none t) : gs_C L d 1795 5 [gp_r (some 66), gp_i 0, gp_i 0, gp_i 0] s K := by
  refine s_1795_e _ _ _ ?_
  refine ⟨by omega, ?_⟩
  intro s_1 e_2
  have hs_3 : xM z s_1 := by rw [e_2]; exact xw72 hs _ _
  have q_4 : gp_I s_1 1 2 = 0 := by rw [e_2]; exact q0
  have q_5 : gp_I s_1 1 6 = 0 := by rw [e_2]; exact q1
  have q_6 : gp_I s_1 1 7 = 1 := by rw [e_2]; exact q2
  have q_7 : gp_I s_1 51 8 = 0 := by rw [e_2]; exact q3
  have q_8 : gp_I s_1 57 1 = 0 := by rw [e_2]; exact q4
  have q_9 : gp_I s_1 57 3 = 0 := by rw [e_2]; exact q5
  have q_10 : gp_I s_1 72 1 = 0 := by rw [e_2]; exact q7
  have q_11 : gp_I s_1 72 2 = 0 := by rw [e_2]; exact q8
  have q_12 : gp_I s_1 72 3 = 0 := by rw [e_2]; exact q9
  have q_13 : gp_I s_1 73 0 = 0 := by rw [e_2]; exact q10
  have q_14 : gp_I s_1 73 1 = 0 := by rw [e_2]; exact q11
  have q_15 : gp_I s_1 73 2 = 0 := by rw [e_2]; exact q12
  have q_16 : gp_I s_1 73 3 = 0 := by rw [e_2]; exact q13
  have q_17 : ∀ k, k < 8 → gp_R s_1 4 k = some 25 := by rw [e_2]; exact q14
  have q_18 : gp_R s_1 51 6 = some 55 := by rw [e_2]; exact q15
  have q_19 : gp_R s_1 51 7 = some 56 := by rw [e_2]; exact q16
  have q_20 : gp_us s_1 = 606895 := by rw [e_2]; exact q17
  have q_21 : gp_sz s_1 = 117 := by rw [e_2]; exact q18
  have q_22 : gp_I s_1 72 0 = 0 := by rw [e_2]; rfl
  refine ⟨by omega, ?_⟩
  intro s_24 e_25
  have hs_26 : xM z s_24 := by rw [e_25]; exact xw73 hs_3 _ _
  have q_27 : gp_I s_24 1 2 = 0 := by rw [e_25]; exact q_4
  have q_28 : gp_I s_24 1 6 = 0 := by rw [e_25]; exact q_5
  have q_29 : gp_I s_24 1 7 = 1 := by rw [e_25]; exact q_6
  have q_30 : gp_I s_24 51 8 = 0 := by rw [e_25]; exact q_7
  have q_31 : gp_I s_24 57 1 = 0 := by rw [e_25]; exact q_8
  have q_32 : gp_I s_24 57 3 = 0 := by rw [e_25]; exact q_9
  have q_33 : gp_I s_24 72 1 = 0 := by rw [e_25]; exact q_10
  have q_34 : gp_I s_24 72 2 = 0 := by rw [e_25]; exact q_11
  have q_35 : gp_I s_24 72 3 = 0 := by rw [e_25]; exact q_12
  have q_36 : gp_I s_24 73 1 = 0 := by rw [e_25]; exact q_14
  have q_37 : gp_I s_24 73 2 = 0 := by rw [e_25]; exact q_15
  have q_38 : gp_I s_24 73 3 = 0 := by rw [e_25]; exact q_16
  have q_39 : ∀ k, k < 8 → gp_R s_24 4 k = some 25 := by rw [e_25]; exact q_17
  have q_40 : gp_R s_24 51 6 = some 55 := by rw [e_25]; exact q_18
  have q_41 : gp_R s_24 51 7 = some 56 := by rw [e_25]; exact q_19
  have q_42 : gp_us s_24 = 606895 := by rw [e_25]; exact q_20
  have q_43 : gp_sz s_24 = 117 := by rw [e_25]; exact q_21
  have q_44 : gp_I s_24 72 0 = 0 := by rw [e_25]; exact q_22
  have q_45 : gp_I s_24 73 0 = 0 := by rw [e_25]; rfl
  exact zx1795_0_l17_0 k _ _ _ _ _ s_24 hs_26 (Nat.lt_succ_self _) (by omega) (by omega) (by omega) (by omega) (by omega) (by omega) (by omega) (by omega) (by omega) (by omega) (by omega) (by omega) (by omega) (by omega) (by omega) (by omega) (by omega) (by omega) q_39 q_40 q_41 q_42 q_43
set_option maxRecDepth 100000 in
/-- GatheredPoints.sheet [(0, 0), (0, 0), (-2147483648, 2147483647)] -/
theorem zx2842_7 {z : gH} {L d : Nat} {K : Option gV → gH → Prop} {s : gH} (p2 : Int) (hs : xM z s) (h_p2 : (-2147483648) ≤ p2 ∧ p2 ≤ 2147483647) (q0 : gp_I s 1 2 = 0) (q1 : gp_I s 1 6 = 0) (q2 : gp_I s 1 7 = 1) (q3 : gp_I s 51 8 = 0) (q4 : gp_I s 57 1 = 0) (q5 : gp_I s 57 3 = 0) (q6 : gp_I s 72 0 = 0) (q7 : gp_I s 72 1 = 0) (q8 : gp_I s 72 2 = 0) (q9 : gp_I s 72 3 = 0) (q10 : gp_I s 73 0 = 0) (q11 : gp_I s 73 1 = 0) (q12 : gp_I s 73 2 = 0) (q13 : gp_I s 73 3 = 0) (q14 : ∀ k, k < 8 → gp_R s 4 k = some 25) (q15 : gp_R s 51 6 = some 55) (q16 : gp_R s 51 7 = some 56) (q17 : gp_us s = 606895) (q18 : gp_sz s = 117) (k : ∀ (t : gH), xM z t → (gp_I t 1 2 = 0) → (gp_I t 1 6 = 0) → (gp_I t 1 7 = 1) → (gp_I t 51 8 = 0) → (gp_I t 57 1 = 0) → (gp_I t 57 3 = 0) → (gp_I t 72 0 = 0) → (gp_I t 72 1 = 0) → (gp_I t 72 2 = 0) → (gp_I t 72 3 = 0) → (gp_I t 73 0 = 0) → (gp_I t 73 1 = 0) → (gp_I t 73 2 = 0) → (gp_I t 73 3 = 0) → (∀ k, k < 8 → gp_R t 4 k = some 25) → (gp_R t 51 6 = some 55) → (gp_R t 51 7 = some 56) → (gp_us t = 606895) → (gp_sz t = 117) → K (some (gp_i 1)) t) : gs_C L (d + 1) 2842 4 [gp_r (some 1), gp_i 0, gp_i 0, gp_i p2] s K := by
  refine s_2842_e _ _ _ ?_
  refine zx1793_8 hs (by omega) (by omega) (by omega) (by omega) (by omega) (by omega) (by omega) (by omega) (⟨_, rfl, ?_⟩)
  refine ⟨fun h_1 => ?_, fun h_1 => ?_⟩
  · refine ⟨fun h_2 => ?_, fun h_2 => ?_⟩
    · refine s_2842_39 _ _ _ ?_
      refine ⟨fun h_3 => ?_, fun h_3 => ?_⟩
      · refine s_2842_53 _ _ _ ?_
        refine ⟨fun h_4 => ?_, fun h_4 => ?_⟩
        · refine s_2842_69 _ _ _ ?_
          refine ⟨fun h_5 => ?_, fun h_5 => ?_⟩
          · refine s_2842_84 _ _ _ _ _ _ ?_
            refine zx1795_0 hs (by omega) (by omega) (by omega) (by omega) (by omega) (by omega) (by omega) (by omega) (by omega) (by omega) (by omega) (by omega) (by omega) (by omega) q14 q15 q16 q17 q18 (fun s_6 hs_7 q_8 q_9 q_10 q_11 q_12 q_13 q_14 q_15 q_16 q_17 q_18 q_19 q_20 q_21 q_22 q_23 q_24 q_25 q_26 => ⟨rfl, ?_⟩)
            exact k s_6 hs_7 (by omega) (by omega) (by omega) (by omega) (by omega) (by omega) (by omega) (by omega) (by omega) (by omega) (by omega) (by omega) (by omega) (by omega) q_22 q_23 q_24 q_25 q_26
          · exfalso; omega
        · exfalso; omega
      · exfalso; omega
    · exfalso; omega
  · exfalso; omega
set_option maxRecDepth 100000 in
/-- Sheets.beyond [(1, 1)] -/
theorem zx1793_9 {z : gH} {L d : Nat} {K : Option gV → gH → Prop} {s : gH}  (hs : xM z s)  (q0 : gp_I s 72 0 = 0) (q1 : gp_I s 72 1 = 0) (q2 : gp_I s 72 2 = 0) (q3 : gp_I s 72 3 = 0) (q4 : gp_I s 73 0 = 0) (q5 : gp_I s 73 1 = 0) (q6 : gp_I s 73 2 = 0) (q7 : gp_I s 73 3 = 0) (k : K (some (gp_i 0)) s) : gs_C L d 1793 2 [gp_r (some 66), gp_i 1] s K := by
  refine s_1793_e _ ?_
  refine ⟨fun h_1 => ?_, fun h_1 => ?_⟩
  · exfalso; omega
  · refine ⟨fun h_2 => ?_, fun h_2 => ?_⟩
    · refine s_1793_14 _ _ ?_
      refine ⟨by omega, ?_⟩
      exact k
    · exfalso; omega
set_option maxRecDepth 100000 in
/-- GatheredPoints.sheet [(1, 1), (-2147483648, -1), (-2147483648, 2147483647)] -/
theorem zx2842_8 {z : gH} {L d : Nat} {K : Option gV → gH → Prop} {s : gH} (p1 : Int) (p2 : Int) (hs : xM z s) (h_p1 : (-2147483648) ≤ p1 ∧ p1 ≤ (-1)) (h_p2 : (-2147483648) ≤ p2 ∧ p2 ≤ 2147483647) (q0 : gp_I s 1 2 = 0) (q1 : gp_I s 1 6 = 0) (q2 : gp_I s 1 7 = 1) (q3 : gp_I s 51 8 = 0) (q4 : gp_I s 57 1 = 0) (q5 : gp_I s 57 3 = 0) (q6 : gp_I s 72 0 = 0) (q7 : gp_I s 72 1 = 0) (q8 : gp_I s 72 2 = 0) (q9 : gp_I s 72 3 = 0) (q10 : gp_I s 73 0 = 0) (q11 : gp_I s 73 1 = 0) (q12 : gp_I s 73 2 = 0) (q13 : gp_I s 73 3 = 0) (q14 : ∀ k, k < 8 → gp_R s 4 k = some 25) (q15 : gp_R s 51 6 = some 55) (q16 : gp_R s 51 7 = some 56) (q17 : gp_us s = 606895) (q18 : gp_sz s = 117) (k : ∀ (t : gH), xM z t → (gp_I t 1 2 = 0) → (gp_I t 1 6 = 0) → (gp_I t 1 7 = 1) → ((-2147483648) ≤ gp_I t 2 1 ∧ gp_I t 2 1 ≤ 2147483647) → (gp_I t 51 8 = 0) → (gp_I t 57 1 = 0) → (gp_I t 57 3 = 0) → (gp_I t 72 0 = 0) → (gp_I t 72 1 = 0) → (gp_I t 72 2 = 0) → (gp_I t 72 3 = 0) → (gp_I t 73 0 = 0) → (gp_I t 73 1 = 0) → (gp_I t 73 2 = 0) → (gp_I t 73 3 = 0) → (∀ k, k < 8 → gp_R t 4 k = some 25) → (gp_R t 51 6 = some 55) → (gp_R t 51 7 = some 56) → (gp_us t = 606895) → (gp_sz t = 117) → K (some (gp_i (-1000000001))) t) : gs_C L (d + 1) 2842 4 [gp_r (some 1), gp_i 1, gp_i p1, gp_i p2] s K := by
  refine s_2842_e _ _ _ ?_
  refine zx1793_9 hs (by omega) (by omega) (by omega) (by omega) (by omega) (by omega) (by omega) (by omega) (⟨_, rfl, ?_⟩)
  refine ⟨fun h_1 => ?_, fun h_1 => ?_⟩
  · refine ⟨fun h_2 => ?_, fun h_2 => ?_⟩
    · exfalso; omega
    · refine ⟨fun h_3 => ?_, fun h_3 => ?_⟩
      · exfalso; omega
      · refine ⟨fun h_4 => ?_, fun h_4 => ?_⟩
        · exfalso; omega
        · refine ⟨fun h_5 => ?_, fun h_5 => ?_⟩
          · exfalso; omega
          · refine s_2842_33 _ _ _ ?_
            refine zx2855_12 hs (by omega) (by omega) (by omega) (by omega) (by omega) (by omega) (by omega) (by omega) (by omega) (by omega) (by omega) (by omega) (by omega) (by omega) q14 q15 q16 q17 q18 (fun s_6 hs_7 q_8 q_9 q_10 q_11 q_12 q_13 q_14 q_15 q_16 q_17 q_18 q_19 q_20 q_21 q_22 q_23 q_24 q_25 q_26 q_27 => ⟨_, rfl, ?_⟩)
            exact k s_6 hs_7 (by omega) (by omega) (by omega) (by omega) (by omega) (by omega) (by omega) (by omega) (by omega) (by omega) (by omega) (by omega) (by omega) (by omega) (by omega) q_23 q_24 q_25 q_26 q_27
  · exfalso; omega
set_option maxRecDepth 100000 in
/-- GatheredPoints.sheet [(1, 1), (1, 7), (-2147483648, 2147483647)] -/
theorem zx2842_9 {z : gH} {L d : Nat} {K : Option gV → gH → Prop} {s : gH} (p1 : Int) (p2 : Int) (hs : xM z s) (h_p1 : 1 ≤ p1 ∧ p1 ≤ 7) (h_p2 : (-2147483648) ≤ p2 ∧ p2 ≤ 2147483647) (q0 : gp_I s 1 2 = 0) (q1 : gp_I s 1 6 = 0) (q2 : gp_I s 1 7 = 1) (q3 : gp_I s 51 8 = 0) (q4 : gp_I s 57 1 = 0) (q5 : gp_I s 57 3 = 0) (q6 : gp_I s 72 0 = 0) (q7 : gp_I s 72 1 = 0) (q8 : gp_I s 72 2 = 0) (q9 : gp_I s 72 3 = 0) (q10 : gp_I s 73 0 = 0) (q11 : gp_I s 73 1 = 0) (q12 : gp_I s 73 2 = 0) (q13 : gp_I s 73 3 = 0) (q14 : ∀ k, k < 8 → gp_R s 4 k = some 25) (q15 : gp_R s 51 6 = some 55) (q16 : gp_R s 51 7 = some 56) (q17 : gp_us s = 606895) (q18 : gp_sz s = 117) (k : ∀ (t : gH), xM z t → (gp_I t 1 2 = 0) → (gp_I t 1 6 = 0) → (gp_I t 1 7 = 1) → ((-2147483648) ≤ gp_I t 2 1 ∧ gp_I t 2 1 ≤ 2147483647) → (gp_I t 51 8 = 0) → (gp_I t 57 1 = 0) → (gp_I t 57 3 = 0) → (gp_I t 72 0 = 0) → (gp_I t 72 1 = 0) → (gp_I t 72 2 = 0) → (gp_I t 72 3 = 0) → (gp_I t 73 0 = 0) → (gp_I t 73 1 = 0) → (gp_I t 73 2 = 0) → (gp_I t 73 3 = 0) → (∀ k, k < 8 → gp_R t 4 k = some 25) → (gp_R t 51 6 = some 55) → (gp_R t 51 7 = some 56) → (gp_us t = 606895) → (gp_sz t = 117) → K (some (gp_i (-1000000001))) t) : gs_C L (d + 1) 2842 4 [gp_r (some 1), gp_i 1, gp_i p1, gp_i p2] s K := by
  refine s_2842_e _ _ _ ?_
  refine zx1793_9 hs (by omega) (by omega) (by omega) (by omega) (by omega) (by omega) (by omega) (by omega) (⟨_, rfl, ?_⟩)
  refine ⟨fun h_1 => ?_, fun h_1 => ?_⟩
  · refine ⟨fun h_2 => ?_, fun h_2 => ?_⟩
    · exfalso; omega
    · refine ⟨fun h_3 => ?_, fun h_3 => ?_⟩
      · exfalso; omega
      · refine ⟨fun h_4 => ?_, fun h_4 => ?_⟩
        · exfalso; omega
        · refine ⟨fun h_5 => ?_, fun h_5 => ?_⟩
          · exfalso; omega
          · refine s_2842_33 _ _ _ ?_
            refine zx2855_12 hs (by omega) (by omega) (by omega) (by omega) (by omega) (by omega) (by omega) (by omega) (by omega) (by omega) (by omega) (by omega) (by omega) (by omega) q14 q15 q16 q17 q18 (fun s_6 hs_7 q_8 q_9 q_10 q_11 q_12 q_13 q_14 q_15 q_16 q_17 q_18 q_19 q_20 q_21 q_22 q_23 q_24 q_25 q_26 q_27 => ⟨_, rfl, ?_⟩)
            exact k s_6 hs_7 (by omega) (by omega) (by omega) (by omega) (by omega) (by omega) (by omega) (by omega) (by omega) (by omega) (by omega) (by omega) (by omega) (by omega) (by omega) q_23 q_24 q_25 q_26 q_27
  · exfalso; omega
set_option maxRecDepth 100000 in
/-- GatheredPoints.sheet [(1, 1), (9, 15), (-2147483648, 2147483647)] -/
theorem zx2842_10 {z : gH} {L d : Nat} {K : Option gV → gH → Prop} {s : gH} (p1 : Int) (p2 : Int) (hs : xM z s) (h_p1 : 9 ≤ p1 ∧ p1 ≤ 15) (h_p2 : (-2147483648) ≤ p2 ∧ p2 ≤ 2147483647) (q0 : gp_I s 1 2 = 0) (q1 : gp_I s 1 6 = 0) (q2 : gp_I s 1 7 = 1) (q3 : gp_I s 51 8 = 0) (q4 : gp_I s 57 1 = 0) (q5 : gp_I s 57 3 = 0) (q6 : gp_I s 72 0 = 0) (q7 : gp_I s 72 1 = 0) (q8 : gp_I s 72 2 = 0) (q9 : gp_I s 72 3 = 0) (q10 : gp_I s 73 0 = 0) (q11 : gp_I s 73 1 = 0) (q12 : gp_I s 73 2 = 0) (q13 : gp_I s 73 3 = 0) (q14 : ∀ k, k < 8 → gp_R s 4 k = some 25) (q15 : gp_R s 51 6 = some 55) (q16 : gp_R s 51 7 = some 56) (q17 : gp_us s = 606895) (q18 : gp_sz s = 117) (k : ∀ (t : gH), xM z t → (gp_I t 1 2 = 0) → (gp_I t 1 6 = 0) → (gp_I t 1 7 = 1) → ((-2147483648) ≤ gp_I t 2 1 ∧ gp_I t 2 1 ≤ 2147483647) → (gp_I t 51 8 = 0) → (gp_I t 57 1 = 0) → (gp_I t 57 3 = 0) → (gp_I t 72 0 = 0) → (gp_I t 72 1 = 0) → (gp_I t 72 2 = 0) → (gp_I t 72 3 = 0) → (gp_I t 73 0 = 0) → (gp_I t 73 1 = 0) → (gp_I t 73 2 = 0) → (gp_I t 73 3 = 0) → (∀ k, k < 8 → gp_R t 4 k = some 25) → (gp_R t 51 6 = some 55) → (gp_R t 51 7 = some 56) → (gp_us t = 606895) → (gp_sz t = 117) → K (some (gp_i (-1000000001))) t) : gs_C L (d + 1) 2842 4 [gp_r (some 1), gp_i 1, gp_i p1, gp_i p2] s K := by
  refine s_2842_e _ _ _ ?_
  refine zx1793_9 hs (by omega) (by omega) (by omega) (by omega) (by omega) (by omega) (by omega) (by omega) (⟨_, rfl, ?_⟩)
  refine ⟨fun h_1 => ?_, fun h_1 => ?_⟩
  · refine ⟨fun h_2 => ?_, fun h_2 => ?_⟩
    · exfalso; omega
    · refine ⟨fun h_3 => ?_, fun h_3 => ?_⟩
      · exfalso; omega
      · refine ⟨fun h_4 => ?_, fun h_4 => ?_⟩
        · exfalso; omega
        · refine ⟨fun h_5 => ?_, fun h_5 => ?_⟩
          · exfalso; omega
          · refine s_2842_33 _ _ _ ?_
            refine zx2855_12 hs (by omega) (by omega) (by omega) (by omega) (by omega) (by omega) (by omega) (by omega) (by omega) (by omega) (by omega) (by omega) (by omega) (by omega) q14 q15 q16 q17 q18 (fun s_6 hs_7 q_8 q_9 q_10 q_11 q_12 q_13 q_14 q_15 q_16 q_17 q_18 q_19 q_20 q_21 q_22 q_23 q_24 q_25 q_26 q_27 => ⟨_, rfl, ?_⟩)
            exact k s_6 hs_7 (by omega) (by omega) (by omega) (by omega) (by omega) (by omega) (by omega) (by omega) (by omega) (by omega) (by omega) (by omega) (by omega) (by omega) (by omega) q_23 q_24 q_25 q_26 q_27
  · exfalso; omega
set_option maxRecDepth 100000 in
/-- GatheredPoints.sheet [(1, 1), (17, 31), (-2147483648, 2147483647)] -/
theorem zx2842_11 {z : gH} {L d : Nat} {K : Option gV → gH → Prop} {s : gH} (p1 : Int) (p2 : Int) (hs : xM z s) (h_p1 : 17 ≤ p1 ∧ p1 ≤ 31) (h_p2 : (-2147483648) ≤ p2 ∧ p2 ≤ 2147483647) (q0 : gp_I s 1 2 = 0) (q1 : gp_I s 1 6 = 0) (q2 : gp_I s 1 7 = 1) (q3 : gp_I s 51 8 = 0) (q4 : gp_I s 57 1 = 0) (q5 : gp_I s 57 3 = 0) (q6 : gp_I s 72 0 = 0) (q7 : gp_I s 72 1 = 0) (q8 : gp_I s 72 2 = 0) (q9 : gp_I s 72 3 = 0) (q10 : gp_I s 73 0 = 0) (q11 : gp_I s 73 1 = 0) (q12 : gp_I s 73 2 = 0) (q13 : gp_I s 73 3 = 0) (q14 : ∀ k, k < 8 → gp_R s 4 k = some 25) (q15 : gp_R s 51 6 = some 55) (q16 : gp_R s 51 7 = some 56) (q17 : gp_us s = 606895) (q18 : gp_sz s = 117) (k : ∀ (t : gH), xM z t → (gp_I t 1 2 = 0) → (gp_I t 1 6 = 0) → (gp_I t 1 7 = 1) → ((-2147483648) ≤ gp_I t 2 1 ∧ gp_I t 2 1 ≤ 2147483647) → (gp_I t 51 8 = 0) → (gp_I t 57 1 = 0) → (gp_I t 57 3 = 0) → (gp_I t 72 0 = 0) → (gp_I t 72 1 = 0) → (gp_I t 72 2 = 0) → (gp_I t 72 3 = 0) → (gp_I t 73 0 = 0) → (gp_I t 73 1 = 0) → (gp_I t 73 2 = 0) → (gp_I t 73 3 = 0) → (∀ k, k < 8 → gp_R t 4 k = some 25) → (gp_R t 51 6 = some 55) → (gp_R t 51 7 = some 56) → (gp_us t = 606895) → (gp_sz t = 117) → K (some (gp_i (-1000000001))) t) : gs_C L (d + 1) 2842 4 [gp_r (some 1), gp_i 1, gp_i p1, gp_i p2] s K := by
  refine s_2842_e _ _ _ ?_
  refine zx1793_9 hs (by omega) (by omega) (by omega) (by omega) (by omega) (by omega) (by omega) (by omega) (⟨_, rfl, ?_⟩)
  refine ⟨fun h_1 => ?_, fun h_1 => ?_⟩
  · refine ⟨fun h_2 => ?_, fun h_2 => ?_⟩
    · exfalso; omega
    · refine ⟨fun h_3 => ?_, fun h_3 => ?_⟩
      · exfalso; omega
      · refine ⟨fun h_4 => ?_, fun h_4 => ?_⟩
        · exfalso; omega
        · refine ⟨fun h_5 => ?_, fun h_5 => ?_⟩
          · exfalso; omega
          · refine s_2842_33 _ _ _ ?_
            refine zx2855_12 hs (by omega) (by omega) (by omega) (by omega) (by omega) (by omega) (by omega) (by omega) (by omega) (by omega) (by omega) (by omega) (by omega) (by omega) q14 q15 q16 q17 q18 (fun s_6 hs_7 q_8 q_9 q_10 q_11 q_12 q_13 q_14 q_15 q_16 q_17 q_18 q_19 q_20 q_21 q_22 q_23 q_24 q_25 q_26 q_27 => ⟨_, rfl, ?_⟩)
            exact k s_6 hs_7 (by omega) (by omega) (by omega) (by omega) (by omega) (by omega) (by omega) (by omega) (by omega) (by omega) (by omega) (by omega) (by omega) (by omega) (by omega) q_23 q_24 q_25 q_26 q_27
  · exfalso; omega
set_option maxRecDepth 100000 in
/-- GatheredPoints.sheet [(1, 1), (33, 2147483647), (-2147483648, 2147483647)] -/
theorem zx2842_12 {z : gH} {L d : Nat} {K : Option gV → gH → Prop} {s : gH} (p1 : Int) (p2 : Int) (hs : xM z s) (h_p1 : 33 ≤ p1 ∧ p1 ≤ 2147483647) (h_p2 : (-2147483648) ≤ p2 ∧ p2 ≤ 2147483647) (q0 : gp_I s 1 2 = 0) (q1 : gp_I s 1 6 = 0) (q2 : gp_I s 1 7 = 1) (q3 : gp_I s 51 8 = 0) (q4 : gp_I s 57 1 = 0) (q5 : gp_I s 57 3 = 0) (q6 : gp_I s 72 0 = 0) (q7 : gp_I s 72 1 = 0) (q8 : gp_I s 72 2 = 0) (q9 : gp_I s 72 3 = 0) (q10 : gp_I s 73 0 = 0) (q11 : gp_I s 73 1 = 0) (q12 : gp_I s 73 2 = 0) (q13 : gp_I s 73 3 = 0) (q14 : ∀ k, k < 8 → gp_R s 4 k = some 25) (q15 : gp_R s 51 6 = some 55) (q16 : gp_R s 51 7 = some 56) (q17 : gp_us s = 606895) (q18 : gp_sz s = 117) (k : ∀ (t : gH), xM z t → (gp_I t 1 2 = 0) → (gp_I t 1 6 = 0) → (gp_I t 1 7 = 1) → ((-2147483648) ≤ gp_I t 2 1 ∧ gp_I t 2 1 ≤ 2147483647) → (gp_I t 51 8 = 0) → (gp_I t 57 1 = 0) → (gp_I t 57 3 = 0) → (gp_I t 72 0 = 0) → (gp_I t 72 1 = 0) → (gp_I t 72 2 = 0) → (gp_I t 72 3 = 0) → (gp_I t 73 0 = 0) → (gp_I t 73 1 = 0) → (gp_I t 73 2 = 0) → (gp_I t 73 3 = 0) → (∀ k, k < 8 → gp_R t 4 k = some 25) → (gp_R t 51 6 = some 55) → (gp_R t 51 7 = some 56) → (gp_us t = 606895) → (gp_sz t = 117) → K (some (gp_i (-1000000001))) t) : gs_C L (d + 1) 2842 4 [gp_r (some 1), gp_i 1, gp_i p1, gp_i p2] s K := by
  refine s_2842_e _ _ _ ?_
  refine zx1793_9 hs (by omega) (by omega) (by omega) (by omega) (by omega) (by omega) (by omega) (by omega) (⟨_, rfl, ?_⟩)
  refine ⟨fun h_1 => ?_, fun h_1 => ?_⟩
  · refine ⟨fun h_2 => ?_, fun h_2 => ?_⟩
    · exfalso; omega
    · refine ⟨fun h_3 => ?_, fun h_3 => ?_⟩
      · exfalso; omega
      · refine ⟨fun h_4 => ?_, fun h_4 => ?_⟩
        · exfalso; omega
        · refine ⟨fun h_5 => ?_, fun h_5 => ?_⟩
          · exfalso; omega
          · refine s_2842_33 _ _ _ ?_
            refine zx2855_12 hs (by omega) (by omega) (by omega) (by omega) (by omega) (by omega) (by omega) (by omega) (by omega) (by omega) (by omega) (by omega) (by omega) (by omega) q14 q15 q16 q17 q18 (fun s_6 hs_7 q_8 q_9 q_10 q_11 q_12 q_13 q_14 q_15 q_16 q_17 q_18 q_19 q_20 q_21 q_22 q_23 q_24 q_25 q_26 q_27 => ⟨_, rfl, ?_⟩)
            exact k s_6 hs_7 (by omega) (by omega) (by omega) (by omega) (by omega) (by omega) (by omega) (by omega) (by omega) (by omega) (by omega) (by omega) (by omega) (by omega) (by omega) q_23 q_24 q_25 q_26 q_27
  · exfalso; omega
set_option maxRecDepth 100000 in
/-- Sheets.lay, the loop at 17 -/
theorem zx1795_1_l17_0 {z : gH} {L d : Nat} {K : Option gV → gH → Prop}   (k : ∀ (t : gH), xM z t → (gp_I t 1 2 = 0) → (gp_I t 1 6 = 0) → (gp_I t 1 7 = 1) → (gp_I t 51 8 = 0) → (gp_I t 57 1 = 0) → (gp_I t 57 3 = 0) → (gp_I t 72 0 = 0) → (gp_I t 72 1 = 0) → (gp_I t 72 2 = 0) → (gp_I t 72 3 = 0) → (gp_I t 73 0 = 0) → (gp_I t 73 1 = 0) → (gp_I t 73 2 = 0) → (gp_I t 73 3 = 0) → (∀ k, k < 8 → gp_R t 4 k = some 25) → (gp_R t 51 6 = some 55) → (gp_R t 51 7 = some 56) → (gp_us t = 606895) → (gp_sz t = 117) → K none t)  : ∀ (n : Nat) (v1 : Int) (v2 : Int) (v3 : Int) (v4 : Int) (s : gH), xM z s → (21 - v4).toNat < n → (v1 = 1) → (v2 = 0) → (v3 = 0) → (0 ≤ v4 ∧ v4 ≤ 20) → (gp_I s 1 2 = 0) → (gp_I s 1 6 = 0) → (gp_I s 1 7 = 1) → (gp_I s 51 8 = 0) → (gp_I s 57 1 = 0) → (gp_I s 57 3 = 0) → (gp_I s 72 0 = 0) → (gp_I s 72 1 = 0) → (gp_I s 72 2 = 0) → (gp_I s 72 3 = 0) → (gp_I s 73 0 = 0) → (gp_I s 73 1 = 0) → (gp_I s 73 2 = 0) → (gp_I s 73 3 = 0) → (∀ k, k < 8 → gp_R s 4 k = some 25) → (gp_R s 51 6 = some 55) → (gp_R s 51 7 = some 56) → (gp_us s = 606895) → (gp_sz s = 117) → gs_E L d 1795 17 [gp_r (some 66), gp_i v1, gp_i v2, gp_i v3, gp_i v4] [] s K := by
  intro n
  induction n with
  | zero => intro v1 v2 v3 v4 s hs hm i0 i1 i2 i3 i4 i5 i6 i7 i8 i9 i10 i11 i12 i13 i14 i15 i16 i17 i18 i19 i20 i21 i22; exact absurd hm (Nat.not_lt_zero _)
  | succ n ih =>
    intro v1 v2 v3 v4 s hs hm i0 i1 i2 i3 i4 i5 i6 i7 i8 i9 i10 i11 i12 i13 i14 i15 i16 i17 i18 i19 i20 i21 i22
    subst i0
    subst i1
    subst i2
    refine s_1795_17 _ _ _ _ ?_
    refine ⟨fun h_1 => ?_, fun h_1 => ?_⟩
    · refine ⟨by omega, ?_⟩
      try rw [show gp_R (gp_mk L s) 67 (1 : Int).toNat = some 69 from rfl]
      refine ⟨69, rfl, ?_⟩
      refine ⟨⟨rfl, by show 0 ≤ v4 ∧ v4 < 20; omega⟩, ?_⟩
      intro s_2 e_3
      have hs_4 : xM z s_2 := by rw [e_3]; exact xw69 hs _ _
      have q_5 : gp_I s_2 1 2 = 0 := by rw [e_3]; exact i4
      have q_6 : gp_I s_2 1 6 = 0 := by rw [e_3]; exact i5
      have q_7 : gp_I s_2 1 7 = 1 := by rw [e_3]; exact i6
      have q_8 : gp_I s_2 51 8 = 0 := by rw [e_3]; exact i7
      have q_9 : gp_I s_2 57 1 = 0 := by rw [e_3]; exact i8
      have q_10 : gp_I s_2 57 3 = 0 := by rw [e_3]; exact i9
      have q_11 : gp_I s_2 72 0 = 0 := by rw [e_3]; exact i10
      have q_12 : gp_I s_2 72 1 = 0 := by rw [e_3]; exact i11
      have q_13 : gp_I s_2 72 2 = 0 := by rw [e_3]; exact i12
      have q_14 : gp_I s_2 72 3 = 0 := by rw [e_3]; exact i13
      have q_15 : gp_I s_2 73 0 = 0 := by rw [e_3]; exact i14
      have q_16 : gp_I s_2 73 1 = 0 := by rw [e_3]; exact i15
      have q_17 : gp_I s_2 73 2 = 0 := by rw [e_3]; exact i16
      have q_18 : gp_I s_2 73 3 = 0 := by rw [e_3]; exact i17
      have q_19 : ∀ k, k < 8 → gp_R s_2 4 k = some 25 := by rw [e_3]; exact i18
      have q_20 : gp_R s_2 51 6 = some 55 := by rw [e_3]; exact i19
      have q_21 : gp_R s_2 51 7 = some 56 := by rw [e_3]; exact i20
      have q_22 : gp_us s_2 = 606895 := by rw [e_3]; exact i21
      have q_23 : gp_sz s_2 = 117 := by rw [e_3]; exact i22
      have w_24 := gz_w (v4 + 1)
      exact ih _ _ _ _ s_2 hs_4 (by omega) (by omega) (by omega) (by omega) (by omega) (by omega) (by omega) (by omega) (by omega) (by omega) (by omega) (by omega) (by omega) (by omega) (by omega) (by omega) (by omega) (by omega) (by omega) q_19 q_20 q_21 q_22 q_23
    · have e_25 : v4 = 20 := by omega
      subst e_25
      exact k s hs (by omega) (by omega) (by omega) (by omega) (by omega) (by omega) (by omega) (by omega) (by omega) (by omega) (by omega) (by omega) (by omega) (by omega) i18 i19 i20 i21 i22
set_option maxRecDepth 100000 in
/-- Sheets.lay [(1, 1), (0, 0), (0, 0)] -/
theorem zx1795_1 {z : gH} {L d : Nat} {K : Option gV → gH → Prop} {s : gH}  (hs : xM z s)  (q0 : gp_I s 1 2 = 0) (q1 : gp_I s 1 6 = 0) (q2 : gp_I s 1 7 = 1) (q3 : gp_I s 51 8 = 0) (q4 : gp_I s 57 1 = 0) (q5 : gp_I s 57 3 = 0) (q6 : gp_I s 72 0 = 0) (q7 : gp_I s 72 1 = 0) (q8 : gp_I s 72 2 = 0) (q9 : gp_I s 72 3 = 0) (q10 : gp_I s 73 0 = 0) (q11 : gp_I s 73 1 = 0) (q12 : gp_I s 73 2 = 0) (q13 : gp_I s 73 3 = 0) (q14 : ∀ k, k < 8 → gp_R s 4 k = some 25) (q15 : gp_R s 51 6 = some 55) (q16 : gp_R s 51 7 = some 56) (q17 : gp_us s = 606895) (q18 : gp_sz s = 117) (k : ∀ (t : gH), xM z t → (gp_I t 1 2 = 0) → (gp_I t 1 6 = 0) → (gp_I t 1 7 = 1) → (gp_I t 51 8 = 0) → (gp_I t 57 1 = 0) → (gp_I t 57 3 = 0) → (gp_I t 72 0 = 0) → (gp_I t 72 1 = 0) → (gp_I t 72 2 = 0) → (gp_I t 72 3 = 0) → (gp_I t 73 0 = 0) → (gp_I t 73 1 = 0) → (gp_I t 73 2 = 0) → (gp_I t 73 3 = 0) → (∀ k, k < 8 → gp_R t 4 k = some 25) → (gp_R t 51 6 = some 55) → (gp_R t 51 7 = some 56) → (gp_us t = 606895) → (gp_sz t = 117) → K none t) : gs_C L d 1795 5 [gp_r (some 66), gp_i 1, gp_i 0, gp_i 0] s K := by
  refine s_1795_e _ _ _ ?_
  refine ⟨by omega, ?_⟩
  intro s_1 e_2
  have hs_3 : xM z s_1 := by rw [e_2]; exact xw72 hs _ _
  have q_4 : gp_I s_1 1 2 = 0 := by rw [e_2]; exact q0
  have q_5 : gp_I s_1 1 6 = 0 := by rw [e_2]; exact q1
  have q_6 : gp_I s_1 1 7 = 1 := by rw [e_2]; exact q2
  have q_7 : gp_I s_1 51 8 = 0 := by rw [e_2]; exact q3
  have q_8 : gp_I s_1 57 1 = 0 := by rw [e_2]; exact q4
  have q_9 : gp_I s_1 57 3 = 0 := by rw [e_2]; exact q5
  have q_10 : gp_I s_1 72 0 = 0 := by rw [e_2]; exact q6
  have q_11 : gp_I s_1 72 2 = 0 := by rw [e_2]; exact q8
  have q_12 : gp_I s_1 72 3 = 0 := by rw [e_2]; exact q9
  have q_13 : gp_I s_1 73 0 = 0 := by rw [e_2]; exact q10
  have q_14 : gp_I s_1 73 1 = 0 := by rw [e_2]; exact q11
  have q_15 : gp_I s_1 73 2 = 0 := by rw [e_2]; exact q12
  have q_16 : gp_I s_1 73 3 = 0 := by rw [e_2]; exact q13
  have q_17 : ∀ k, k < 8 → gp_R s_1 4 k = some 25 := by rw [e_2]; exact q14
  have q_18 : gp_R s_1 51 6 = some 55 := by rw [e_2]; exact q15
  have q_19 : gp_R s_1 51 7 = some 56 := by rw [e_2]; exact q16
  have q_20 : gp_us s_1 = 606895 := by rw [e_2]; exact q17
  have q_21 : gp_sz s_1 = 117 := by rw [e_2]; exact q18
  have q_22 : gp_I s_1 72 1 = 0 := by rw [e_2]; rfl
  refine ⟨by omega, ?_⟩
  intro s_24 e_25
  have hs_26 : xM z s_24 := by rw [e_25]; exact xw73 hs_3 _ _
  have q_27 : gp_I s_24 1 2 = 0 := by rw [e_25]; exact q_4
  have q_28 : gp_I s_24 1 6 = 0 := by rw [e_25]; exact q_5
  have q_29 : gp_I s_24 1 7 = 1 := by rw [e_25]; exact q_6
  have q_30 : gp_I s_24 51 8 = 0 := by rw [e_25]; exact q_7
  have q_31 : gp_I s_24 57 1 = 0 := by rw [e_25]; exact q_8
  have q_32 : gp_I s_24 57 3 = 0 := by rw [e_25]; exact q_9
  have q_33 : gp_I s_24 72 0 = 0 := by rw [e_25]; exact q_10
  have q_34 : gp_I s_24 72 2 = 0 := by rw [e_25]; exact q_11
  have q_35 : gp_I s_24 72 3 = 0 := by rw [e_25]; exact q_12
  have q_36 : gp_I s_24 73 0 = 0 := by rw [e_25]; exact q_13
  have q_37 : gp_I s_24 73 2 = 0 := by rw [e_25]; exact q_15
  have q_38 : gp_I s_24 73 3 = 0 := by rw [e_25]; exact q_16
  have q_39 : ∀ k, k < 8 → gp_R s_24 4 k = some 25 := by rw [e_25]; exact q_17
  have q_40 : gp_R s_24 51 6 = some 55 := by rw [e_25]; exact q_18
  have q_41 : gp_R s_24 51 7 = some 56 := by rw [e_25]; exact q_19
  have q_42 : gp_us s_24 = 606895 := by rw [e_25]; exact q_20
  have q_43 : gp_sz s_24 = 117 := by rw [e_25]; exact q_21
  have q_44 : gp_I s_24 72 1 = 0 := by rw [e_25]; exact q_22
  have q_45 : gp_I s_24 73 1 = 0 := by rw [e_25]; rfl
  exact zx1795_1_l17_0 k _ _ _ _ _ s_24 hs_26 (Nat.lt_succ_self _) (by omega) (by omega) (by omega) (by omega) (by omega) (by omega) (by omega) (by omega) (by omega) (by omega) (by omega) (by omega) (by omega) (by omega) (by omega) (by omega) (by omega) (by omega) q_39 q_40 q_41 q_42 q_43
set_option maxRecDepth 100000 in
/-- GatheredPoints.sheet [(1, 1), (0, 0), (-2147483648, 2147483647)] -/
theorem zx2842_13 {z : gH} {L d : Nat} {K : Option gV → gH → Prop} {s : gH} (p2 : Int) (hs : xM z s) (h_p2 : (-2147483648) ≤ p2 ∧ p2 ≤ 2147483647) (q0 : gp_I s 1 2 = 0) (q1 : gp_I s 1 6 = 0) (q2 : gp_I s 1 7 = 1) (q3 : gp_I s 51 8 = 0) (q4 : gp_I s 57 1 = 0) (q5 : gp_I s 57 3 = 0) (q6 : gp_I s 72 0 = 0) (q7 : gp_I s 72 1 = 0) (q8 : gp_I s 72 2 = 0) (q9 : gp_I s 72 3 = 0) (q10 : gp_I s 73 0 = 0) (q11 : gp_I s 73 1 = 0) (q12 : gp_I s 73 2 = 0) (q13 : gp_I s 73 3 = 0) (q14 : ∀ k, k < 8 → gp_R s 4 k = some 25) (q15 : gp_R s 51 6 = some 55) (q16 : gp_R s 51 7 = some 56) (q17 : gp_us s = 606895) (q18 : gp_sz s = 117) (k : ∀ (t : gH), xM z t → (gp_I t 1 2 = 0) → (gp_I t 1 6 = 0) → (gp_I t 1 7 = 1) → (gp_I t 51 8 = 0) → (gp_I t 57 1 = 0) → (gp_I t 57 3 = 0) → (gp_I t 72 0 = 0) → (gp_I t 72 1 = 0) → (gp_I t 72 2 = 0) → (gp_I t 72 3 = 0) → (gp_I t 73 0 = 0) → (gp_I t 73 1 = 0) → (gp_I t 73 2 = 0) → (gp_I t 73 3 = 0) → (∀ k, k < 8 → gp_R t 4 k = some 25) → (gp_R t 51 6 = some 55) → (gp_R t 51 7 = some 56) → (gp_us t = 606895) → (gp_sz t = 117) → K (some (gp_i 1)) t) : gs_C L (d + 1) 2842 4 [gp_r (some 1), gp_i 1, gp_i 0, gp_i p2] s K := by
  refine s_2842_e _ _ _ ?_
  refine zx1793_9 hs (by omega) (by omega) (by omega) (by omega) (by omega) (by omega) (by omega) (by omega) (⟨_, rfl, ?_⟩)
  refine ⟨fun h_1 => ?_, fun h_1 => ?_⟩
  · refine ⟨fun h_2 => ?_, fun h_2 => ?_⟩
    · refine s_2842_39 _ _ _ ?_
      refine ⟨fun h_3 => ?_, fun h_3 => ?_⟩
      · refine s_2842_53 _ _ _ ?_
        refine ⟨fun h_4 => ?_, fun h_4 => ?_⟩
        · refine s_2842_69 _ _ _ ?_
          refine ⟨fun h_5 => ?_, fun h_5 => ?_⟩
          · refine s_2842_84 _ _ _ _ _ _ ?_
            refine zx1795_1 hs (by omega) (by omega) (by omega) (by omega) (by omega) (by omega) (by omega) (by omega) (by omega) (by omega) (by omega) (by omega) (by omega) (by omega) q14 q15 q16 q17 q18 (fun s_6 hs_7 q_8 q_9 q_10 q_11 q_12 q_13 q_14 q_15 q_16 q_17 q_18 q_19 q_20 q_21 q_22 q_23 q_24 q_25 q_26 => ⟨rfl, ?_⟩)
            exact k s_6 hs_7 (by omega) (by omega) (by omega) (by omega) (by omega) (by omega) (by omega) (by omega) (by omega) (by omega) (by omega) (by omega) (by omega) (by omega) q_22 q_23 q_24 q_25 q_26
          · exfalso; omega
        · exfalso; omega
      · exfalso; omega
    · exfalso; omega
  · exfalso; omega
set_option maxRecDepth 100000 in
/-- Sheets.beyond [(2, 2)] -/
theorem zx1793_10 {z : gH} {L d : Nat} {K : Option gV → gH → Prop} {s : gH}  (hs : xM z s)  (q0 : gp_I s 72 0 = 0) (q1 : gp_I s 72 1 = 0) (q2 : gp_I s 72 2 = 0) (q3 : gp_I s 72 3 = 0) (q4 : gp_I s 73 0 = 0) (q5 : gp_I s 73 1 = 0) (q6 : gp_I s 73 2 = 0) (q7 : gp_I s 73 3 = 0) (k : K (some (gp_i 0)) s) : gs_C L d 1793 2 [gp_r (some 66), gp_i 2] s K := by
  refine s_1793_e _ ?_
  refine ⟨fun h_1 => ?_, fun h_1 => ?_⟩
  · exfalso; omega
  · refine ⟨fun h_2 => ?_, fun h_2 => ?_⟩
    · refine s_1793_14 _ _ ?_
      refine ⟨by omega, ?_⟩
      exact k
    · exfalso; omega
set_option maxRecDepth 100000 in
/-- GatheredPoints.sheet [(2, 2), (-2147483648, -1), (-2147483648, 2147483647)] -/
theorem zx2842_14 {z : gH} {L d : Nat} {K : Option gV → gH → Prop} {s : gH} (p1 : Int) (p2 : Int) (hs : xM z s) (h_p1 : (-2147483648) ≤ p1 ∧ p1 ≤ (-1)) (h_p2 : (-2147483648) ≤ p2 ∧ p2 ≤ 2147483647) (q0 : gp_I s 1 2 = 0) (q1 : gp_I s 1 6 = 0) (q2 : gp_I s 1 7 = 1) (q3 : gp_I s 51 8 = 0) (q4 : gp_I s 57 1 = 0) (q5 : gp_I s 57 3 = 0) (q6 : gp_I s 72 0 = 0) (q7 : gp_I s 72 1 = 0) (q8 : gp_I s 72 2 = 0) (q9 : gp_I s 72 3 = 0) (q10 : gp_I s 73 0 = 0) (q11 : gp_I s 73 1 = 0) (q12 : gp_I s 73 2 = 0) (q13 : gp_I s 73 3 = 0) (q14 : ∀ k, k < 8 → gp_R s 4 k = some 25) (q15 : gp_R s 51 6 = some 55) (q16 : gp_R s 51 7 = some 56) (q17 : gp_us s = 606895) (q18 : gp_sz s = 117) (k : ∀ (t : gH), xM z t → (gp_I t 1 2 = 0) → (gp_I t 1 6 = 0) → (gp_I t 1 7 = 1) → ((-2147483648) ≤ gp_I t 2 1 ∧ gp_I t 2 1 ≤ 2147483647) → (gp_I t 51 8 = 0) → (gp_I t 57 1 = 0) → (gp_I t 57 3 = 0) → (gp_I t 72 0 = 0) → (gp_I t 72 1 = 0) → (gp_I t 72 2 = 0) → (gp_I t 72 3 = 0) → (gp_I t 73 0 = 0) → (gp_I t 73 1 = 0) → (gp_I t 73 2 = 0) → (gp_I t 73 3 = 0) → (∀ k, k < 8 → gp_R t 4 k = some 25) → (gp_R t 51 6 = some 55) → (gp_R t 51 7 = some 56) → (gp_us t = 606895) → (gp_sz t = 117) → K (some (gp_i (-1000000001))) t) : gs_C L (d + 1) 2842 4 [gp_r (some 1), gp_i 2, gp_i p1, gp_i p2] s K := by
  refine s_2842_e _ _ _ ?_
  refine zx1793_10 hs (by omega) (by omega) (by omega) (by omega) (by omega) (by omega) (by omega) (by omega) (⟨_, rfl, ?_⟩)
  refine ⟨fun h_1 => ?_, fun h_1 => ?_⟩
  · refine ⟨fun h_2 => ?_, fun h_2 => ?_⟩
    · exfalso; omega
    · refine ⟨fun h_3 => ?_, fun h_3 => ?_⟩
      · exfalso; omega
      · refine ⟨fun h_4 => ?_, fun h_4 => ?_⟩
        · exfalso; omega
        · refine ⟨fun h_5 => ?_, fun h_5 => ?_⟩
          · exfalso; omega
          · refine s_2842_33 _ _ _ ?_
            refine zx2855_12 hs (by omega) (by omega) (by omega) (by omega) (by omega) (by omega) (by omega) (by omega) (by omega) (by omega) (by omega) (by omega) (by omega) (by omega) q14 q15 q16 q17 q18 (fun s_6 hs_7 q_8 q_9 q_10 q_11 q_12 q_13 q_14 q_15 q_16 q_17 q_18 q_19 q_20 q_21 q_22 q_23 q_24 q_25 q_26 q_27 => ⟨_, rfl, ?_⟩)
            exact k s_6 hs_7 (by omega) (by omega) (by omega) (by omega) (by omega) (by omega) (by omega) (by omega) (by omega) (by omega) (by omega) (by omega) (by omega) (by omega) (by omega) q_23 q_24 q_25 q_26 q_27
  · exfalso; omega
set_option maxRecDepth 100000 in
/-- GatheredPoints.sheet [(2, 2), (1, 7), (-2147483648, 2147483647)] -/
theorem zx2842_15 {z : gH} {L d : Nat} {K : Option gV → gH → Prop} {s : gH} (p1 : Int) (p2 : Int) (hs : xM z s) (h_p1 : 1 ≤ p1 ∧ p1 ≤ 7) (h_p2 : (-2147483648) ≤ p2 ∧ p2 ≤ 2147483647) (q0 : gp_I s 1 2 = 0) (q1 : gp_I s 1 6 = 0) (q2 : gp_I s 1 7 = 1) (q3 : gp_I s 51 8 = 0) (q4 : gp_I s 57 1 = 0) (q5 : gp_I s 57 3 = 0) (q6 : gp_I s 72 0 = 0) (q7 : gp_I s 72 1 = 0) (q8 : gp_I s 72 2 = 0) (q9 : gp_I s 72 3 = 0) (q10 : gp_I s 73 0 = 0) (q11 : gp_I s 73 1 = 0) (q12 : gp_I s 73 2 = 0) (q13 : gp_I s 73 3 = 0) (q14 : ∀ k, k < 8 → gp_R s 4 k = some 25) (q15 : gp_R s 51 6 = some 55) (q16 : gp_R s 51 7 = some 56) (q17 : gp_us s = 606895) (q18 : gp_sz s = 117) (k : ∀ (t : gH), xM z t → (gp_I t 1 2 = 0) → (gp_I t 1 6 = 0) → (gp_I t 1 7 = 1) → ((-2147483648) ≤ gp_I t 2 1 ∧ gp_I t 2 1 ≤ 2147483647) → (gp_I t 51 8 = 0) → (gp_I t 57 1 = 0) → (gp_I t 57 3 = 0) → (gp_I t 72 0 = 0) → (gp_I t 72 1 = 0) → (gp_I t 72 2 = 0) → (gp_I t 72 3 = 0) → (gp_I t 73 0 = 0) → (gp_I t 73 1 = 0) → (gp_I t 73 2 = 0) → (gp_I t 73 3 = 0) → (∀ k, k < 8 → gp_R t 4 k = some 25) → (gp_R t 51 6 = some 55) → (gp_R t 51 7 = some 56) → (gp_us t = 606895) → (gp_sz t = 117) → K (some (gp_i (-1000000001))) t) : gs_C L (d + 1) 2842 4 [gp_r (some 1), gp_i 2, gp_i p1, gp_i p2] s K := by
  refine s_2842_e _ _ _ ?_
  refine zx1793_10 hs (by omega) (by omega) (by omega) (by omega) (by omega) (by omega) (by omega) (by omega) (⟨_, rfl, ?_⟩)
  refine ⟨fun h_1 => ?_, fun h_1 => ?_⟩
  · refine ⟨fun h_2 => ?_, fun h_2 => ?_⟩
    · exfalso; omega
    · refine ⟨fun h_3 => ?_, fun h_3 => ?_⟩
      · exfalso; omega
      · refine ⟨fun h_4 => ?_, fun h_4 => ?_⟩
        · exfalso; omega
        · refine ⟨fun h_5 => ?_, fun h_5 => ?_⟩
          · exfalso; omega
          · refine s_2842_33 _ _ _ ?_
            refine zx2855_12 hs (by omega) (by omega) (by omega) (by omega) (by omega) (by omega) (by omega) (by omega) (by omega) (by omega) (by omega) (by omega) (by omega) (by omega) q14 q15 q16 q17 q18 (fun s_6 hs_7 q_8 q_9 q_10 q_11 q_12 q_13 q_14 q_15 q_16 q_17 q_18 q_19 q_20 q_21 q_22 q_23 q_24 q_25 q_26 q_27 => ⟨_, rfl, ?_⟩)
            exact k s_6 hs_7 (by omega) (by omega) (by omega) (by omega) (by omega) (by omega) (by omega) (by omega) (by omega) (by omega) (by omega) (by omega) (by omega) (by omega) (by omega) q_23 q_24 q_25 q_26 q_27
  · exfalso; omega
set_option maxRecDepth 100000 in
/-- GatheredPoints.sheet [(2, 2), (9, 15), (-2147483648, 2147483647)] -/
theorem zx2842_16 {z : gH} {L d : Nat} {K : Option gV → gH → Prop} {s : gH} (p1 : Int) (p2 : Int) (hs : xM z s) (h_p1 : 9 ≤ p1 ∧ p1 ≤ 15) (h_p2 : (-2147483648) ≤ p2 ∧ p2 ≤ 2147483647) (q0 : gp_I s 1 2 = 0) (q1 : gp_I s 1 6 = 0) (q2 : gp_I s 1 7 = 1) (q3 : gp_I s 51 8 = 0) (q4 : gp_I s 57 1 = 0) (q5 : gp_I s 57 3 = 0) (q6 : gp_I s 72 0 = 0) (q7 : gp_I s 72 1 = 0) (q8 : gp_I s 72 2 = 0) (q9 : gp_I s 72 3 = 0) (q10 : gp_I s 73 0 = 0) (q11 : gp_I s 73 1 = 0) (q12 : gp_I s 73 2 = 0) (q13 : gp_I s 73 3 = 0) (q14 : ∀ k, k < 8 → gp_R s 4 k = some 25) (q15 : gp_R s 51 6 = some 55) (q16 : gp_R s 51 7 = some 56) (q17 : gp_us s = 606895) (q18 : gp_sz s = 117) (k : ∀ (t : gH), xM z t → (gp_I t 1 2 = 0) → (gp_I t 1 6 = 0) → (gp_I t 1 7 = 1) → ((-2147483648) ≤ gp_I t 2 1 ∧ gp_I t 2 1 ≤ 2147483647) → (gp_I t 51 8 = 0) → (gp_I t 57 1 = 0) → (gp_I t 57 3 = 0) → (gp_I t 72 0 = 0) → (gp_I t 72 1 = 0) → (gp_I t 72 2 = 0) → (gp_I t 72 3 = 0) → (gp_I t 73 0 = 0) → (gp_I t 73 1 = 0) → (gp_I t 73 2 = 0) → (gp_I t 73 3 = 0) → (∀ k, k < 8 → gp_R t 4 k = some 25) → (gp_R t 51 6 = some 55) → (gp_R t 51 7 = some 56) → (gp_us t = 606895) → (gp_sz t = 117) → K (some (gp_i (-1000000001))) t) : gs_C L (d + 1) 2842 4 [gp_r (some 1), gp_i 2, gp_i p1, gp_i p2] s K := by
  refine s_2842_e _ _ _ ?_
  refine zx1793_10 hs (by omega) (by omega) (by omega) (by omega) (by omega) (by omega) (by omega) (by omega) (⟨_, rfl, ?_⟩)
  refine ⟨fun h_1 => ?_, fun h_1 => ?_⟩
  · refine ⟨fun h_2 => ?_, fun h_2 => ?_⟩
    · exfalso; omega
    · refine ⟨fun h_3 => ?_, fun h_3 => ?_⟩
      · exfalso; omega
      · refine ⟨fun h_4 => ?_, fun h_4 => ?_⟩
        · exfalso; omega
        · refine ⟨fun h_5 => ?_, fun h_5 => ?_⟩
          · exfalso; omega
          · refine s_2842_33 _ _ _ ?_
            refine zx2855_12 hs (by omega) (by omega) (by omega) (by omega) (by omega) (by omega) (by omega) (by omega) (by omega) (by omega) (by omega) (by omega) (by omega) (by omega) q14 q15 q16 q17 q18 (fun s_6 hs_7 q_8 q_9 q_10 q_11 q_12 q_13 q_14 q_15 q_16 q_17 q_18 q_19 q_20 q_21 q_22 q_23 q_24 q_25 q_26 q_27 => ⟨_, rfl, ?_⟩)
            exact k s_6 hs_7 (by omega) (by omega) (by omega) (by omega) (by omega) (by omega) (by omega) (by omega) (by omega) (by omega) (by omega) (by omega) (by omega) (by omega) (by omega) q_23 q_24 q_25 q_26 q_27
  · exfalso; omega
set_option maxRecDepth 100000 in
/-- GatheredPoints.sheet [(2, 2), (17, 31), (-2147483648, 2147483647)] -/
theorem zx2842_17 {z : gH} {L d : Nat} {K : Option gV → gH → Prop} {s : gH} (p1 : Int) (p2 : Int) (hs : xM z s) (h_p1 : 17 ≤ p1 ∧ p1 ≤ 31) (h_p2 : (-2147483648) ≤ p2 ∧ p2 ≤ 2147483647) (q0 : gp_I s 1 2 = 0) (q1 : gp_I s 1 6 = 0) (q2 : gp_I s 1 7 = 1) (q3 : gp_I s 51 8 = 0) (q4 : gp_I s 57 1 = 0) (q5 : gp_I s 57 3 = 0) (q6 : gp_I s 72 0 = 0) (q7 : gp_I s 72 1 = 0) (q8 : gp_I s 72 2 = 0) (q9 : gp_I s 72 3 = 0) (q10 : gp_I s 73 0 = 0) (q11 : gp_I s 73 1 = 0) (q12 : gp_I s 73 2 = 0) (q13 : gp_I s 73 3 = 0) (q14 : ∀ k, k < 8 → gp_R s 4 k = some 25) (q15 : gp_R s 51 6 = some 55) (q16 : gp_R s 51 7 = some 56) (q17 : gp_us s = 606895) (q18 : gp_sz s = 117) (k : ∀ (t : gH), xM z t → (gp_I t 1 2 = 0) → (gp_I t 1 6 = 0) → (gp_I t 1 7 = 1) → ((-2147483648) ≤ gp_I t 2 1 ∧ gp_I t 2 1 ≤ 2147483647) → (gp_I t 51 8 = 0) → (gp_I t 57 1 = 0) → (gp_I t 57 3 = 0) → (gp_I t 72 0 = 0) → (gp_I t 72 1 = 0) → (gp_I t 72 2 = 0) → (gp_I t 72 3 = 0) → (gp_I t 73 0 = 0) → (gp_I t 73 1 = 0) → (gp_I t 73 2 = 0) → (gp_I t 73 3 = 0) → (∀ k, k < 8 → gp_R t 4 k = some 25) → (gp_R t 51 6 = some 55) → (gp_R t 51 7 = some 56) → (gp_us t = 606895) → (gp_sz t = 117) → K (some (gp_i (-1000000001))) t) : gs_C L (d + 1) 2842 4 [gp_r (some 1), gp_i 2, gp_i p1, gp_i p2] s K := by
  refine s_2842_e _ _ _ ?_
  refine zx1793_10 hs (by omega) (by omega) (by omega) (by omega) (by omega) (by omega) (by omega) (by omega) (⟨_, rfl, ?_⟩)
  refine ⟨fun h_1 => ?_, fun h_1 => ?_⟩
  · refine ⟨fun h_2 => ?_, fun h_2 => ?_⟩
    · exfalso; omega
    · refine ⟨fun h_3 => ?_, fun h_3 => ?_⟩
      · exfalso; omega
      · refine ⟨fun h_4 => ?_, fun h_4 => ?_⟩
        · exfalso; omega
        · refine ⟨fun h_5 => ?_, fun h_5 => ?_⟩
          · exfalso; omega
          · refine s_2842_33 _ _ _ ?_
            refine zx2855_12 hs (by omega) (by omega) (by omega) (by omega) (by omega) (by omega) (by omega) (by omega) (by omega) (by omega) (by omega) (by omega) (by omega) (by omega) q14 q15 q16 q17 q18 (fun s_6 hs_7 q_8 q_9 q_10 q_11 q_12 q_13 q_14 q_15 q_16 q_17 q_18 q_19 q_20 q_21 q_22 q_23 q_24 q_25 q_26 q_27 => ⟨_, rfl, ?_⟩)
            exact k s_6 hs_7 (by omega) (by omega) (by omega) (by omega) (by omega) (by omega) (by omega) (by omega) (by omega) (by omega) (by omega) (by omega) (by omega) (by omega) (by omega) q_23 q_24 q_25 q_26 q_27
  · exfalso; omega
set_option maxRecDepth 100000 in
/-- GatheredPoints.sheet [(2, 2), (33, 2147483647), (-2147483648, 2147483647)] -/
theorem zx2842_18 {z : gH} {L d : Nat} {K : Option gV → gH → Prop} {s : gH} (p1 : Int) (p2 : Int) (hs : xM z s) (h_p1 : 33 ≤ p1 ∧ p1 ≤ 2147483647) (h_p2 : (-2147483648) ≤ p2 ∧ p2 ≤ 2147483647) (q0 : gp_I s 1 2 = 0) (q1 : gp_I s 1 6 = 0) (q2 : gp_I s 1 7 = 1) (q3 : gp_I s 51 8 = 0) (q4 : gp_I s 57 1 = 0) (q5 : gp_I s 57 3 = 0) (q6 : gp_I s 72 0 = 0) (q7 : gp_I s 72 1 = 0) (q8 : gp_I s 72 2 = 0) (q9 : gp_I s 72 3 = 0) (q10 : gp_I s 73 0 = 0) (q11 : gp_I s 73 1 = 0) (q12 : gp_I s 73 2 = 0) (q13 : gp_I s 73 3 = 0) (q14 : ∀ k, k < 8 → gp_R s 4 k = some 25) (q15 : gp_R s 51 6 = some 55) (q16 : gp_R s 51 7 = some 56) (q17 : gp_us s = 606895) (q18 : gp_sz s = 117) (k : ∀ (t : gH), xM z t → (gp_I t 1 2 = 0) → (gp_I t 1 6 = 0) → (gp_I t 1 7 = 1) → ((-2147483648) ≤ gp_I t 2 1 ∧ gp_I t 2 1 ≤ 2147483647) → (gp_I t 51 8 = 0) → (gp_I t 57 1 = 0) → (gp_I t 57 3 = 0) → (gp_I t 72 0 = 0) → (gp_I t 72 1 = 0) → (gp_I t 72 2 = 0) → (gp_I t 72 3 = 0) → (gp_I t 73 0 = 0) → (gp_I t 73 1 = 0) → (gp_I t 73 2 = 0) → (gp_I t 73 3 = 0) → (∀ k, k < 8 → gp_R t 4 k = some 25) → (gp_R t 51 6 = some 55) → (gp_R t 51 7 = some 56) → (gp_us t = 606895) → (gp_sz t = 117) → K (some (gp_i (-1000000001))) t) : gs_C L (d + 1) 2842 4 [gp_r (some 1), gp_i 2, gp_i p1, gp_i p2] s K := by
  refine s_2842_e _ _ _ ?_
  refine zx1793_10 hs (by omega) (by omega) (by omega) (by omega) (by omega) (by omega) (by omega) (by omega) (⟨_, rfl, ?_⟩)
  refine ⟨fun h_1 => ?_, fun h_1 => ?_⟩
  · refine ⟨fun h_2 => ?_, fun h_2 => ?_⟩
    · exfalso; omega
    · refine ⟨fun h_3 => ?_, fun h_3 => ?_⟩
      · exfalso; omega
      · refine ⟨fun h_4 => ?_, fun h_4 => ?_⟩
        · exfalso; omega
        · refine ⟨fun h_5 => ?_, fun h_5 => ?_⟩
          · exfalso; omega
          · refine s_2842_33 _ _ _ ?_
            refine zx2855_12 hs (by omega) (by omega) (by omega) (by omega) (by omega) (by omega) (by omega) (by omega) (by omega) (by omega) (by omega) (by omega) (by omega) (by omega) q14 q15 q16 q17 q18 (fun s_6 hs_7 q_8 q_9 q_10 q_11 q_12 q_13 q_14 q_15 q_16 q_17 q_18 q_19 q_20 q_21 q_22 q_23 q_24 q_25 q_26 q_27 => ⟨_, rfl, ?_⟩)
            exact k s_6 hs_7 (by omega) (by omega) (by omega) (by omega) (by omega) (by omega) (by omega) (by omega) (by omega) (by omega) (by omega) (by omega) (by omega) (by omega) (by omega) q_23 q_24 q_25 q_26 q_27
  · exfalso; omega
set_option maxRecDepth 100000 in
/-- Sheets.lay, the loop at 17 -/
theorem zx1795_2_l17_0 {z : gH} {L d : Nat} {K : Option gV → gH → Prop}   (k : ∀ (t : gH), xM z t → (gp_I t 1 2 = 0) → (gp_I t 1 6 = 0) → (gp_I t 1 7 = 1) → (gp_I t 51 8 = 0) → (gp_I t 57 1 = 0) → (gp_I t 57 3 = 0) → (gp_I t 72 0 = 0) → (gp_I t 72 1 = 0) → (gp_I t 72 2 = 0) → (gp_I t 72 3 = 0) → (gp_I t 73 0 = 0) → (gp_I t 73 1 = 0) → (gp_I t 73 2 = 0) → (gp_I t 73 3 = 0) → (∀ k, k < 8 → gp_R t 4 k = some 25) → (gp_R t 51 6 = some 55) → (gp_R t 51 7 = some 56) → (gp_us t = 606895) → (gp_sz t = 117) → K none t)  : ∀ (n : Nat) (v1 : Int) (v2 : Int) (v3 : Int) (v4 : Int) (s : gH), xM z s → (21 - v4).toNat < n → (v1 = 2) → (v2 = 0) → (v3 = 0) → (0 ≤ v4 ∧ v4 ≤ 20) → (gp_I s 1 2 = 0) → (gp_I s 1 6 = 0) → (gp_I s 1 7 = 1) → (gp_I s 51 8 = 0) → (gp_I s 57 1 = 0) → (gp_I s 57 3 = 0) → (gp_I s 72 0 = 0) → (gp_I s 72 1 = 0) → (gp_I s 72 2 = 0) → (gp_I s 72 3 = 0) → (gp_I s 73 0 = 0) → (gp_I s 73 1 = 0) → (gp_I s 73 2 = 0) → (gp_I s 73 3 = 0) → (∀ k, k < 8 → gp_R s 4 k = some 25) → (gp_R s 51 6 = some 55) → (gp_R s 51 7 = some 56) → (gp_us s = 606895) → (gp_sz s = 117) → gs_E L d 1795 17 [gp_r (some 66), gp_i v1, gp_i v2, gp_i v3, gp_i v4] [] s K := by
  intro n
  induction n with
  | zero => intro v1 v2 v3 v4 s hs hm i0 i1 i2 i3 i4 i5 i6 i7 i8 i9 i10 i11 i12 i13 i14 i15 i16 i17 i18 i19 i20 i21 i22; exact absurd hm (Nat.not_lt_zero _)
  | succ n ih =>
    intro v1 v2 v3 v4 s hs hm i0 i1 i2 i3 i4 i5 i6 i7 i8 i9 i10 i11 i12 i13 i14 i15 i16 i17 i18 i19 i20 i21 i22
    subst i0
    subst i1
    subst i2
    refine s_1795_17 _ _ _ _ ?_
    refine ⟨fun h_1 => ?_, fun h_1 => ?_⟩
    · refine ⟨by omega, ?_⟩
      try rw [show gp_R (gp_mk L s) 67 (2 : Int).toNat = some 70 from rfl]
      refine ⟨70, rfl, ?_⟩
      refine ⟨⟨rfl, by show 0 ≤ v4 ∧ v4 < 20; omega⟩, ?_⟩
      intro s_2 e_3
      have hs_4 : xM z s_2 := by rw [e_3]; exact xw70 hs _ _
      have q_5 : gp_I s_2 1 2 = 0 := by rw [e_3]; exact i4
      have q_6 : gp_I s_2 1 6 = 0 := by rw [e_3]; exact i5
      have q_7 : gp_I s_2 1 7 = 1 := by rw [e_3]; exact i6
      have q_8 : gp_I s_2 51 8 = 0 := by rw [e_3]; exact i7
      have q_9 : gp_I s_2 57 1 = 0 := by rw [e_3]; exact i8
      have q_10 : gp_I s_2 57 3 = 0 := by rw [e_3]; exact i9
      have q_11 : gp_I s_2 72 0 = 0 := by rw [e_3]; exact i10
      have q_12 : gp_I s_2 72 1 = 0 := by rw [e_3]; exact i11
      have q_13 : gp_I s_2 72 2 = 0 := by rw [e_3]; exact i12
      have q_14 : gp_I s_2 72 3 = 0 := by rw [e_3]; exact i13
      have q_15 : gp_I s_2 73 0 = 0 := by rw [e_3]; exact i14
      have q_16 : gp_I s_2 73 1 = 0 := by rw [e_3]; exact i15
      have q_17 : gp_I s_2 73 2 = 0 := by rw [e_3]; exact i16
      have q_18 : gp_I s_2 73 3 = 0 := by rw [e_3]; exact i17
      have q_19 : ∀ k, k < 8 → gp_R s_2 4 k = some 25 := by rw [e_3]; exact i18
      have q_20 : gp_R s_2 51 6 = some 55 := by rw [e_3]; exact i19
      have q_21 : gp_R s_2 51 7 = some 56 := by rw [e_3]; exact i20
      have q_22 : gp_us s_2 = 606895 := by rw [e_3]; exact i21
      have q_23 : gp_sz s_2 = 117 := by rw [e_3]; exact i22
      have w_24 := gz_w (v4 + 1)
      exact ih _ _ _ _ s_2 hs_4 (by omega) (by omega) (by omega) (by omega) (by omega) (by omega) (by omega) (by omega) (by omega) (by omega) (by omega) (by omega) (by omega) (by omega) (by omega) (by omega) (by omega) (by omega) (by omega) q_19 q_20 q_21 q_22 q_23
    · have e_25 : v4 = 20 := by omega
      subst e_25
      exact k s hs (by omega) (by omega) (by omega) (by omega) (by omega) (by omega) (by omega) (by omega) (by omega) (by omega) (by omega) (by omega) (by omega) (by omega) i18 i19 i20 i21 i22
set_option maxRecDepth 100000 in
/-- Sheets.lay [(2, 2), (0, 0), (0, 0)] -/
theorem zx1795_2 {z : gH} {L d : Nat} {K : Option gV → gH → Prop} {s : gH}  (hs : xM z s)  (q0 : gp_I s 1 2 = 0) (q1 : gp_I s 1 6 = 0) (q2 : gp_I s 1 7 = 1) (q3 : gp_I s 51 8 = 0) (q4 : gp_I s 57 1 = 0) (q5 : gp_I s 57 3 = 0) (q6 : gp_I s 72 0 = 0) (q7 : gp_I s 72 1 = 0) (q8 : gp_I s 72 2 = 0) (q9 : gp_I s 72 3 = 0) (q10 : gp_I s 73 0 = 0) (q11 : gp_I s 73 1 = 0) (q12 : gp_I s 73 2 = 0) (q13 : gp_I s 73 3 = 0) (q14 : ∀ k, k < 8 → gp_R s 4 k = some 25) (q15 : gp_R s 51 6 = some 55) (q16 : gp_R s 51 7 = some 56) (q17 : gp_us s = 606895) (q18 : gp_sz s = 117) (k : ∀ (t : gH), xM z t → (gp_I t 1 2 = 0) → (gp_I t 1 6 = 0) → (gp_I t 1 7 = 1) → (gp_I t 51 8 = 0) → (gp_I t 57 1 = 0) → (gp_I t 57 3 = 0) → (gp_I t 72 0 = 0) → (gp_I t 72 1 = 0) → (gp_I t 72 2 = 0) → (gp_I t 72 3 = 0) → (gp_I t 73 0 = 0) → (gp_I t 73 1 = 0) → (gp_I t 73 2 = 0) → (gp_I t 73 3 = 0) → (∀ k, k < 8 → gp_R t 4 k = some 25) → (gp_R t 51 6 = some 55) → (gp_R t 51 7 = some 56) → (gp_us t = 606895) → (gp_sz t = 117) → K none t) : gs_C L d 1795 5 [gp_r (some 66), gp_i 2, gp_i 0, gp_i 0] s K := by
  refine s_1795_e _ _ _ ?_
  refine ⟨by omega, ?_⟩
  intro s_1 e_2
  have hs_3 : xM z s_1 := by rw [e_2]; exact xw72 hs _ _
  have q_4 : gp_I s_1 1 2 = 0 := by rw [e_2]; exact q0
  have q_5 : gp_I s_1 1 6 = 0 := by rw [e_2]; exact q1
  have q_6 : gp_I s_1 1 7 = 1 := by rw [e_2]; exact q2
  have q_7 : gp_I s_1 51 8 = 0 := by rw [e_2]; exact q3
  have q_8 : gp_I s_1 57 1 = 0 := by rw [e_2]; exact q4
  have q_9 : gp_I s_1 57 3 = 0 := by rw [e_2]; exact q5
  have q_10 : gp_I s_1 72 0 = 0 := by rw [e_2]; exact q6
  have q_11 : gp_I s_1 72 1 = 0 := by rw [e_2]; exact q7
  have q_12 : gp_I s_1 72 3 = 0 := by rw [e_2]; exact q9
  have q_13 : gp_I s_1 73 0 = 0 := by rw [e_2]; exact q10
  have q_14 : gp_I s_1 73 1 = 0 := by rw [e_2]; exact q11
  have q_15 : gp_I s_1 73 2 = 0 := by rw [e_2]; exact q12
  have q_16 : gp_I s_1 73 3 = 0 := by rw [e_2]; exact q13
  have q_17 : ∀ k, k < 8 → gp_R s_1 4 k = some 25 := by rw [e_2]; exact q14
  have q_18 : gp_R s_1 51 6 = some 55 := by rw [e_2]; exact q15
  have q_19 : gp_R s_1 51 7 = some 56 := by rw [e_2]; exact q16
  have q_20 : gp_us s_1 = 606895 := by rw [e_2]; exact q17
  have q_21 : gp_sz s_1 = 117 := by rw [e_2]; exact q18
  have q_22 : gp_I s_1 72 2 = 0 := by rw [e_2]; rfl
  refine ⟨by omega, ?_⟩
  intro s_24 e_25
  have hs_26 : xM z s_24 := by rw [e_25]; exact xw73 hs_3 _ _
  have q_27 : gp_I s_24 1 2 = 0 := by rw [e_25]; exact q_4
  have q_28 : gp_I s_24 1 6 = 0 := by rw [e_25]; exact q_5
  have q_29 : gp_I s_24 1 7 = 1 := by rw [e_25]; exact q_6
  have q_30 : gp_I s_24 51 8 = 0 := by rw [e_25]; exact q_7
  have q_31 : gp_I s_24 57 1 = 0 := by rw [e_25]; exact q_8
  have q_32 : gp_I s_24 57 3 = 0 := by rw [e_25]; exact q_9
  have q_33 : gp_I s_24 72 0 = 0 := by rw [e_25]; exact q_10
  have q_34 : gp_I s_24 72 1 = 0 := by rw [e_25]; exact q_11
  have q_35 : gp_I s_24 72 3 = 0 := by rw [e_25]; exact q_12
  have q_36 : gp_I s_24 73 0 = 0 := by rw [e_25]; exact q_13
  have q_37 : gp_I s_24 73 1 = 0 := by rw [e_25]; exact q_14
  have q_38 : gp_I s_24 73 3 = 0 := by rw [e_25]; exact q_16
  have q_39 : ∀ k, k < 8 → gp_R s_24 4 k = some 25 := by rw [e_25]; exact q_17
  have q_40 : gp_R s_24 51 6 = some 55 := by rw [e_25]; exact q_18
  have q_41 : gp_R s_24 51 7 = some 56 := by rw [e_25]; exact q_19
  have q_42 : gp_us s_24 = 606895 := by rw [e_25]; exact q_20
  have q_43 : gp_sz s_24 = 117 := by rw [e_25]; exact q_21
  have q_44 : gp_I s_24 72 2 = 0 := by rw [e_25]; exact q_22
  have q_45 : gp_I s_24 73 2 = 0 := by rw [e_25]; rfl
  exact zx1795_2_l17_0 k _ _ _ _ _ s_24 hs_26 (Nat.lt_succ_self _) (by omega) (by omega) (by omega) (by omega) (by omega) (by omega) (by omega) (by omega) (by omega) (by omega) (by omega) (by omega) (by omega) (by omega) (by omega) (by omega) (by omega) (by omega) q_39 q_40 q_41 q_42 q_43
set_option maxRecDepth 100000 in
/-- GatheredPoints.sheet [(2, 2), (0, 0), (-2147483648, 2147483647)] -/
theorem zx2842_19 {z : gH} {L d : Nat} {K : Option gV → gH → Prop} {s : gH} (p2 : Int) (hs : xM z s) (h_p2 : (-2147483648) ≤ p2 ∧ p2 ≤ 2147483647) (q0 : gp_I s 1 2 = 0) (q1 : gp_I s 1 6 = 0) (q2 : gp_I s 1 7 = 1) (q3 : gp_I s 51 8 = 0) (q4 : gp_I s 57 1 = 0) (q5 : gp_I s 57 3 = 0) (q6 : gp_I s 72 0 = 0) (q7 : gp_I s 72 1 = 0) (q8 : gp_I s 72 2 = 0) (q9 : gp_I s 72 3 = 0) (q10 : gp_I s 73 0 = 0) (q11 : gp_I s 73 1 = 0) (q12 : gp_I s 73 2 = 0) (q13 : gp_I s 73 3 = 0) (q14 : ∀ k, k < 8 → gp_R s 4 k = some 25) (q15 : gp_R s 51 6 = some 55) (q16 : gp_R s 51 7 = some 56) (q17 : gp_us s = 606895) (q18 : gp_sz s = 117) (k : ∀ (t : gH), xM z t → (gp_I t 1 2 = 0) → (gp_I t 1 6 = 0) → (gp_I t 1 7 = 1) → (gp_I t 51 8 = 0) → (gp_I t 57 1 = 0) → (gp_I t 57 3 = 0) → (gp_I t 72 0 = 0) → (gp_I t 72 1 = 0) → (gp_I t 72 2 = 0) → (gp_I t 72 3 = 0) → (gp_I t 73 0 = 0) → (gp_I t 73 1 = 0) → (gp_I t 73 2 = 0) → (gp_I t 73 3 = 0) → (∀ k, k < 8 → gp_R t 4 k = some 25) → (gp_R t 51 6 = some 55) → (gp_R t 51 7 = some 56) → (gp_us t = 606895) → (gp_sz t = 117) → K (some (gp_i 1)) t) : gs_C L (d + 1) 2842 4 [gp_r (some 1), gp_i 2, gp_i 0, gp_i p2] s K := by
  refine s_2842_e _ _ _ ?_
  refine zx1793_10 hs (by omega) (by omega) (by omega) (by omega) (by omega) (by omega) (by omega) (by omega) (⟨_, rfl, ?_⟩)
  refine ⟨fun h_1 => ?_, fun h_1 => ?_⟩
  · refine ⟨fun h_2 => ?_, fun h_2 => ?_⟩
    · refine s_2842_39 _ _ _ ?_
      refine ⟨fun h_3 => ?_, fun h_3 => ?_⟩
      · refine s_2842_53 _ _ _ ?_
        refine ⟨fun h_4 => ?_, fun h_4 => ?_⟩
        · refine s_2842_69 _ _ _ ?_
          refine ⟨fun h_5 => ?_, fun h_5 => ?_⟩
          · refine s_2842_84 _ _ _ _ _ _ ?_
            refine zx1795_2 hs (by omega) (by omega) (by omega) (by omega) (by omega) (by omega) (by omega) (by omega) (by omega) (by omega) (by omega) (by omega) (by omega) (by omega) q14 q15 q16 q17 q18 (fun s_6 hs_7 q_8 q_9 q_10 q_11 q_12 q_13 q_14 q_15 q_16 q_17 q_18 q_19 q_20 q_21 q_22 q_23 q_24 q_25 q_26 => ⟨rfl, ?_⟩)
            exact k s_6 hs_7 (by omega) (by omega) (by omega) (by omega) (by omega) (by omega) (by omega) (by omega) (by omega) (by omega) (by omega) (by omega) (by omega) (by omega) q_22 q_23 q_24 q_25 q_26
          · exfalso; omega
        · exfalso; omega
      · exfalso; omega
    · exfalso; omega
  · exfalso; omega
set_option maxRecDepth 100000 in
/-- Sheets.beyond [(3, 3)] -/
theorem zx1793_11 {z : gH} {L d : Nat} {K : Option gV → gH → Prop} {s : gH}  (hs : xM z s)  (q0 : gp_I s 72 0 = 0) (q1 : gp_I s 72 1 = 0) (q2 : gp_I s 72 2 = 0) (q3 : gp_I s 72 3 = 0) (q4 : gp_I s 73 0 = 0) (q5 : gp_I s 73 1 = 0) (q6 : gp_I s 73 2 = 0) (q7 : gp_I s 73 3 = 0) (k : K (some (gp_i 0)) s) : gs_C L d 1793 2 [gp_r (some 66), gp_i 3] s K := by
  refine s_1793_e _ ?_
  refine ⟨fun h_1 => ?_, fun h_1 => ?_⟩
  · exfalso; omega
  · refine ⟨fun h_2 => ?_, fun h_2 => ?_⟩
    · refine s_1793_14 _ _ ?_
      refine ⟨by omega, ?_⟩
      exact k
    · exfalso; omega
set_option maxRecDepth 100000 in
/-- GatheredPoints.sheet [(3, 3), (-2147483648, -1), (-2147483648, 2147483647)] -/
theorem zx2842_20 {z : gH} {L d : Nat} {K : Option gV → gH → Prop} {s : gH} (p1 : Int) (p2 : Int) (hs : xM z s) (h_p1 : (-2147483648) ≤ p1 ∧ p1 ≤ (-1)) (h_p2 : (-2147483648) ≤ p2 ∧ p2 ≤ 2147483647) (q0 : gp_I s 1 2 = 0) (q1 : gp_I s 1 6 = 0) (q2 : gp_I s 1 7 = 1) (q3 : gp_I s 51 8 = 0) (q4 : gp_I s 57 1 = 0) (q5 : gp_I s 57 3 = 0) (q6 : gp_I s 72 0 = 0) (q7 : gp_I s 72 1 = 0) (q8 : gp_I s 72 2 = 0) (q9 : gp_I s 72 3 = 0) (q10 : gp_I s 73 0 = 0) (q11 : gp_I s 73 1 = 0) (q12 : gp_I s 73 2 = 0) (q13 : gp_I s 73 3 = 0) (q14 : ∀ k, k < 8 → gp_R s 4 k = some 25) (q15 : gp_R s 51 6 = some 55) (q16 : gp_R s 51 7 = some 56) (q17 : gp_us s = 606895) (q18 : gp_sz s = 117) (k : ∀ (t : gH), xM z t → (gp_I t 1 2 = 0) → (gp_I t 1 6 = 0) → (gp_I t 1 7 = 1) → ((-2147483648) ≤ gp_I t 2 1 ∧ gp_I t 2 1 ≤ 2147483647) → (gp_I t 51 8 = 0) → (gp_I t 57 1 = 0) → (gp_I t 57 3 = 0) → (gp_I t 72 0 = 0) → (gp_I t 72 1 = 0) → (gp_I t 72 2 = 0) → (gp_I t 72 3 = 0) → (gp_I t 73 0 = 0) → (gp_I t 73 1 = 0) → (gp_I t 73 2 = 0) → (gp_I t 73 3 = 0) → (∀ k, k < 8 → gp_R t 4 k = some 25) → (gp_R t 51 6 = some 55) → (gp_R t 51 7 = some 56) → (gp_us t = 606895) → (gp_sz t = 117) → K (some (gp_i (-1000000001))) t) : gs_C L (d + 1) 2842 4 [gp_r (some 1), gp_i 3, gp_i p1, gp_i p2] s K := by
  refine s_2842_e _ _ _ ?_
  refine zx1793_11 hs (by omega) (by omega) (by omega) (by omega) (by omega) (by omega) (by omega) (by omega) (⟨_, rfl, ?_⟩)
  refine ⟨fun h_1 => ?_, fun h_1 => ?_⟩
  · refine ⟨fun h_2 => ?_, fun h_2 => ?_⟩
    · exfalso; omega
    · refine ⟨fun h_3 => ?_, fun h_3 => ?_⟩
      · exfalso; omega
      · refine ⟨fun h_4 => ?_, fun h_4 => ?_⟩
        · exfalso; omega
        · refine ⟨fun h_5 => ?_, fun h_5 => ?_⟩
          · exfalso; omega
          · refine s_2842_33 _ _ _ ?_
            refine zx2855_12 hs (by omega) (by omega) (by omega) (by omega) (by omega) (by omega) (by omega) (by omega) (by omega) (by omega) (by omega) (by omega) (by omega) (by omega) q14 q15 q16 q17 q18 (fun s_6 hs_7 q_8 q_9 q_10 q_11 q_12 q_13 q_14 q_15 q_16 q_17 q_18 q_19 q_20 q_21 q_22 q_23 q_24 q_25 q_26 q_27 => ⟨_, rfl, ?_⟩)
            exact k s_6 hs_7 (by omega) (by omega) (by omega) (by omega) (by omega) (by omega) (by omega) (by omega) (by omega) (by omega) (by omega) (by omega) (by omega) (by omega) (by omega) q_23 q_24 q_25 q_26 q_27
  · exfalso; omega
set_option maxRecDepth 100000 in
/-- GatheredPoints.sheet [(3, 3), (1, 7), (-2147483648, 2147483647)] -/
theorem zx2842_21 {z : gH} {L d : Nat} {K : Option gV → gH → Prop} {s : gH} (p1 : Int) (p2 : Int) (hs : xM z s) (h_p1 : 1 ≤ p1 ∧ p1 ≤ 7) (h_p2 : (-2147483648) ≤ p2 ∧ p2 ≤ 2147483647) (q0 : gp_I s 1 2 = 0) (q1 : gp_I s 1 6 = 0) (q2 : gp_I s 1 7 = 1) (q3 : gp_I s 51 8 = 0) (q4 : gp_I s 57 1 = 0) (q5 : gp_I s 57 3 = 0) (q6 : gp_I s 72 0 = 0) (q7 : gp_I s 72 1 = 0) (q8 : gp_I s 72 2 = 0) (q9 : gp_I s 72 3 = 0) (q10 : gp_I s 73 0 = 0) (q11 : gp_I s 73 1 = 0) (q12 : gp_I s 73 2 = 0) (q13 : gp_I s 73 3 = 0) (q14 : ∀ k, k < 8 → gp_R s 4 k = some 25) (q15 : gp_R s 51 6 = some 55) (q16 : gp_R s 51 7 = some 56) (q17 : gp_us s = 606895) (q18 : gp_sz s = 117) (k : ∀ (t : gH), xM z t → (gp_I t 1 2 = 0) → (gp_I t 1 6 = 0) → (gp_I t 1 7 = 1) → ((-2147483648) ≤ gp_I t 2 1 ∧ gp_I t 2 1 ≤ 2147483647) → (gp_I t 51 8 = 0) → (gp_I t 57 1 = 0) → (gp_I t 57 3 = 0) → (gp_I t 72 0 = 0) → (gp_I t 72 1 = 0) → (gp_I t 72 2 = 0) → (gp_I t 72 3 = 0) → (gp_I t 73 0 = 0) → (gp_I t 73 1 = 0) → (gp_I t 73 2 = 0) → (gp_I t 73 3 = 0) → (∀ k, k < 8 → gp_R t 4 k = some 25) → (gp_R t 51 6 = some 55) → (gp_R t 51 7 = some 56) → (gp_us t = 606895) → (gp_sz t = 117) → K (some (gp_i (-1000000001))) t) : gs_C L (d + 1) 2842 4 [gp_r (some 1), gp_i 3, gp_i p1, gp_i p2] s K := by
  refine s_2842_e _ _ _ ?_
  refine zx1793_11 hs (by omega) (by omega) (by omega) (by omega) (by omega) (by omega) (by omega) (by omega) (⟨_, rfl, ?_⟩)
  refine ⟨fun h_1 => ?_, fun h_1 => ?_⟩
  · refine ⟨fun h_2 => ?_, fun h_2 => ?_⟩
    · exfalso; omega
    · refine ⟨fun h_3 => ?_, fun h_3 => ?_⟩
      · exfalso; omega
      · refine ⟨fun h_4 => ?_, fun h_4 => ?_⟩
        · exfalso; omega
        · refine ⟨fun h_5 => ?_, fun h_5 => ?_⟩
          · exfalso; omega
          · refine s_2842_33 _ _ _ ?_
            refine zx2855_12 hs (by omega) (by omega) (by omega) (by omega) (by omega) (by omega) (by omega) (by omega) (by omega) (by omega) (by omega) (by omega) (by omega) (by omega) q14 q15 q16 q17 q18 (fun s_6 hs_7 q_8 q_9 q_10 q_11 q_12 q_13 q_14 q_15 q_16 q_17 q_18 q_19 q_20 q_21 q_22 q_23 q_24 q_25 q_26 q_27 => ⟨_, rfl, ?_⟩)
            exact k s_6 hs_7 (by omega) (by omega) (by omega) (by omega) (by omega) (by omega) (by omega) (by omega) (by omega) (by omega) (by omega) (by omega) (by omega) (by omega) (by omega) q_23 q_24 q_25 q_26 q_27
  · exfalso; omega
set_option maxRecDepth 100000 in
/-- GatheredPoints.sheet [(3, 3), (9, 15), (-2147483648, 2147483647)] -/
theorem zx2842_22 {z : gH} {L d : Nat} {K : Option gV → gH → Prop} {s : gH} (p1 : Int) (p2 : Int) (hs : xM z s) (h_p1 : 9 ≤ p1 ∧ p1 ≤ 15) (h_p2 : (-2147483648) ≤ p2 ∧ p2 ≤ 2147483647) (q0 : gp_I s 1 2 = 0) (q1 : gp_I s 1 6 = 0) (q2 : gp_I s 1 7 = 1) (q3 : gp_I s 51 8 = 0) (q4 : gp_I s 57 1 = 0) (q5 : gp_I s 57 3 = 0) (q6 : gp_I s 72 0 = 0) (q7 : gp_I s 72 1 = 0) (q8 : gp_I s 72 2 = 0) (q9 : gp_I s 72 3 = 0) (q10 : gp_I s 73 0 = 0) (q11 : gp_I s 73 1 = 0) (q12 : gp_I s 73 2 = 0) (q13 : gp_I s 73 3 = 0) (q14 : ∀ k, k < 8 → gp_R s 4 k = some 25) (q15 : gp_R s 51 6 = some 55) (q16 : gp_R s 51 7 = some 56) (q17 : gp_us s = 606895) (q18 : gp_sz s = 117) (k : ∀ (t : gH), xM z t → (gp_I t 1 2 = 0) → (gp_I t 1 6 = 0) → (gp_I t 1 7 = 1) → ((-2147483648) ≤ gp_I t 2 1 ∧ gp_I t 2 1 ≤ 2147483647) → (gp_I t 51 8 = 0) → (gp_I t 57 1 = 0) → (gp_I t 57 3 = 0) → (gp_I t 72 0 = 0) → (gp_I t 72 1 = 0) → (gp_I t 72 2 = 0) → (gp_I t 72 3 = 0) → (gp_I t 73 0 = 0) → (gp_I t 73 1 = 0) → (gp_I t 73 2 = 0) → (gp_I t 73 3 = 0) → (∀ k, k < 8 → gp_R t 4 k = some 25) → (gp_R t 51 6 = some 55) → (gp_R t 51 7 = some 56) → (gp_us t = 606895) → (gp_sz t = 117) → K (some (gp_i (-1000000001))) t) : gs_C L (d + 1) 2842 4 [gp_r (some 1), gp_i 3, gp_i p1, gp_i p2] s K := by
  refine s_2842_e _ _ _ ?_
  refine zx1793_11 hs (by omega) (by omega) (by omega) (by omega) (by omega) (by omega) (by omega) (by omega) (⟨_, rfl, ?_⟩)
  refine ⟨fun h_1 => ?_, fun h_1 => ?_⟩
  · refine ⟨fun h_2 => ?_, fun h_2 => ?_⟩
    · exfalso; omega
    · refine ⟨fun h_3 => ?_, fun h_3 => ?_⟩
      · exfalso; omega
      · refine ⟨fun h_4 => ?_, fun h_4 => ?_⟩
        · exfalso; omega
        · refine ⟨fun h_5 => ?_, fun h_5 => ?_⟩
          · exfalso; omega
          · refine s_2842_33 _ _ _ ?_
            refine zx2855_12 hs (by omega) (by omega) (by omega) (by omega) (by omega) (by omega) (by omega) (by omega) (by omega) (by omega) (by omega) (by omega) (by omega) (by omega) q14 q15 q16 q17 q18 (fun s_6 hs_7 q_8 q_9 q_10 q_11 q_12 q_13 q_14 q_15 q_16 q_17 q_18 q_19 q_20 q_21 q_22 q_23 q_24 q_25 q_26 q_27 => ⟨_, rfl, ?_⟩)
            exact k s_6 hs_7 (by omega) (by omega) (by omega) (by omega) (by omega) (by omega) (by omega) (by omega) (by omega) (by omega) (by omega) (by omega) (by omega) (by omega) (by omega) q_23 q_24 q_25 q_26 q_27
  · exfalso; omega
set_option maxRecDepth 100000 in
/-- GatheredPoints.sheet [(3, 3), (17, 31), (-2147483648, 2147483647)] -/
theorem zx2842_23 {z : gH} {L d : Nat} {K : Option gV → gH → Prop} {s : gH} (p1 : Int) (p2 : Int) (hs : xM z s) (h_p1 : 17 ≤ p1 ∧ p1 ≤ 31) (h_p2 : (-2147483648) ≤ p2 ∧ p2 ≤ 2147483647) (q0 : gp_I s 1 2 = 0) (q1 : gp_I s 1 6 = 0) (q2 : gp_I s 1 7 = 1) (q3 : gp_I s 51 8 = 0) (q4 : gp_I s 57 1 = 0) (q5 : gp_I s 57 3 = 0) (q6 : gp_I s 72 0 = 0) (q7 : gp_I s 72 1 = 0) (q8 : gp_I s 72 2 = 0) (q9 : gp_I s 72 3 = 0) (q10 : gp_I s 73 0 = 0) (q11 : gp_I s 73 1 = 0) (q12 : gp_I s 73 2 = 0) (q13 : gp_I s 73 3 = 0) (q14 : ∀ k, k < 8 → gp_R s 4 k = some 25) (q15 : gp_R s 51 6 = some 55) (q16 : gp_R s 51 7 = some 56) (q17 : gp_us s = 606895) (q18 : gp_sz s = 117) (k : ∀ (t : gH), xM z t → (gp_I t 1 2 = 0) → (gp_I t 1 6 = 0) → (gp_I t 1 7 = 1) → ((-2147483648) ≤ gp_I t 2 1 ∧ gp_I t 2 1 ≤ 2147483647) → (gp_I t 51 8 = 0) → (gp_I t 57 1 = 0) → (gp_I t 57 3 = 0) → (gp_I t 72 0 = 0) → (gp_I t 72 1 = 0) → (gp_I t 72 2 = 0) → (gp_I t 72 3 = 0) → (gp_I t 73 0 = 0) → (gp_I t 73 1 = 0) → (gp_I t 73 2 = 0) → (gp_I t 73 3 = 0) → (∀ k, k < 8 → gp_R t 4 k = some 25) → (gp_R t 51 6 = some 55) → (gp_R t 51 7 = some 56) → (gp_us t = 606895) → (gp_sz t = 117) → K (some (gp_i (-1000000001))) t) : gs_C L (d + 1) 2842 4 [gp_r (some 1), gp_i 3, gp_i p1, gp_i p2] s K := by
  refine s_2842_e _ _ _ ?_
  refine zx1793_11 hs (by omega) (by omega) (by omega) (by omega) (by omega) (by omega) (by omega) (by omega) (⟨_, rfl, ?_⟩)
  refine ⟨fun h_1 => ?_, fun h_1 => ?_⟩
  · refine ⟨fun h_2 => ?_, fun h_2 => ?_⟩
    · exfalso; omega
    · refine ⟨fun h_3 => ?_, fun h_3 => ?_⟩
      · exfalso; omega
      · refine ⟨fun h_4 => ?_, fun h_4 => ?_⟩
        · exfalso; omega
        · refine ⟨fun h_5 => ?_, fun h_5 => ?_⟩
          · exfalso; omega
          · refine s_2842_33 _ _ _ ?_
            refine zx2855_12 hs (by omega) (by omega) (by omega) (by omega) (by omega) (by omega) (by omega) (by omega) (by omega) (by omega) (by omega) (by omega) (by omega) (by omega) q14 q15 q16 q17 q18 (fun s_6 hs_7 q_8 q_9 q_10 q_11 q_12 q_13 q_14 q_15 q_16 q_17 q_18 q_19 q_20 q_21 q_22 q_23 q_24 q_25 q_26 q_27 => ⟨_, rfl, ?_⟩)
            exact k s_6 hs_7 (by omega) (by omega) (by omega) (by omega) (by omega) (by omega) (by omega) (by omega) (by omega) (by omega) (by omega) (by omega) (by omega) (by omega) (by omega) q_23 q_24 q_25 q_26 q_27
  · exfalso; omega
set_option maxRecDepth 100000 in
/-- GatheredPoints.sheet [(3, 3), (33, 2147483647), (-2147483648, 2147483647)] -/
theorem zx2842_24 {z : gH} {L d : Nat} {K : Option gV → gH → Prop} {s : gH} (p1 : Int) (p2 : Int) (hs : xM z s) (h_p1 : 33 ≤ p1 ∧ p1 ≤ 2147483647) (h_p2 : (-2147483648) ≤ p2 ∧ p2 ≤ 2147483647) (q0 : gp_I s 1 2 = 0) (q1 : gp_I s 1 6 = 0) (q2 : gp_I s 1 7 = 1) (q3 : gp_I s 51 8 = 0) (q4 : gp_I s 57 1 = 0) (q5 : gp_I s 57 3 = 0) (q6 : gp_I s 72 0 = 0) (q7 : gp_I s 72 1 = 0) (q8 : gp_I s 72 2 = 0) (q9 : gp_I s 72 3 = 0) (q10 : gp_I s 73 0 = 0) (q11 : gp_I s 73 1 = 0) (q12 : gp_I s 73 2 = 0) (q13 : gp_I s 73 3 = 0) (q14 : ∀ k, k < 8 → gp_R s 4 k = some 25) (q15 : gp_R s 51 6 = some 55) (q16 : gp_R s 51 7 = some 56) (q17 : gp_us s = 606895) (q18 : gp_sz s = 117) (k : ∀ (t : gH), xM z t → (gp_I t 1 2 = 0) → (gp_I t 1 6 = 0) → (gp_I t 1 7 = 1) → ((-2147483648) ≤ gp_I t 2 1 ∧ gp_I t 2 1 ≤ 2147483647) → (gp_I t 51 8 = 0) → (gp_I t 57 1 = 0) → (gp_I t 57 3 = 0) → (gp_I t 72 0 = 0) → (gp_I t 72 1 = 0) → (gp_I t 72 2 = 0) → (gp_I t 72 3 = 0) → (gp_I t 73 0 = 0) → (gp_I t 73 1 = 0) → (gp_I t 73 2 = 0) → (gp_I t 73 3 = 0) → (∀ k, k < 8 → gp_R t 4 k = some 25) → (gp_R t 51 6 = some 55) → (gp_R t 51 7 = some 56) → (gp_us t = 606895) → (gp_sz t = 117) → K (some (gp_i (-1000000001))) t) : gs_C L (d + 1) 2842 4 [gp_r (some 1), gp_i 3, gp_i p1, gp_i p2] s K := by
  refine s_2842_e _ _ _ ?_
  refine zx1793_11 hs (by omega) (by omega) (by omega) (by omega) (by omega) (by omega) (by omega) (by omega) (⟨_, rfl, ?_⟩)
  refine ⟨fun h_1 => ?_, fun h_1 => ?_⟩
  · refine ⟨fun h_2 => ?_, fun h_2 => ?_⟩
    · exfalso; omega
    · refine ⟨fun h_3 => ?_, fun h_3 => ?_⟩
      · exfalso; omega
      · refine ⟨fun h_4 => ?_, fun h_4 => ?_⟩
        · exfalso; omega
        · refine ⟨fun h_5 => ?_, fun h_5 => ?_⟩
          · exfalso; omega
          · refine s_2842_33 _ _ _ ?_
            refine zx2855_12 hs (by omega) (by omega) (by omega) (by omega) (by omega) (by omega) (by omega) (by omega) (by omega) (by omega) (by omega) (by omega) (by omega) (by omega) q14 q15 q16 q17 q18 (fun s_6 hs_7 q_8 q_9 q_10 q_11 q_12 q_13 q_14 q_15 q_16 q_17 q_18 q_19 q_20 q_21 q_22 q_23 q_24 q_25 q_26 q_27 => ⟨_, rfl, ?_⟩)
            exact k s_6 hs_7 (by omega) (by omega) (by omega) (by omega) (by omega) (by omega) (by omega) (by omega) (by omega) (by omega) (by omega) (by omega) (by omega) (by omega) (by omega) q_23 q_24 q_25 q_26 q_27
  · exfalso; omega
set_option maxRecDepth 100000 in
/-- Sheets.lay, the loop at 17 -/
theorem zx1795_3_l17_0 {z : gH} {L d : Nat} {K : Option gV → gH → Prop}   (k : ∀ (t : gH), xM z t → (gp_I t 1 2 = 0) → (gp_I t 1 6 = 0) → (gp_I t 1 7 = 1) → (gp_I t 51 8 = 0) → (gp_I t 57 1 = 0) → (gp_I t 57 3 = 0) → (gp_I t 72 0 = 0) → (gp_I t 72 1 = 0) → (gp_I t 72 2 = 0) → (gp_I t 72 3 = 0) → (gp_I t 73 0 = 0) → (gp_I t 73 1 = 0) → (gp_I t 73 2 = 0) → (gp_I t 73 3 = 0) → (∀ k, k < 8 → gp_R t 4 k = some 25) → (gp_R t 51 6 = some 55) → (gp_R t 51 7 = some 56) → (gp_us t = 606895) → (gp_sz t = 117) → K none t)  : ∀ (n : Nat) (v1 : Int) (v2 : Int) (v3 : Int) (v4 : Int) (s : gH), xM z s → (21 - v4).toNat < n → (v1 = 3) → (v2 = 0) → (v3 = 0) → (0 ≤ v4 ∧ v4 ≤ 20) → (gp_I s 1 2 = 0) → (gp_I s 1 6 = 0) → (gp_I s 1 7 = 1) → (gp_I s 51 8 = 0) → (gp_I s 57 1 = 0) → (gp_I s 57 3 = 0) → (gp_I s 72 0 = 0) → (gp_I s 72 1 = 0) → (gp_I s 72 2 = 0) → (gp_I s 72 3 = 0) → (gp_I s 73 0 = 0) → (gp_I s 73 1 = 0) → (gp_I s 73 2 = 0) → (gp_I s 73 3 = 0) → (∀ k, k < 8 → gp_R s 4 k = some 25) → (gp_R s 51 6 = some 55) → (gp_R s 51 7 = some 56) → (gp_us s = 606895) → (gp_sz s = 117) → gs_E L d 1795 17 [gp_r (some 66), gp_i v1, gp_i v2, gp_i v3, gp_i v4] [] s K := by
  intro n
  induction n with
  | zero => intro v1 v2 v3 v4 s hs hm i0 i1 i2 i3 i4 i5 i6 i7 i8 i9 i10 i11 i12 i13 i14 i15 i16 i17 i18 i19 i20 i21 i22; exact absurd hm (Nat.not_lt_zero _)
  | succ n ih =>
    intro v1 v2 v3 v4 s hs hm i0 i1 i2 i3 i4 i5 i6 i7 i8 i9 i10 i11 i12 i13 i14 i15 i16 i17 i18 i19 i20 i21 i22
    subst i0
    subst i1
    subst i2
    refine s_1795_17 _ _ _ _ ?_
    refine ⟨fun h_1 => ?_, fun h_1 => ?_⟩
    · refine ⟨by omega, ?_⟩
      try rw [show gp_R (gp_mk L s) 67 (3 : Int).toNat = some 71 from rfl]
      refine ⟨71, rfl, ?_⟩
      refine ⟨⟨rfl, by show 0 ≤ v4 ∧ v4 < 20; omega⟩, ?_⟩
      intro s_2 e_3
      have hs_4 : xM z s_2 := by rw [e_3]; exact xw71 hs _ _
      have q_5 : gp_I s_2 1 2 = 0 := by rw [e_3]; exact i4
      have q_6 : gp_I s_2 1 6 = 0 := by rw [e_3]; exact i5
      have q_7 : gp_I s_2 1 7 = 1 := by rw [e_3]; exact i6
      have q_8 : gp_I s_2 51 8 = 0 := by rw [e_3]; exact i7
      have q_9 : gp_I s_2 57 1 = 0 := by rw [e_3]; exact i8
      have q_10 : gp_I s_2 57 3 = 0 := by rw [e_3]; exact i9
      have q_11 : gp_I s_2 72 0 = 0 := by rw [e_3]; exact i10
      have q_12 : gp_I s_2 72 1 = 0 := by rw [e_3]; exact i11
      have q_13 : gp_I s_2 72 2 = 0 := by rw [e_3]; exact i12
      have q_14 : gp_I s_2 72 3 = 0 := by rw [e_3]; exact i13
      have q_15 : gp_I s_2 73 0 = 0 := by rw [e_3]; exact i14
      have q_16 : gp_I s_2 73 1 = 0 := by rw [e_3]; exact i15
      have q_17 : gp_I s_2 73 2 = 0 := by rw [e_3]; exact i16
      have q_18 : gp_I s_2 73 3 = 0 := by rw [e_3]; exact i17
      have q_19 : ∀ k, k < 8 → gp_R s_2 4 k = some 25 := by rw [e_3]; exact i18
      have q_20 : gp_R s_2 51 6 = some 55 := by rw [e_3]; exact i19
      have q_21 : gp_R s_2 51 7 = some 56 := by rw [e_3]; exact i20
      have q_22 : gp_us s_2 = 606895 := by rw [e_3]; exact i21
      have q_23 : gp_sz s_2 = 117 := by rw [e_3]; exact i22
      have w_24 := gz_w (v4 + 1)
      exact ih _ _ _ _ s_2 hs_4 (by omega) (by omega) (by omega) (by omega) (by omega) (by omega) (by omega) (by omega) (by omega) (by omega) (by omega) (by omega) (by omega) (by omega) (by omega) (by omega) (by omega) (by omega) (by omega) q_19 q_20 q_21 q_22 q_23
    · have e_25 : v4 = 20 := by omega
      subst e_25
      exact k s hs (by omega) (by omega) (by omega) (by omega) (by omega) (by omega) (by omega) (by omega) (by omega) (by omega) (by omega) (by omega) (by omega) (by omega) i18 i19 i20 i21 i22
set_option maxRecDepth 100000 in
/-- Sheets.lay [(3, 3), (0, 0), (0, 0)] -/
theorem zx1795_3 {z : gH} {L d : Nat} {K : Option gV → gH → Prop} {s : gH}  (hs : xM z s)  (q0 : gp_I s 1 2 = 0) (q1 : gp_I s 1 6 = 0) (q2 : gp_I s 1 7 = 1) (q3 : gp_I s 51 8 = 0) (q4 : gp_I s 57 1 = 0) (q5 : gp_I s 57 3 = 0) (q6 : gp_I s 72 0 = 0) (q7 : gp_I s 72 1 = 0) (q8 : gp_I s 72 2 = 0) (q9 : gp_I s 72 3 = 0) (q10 : gp_I s 73 0 = 0) (q11 : gp_I s 73 1 = 0) (q12 : gp_I s 73 2 = 0) (q13 : gp_I s 73 3 = 0) (q14 : ∀ k, k < 8 → gp_R s 4 k = some 25) (q15 : gp_R s 51 6 = some 55) (q16 : gp_R s 51 7 = some 56) (q17 : gp_us s = 606895) (q18 : gp_sz s = 117) (k : ∀ (t : gH), xM z t → (gp_I t 1 2 = 0) → (gp_I t 1 6 = 0) → (gp_I t 1 7 = 1) → (gp_I t 51 8 = 0) → (gp_I t 57 1 = 0) → (gp_I t 57 3 = 0) → (gp_I t 72 0 = 0) → (gp_I t 72 1 = 0) → (gp_I t 72 2 = 0) → (gp_I t 72 3 = 0) → (gp_I t 73 0 = 0) → (gp_I t 73 1 = 0) → (gp_I t 73 2 = 0) → (gp_I t 73 3 = 0) → (∀ k, k < 8 → gp_R t 4 k = some 25) → (gp_R t 51 6 = some 55) → (gp_R t 51 7 = some 56) → (gp_us t = 606895) → (gp_sz t = 117) → K none t) : gs_C L d 1795 5 [gp_r (some 66), gp_i 3, gp_i 0, gp_i 0] s K := by
  refine s_1795_e _ _ _ ?_
  refine ⟨by omega, ?_⟩
  intro s_1 e_2
  have hs_3 : xM z s_1 := by rw [e_2]; exact xw72 hs _ _
  have q_4 : gp_I s_1 1 2 = 0 := by rw [e_2]; exact q0
  have q_5 : gp_I s_1 1 6 = 0 := by rw [e_2]; exact q1
  have q_6 : gp_I s_1 1 7 = 1 := by rw [e_2]; exact q2
  have q_7 : gp_I s_1 51 8 = 0 := by rw [e_2]; exact q3
  have q_8 : gp_I s_1 57 1 = 0 := by rw [e_2]; exact q4
  have q_9 : gp_I s_1 57 3 = 0 := by rw [e_2]; exact q5
  have q_10 : gp_I s_1 72 0 = 0 := by rw [e_2]; exact q6
  have q_11 : gp_I s_1 72 1 = 0 := by rw [e_2]; exact q7
  have q_12 : gp_I s_1 72 2 = 0 := by rw [e_2]; exact q8
  have q_13 : gp_I s_1 73 0 = 0 := by rw [e_2]; exact q10
  have q_14 : gp_I s_1 73 1 = 0 := by rw [e_2]; exact q11
  have q_15 : gp_I s_1 73 2 = 0 := by rw [e_2]; exact q12
  have q_16 : gp_I s_1 73 3 = 0 := by rw [e_2]; exact q13
  have q_17 : ∀ k, k < 8 → gp_R s_1 4 k = some 25 := by rw [e_2]; exact q14
  have q_18 : gp_R s_1 51 6 = some 55 := by rw [e_2]; exact q15
  have q_19 : gp_R s_1 51 7 = some 56 := by rw [e_2]; exact q16
  have q_20 : gp_us s_1 = 606895 := by rw [e_2]; exact q17
  have q_21 : gp_sz s_1 = 117 := by rw [e_2]; exact q18
  have q_22 : gp_I s_1 72 3 = 0 := by rw [e_2]; rfl
  refine ⟨by omega, ?_⟩
  intro s_24 e_25
  have hs_26 : xM z s_24 := by rw [e_25]; exact xw73 hs_3 _ _
  have q_27 : gp_I s_24 1 2 = 0 := by rw [e_25]; exact q_4
  have q_28 : gp_I s_24 1 6 = 0 := by rw [e_25]; exact q_5
  have q_29 : gp_I s_24 1 7 = 1 := by rw [e_25]; exact q_6
  have q_30 : gp_I s_24 51 8 = 0 := by rw [e_25]; exact q_7
  have q_31 : gp_I s_24 57 1 = 0 := by rw [e_25]; exact q_8
  have q_32 : gp_I s_24 57 3 = 0 := by rw [e_25]; exact q_9
  have q_33 : gp_I s_24 72 0 = 0 := by rw [e_25]; exact q_10
  have q_34 : gp_I s_24 72 1 = 0 := by rw [e_25]; exact q_11
  have q_35 : gp_I s_24 72 2 = 0 := by rw [e_25]; exact q_12
  have q_36 : gp_I s_24 73 0 = 0 := by rw [e_25]; exact q_13
  have q_37 : gp_I s_24 73 1 = 0 := by rw [e_25]; exact q_14
  have q_38 : gp_I s_24 73 2 = 0 := by rw [e_25]; exact q_15
  have q_39 : ∀ k, k < 8 → gp_R s_24 4 k = some 25 := by rw [e_25]; exact q_17
  have q_40 : gp_R s_24 51 6 = some 55 := by rw [e_25]; exact q_18
  have q_41 : gp_R s_24 51 7 = some 56 := by rw [e_25]; exact q_19
  have q_42 : gp_us s_24 = 606895 := by rw [e_25]; exact q_20
  have q_43 : gp_sz s_24 = 117 := by rw [e_25]; exact q_21
  have q_44 : gp_I s_24 72 3 = 0 := by rw [e_25]; exact q_22
  have q_45 : gp_I s_24 73 3 = 0 := by rw [e_25]; rfl
  exact zx1795_3_l17_0 k _ _ _ _ _ s_24 hs_26 (Nat.lt_succ_self _) (by omega) (by omega) (by omega) (by omega) (by omega) (by omega) (by omega) (by omega) (by omega) (by omega) (by omega) (by omega) (by omega) (by omega) (by omega) (by omega) (by omega) (by omega) q_39 q_40 q_41 q_42 q_43
set_option maxRecDepth 100000 in
/-- GatheredPoints.sheet [(3, 3), (0, 0), (-2147483648, 2147483647)] -/
theorem zx2842_25 {z : gH} {L d : Nat} {K : Option gV → gH → Prop} {s : gH} (p2 : Int) (hs : xM z s) (h_p2 : (-2147483648) ≤ p2 ∧ p2 ≤ 2147483647) (q0 : gp_I s 1 2 = 0) (q1 : gp_I s 1 6 = 0) (q2 : gp_I s 1 7 = 1) (q3 : gp_I s 51 8 = 0) (q4 : gp_I s 57 1 = 0) (q5 : gp_I s 57 3 = 0) (q6 : gp_I s 72 0 = 0) (q7 : gp_I s 72 1 = 0) (q8 : gp_I s 72 2 = 0) (q9 : gp_I s 72 3 = 0) (q10 : gp_I s 73 0 = 0) (q11 : gp_I s 73 1 = 0) (q12 : gp_I s 73 2 = 0) (q13 : gp_I s 73 3 = 0) (q14 : ∀ k, k < 8 → gp_R s 4 k = some 25) (q15 : gp_R s 51 6 = some 55) (q16 : gp_R s 51 7 = some 56) (q17 : gp_us s = 606895) (q18 : gp_sz s = 117) (k : ∀ (t : gH), xM z t → (gp_I t 1 2 = 0) → (gp_I t 1 6 = 0) → (gp_I t 1 7 = 1) → (gp_I t 51 8 = 0) → (gp_I t 57 1 = 0) → (gp_I t 57 3 = 0) → (gp_I t 72 0 = 0) → (gp_I t 72 1 = 0) → (gp_I t 72 2 = 0) → (gp_I t 72 3 = 0) → (gp_I t 73 0 = 0) → (gp_I t 73 1 = 0) → (gp_I t 73 2 = 0) → (gp_I t 73 3 = 0) → (∀ k, k < 8 → gp_R t 4 k = some 25) → (gp_R t 51 6 = some 55) → (gp_R t 51 7 = some 56) → (gp_us t = 606895) → (gp_sz t = 117) → K (some (gp_i 1)) t) : gs_C L (d + 1) 2842 4 [gp_r (some 1), gp_i 3, gp_i 0, gp_i p2] s K := by
  refine s_2842_e _ _ _ ?_
  refine zx1793_11 hs (by omega) (by omega) (by omega) (by omega) (by omega) (by omega) (by omega) (by omega) (⟨_, rfl, ?_⟩)
  refine ⟨fun h_1 => ?_, fun h_1 => ?_⟩
  · refine ⟨fun h_2 => ?_, fun h_2 => ?_⟩
    · refine s_2842_39 _ _ _ ?_
      refine ⟨fun h_3 => ?_, fun h_3 => ?_⟩
      · refine s_2842_53 _ _ _ ?_
        refine ⟨fun h_4 => ?_, fun h_4 => ?_⟩
        · refine s_2842_69 _ _ _ ?_
          refine ⟨fun h_5 => ?_, fun h_5 => ?_⟩
          · refine s_2842_84 _ _ _ _ _ _ ?_
            refine zx1795_3 hs (by omega) (by omega) (by omega) (by omega) (by omega) (by omega) (by omega) (by omega) (by omega) (by omega) (by omega) (by omega) (by omega) (by omega) q14 q15 q16 q17 q18 (fun s_6 hs_7 q_8 q_9 q_10 q_11 q_12 q_13 q_14 q_15 q_16 q_17 q_18 q_19 q_20 q_21 q_22 q_23 q_24 q_25 q_26 => ⟨rfl, ?_⟩)
            exact k s_6 hs_7 (by omega) (by omega) (by omega) (by omega) (by omega) (by omega) (by omega) (by omega) (by omega) (by omega) (by omega) (by omega) (by omega) (by omega) q_22 q_23 q_24 q_25 q_26
          · exfalso; omega
        · exfalso; omega
      · exfalso; omega
    · exfalso; omega
  · exfalso; omega
set_option maxRecDepth 100000 in
/-- GatheredPoints.refused [(3, 3)] -/
theorem zx2855_13 {z : gH} {L d : Nat} {K : Option gV → gH → Prop} {s : gH}  (hs : xM z s)  (q0 : gp_I s 1 2 = 0) (q1 : gp_I s 1 6 = 0) (q2 : gp_I s 1 7 = 1) (q3 : gp_I s 51 8 = 0) (q4 : gp_I s 57 1 = 0) (q5 : gp_I s 57 3 = 0) (q6 : gp_I s 72 0 = 0) (q7 : gp_I s 72 1 = 0) (q8 : gp_I s 72 2 = 0) (q9 : gp_I s 72 3 = 0) (q10 : gp_I s 73 0 = 0) (q11 : gp_I s 73 1 = 0) (q12 : gp_I s 73 2 = 0) (q13 : gp_I s 73 3 = 0) (q14 : ∀ k, k < 8 → gp_R s 4 k = some 25) (q15 : gp_R s 51 6 = some 55) (q16 : gp_R s 51 7 = some 56) (q17 : gp_us s = 606895) (q18 : gp_sz s = 117) (k : ∀ (t : gH), xM z t → (gp_I t 1 2 = 0) → (gp_I t 1 6 = 0) → (gp_I t 1 7 = 1) → ((-2147483648) ≤ gp_I t 2 3 ∧ gp_I t 2 3 ≤ 2147483647) → (gp_I t 51 8 = 0) → (gp_I t 57 1 = 0) → (gp_I t 57 3 = 0) → (gp_I t 72 0 = 0) → (gp_I t 72 1 = 0) → (gp_I t 72 2 = 0) → (gp_I t 72 3 = 0) → (gp_I t 73 0 = 0) → (gp_I t 73 1 = 0) → (gp_I t 73 2 = 0) → (gp_I t 73 3 = 0) → (∀ k, k < 8 → gp_R t 4 k = some 25) → (gp_R t 51 6 = some 55) → (gp_R t 51 7 = some 56) → (gp_us t = 606895) → (gp_sz t = 117) → K (some (gp_i (-1000000003))) t) : gs_C L d 2855 2 [gp_r (some 1), gp_i 3] s K := by
  refine s_2855_e _ ?_
  refine ⟨by omega, ?_⟩
  have w_1 := gz_w ((gp_I s 2 (3 : Int).toNat) + 1)
  refine ⟨by omega, ?_⟩
  intro s_2 e_3
  have hs_4 : xM z s_2 := by rw [e_3]; exact xw2 hs _ _
  have q_5 : gp_I s_2 1 2 = 0 := by rw [e_3]; exact q0
  have q_6 : gp_I s_2 1 6 = 0 := by rw [e_3]; exact q1
  have q_7 : gp_I s_2 1 7 = 1 := by rw [e_3]; exact q2
  have q_8 : gp_I s_2 51 8 = 0 := by rw [e_3]; exact q3
  have q_9 : gp_I s_2 57 1 = 0 := by rw [e_3]; exact q4
  have q_10 : gp_I s_2 57 3 = 0 := by rw [e_3]; exact q5
  have q_11 : gp_I s_2 72 0 = 0 := by rw [e_3]; exact q6
  have q_12 : gp_I s_2 72 1 = 0 := by rw [e_3]; exact q7
  have q_13 : gp_I s_2 72 2 = 0 := by rw [e_3]; exact q8
  have q_14 : gp_I s_2 72 3 = 0 := by rw [e_3]; exact q9
  have q_15 : gp_I s_2 73 0 = 0 := by rw [e_3]; exact q10
  have q_16 : gp_I s_2 73 1 = 0 := by rw [e_3]; exact q11
  have q_17 : gp_I s_2 73 2 = 0 := by rw [e_3]; exact q12
  have q_18 : gp_I s_2 73 3 = 0 := by rw [e_3]; exact q13
  have q_19 : ∀ k, k < 8 → gp_R s_2 4 k = some 25 := by rw [e_3]; exact q14
  have q_20 : gp_R s_2 51 6 = some 55 := by rw [e_3]; exact q15
  have q_21 : gp_R s_2 51 7 = some 56 := by rw [e_3]; exact q16
  have q_22 : gp_us s_2 = 606895 := by rw [e_3]; exact q17
  have q_23 : gp_sz s_2 = 117 := by rw [e_3]; exact q18
  have q_24 : (-2147483648) ≤ gp_I s_2 2 3 ∧ gp_I s_2 2 3 ≤ 2147483647 := by have x_25 : gp_I s_2 2 3 = gp_wr ((gp_I s 2 (3 : Int).toNat) + 1) := (by rw [e_3]; rfl); omega
  have w_26 := gz_w ((-1000000000) - 3)
  have e_27 : gp_wr ((-1000000000) - 3) = (-1000000003) := by omega
  try rw [e_27]
  exact k s_2 hs_4 (by omega) (by omega) (by omega) (by omega) (by omega) (by omega) (by omega) (by omega) (by omega) (by omega) (by omega) (by omega) (by omega) (by omega) (by omega) q_19 q_20 q_21 q_22 q_23
set_option maxRecDepth 100000 in
/-- GatheredPoints.sheet [(0, 0), (8, 8), (-2147483648, -1)] -/
theorem zx2842_26 {z : gH} {L d : Nat} {K : Option gV → gH → Prop} {s : gH} (p2 : Int) (hs : xM z s) (h_p2 : (-2147483648) ≤ p2 ∧ p2 ≤ (-1)) (q0 : gp_I s 1 2 = 0) (q1 : gp_I s 1 6 = 0) (q2 : gp_I s 1 7 = 1) (q3 : gp_I s 51 8 = 0) (q4 : gp_I s 57 1 = 0) (q5 : gp_I s 57 3 = 0) (q6 : gp_I s 72 0 = 0) (q7 : gp_I s 72 1 = 0) (q8 : gp_I s 72 2 = 0) (q9 : gp_I s 72 3 = 0) (q10 : gp_I s 73 0 = 0) (q11 : gp_I s 73 1 = 0) (q12 : gp_I s 73 2 = 0) (q13 : gp_I s 73 3 = 0) (q14 : ∀ k, k < 8 → gp_R s 4 k = some 25) (q15 : gp_R s 51 6 = some 55) (q16 : gp_R s 51 7 = some 56) (q17 : gp_us s = 606895) (q18 : gp_sz s = 117) (k : ∀ (t : gH), xM z t → (gp_I t 1 2 = 0) → (gp_I t 1 6 = 0) → (gp_I t 1 7 = 1) → ((-2147483648) ≤ gp_I t 2 3 ∧ gp_I t 2 3 ≤ 2147483647) → (gp_I t 51 8 = 0) → (gp_I t 57 1 = 0) → (gp_I t 57 3 = 0) → (gp_I t 72 0 = 0) → (gp_I t 72 1 = 0) → (gp_I t 72 2 = 0) → (gp_I t 72 3 = 0) → (gp_I t 73 0 = 0) → (gp_I t 73 1 = 0) → (gp_I t 73 2 = 0) → (gp_I t 73 3 = 0) → (∀ k, k < 8 → gp_R t 4 k = some 25) → (gp_R t 51 6 = some 55) → (gp_R t 51 7 = some 56) → (gp_us t = 606895) → (gp_sz t = 117) → K (some (gp_i (-1000000003))) t) : gs_C L (d + 1) 2842 4 [gp_r (some 1), gp_i 0, gp_i 8, gp_i p2] s K := by
  refine s_2842_e _ _ _ ?_
  refine zx1793_8 hs (by omega) (by omega) (by omega) (by omega) (by omega) (by omega) (by omega) (by omega) (⟨_, rfl, ?_⟩)
  refine ⟨fun h_1 => ?_, fun h_1 => ?_⟩
  · refine ⟨fun h_2 => ?_, fun h_2 => ?_⟩
    · exfalso; omega
    · refine ⟨fun h_3 => ?_, fun h_3 => ?_⟩
      · refine s_2842_39 _ _ _ ?_
        refine ⟨fun h_4 => ?_, fun h_4 => ?_⟩
        · exfalso; omega
        · refine ⟨fun h_5 => ?_, fun h_5 => ?_⟩
          · refine zx2855_13 hs (by omega) (by omega) (by omega) (by omega) (by omega) (by omega) (by omega) (by omega) (by omega) (by omega) (by omega) (by omega) (by omega) (by omega) q14 q15 q16 q17 q18 (fun s_6 hs_7 q_8 q_9 q_10 q_11 q_12 q_13 q_14 q_15 q_16 q_17 q_18 q_19 q_20 q_21 q_22 q_23 q_24 q_25 q_26 q_27 => ⟨_, rfl, ?_⟩)
            exact k s_6 hs_7 (by omega) (by omega) (by omega) (by omega) (by omega) (by omega) (by omega) (by omega) (by omega) (by omega) (by omega) (by omega) (by omega) (by omega) (by omega) q_23 q_24 q_25 q_26 q_27
          · exfalso; omega
      · exfalso; omega
  · exfalso; omega
set_option maxRecDepth 100000 in
/-- Sheets.lay, the loop at 17 -/
theorem zx1795_4_l17_0 {z : gH} {L d : Nat} {K : Option gV → gH → Prop} (p2 : Int)  (k : ∀ (t : gH), xM z t → (gp_I t 1 2 = 0) → (gp_I t 1 6 = 0) → (gp_I t 1 7 = 1) → (gp_I t 51 8 = 0) → (gp_I t 57 1 = 0) → (gp_I t 57 3 = 0) → (gp_I t 72 0 = 8) → (gp_I t 72 1 = 0) → (gp_I t 72 2 = 0) → (gp_I t 72 3 = 0) → (0 ≤ gp_I t 73 0 ∧ gp_I t 73 0 ≤ 20) → (gp_I t 73 1 = 0) → (gp_I t 73 2 = 0) → (gp_I t 73 3 = 0) → (∀ k, k < 8 → gp_R t 4 k = some 25) → (gp_R t 51 6 = some 55) → (gp_R t 51 7 = some 56) → (gp_us t = 606895) → (gp_sz t = 117) → K none t)  : ∀ (n : Nat) (v1 : Int) (v2 : Int) (v3 : Int) (v4 : Int) (s : gH), xM z s → (21 - v4).toNat < n → (v1 = 0) → (v2 = 8) → (0 ≤ v3 ∧ v3 ≤ 20) → (0 ≤ v4 ∧ v4 ≤ 20) → (gp_I s 1 2 = 0) → (gp_I s 1 6 = 0) → (gp_I s 1 7 = 1) → (gp_I s 51 8 = 0) → (gp_I s 57 1 = 0) → (gp_I s 57 3 = 0) → (gp_I s 72 0 = 8) → (gp_I s 72 1 = 0) → (gp_I s 72 2 = 0) → (gp_I s 72 3 = 0) → (0 ≤ gp_I s 73 0 ∧ gp_I s 73 0 ≤ 20) → (gp_I s 73 1 = 0) → (gp_I s 73 2 = 0) → (gp_I s 73 3 = 0) → (∀ k, k < 8 → gp_R s 4 k = some 25) → (gp_R s 51 6 = some 55) → (gp_R s 51 7 = some 56) → (gp_us s = 606895) → (gp_sz s = 117) → gs_E L d 1795 17 [gp_r (some 66), gp_i v1, gp_i v2, gp_i v3, gp_i v4] [] s K := by
  intro n
  induction n with
  | zero => intro v1 v2 v3 v4 s hs hm i0 i1 i2 i3 i4 i5 i6 i7 i8 i9 i10 i11 i12 i13 i14 i15 i16 i17 i18 i19 i20 i21 i22; exact absurd hm (Nat.not_lt_zero _)
  | succ n ih =>
    intro v1 v2 v3 v4 s hs hm i0 i1 i2 i3 i4 i5 i6 i7 i8 i9 i10 i11 i12 i13 i14 i15 i16 i17 i18 i19 i20 i21 i22
    subst i0
    subst i1
    refine s_1795_17 _ _ _ _ ?_
    refine ⟨fun h_1 => ?_, fun h_1 => ?_⟩
    · refine ⟨by omega, ?_⟩
      try rw [show gp_R (gp_mk L s) 67 (0 : Int).toNat = some 68 from rfl]
      refine ⟨68, rfl, ?_⟩
      refine ⟨⟨rfl, by show 0 ≤ v4 ∧ v4 < 20; omega⟩, ?_⟩
      intro s_2 e_3
      have hs_4 : xM z s_2 := by rw [e_3]; exact xw68 hs _ _
      have q_5 : gp_I s_2 1 2 = 0 := by rw [e_3]; exact i4
      have q_6 : gp_I s_2 1 6 = 0 := by rw [e_3]; exact i5
      have q_7 : gp_I s_2 1 7 = 1 := by rw [e_3]; exact i6
      have q_8 : gp_I s_2 51 8 = 0 := by rw [e_3]; exact i7
      have q_9 : gp_I s_2 57 1 = 0 := by rw [e_3]; exact i8
      have q_10 : gp_I s_2 57 3 = 0 := by rw [e_3]; exact i9
      have q_11 : gp_I s_2 72 0 = 8 := by rw [e_3]; exact i10
      have q_12 : gp_I s_2 72 1 = 0 := by rw [e_3]; exact i11
      have q_13 : gp_I s_2 72 2 = 0 := by rw [e_3]; exact i12
      have q_14 : gp_I s_2 72 3 = 0 := by rw [e_3]; exact i13
      have q_15 : 0 ≤ gp_I s_2 73 0 ∧ gp_I s_2 73 0 ≤ 20 := by rw [e_3]; exact i14
      have q_16 : gp_I s_2 73 1 = 0 := by rw [e_3]; exact i15
      have q_17 : gp_I s_2 73 2 = 0 := by rw [e_3]; exact i16
      have q_18 : gp_I s_2 73 3 = 0 := by rw [e_3]; exact i17
      have q_19 : ∀ k, k < 8 → gp_R s_2 4 k = some 25 := by rw [e_3]; exact i18
      have q_20 : gp_R s_2 51 6 = some 55 := by rw [e_3]; exact i19
      have q_21 : gp_R s_2 51 7 = some 56 := by rw [e_3]; exact i20
      have q_22 : gp_us s_2 = 606895 := by rw [e_3]; exact i21
      have q_23 : gp_sz s_2 = 117 := by rw [e_3]; exact i22
      have w_24 := gz_w (v4 + 1)
      exact ih _ _ _ _ s_2 hs_4 (by omega) (by omega) (by omega) (by omega) (by omega) (by omega) (by omega) (by omega) (by omega) (by omega) (by omega) (by omega) (by omega) (by omega) (by omega) (by omega) (by omega) (by omega) (by omega) q_19 q_20 q_21 q_22 q_23
    · have e_25 : v4 = 20 := by omega
      subst e_25
      exact k s hs (by omega) (by omega) (by omega) (by omega) (by omega) (by omega) (by omega) (by omega) (by omega) (by omega) (by omega) (by omega) (by omega) (by omega) i18 i19 i20 i21 i22
set_option maxRecDepth 100000 in
/-- Sheets.lay [(0, 0), (8, 8), (0, 20)] -/
theorem zx1795_4 {z : gH} {L d : Nat} {K : Option gV → gH → Prop} {s : gH} (p2 : Int) (hs : xM z s) (h_p2 : 0 ≤ p2 ∧ p2 ≤ 20) (q0 : gp_I s 1 2 = 0) (q1 : gp_I s 1 6 = 0) (q2 : gp_I s 1 7 = 1) (q3 : gp_I s 51 8 = 0) (q4 : gp_I s 57 1 = 0) (q5 : gp_I s 57 3 = 0) (q6 : gp_I s 72 0 = 0) (q7 : gp_I s 72 1 = 0) (q8 : gp_I s 72 2 = 0) (q9 : gp_I s 72 3 = 0) (q10 : gp_I s 73 0 = 0) (q11 : gp_I s 73 1 = 0) (q12 : gp_I s 73 2 = 0) (q13 : gp_I s 73 3 = 0) (q14 : ∀ k, k < 8 → gp_R s 4 k = some 25) (q15 : gp_R s 51 6 = some 55) (q16 : gp_R s 51 7 = some 56) (q17 : gp_us s = 606895) (q18 : gp_sz s = 117) (k : ∀ (t : gH), xM z t → (gp_I t 1 2 = 0) → (gp_I t 1 6 = 0) → (gp_I t 1 7 = 1) → (gp_I t 51 8 = 0) → (gp_I t 57 1 = 0) → (gp_I t 57 3 = 0) → (gp_I t 72 0 = 8) → (gp_I t 72 1 = 0) → (gp_I t 72 2 = 0) → (gp_I t 72 3 = 0) → (0 ≤ gp_I t 73 0 ∧ gp_I t 73 0 ≤ 20) → (gp_I t 73 1 = 0) → (gp_I t 73 2 = 0) → (gp_I t 73 3 = 0) → (∀ k, k < 8 → gp_R t 4 k = some 25) → (gp_R t 51 6 = some 55) → (gp_R t 51 7 = some 56) → (gp_us t = 606895) → (gp_sz t = 117) → K none t) : gs_C L d 1795 5 [gp_r (some 66), gp_i 0, gp_i 8, gp_i p2] s K := by
  refine s_1795_e _ _ _ ?_
  refine ⟨by omega, ?_⟩
  intro s_1 e_2
  have hs_3 : xM z s_1 := by rw [e_2]; exact xw72 hs _ _
  have q_4 : gp_I s_1 1 2 = 0 := by rw [e_2]; exact q0
  have q_5 : gp_I s_1 1 6 = 0 := by rw [e_2]; exact q1
  have q_6 : gp_I s_1 1 7 = 1 := by rw [e_2]; exact q2
  have q_7 : gp_I s_1 51 8 = 0 := by rw [e_2]; exact q3
  have q_8 : gp_I s_1 57 1 = 0 := by rw [e_2]; exact q4
  have q_9 : gp_I s_1 57 3 = 0 := by rw [e_2]; exact q5
  have q_10 : gp_I s_1 72 1 = 0 := by rw [e_2]; exact q7
  have q_11 : gp_I s_1 72 2 = 0 := by rw [e_2]; exact q8
  have q_12 : gp_I s_1 72 3 = 0 := by rw [e_2]; exact q9
  have q_13 : gp_I s_1 73 0 = 0 := by rw [e_2]; exact q10
  have q_14 : gp_I s_1 73 1 = 0 := by rw [e_2]; exact q11
  have q_15 : gp_I s_1 73 2 = 0 := by rw [e_2]; exact q12
  have q_16 : gp_I s_1 73 3 = 0 := by rw [e_2]; exact q13
  have q_17 : ∀ k, k < 8 → gp_R s_1 4 k = some 25 := by rw [e_2]; exact q14
  have q_18 : gp_R s_1 51 6 = some 55 := by rw [e_2]; exact q15
  have q_19 : gp_R s_1 51 7 = some 56 := by rw [e_2]; exact q16
  have q_20 : gp_us s_1 = 606895 := by rw [e_2]; exact q17
  have q_21 : gp_sz s_1 = 117 := by rw [e_2]; exact q18
  have q_22 : gp_I s_1 72 0 = 8 := by rw [e_2]; rfl
  refine ⟨by omega, ?_⟩
  intro s_24 e_25
  have hs_26 : xM z s_24 := by rw [e_25]; exact xw73 hs_3 _ _
  have q_27 : gp_I s_24 1 2 = 0 := by rw [e_25]; exact q_4
  have q_28 : gp_I s_24 1 6 = 0 := by rw [e_25]; exact q_5
  have q_29 : gp_I s_24 1 7 = 1 := by rw [e_25]; exact q_6
  have q_30 : gp_I s_24 51 8 = 0 := by rw [e_25]; exact q_7
  have q_31 : gp_I s_24 57 1 = 0 := by rw [e_25]; exact q_8
  have q_32 : gp_I s_24 57 3 = 0 := by rw [e_25]; exact q_9
  have q_33 : gp_I s_24 72 1 = 0 := by rw [e_25]; exact q_10
  have q_34 : gp_I s_24 72 2 = 0 := by rw [e_25]; exact q_11
  have q_35 : gp_I s_24 72 3 = 0 := by rw [e_25]; exact q_12
  have q_36 : gp_I s_24 73 1 = 0 := by rw [e_25]; exact q_14
  have q_37 : gp_I s_24 73 2 = 0 := by rw [e_25]; exact q_15
  have q_38 : gp_I s_24 73 3 = 0 := by rw [e_25]; exact q_16
  have q_39 : ∀ k, k < 8 → gp_R s_24 4 k = some 25 := by rw [e_25]; exact q_17
  have q_40 : gp_R s_24 51 6 = some 55 := by rw [e_25]; exact q_18
  have q_41 : gp_R s_24 51 7 = some 56 := by rw [e_25]; exact q_19
  have q_42 : gp_us s_24 = 606895 := by rw [e_25]; exact q_20
  have q_43 : gp_sz s_24 = 117 := by rw [e_25]; exact q_21
  have q_44 : gp_I s_24 72 0 = 8 := by rw [e_25]; exact q_22
  have q_45 : 0 ≤ gp_I s_24 73 0 ∧ gp_I s_24 73 0 ≤ 20 := by have x_46 : gp_I s_24 73 0 = p2 := (by rw [e_25]; rfl); omega
  exact zx1795_4_l17_0 p2 k _ _ _ _ _ s_24 hs_26 (Nat.lt_succ_self _) (by omega) (by omega) (by omega) (by omega) (by omega) (by omega) (by omega) (by omega) (by omega) (by omega) (by omega) (by omega) (by omega) (by omega) (by omega) (by omega) (by omega) (by omega) q_39 q_40 q_41 q_42 q_43
set_option maxRecDepth 100000 in
/-- GatheredPoints.sheet [(0, 0), (8, 8), (0, 20)] -/
theorem zx2842_27 {z : gH} {L d : Nat} {K : Option gV → gH → Prop} {s : gH} (p2 : Int) (hs : xM z s) (h_p2 : 0 ≤ p2 ∧ p2 ≤ 20) (q0 : gp_I s 1 2 = 0) (q1 : gp_I s 1 6 = 0) (q2 : gp_I s 1 7 = 1) (q3 : gp_I s 51 8 = 0) (q4 : gp_I s 57 1 = 0) (q5 : gp_I s 57 3 = 0) (q6 : gp_I s 72 0 = 0) (q7 : gp_I s 72 1 = 0) (q8 : gp_I s 72 2 = 0) (q9 : gp_I s 72 3 = 0) (q10 : gp_I s 73 0 = 0) (q11 : gp_I s 73 1 = 0) (q12 : gp_I s 73 2 = 0) (q13 : gp_I s 73 3 = 0) (q14 : ∀ k, k < 8 → gp_R s 4 k = some 25) (q15 : gp_R s 51 6 = some 55) (q16 : gp_R s 51 7 = some 56) (q17 : gp_us s = 606895) (q18 : gp_sz s = 117) (k : ∀ (t : gH), xM z t → (gp_I t 1 2 = 0) → (gp_I t 1 6 = 0) → (gp_I t 1 7 = 1) → (gp_I t 51 8 = 0) → (gp_I t 57 1 = 0) → (gp_I t 57 3 = 0) → (gp_I t 72 0 = 8) → (gp_I t 72 1 = 0) → (gp_I t 72 2 = 0) → (gp_I t 72 3 = 0) → (0 ≤ gp_I t 73 0 ∧ gp_I t 73 0 ≤ 20) → (gp_I t 73 1 = 0) → (gp_I t 73 2 = 0) → (gp_I t 73 3 = 0) → (∀ k, k < 8 → gp_R t 4 k = some 25) → (gp_R t 51 6 = some 55) → (gp_R t 51 7 = some 56) → (gp_us t = 606895) → (gp_sz t = 117) → K (some (gp_i 1)) t) : gs_C L (d + 1) 2842 4 [gp_r (some 1), gp_i 0, gp_i 8, gp_i p2] s K := by
  refine s_2842_e _ _ _ ?_
  refine zx1793_8 hs (by omega) (by omega) (by omega) (by omega) (by omega) (by omega) (by omega) (by omega) (⟨_, rfl, ?_⟩)
  refine ⟨fun h_1 => ?_, fun h_1 => ?_⟩
  · refine ⟨fun h_2 => ?_, fun h_2 => ?_⟩
    · exfalso; omega
    · refine ⟨fun h_3 => ?_, fun h_3 => ?_⟩
      · refine s_2842_39 _ _ _ ?_
        refine ⟨fun h_4 => ?_, fun h_4 => ?_⟩
        · exfalso; omega
        · refine ⟨fun h_5 => ?_, fun h_5 => ?_⟩
          · exfalso; omega
          · refine s_2842_53 _ _ _ ?_
            refine ⟨fun h_6 => ?_, fun h_6 => ?_⟩
            · exfalso; omega
            · refine ⟨fun h_7 => ?_, fun h_7 => ?_⟩
              · exfalso; omega
              · refine s_2842_69 _ _ _ ?_
                refine ⟨fun h_8 => ?_, fun h_8 => ?_⟩
                · exfalso; omega
                · refine s_2842_84 _ _ _ _ _ _ ?_
                  refine zx1795_4 _ hs (by omega) (by omega) (by omega) (by omega) (by omega) (by omega) (by omega) (by omega) (by omega) (by omega) (by omega) (by omega) (by omega) (by omega) (by omega) q14 q15 q16 q17 q18 (fun s_9 hs_10 q_11 q_12 q_13 q_14 q_15 q_16 q_17 q_18 q_19 q_20 q_21 q_22 q_23 q_24 q_25 q_26 q_27 q_28 q_29 => ⟨rfl, ?_⟩)
                  exact k s_9 hs_10 (by omega) (by omega) (by omega) (by omega) (by omega) (by omega) (by omega) (by omega) (by omega) (by omega) (by omega) (by omega) (by omega) (by omega) q_25 q_26 q_27 q_28 q_29
      · exfalso; omega
  · exfalso; omega
set_option maxRecDepth 100000 in
/-- GatheredPoints.sheet [(0, 0), (8, 8), (21, 2147483647)] -/
theorem zx2842_28 {z : gH} {L d : Nat} {K : Option gV → gH → Prop} {s : gH} (p2 : Int) (hs : xM z s) (h_p2 : 21 ≤ p2 ∧ p2 ≤ 2147483647) (q0 : gp_I s 1 2 = 0) (q1 : gp_I s 1 6 = 0) (q2 : gp_I s 1 7 = 1) (q3 : gp_I s 51 8 = 0) (q4 : gp_I s 57 1 = 0) (q5 : gp_I s 57 3 = 0) (q6 : gp_I s 72 0 = 0) (q7 : gp_I s 72 1 = 0) (q8 : gp_I s 72 2 = 0) (q9 : gp_I s 72 3 = 0) (q10 : gp_I s 73 0 = 0) (q11 : gp_I s 73 1 = 0) (q12 : gp_I s 73 2 = 0) (q13 : gp_I s 73 3 = 0) (q14 : ∀ k, k < 8 → gp_R s 4 k = some 25) (q15 : gp_R s 51 6 = some 55) (q16 : gp_R s 51 7 = some 56) (q17 : gp_us s = 606895) (q18 : gp_sz s = 117) (k : ∀ (t : gH), xM z t → (gp_I t 1 2 = 0) → (gp_I t 1 6 = 0) → (gp_I t 1 7 = 1) → ((-2147483648) ≤ gp_I t 2 1 ∧ gp_I t 2 1 ≤ 2147483647) → (gp_I t 51 8 = 0) → (gp_I t 57 1 = 0) → (gp_I t 57 3 = 0) → (gp_I t 72 0 = 0) → (gp_I t 72 1 = 0) → (gp_I t 72 2 = 0) → (gp_I t 72 3 = 0) → (gp_I t 73 0 = 0) → (gp_I t 73 1 = 0) → (gp_I t 73 2 = 0) → (gp_I t 73 3 = 0) → (∀ k, k < 8 → gp_R t 4 k = some 25) → (gp_R t 51 6 = some 55) → (gp_R t 51 7 = some 56) → (gp_us t = 606895) → (gp_sz t = 117) → K (some (gp_i (-1000000001))) t) : gs_C L (d + 1) 2842 4 [gp_r (some 1), gp_i 0, gp_i 8, gp_i p2] s K := by
  refine s_2842_e _ _ _ ?_
  refine zx1793_8 hs (by omega) (by omega) (by omega) (by omega) (by omega) (by omega) (by omega) (by omega) (⟨_, rfl, ?_⟩)
  refine ⟨fun h_1 => ?_, fun h_1 => ?_⟩
  · refine ⟨fun h_2 => ?_, fun h_2 => ?_⟩
    · exfalso; omega
    · refine ⟨fun h_3 => ?_, fun h_3 => ?_⟩
      · refine s_2842_39 _ _ _ ?_
        refine ⟨fun h_4 => ?_, fun h_4 => ?_⟩
        · exfalso; omega
        · refine ⟨fun h_5 => ?_, fun h_5 => ?_⟩
          · exfalso; omega
          · refine s_2842_53 _ _ _ ?_
            refine ⟨fun h_6 => ?_, fun h_6 => ?_⟩
            · exfalso; omega
            · refine ⟨fun h_7 => ?_, fun h_7 => ?_⟩
              · refine zx2855_12 hs (by omega) (by omega) (by omega) (by omega) (by omega) (by omega) (by omega) (by omega) (by omega) (by omega) (by omega) (by omega) (by omega) (by omega) q14 q15 q16 q17 q18 (fun s_8 hs_9 q_10 q_11 q_12 q_13 q_14 q_15 q_16 q_17 q_18 q_19 q_20 q_21 q_22 q_23 q_24 q_25 q_26 q_27 q_28 q_29 => ⟨_, rfl, ?_⟩)
                exact k s_8 hs_9 (by omega) (by omega) (by omega) (by omega) (by omega) (by omega) (by omega) (by omega) (by omega) (by omega) (by omega) (by omega) (by omega) (by omega) (by omega) q_25 q_26 q_27 q_28 q_29
              · exfalso; omega
      · exfalso; omega
  · exfalso; omega
set_option maxRecDepth 100000 in
/-- GatheredPoints.sheet [(0, 0), (16, 16), (-2147483648, -1)] -/
theorem zx2842_29 {z : gH} {L d : Nat} {K : Option gV → gH → Prop} {s : gH} (p2 : Int) (hs : xM z s) (h_p2 : (-2147483648) ≤ p2 ∧ p2 ≤ (-1)) (q0 : gp_I s 1 2 = 0) (q1 : gp_I s 1 6 = 0) (q2 : gp_I s 1 7 = 1) (q3 : gp_I s 51 8 = 0) (q4 : gp_I s 57 1 = 0) (q5 : gp_I s 57 3 = 0) (q6 : gp_I s 72 0 = 0) (q7 : gp_I s 72 1 = 0) (q8 : gp_I s 72 2 = 0) (q9 : gp_I s 72 3 = 0) (q10 : gp_I s 73 0 = 0) (q11 : gp_I s 73 1 = 0) (q12 : gp_I s 73 2 = 0) (q13 : gp_I s 73 3 = 0) (q14 : ∀ k, k < 8 → gp_R s 4 k = some 25) (q15 : gp_R s 51 6 = some 55) (q16 : gp_R s 51 7 = some 56) (q17 : gp_us s = 606895) (q18 : gp_sz s = 117) (k : ∀ (t : gH), xM z t → (gp_I t 1 2 = 0) → (gp_I t 1 6 = 0) → (gp_I t 1 7 = 1) → ((-2147483648) ≤ gp_I t 2 3 ∧ gp_I t 2 3 ≤ 2147483647) → (gp_I t 51 8 = 0) → (gp_I t 57 1 = 0) → (gp_I t 57 3 = 0) → (gp_I t 72 0 = 0) → (gp_I t 72 1 = 0) → (gp_I t 72 2 = 0) → (gp_I t 72 3 = 0) → (gp_I t 73 0 = 0) → (gp_I t 73 1 = 0) → (gp_I t 73 2 = 0) → (gp_I t 73 3 = 0) → (∀ k, k < 8 → gp_R t 4 k = some 25) → (gp_R t 51 6 = some 55) → (gp_R t 51 7 = some 56) → (gp_us t = 606895) → (gp_sz t = 117) → K (some (gp_i (-1000000003))) t) : gs_C L (d + 1) 2842 4 [gp_r (some 1), gp_i 0, gp_i 16, gp_i p2] s K := by
  refine s_2842_e _ _ _ ?_
  refine zx1793_8 hs (by omega) (by omega) (by omega) (by omega) (by omega) (by omega) (by omega) (by omega) (⟨_, rfl, ?_⟩)
  refine ⟨fun h_1 => ?_, fun h_1 => ?_⟩
  · refine ⟨fun h_2 => ?_, fun h_2 => ?_⟩
    · exfalso; omega
    · refine ⟨fun h_3 => ?_, fun h_3 => ?_⟩
      · exfalso; omega
      · refine ⟨fun h_4 => ?_, fun h_4 => ?_⟩
        · refine s_2842_39 _ _ _ ?_
          refine ⟨fun h_5 => ?_, fun h_5 => ?_⟩
          · exfalso; omega
          · refine ⟨fun h_6 => ?_, fun h_6 => ?_⟩
            · refine zx2855_13 hs (by omega) (by omega) (by omega) (by omega) (by omega) (by omega) (by omega) (by omega) (by omega) (by omega) (by omega) (by omega) (by omega) (by omega) q14 q15 q16 q17 q18 (fun s_7 hs_8 q_9 q_10 q_11 q_12 q_13 q_14 q_15 q_16 q_17 q_18 q_19 q_20 q_21 q_22 q_23 q_24 q_25 q_26 q_27 q_28 => ⟨_, rfl, ?_⟩)
              exact k s_7 hs_8 (by omega) (by omega) (by omega) (by omega) (by omega) (by omega) (by omega) (by omega) (by omega) (by omega) (by omega) (by omega) (by omega) (by omega) (by omega) q_24 q_25 q_26 q_27 q_28
            · exfalso; omega
        · exfalso; omega
  · exfalso; omega
set_option maxRecDepth 100000 in
/-- Sheets.lay, the loop at 17 -/
theorem zx1795_5_l17_0 {z : gH} {L d : Nat} {K : Option gV → gH → Prop} (p2 : Int)  (k : ∀ (t : gH), xM z t → (gp_I t 1 2 = 0) → (gp_I t 1 6 = 0) → (gp_I t 1 7 = 1) → (gp_I t 51 8 = 0) → (gp_I t 57 1 = 0) → (gp_I t 57 3 = 0) → (gp_I t 72 0 = 16) → (gp_I t 72 1 = 0) → (gp_I t 72 2 = 0) → (gp_I t 72 3 = 0) → (0 ≤ gp_I t 73 0 ∧ gp_I t 73 0 ≤ 20) → (gp_I t 73 1 = 0) → (gp_I t 73 2 = 0) → (gp_I t 73 3 = 0) → (∀ k, k < 8 → gp_R t 4 k = some 25) → (gp_R t 51 6 = some 55) → (gp_R t 51 7 = some 56) → (gp_us t = 606895) → (gp_sz t = 117) → K none t)  : ∀ (n : Nat) (v1 : Int) (v2 : Int) (v3 : Int) (v4 : Int) (s : gH), xM z s → (21 - v4).toNat < n → (v1 = 0) → (v2 = 16) → (0 ≤ v3 ∧ v3 ≤ 20) → (0 ≤ v4 ∧ v4 ≤ 20) → (gp_I s 1 2 = 0) → (gp_I s 1 6 = 0) → (gp_I s 1 7 = 1) → (gp_I s 51 8 = 0) → (gp_I s 57 1 = 0) → (gp_I s 57 3 = 0) → (gp_I s 72 0 = 16) → (gp_I s 72 1 = 0) → (gp_I s 72 2 = 0) → (gp_I s 72 3 = 0) → (0 ≤ gp_I s 73 0 ∧ gp_I s 73 0 ≤ 20) → (gp_I s 73 1 = 0) → (gp_I s 73 2 = 0) → (gp_I s 73 3 = 0) → (∀ k, k < 8 → gp_R s 4 k = some 25) → (gp_R s 51 6 = some 55) → (gp_R s 51 7 = some 56) → (gp_us s = 606895) → (gp_sz s = 117) → gs_E L d 1795 17 [gp_r (some 66), gp_i v1, gp_i v2, gp_i v3, gp_i v4] [] s K := by
  intro n
  induction n with
  | zero => intro v1 v2 v3 v4 s hs hm i0 i1 i2 i3 i4 i5 i6 i7 i8 i9 i10 i11 i12 i13 i14 i15 i16 i17 i18 i19 i20 i21 i22; exact absurd hm (Nat.not_lt_zero _)
  | succ n ih =>
    intro v1 v2 v3 v4 s hs hm i0 i1 i2 i3 i4 i5 i6 i7 i8 i9 i10 i11 i12 i13 i14 i15 i16 i17 i18 i19 i20 i21 i22
    subst i0
    subst i1
    refine s_1795_17 _ _ _ _ ?_
    refine ⟨fun h_1 => ?_, fun h_1 => ?_⟩
    · refine ⟨by omega, ?_⟩
      try rw [show gp_R (gp_mk L s) 67 (0 : Int).toNat = some 68 from rfl]
      refine ⟨68, rfl, ?_⟩
      refine ⟨⟨rfl, by show 0 ≤ v4 ∧ v4 < 20; omega⟩, ?_⟩
      intro s_2 e_3
      have hs_4 : xM z s_2 := by rw [e_3]; exact xw68 hs _ _
      have q_5 : gp_I s_2 1 2 = 0 := by rw [e_3]; exact i4
      have q_6 : gp_I s_2 1 6 = 0 := by rw [e_3]; exact i5
      have q_7 : gp_I s_2 1 7 = 1 := by rw [e_3]; exact i6
      have q_8 : gp_I s_2 51 8 = 0 := by rw [e_3]; exact i7
      have q_9 : gp_I s_2 57 1 = 0 := by rw [e_3]; exact i8
      have q_10 : gp_I s_2 57 3 = 0 := by rw [e_3]; exact i9
      have q_11 : gp_I s_2 72 0 = 16 := by rw [e_3]; exact i10
      have q_12 : gp_I s_2 72 1 = 0 := by rw [e_3]; exact i11
      have q_13 : gp_I s_2 72 2 = 0 := by rw [e_3]; exact i12
      have q_14 : gp_I s_2 72 3 = 0 := by rw [e_3]; exact i13
      have q_15 : 0 ≤ gp_I s_2 73 0 ∧ gp_I s_2 73 0 ≤ 20 := by rw [e_3]; exact i14
      have q_16 : gp_I s_2 73 1 = 0 := by rw [e_3]; exact i15
      have q_17 : gp_I s_2 73 2 = 0 := by rw [e_3]; exact i16
      have q_18 : gp_I s_2 73 3 = 0 := by rw [e_3]; exact i17
      have q_19 : ∀ k, k < 8 → gp_R s_2 4 k = some 25 := by rw [e_3]; exact i18
      have q_20 : gp_R s_2 51 6 = some 55 := by rw [e_3]; exact i19
      have q_21 : gp_R s_2 51 7 = some 56 := by rw [e_3]; exact i20
      have q_22 : gp_us s_2 = 606895 := by rw [e_3]; exact i21
      have q_23 : gp_sz s_2 = 117 := by rw [e_3]; exact i22
      have w_24 := gz_w (v4 + 1)
      exact ih _ _ _ _ s_2 hs_4 (by omega) (by omega) (by omega) (by omega) (by omega) (by omega) (by omega) (by omega) (by omega) (by omega) (by omega) (by omega) (by omega) (by omega) (by omega) (by omega) (by omega) (by omega) (by omega) q_19 q_20 q_21 q_22 q_23
    · have e_25 : v4 = 20 := by omega
      subst e_25
      exact k s hs (by omega) (by omega) (by omega) (by omega) (by omega) (by omega) (by omega) (by omega) (by omega) (by omega) (by omega) (by omega) (by omega) (by omega) i18 i19 i20 i21 i22
set_option maxRecDepth 100000 in
/-- Sheets.lay [(0, 0), (16, 16), (0, 20)] -/
theorem zx1795_5 {z : gH} {L d : Nat} {K : Option gV → gH → Prop} {s : gH} (p2 : Int) (hs : xM z s) (h_p2 : 0 ≤ p2 ∧ p2 ≤ 20) (q0 : gp_I s 1 2 = 0) (q1 : gp_I s 1 6 = 0) (q2 : gp_I s 1 7 = 1) (q3 : gp_I s 51 8 = 0) (q4 : gp_I s 57 1 = 0) (q5 : gp_I s 57 3 = 0) (q6 : gp_I s 72 0 = 0) (q7 : gp_I s 72 1 = 0) (q8 : gp_I s 72 2 = 0) (q9 : gp_I s 72 3 = 0) (q10 : gp_I s 73 0 = 0) (q11 : gp_I s 73 1 = 0) (q12 : gp_I s 73 2 = 0) (q13 : gp_I s 73 3 = 0) (q14 : ∀ k, k < 8 → gp_R s 4 k = some 25) (q15 : gp_R s 51 6 = some 55) (q16 : gp_R s 51 7 = some 56) (q17 : gp_us s = 606895) (q18 : gp_sz s = 117) (k : ∀ (t : gH), xM z t → (gp_I t 1 2 = 0) → (gp_I t 1 6 = 0) → (gp_I t 1 7 = 1) → (gp_I t 51 8 = 0) → (gp_I t 57 1 = 0) → (gp_I t 57 3 = 0) → (gp_I t 72 0 = 16) → (gp_I t 72 1 = 0) → (gp_I t 72 2 = 0) → (gp_I t 72 3 = 0) → (0 ≤ gp_I t 73 0 ∧ gp_I t 73 0 ≤ 20) → (gp_I t 73 1 = 0) → (gp_I t 73 2 = 0) → (gp_I t 73 3 = 0) → (∀ k, k < 8 → gp_R t 4 k = some 25) → (gp_R t 51 6 = some 55) → (gp_R t 51 7 = some 56) → (gp_us t = 606895) → (gp_sz t = 117) → K none t) : gs_C L d 1795 5 [gp_r (some 66), gp_i 0, gp_i 16, gp_i p2] s K := by
  refine s_1795_e _ _ _ ?_
  refine ⟨by omega, ?_⟩
  intro s_1 e_2
  have hs_3 : xM z s_1 := by rw [e_2]; exact xw72 hs _ _
  have q_4 : gp_I s_1 1 2 = 0 := by rw [e_2]; exact q0
  have q_5 : gp_I s_1 1 6 = 0 := by rw [e_2]; exact q1
  have q_6 : gp_I s_1 1 7 = 1 := by rw [e_2]; exact q2
  have q_7 : gp_I s_1 51 8 = 0 := by rw [e_2]; exact q3
  have q_8 : gp_I s_1 57 1 = 0 := by rw [e_2]; exact q4
  have q_9 : gp_I s_1 57 3 = 0 := by rw [e_2]; exact q5
  have q_10 : gp_I s_1 72 1 = 0 := by rw [e_2]; exact q7
  have q_11 : gp_I s_1 72 2 = 0 := by rw [e_2]; exact q8
  have q_12 : gp_I s_1 72 3 = 0 := by rw [e_2]; exact q9
  have q_13 : gp_I s_1 73 0 = 0 := by rw [e_2]; exact q10
  have q_14 : gp_I s_1 73 1 = 0 := by rw [e_2]; exact q11
  have q_15 : gp_I s_1 73 2 = 0 := by rw [e_2]; exact q12
  have q_16 : gp_I s_1 73 3 = 0 := by rw [e_2]; exact q13
  have q_17 : ∀ k, k < 8 → gp_R s_1 4 k = some 25 := by rw [e_2]; exact q14
  have q_18 : gp_R s_1 51 6 = some 55 := by rw [e_2]; exact q15
  have q_19 : gp_R s_1 51 7 = some 56 := by rw [e_2]; exact q16
  have q_20 : gp_us s_1 = 606895 := by rw [e_2]; exact q17
  have q_21 : gp_sz s_1 = 117 := by rw [e_2]; exact q18
  have q_22 : gp_I s_1 72 0 = 16 := by rw [e_2]; rfl
  refine ⟨by omega, ?_⟩
  intro s_24 e_25
  have hs_26 : xM z s_24 := by rw [e_25]; exact xw73 hs_3 _ _
  have q_27 : gp_I s_24 1 2 = 0 := by rw [e_25]; exact q_4
  have q_28 : gp_I s_24 1 6 = 0 := by rw [e_25]; exact q_5
  have q_29 : gp_I s_24 1 7 = 1 := by rw [e_25]; exact q_6
  have q_30 : gp_I s_24 51 8 = 0 := by rw [e_25]; exact q_7
  have q_31 : gp_I s_24 57 1 = 0 := by rw [e_25]; exact q_8
  have q_32 : gp_I s_24 57 3 = 0 := by rw [e_25]; exact q_9
  have q_33 : gp_I s_24 72 1 = 0 := by rw [e_25]; exact q_10
  have q_34 : gp_I s_24 72 2 = 0 := by rw [e_25]; exact q_11
  have q_35 : gp_I s_24 72 3 = 0 := by rw [e_25]; exact q_12
  have q_36 : gp_I s_24 73 1 = 0 := by rw [e_25]; exact q_14
  have q_37 : gp_I s_24 73 2 = 0 := by rw [e_25]; exact q_15
  have q_38 : gp_I s_24 73 3 = 0 := by rw [e_25]; exact q_16
  have q_39 : ∀ k, k < 8 → gp_R s_24 4 k = some 25 := by rw [e_25]; exact q_17
  have q_40 : gp_R s_24 51 6 = some 55 := by rw [e_25]; exact q_18
  have q_41 : gp_R s_24 51 7 = some 56 := by rw [e_25]; exact q_19
  have q_42 : gp_us s_24 = 606895 := by rw [e_25]; exact q_20
  have q_43 : gp_sz s_24 = 117 := by rw [e_25]; exact q_21
  have q_44 : gp_I s_24 72 0 = 16 := by rw [e_25]; exact q_22
  have q_45 : 0 ≤ gp_I s_24 73 0 ∧ gp_I s_24 73 0 ≤ 20 := by have x_46 : gp_I s_24 73 0 = p2 := (by rw [e_25]; rfl); omega
  exact zx1795_5_l17_0 p2 k _ _ _ _ _ s_24 hs_26 (Nat.lt_succ_self _) (by omega) (by omega) (by omega) (by omega) (by omega) (by omega) (by omega) (by omega) (by omega) (by omega) (by omega) (by omega) (by omega) (by omega) (by omega) (by omega) (by omega) (by omega) q_39 q_40 q_41 q_42 q_43
set_option maxRecDepth 100000 in
/-- GatheredPoints.sheet [(0, 0), (16, 16), (0, 20)] -/
theorem zx2842_30 {z : gH} {L d : Nat} {K : Option gV → gH → Prop} {s : gH} (p2 : Int) (hs : xM z s) (h_p2 : 0 ≤ p2 ∧ p2 ≤ 20) (q0 : gp_I s 1 2 = 0) (q1 : gp_I s 1 6 = 0) (q2 : gp_I s 1 7 = 1) (q3 : gp_I s 51 8 = 0) (q4 : gp_I s 57 1 = 0) (q5 : gp_I s 57 3 = 0) (q6 : gp_I s 72 0 = 0) (q7 : gp_I s 72 1 = 0) (q8 : gp_I s 72 2 = 0) (q9 : gp_I s 72 3 = 0) (q10 : gp_I s 73 0 = 0) (q11 : gp_I s 73 1 = 0) (q12 : gp_I s 73 2 = 0) (q13 : gp_I s 73 3 = 0) (q14 : ∀ k, k < 8 → gp_R s 4 k = some 25) (q15 : gp_R s 51 6 = some 55) (q16 : gp_R s 51 7 = some 56) (q17 : gp_us s = 606895) (q18 : gp_sz s = 117) (k : ∀ (t : gH), xM z t → (gp_I t 1 2 = 0) → (gp_I t 1 6 = 0) → (gp_I t 1 7 = 1) → (gp_I t 51 8 = 0) → (gp_I t 57 1 = 0) → (gp_I t 57 3 = 0) → (gp_I t 72 0 = 16) → (gp_I t 72 1 = 0) → (gp_I t 72 2 = 0) → (gp_I t 72 3 = 0) → (0 ≤ gp_I t 73 0 ∧ gp_I t 73 0 ≤ 20) → (gp_I t 73 1 = 0) → (gp_I t 73 2 = 0) → (gp_I t 73 3 = 0) → (∀ k, k < 8 → gp_R t 4 k = some 25) → (gp_R t 51 6 = some 55) → (gp_R t 51 7 = some 56) → (gp_us t = 606895) → (gp_sz t = 117) → K (some (gp_i 1)) t) : gs_C L (d + 1) 2842 4 [gp_r (some 1), gp_i 0, gp_i 16, gp_i p2] s K := by
  refine s_2842_e _ _ _ ?_
  refine zx1793_8 hs (by omega) (by omega) (by omega) (by omega) (by omega) (by omega) (by omega) (by omega) (⟨_, rfl, ?_⟩)
  refine ⟨fun h_1 => ?_, fun h_1 => ?_⟩
  · refine ⟨fun h_2 => ?_, fun h_2 => ?_⟩
    · exfalso; omega
    · refine ⟨fun h_3 => ?_, fun h_3 => ?_⟩
      · exfalso; omega
      · refine ⟨fun h_4 => ?_, fun h_4 => ?_⟩
        · refine s_2842_39 _ _ _ ?_
          refine ⟨fun h_5 => ?_, fun h_5 => ?_⟩
          · exfalso; omega
          · refine ⟨fun h_6 => ?_, fun h_6 => ?_⟩
            · exfalso; omega
            · refine s_2842_53 _ _ _ ?_
              refine ⟨fun h_7 => ?_, fun h_7 => ?_⟩
              · exfalso; omega
              · refine ⟨fun h_8 => ?_, fun h_8 => ?_⟩
                · exfalso; omega
                · refine s_2842_69 _ _ _ ?_
                  refine ⟨fun h_9 => ?_, fun h_9 => ?_⟩
                  · exfalso; omega
                  · refine s_2842_84 _ _ _ _ _ _ ?_
                    refine zx1795_5 _ hs (by omega) (by omega) (by omega) (by omega) (by omega) (by omega) (by omega) (by omega) (by omega) (by omega) (by omega) (by omega) (by omega) (by omega) (by omega) q14 q15 q16 q17 q18 (fun s_10 hs_11 q_12 q_13 q_14 q_15 q_16 q_17 q_18 q_19 q_20 q_21 q_22 q_23 q_24 q_25 q_26 q_27 q_28 q_29 q_30 => ⟨rfl, ?_⟩)
                    exact k s_10 hs_11 (by omega) (by omega) (by omega) (by omega) (by omega) (by omega) (by omega) (by omega) (by omega) (by omega) (by omega) (by omega) (by omega) (by omega) q_26 q_27 q_28 q_29 q_30
        · exfalso; omega
  · exfalso; omega
set_option maxRecDepth 100000 in
/-- GatheredPoints.sheet [(0, 0), (16, 16), (21, 2147483647)] -/
theorem zx2842_31 {z : gH} {L d : Nat} {K : Option gV → gH → Prop} {s : gH} (p2 : Int) (hs : xM z s) (h_p2 : 21 ≤ p2 ∧ p2 ≤ 2147483647) (q0 : gp_I s 1 2 = 0) (q1 : gp_I s 1 6 = 0) (q2 : gp_I s 1 7 = 1) (q3 : gp_I s 51 8 = 0) (q4 : gp_I s 57 1 = 0) (q5 : gp_I s 57 3 = 0) (q6 : gp_I s 72 0 = 0) (q7 : gp_I s 72 1 = 0) (q8 : gp_I s 72 2 = 0) (q9 : gp_I s 72 3 = 0) (q10 : gp_I s 73 0 = 0) (q11 : gp_I s 73 1 = 0) (q12 : gp_I s 73 2 = 0) (q13 : gp_I s 73 3 = 0) (q14 : ∀ k, k < 8 → gp_R s 4 k = some 25) (q15 : gp_R s 51 6 = some 55) (q16 : gp_R s 51 7 = some 56) (q17 : gp_us s = 606895) (q18 : gp_sz s = 117) (k : ∀ (t : gH), xM z t → (gp_I t 1 2 = 0) → (gp_I t 1 6 = 0) → (gp_I t 1 7 = 1) → ((-2147483648) ≤ gp_I t 2 1 ∧ gp_I t 2 1 ≤ 2147483647) → (gp_I t 51 8 = 0) → (gp_I t 57 1 = 0) → (gp_I t 57 3 = 0) → (gp_I t 72 0 = 0) → (gp_I t 72 1 = 0) → (gp_I t 72 2 = 0) → (gp_I t 72 3 = 0) → (gp_I t 73 0 = 0) → (gp_I t 73 1 = 0) → (gp_I t 73 2 = 0) → (gp_I t 73 3 = 0) → (∀ k, k < 8 → gp_R t 4 k = some 25) → (gp_R t 51 6 = some 55) → (gp_R t 51 7 = some 56) → (gp_us t = 606895) → (gp_sz t = 117) → K (some (gp_i (-1000000001))) t) : gs_C L (d + 1) 2842 4 [gp_r (some 1), gp_i 0, gp_i 16, gp_i p2] s K := by
  refine s_2842_e _ _ _ ?_
  refine zx1793_8 hs (by omega) (by omega) (by omega) (by omega) (by omega) (by omega) (by omega) (by omega) (⟨_, rfl, ?_⟩)
  refine ⟨fun h_1 => ?_, fun h_1 => ?_⟩
  · refine ⟨fun h_2 => ?_, fun h_2 => ?_⟩
    · exfalso; omega
    · refine ⟨fun h_3 => ?_, fun h_3 => ?_⟩
      · exfalso; omega
      · refine ⟨fun h_4 => ?_, fun h_4 => ?_⟩
        · refine s_2842_39 _ _ _ ?_
          refine ⟨fun h_5 => ?_, fun h_5 => ?_⟩
          · exfalso; omega
          · refine ⟨fun h_6 => ?_, fun h_6 => ?_⟩
            · exfalso; omega
            · refine s_2842_53 _ _ _ ?_
              refine ⟨fun h_7 => ?_, fun h_7 => ?_⟩
              · exfalso; omega
              · refine ⟨fun h_8 => ?_, fun h_8 => ?_⟩
                · refine zx2855_12 hs (by omega) (by omega) (by omega) (by omega) (by omega) (by omega) (by omega) (by omega) (by omega) (by omega) (by omega) (by omega) (by omega) (by omega) q14 q15 q16 q17 q18 (fun s_9 hs_10 q_11 q_12 q_13 q_14 q_15 q_16 q_17 q_18 q_19 q_20 q_21 q_22 q_23 q_24 q_25 q_26 q_27 q_28 q_29 q_30 => ⟨_, rfl, ?_⟩)
                  exact k s_9 hs_10 (by omega) (by omega) (by omega) (by omega) (by omega) (by omega) (by omega) (by omega) (by omega) (by omega) (by omega) (by omega) (by omega) (by omega) (by omega) q_26 q_27 q_28 q_29 q_30
                · exfalso; omega
        · exfalso; omega
  · exfalso; omega
set_option maxRecDepth 100000 in
/-- GatheredPoints.sheet [(0, 0), (32, 32), (-2147483648, -1)] -/
theorem zx2842_32 {z : gH} {L d : Nat} {K : Option gV → gH → Prop} {s : gH} (p2 : Int) (hs : xM z s) (h_p2 : (-2147483648) ≤ p2 ∧ p2 ≤ (-1)) (q0 : gp_I s 1 2 = 0) (q1 : gp_I s 1 6 = 0) (q2 : gp_I s 1 7 = 1) (q3 : gp_I s 51 8 = 0) (q4 : gp_I s 57 1 = 0) (q5 : gp_I s 57 3 = 0) (q6 : gp_I s 72 0 = 0) (q7 : gp_I s 72 1 = 0) (q8 : gp_I s 72 2 = 0) (q9 : gp_I s 72 3 = 0) (q10 : gp_I s 73 0 = 0) (q11 : gp_I s 73 1 = 0) (q12 : gp_I s 73 2 = 0) (q13 : gp_I s 73 3 = 0) (q14 : ∀ k, k < 8 → gp_R s 4 k = some 25) (q15 : gp_R s 51 6 = some 55) (q16 : gp_R s 51 7 = some 56) (q17 : gp_us s = 606895) (q18 : gp_sz s = 117) (k : ∀ (t : gH), xM z t → (gp_I t 1 2 = 0) → (gp_I t 1 6 = 0) → (gp_I t 1 7 = 1) → ((-2147483648) ≤ gp_I t 2 3 ∧ gp_I t 2 3 ≤ 2147483647) → (gp_I t 51 8 = 0) → (gp_I t 57 1 = 0) → (gp_I t 57 3 = 0) → (gp_I t 72 0 = 0) → (gp_I t 72 1 = 0) → (gp_I t 72 2 = 0) → (gp_I t 72 3 = 0) → (gp_I t 73 0 = 0) → (gp_I t 73 1 = 0) → (gp_I t 73 2 = 0) → (gp_I t 73 3 = 0) → (∀ k, k < 8 → gp_R t 4 k = some 25) → (gp_R t 51 6 = some 55) → (gp_R t 51 7 = some 56) → (gp_us t = 606895) → (gp_sz t = 117) → K (some (gp_i (-1000000003))) t) : gs_C L (d + 1) 2842 4 [gp_r (some 1), gp_i 0, gp_i 32, gp_i p2] s K := by
  refine s_2842_e _ _ _ ?_
  refine zx1793_8 hs (by omega) (by omega) (by omega) (by omega) (by omega) (by omega) (by omega) (by omega) (⟨_, rfl, ?_⟩)
  refine ⟨fun h_1 => ?_, fun h_1 => ?_⟩
  · refine ⟨fun h_2 => ?_, fun h_2 => ?_⟩
    · exfalso; omega
    · refine ⟨fun h_3 => ?_, fun h_3 => ?_⟩
      · exfalso; omega
      · refine ⟨fun h_4 => ?_, fun h_4 => ?_⟩
        · exfalso; omega
        · refine ⟨fun h_5 => ?_, fun h_5 => ?_⟩
          · refine s_2842_39 _ _ _ ?_
            refine ⟨fun h_6 => ?_, fun h_6 => ?_⟩
            · exfalso; omega
            · refine ⟨fun h_7 => ?_, fun h_7 => ?_⟩
              · refine zx2855_13 hs (by omega) (by omega) (by omega) (by omega) (by omega) (by omega) (by omega) (by omega) (by omega) (by omega) (by omega) (by omega) (by omega) (by omega) q14 q15 q16 q17 q18 (fun s_8 hs_9 q_10 q_11 q_12 q_13 q_14 q_15 q_16 q_17 q_18 q_19 q_20 q_21 q_22 q_23 q_24 q_25 q_26 q_27 q_28 q_29 => ⟨_, rfl, ?_⟩)
                exact k s_8 hs_9 (by omega) (by omega) (by omega) (by omega) (by omega) (by omega) (by omega) (by omega) (by omega) (by omega) (by omega) (by omega) (by omega) (by omega) (by omega) q_25 q_26 q_27 q_28 q_29
              · exfalso; omega
          · exfalso; omega
  · exfalso; omega
set_option maxRecDepth 100000 in
/-- Sheets.lay, the loop at 17 -/
theorem zx1795_6_l17_0 {z : gH} {L d : Nat} {K : Option gV → gH → Prop} (p2 : Int)  (k : ∀ (t : gH), xM z t → (gp_I t 1 2 = 0) → (gp_I t 1 6 = 0) → (gp_I t 1 7 = 1) → (gp_I t 51 8 = 0) → (gp_I t 57 1 = 0) → (gp_I t 57 3 = 0) → (gp_I t 72 0 = 32) → (gp_I t 72 1 = 0) → (gp_I t 72 2 = 0) → (gp_I t 72 3 = 0) → (0 ≤ gp_I t 73 0 ∧ gp_I t 73 0 ≤ 20) → (gp_I t 73 1 = 0) → (gp_I t 73 2 = 0) → (gp_I t 73 3 = 0) → (∀ k, k < 8 → gp_R t 4 k = some 25) → (gp_R t 51 6 = some 55) → (gp_R t 51 7 = some 56) → (gp_us t = 606895) → (gp_sz t = 117) → K none t)  : ∀ (n : Nat) (v1 : Int) (v2 : Int) (v3 : Int) (v4 : Int) (s : gH), xM z s → (21 - v4).toNat < n → (v1 = 0) → (v2 = 32) → (0 ≤ v3 ∧ v3 ≤ 20) → (0 ≤ v4 ∧ v4 ≤ 20) → (gp_I s 1 2 = 0) → (gp_I s 1 6 = 0) → (gp_I s 1 7 = 1) → (gp_I s 51 8 = 0) → (gp_I s 57 1 = 0) → (gp_I s 57 3 = 0) → (gp_I s 72 0 = 32) → (gp_I s 72 1 = 0) → (gp_I s 72 2 = 0) → (gp_I s 72 3 = 0) → (0 ≤ gp_I s 73 0 ∧ gp_I s 73 0 ≤ 20) → (gp_I s 73 1 = 0) → (gp_I s 73 2 = 0) → (gp_I s 73 3 = 0) → (∀ k, k < 8 → gp_R s 4 k = some 25) → (gp_R s 51 6 = some 55) → (gp_R s 51 7 = some 56) → (gp_us s = 606895) → (gp_sz s = 117) → gs_E L d 1795 17 [gp_r (some 66), gp_i v1, gp_i v2, gp_i v3, gp_i v4] [] s K := by
  intro n
  induction n with
  | zero => intro v1 v2 v3 v4 s hs hm i0 i1 i2 i3 i4 i5 i6 i7 i8 i9 i10 i11 i12 i13 i14 i15 i16 i17 i18 i19 i20 i21 i22; exact absurd hm (Nat.not_lt_zero _)
  | succ n ih =>
    intro v1 v2 v3 v4 s hs hm i0 i1 i2 i3 i4 i5 i6 i7 i8 i9 i10 i11 i12 i13 i14 i15 i16 i17 i18 i19 i20 i21 i22
    subst i0
    subst i1
    refine s_1795_17 _ _ _ _ ?_
    refine ⟨fun h_1 => ?_, fun h_1 => ?_⟩
    · refine ⟨by omega, ?_⟩
      try rw [show gp_R (gp_mk L s) 67 (0 : Int).toNat = some 68 from rfl]
      refine ⟨68, rfl, ?_⟩
      refine ⟨⟨rfl, by show 0 ≤ v4 ∧ v4 < 20; omega⟩, ?_⟩
      intro s_2 e_3
      have hs_4 : xM z s_2 := by rw [e_3]; exact xw68 hs _ _
      have q_5 : gp_I s_2 1 2 = 0 := by rw [e_3]; exact i4
      have q_6 : gp_I s_2 1 6 = 0 := by rw [e_3]; exact i5
      have q_7 : gp_I s_2 1 7 = 1 := by rw [e_3]; exact i6
      have q_8 : gp_I s_2 51 8 = 0 := by rw [e_3]; exact i7
      have q_9 : gp_I s_2 57 1 = 0 := by rw [e_3]; exact i8
      have q_10 : gp_I s_2 57 3 = 0 := by rw [e_3]; exact i9
      have q_11 : gp_I s_2 72 0 = 32 := by rw [e_3]; exact i10
      have q_12 : gp_I s_2 72 1 = 0 := by rw [e_3]; exact i11
      have q_13 : gp_I s_2 72 2 = 0 := by rw [e_3]; exact i12
      have q_14 : gp_I s_2 72 3 = 0 := by rw [e_3]; exact i13
      have q_15 : 0 ≤ gp_I s_2 73 0 ∧ gp_I s_2 73 0 ≤ 20 := by rw [e_3]; exact i14
      have q_16 : gp_I s_2 73 1 = 0 := by rw [e_3]; exact i15
      have q_17 : gp_I s_2 73 2 = 0 := by rw [e_3]; exact i16
      have q_18 : gp_I s_2 73 3 = 0 := by rw [e_3]; exact i17
      have q_19 : ∀ k, k < 8 → gp_R s_2 4 k = some 25 := by rw [e_3]; exact i18
      have q_20 : gp_R s_2 51 6 = some 55 := by rw [e_3]; exact i19
      have q_21 : gp_R s_2 51 7 = some 56 := by rw [e_3]; exact i20
      have q_22 : gp_us s_2 = 606895 := by rw [e_3]; exact i21
      have q_23 : gp_sz s_2 = 117 := by rw [e_3]; exact i22
      have w_24 := gz_w (v4 + 1)
      exact ih _ _ _ _ s_2 hs_4 (by omega) (by omega) (by omega) (by omega) (by omega) (by omega) (by omega) (by omega) (by omega) (by omega) (by omega) (by omega) (by omega) (by omega) (by omega) (by omega) (by omega) (by omega) (by omega) q_19 q_20 q_21 q_22 q_23
    · have e_25 : v4 = 20 := by omega
      subst e_25
      exact k s hs (by omega) (by omega) (by omega) (by omega) (by omega) (by omega) (by omega) (by omega) (by omega) (by omega) (by omega) (by omega) (by omega) (by omega) i18 i19 i20 i21 i22
set_option maxRecDepth 100000 in
/-- Sheets.lay [(0, 0), (32, 32), (0, 20)] -/
theorem zx1795_6 {z : gH} {L d : Nat} {K : Option gV → gH → Prop} {s : gH} (p2 : Int) (hs : xM z s) (h_p2 : 0 ≤ p2 ∧ p2 ≤ 20) (q0 : gp_I s 1 2 = 0) (q1 : gp_I s 1 6 = 0) (q2 : gp_I s 1 7 = 1) (q3 : gp_I s 51 8 = 0) (q4 : gp_I s 57 1 = 0) (q5 : gp_I s 57 3 = 0) (q6 : gp_I s 72 0 = 0) (q7 : gp_I s 72 1 = 0) (q8 : gp_I s 72 2 = 0) (q9 : gp_I s 72 3 = 0) (q10 : gp_I s 73 0 = 0) (q11 : gp_I s 73 1 = 0) (q12 : gp_I s 73 2 = 0) (q13 : gp_I s 73 3 = 0) (q14 : ∀ k, k < 8 → gp_R s 4 k = some 25) (q15 : gp_R s 51 6 = some 55) (q16 : gp_R s 51 7 = some 56) (q17 : gp_us s = 606895) (q18 : gp_sz s = 117) (k : ∀ (t : gH), xM z t → (gp_I t 1 2 = 0) → (gp_I t 1 6 = 0) → (gp_I t 1 7 = 1) → (gp_I t 51 8 = 0) → (gp_I t 57 1 = 0) → (gp_I t 57 3 = 0) → (gp_I t 72 0 = 32) → (gp_I t 72 1 = 0) → (gp_I t 72 2 = 0) → (gp_I t 72 3 = 0) → (0 ≤ gp_I t 73 0 ∧ gp_I t 73 0 ≤ 20) → (gp_I t 73 1 = 0) → (gp_I t 73 2 = 0) → (gp_I t 73 3 = 0) → (∀ k, k < 8 → gp_R t 4 k = some 25) → (gp_R t 51 6 = some 55) → (gp_R t 51 7 = some 56) → (gp_us t = 606895) → (gp_sz t = 117) → K none t) : gs_C L d 1795 5 [gp_r (some 66), gp_i 0, gp_i 32, gp_i p2] s K := by
  refine s_1795_e _ _ _ ?_
  refine ⟨by omega, ?_⟩
  intro s_1 e_2
  have hs_3 : xM z s_1 := by rw [e_2]; exact xw72 hs _ _
  have q_4 : gp_I s_1 1 2 = 0 := by rw [e_2]; exact q0
  have q_5 : gp_I s_1 1 6 = 0 := by rw [e_2]; exact q1
  have q_6 : gp_I s_1 1 7 = 1 := by rw [e_2]; exact q2
  have q_7 : gp_I s_1 51 8 = 0 := by rw [e_2]; exact q3
  have q_8 : gp_I s_1 57 1 = 0 := by rw [e_2]; exact q4
  have q_9 : gp_I s_1 57 3 = 0 := by rw [e_2]; exact q5
  have q_10 : gp_I s_1 72 1 = 0 := by rw [e_2]; exact q7
  have q_11 : gp_I s_1 72 2 = 0 := by rw [e_2]; exact q8
  have q_12 : gp_I s_1 72 3 = 0 := by rw [e_2]; exact q9
  have q_13 : gp_I s_1 73 0 = 0 := by rw [e_2]; exact q10
  have q_14 : gp_I s_1 73 1 = 0 := by rw [e_2]; exact q11
  have q_15 : gp_I s_1 73 2 = 0 := by rw [e_2]; exact q12
  have q_16 : gp_I s_1 73 3 = 0 := by rw [e_2]; exact q13
  have q_17 : ∀ k, k < 8 → gp_R s_1 4 k = some 25 := by rw [e_2]; exact q14
  have q_18 : gp_R s_1 51 6 = some 55 := by rw [e_2]; exact q15
  have q_19 : gp_R s_1 51 7 = some 56 := by rw [e_2]; exact q16
  have q_20 : gp_us s_1 = 606895 := by rw [e_2]; exact q17
  have q_21 : gp_sz s_1 = 117 := by rw [e_2]; exact q18
  have q_22 : gp_I s_1 72 0 = 32 := by rw [e_2]; rfl
  refine ⟨by omega, ?_⟩
  intro s_24 e_25
  have hs_26 : xM z s_24 := by rw [e_25]; exact xw73 hs_3 _ _
  have q_27 : gp_I s_24 1 2 = 0 := by rw [e_25]; exact q_4
  have q_28 : gp_I s_24 1 6 = 0 := by rw [e_25]; exact q_5
  have q_29 : gp_I s_24 1 7 = 1 := by rw [e_25]; exact q_6
  have q_30 : gp_I s_24 51 8 = 0 := by rw [e_25]; exact q_7
  have q_31 : gp_I s_24 57 1 = 0 := by rw [e_25]; exact q_8
  have q_32 : gp_I s_24 57 3 = 0 := by rw [e_25]; exact q_9
  have q_33 : gp_I s_24 72 1 = 0 := by rw [e_25]; exact q_10
  have q_34 : gp_I s_24 72 2 = 0 := by rw [e_25]; exact q_11
  have q_35 : gp_I s_24 72 3 = 0 := by rw [e_25]; exact q_12
  have q_36 : gp_I s_24 73 1 = 0 := by rw [e_25]; exact q_14
  have q_37 : gp_I s_24 73 2 = 0 := by rw [e_25]; exact q_15
  have q_38 : gp_I s_24 73 3 = 0 := by rw [e_25]; exact q_16
  have q_39 : ∀ k, k < 8 → gp_R s_24 4 k = some 25 := by rw [e_25]; exact q_17
  have q_40 : gp_R s_24 51 6 = some 55 := by rw [e_25]; exact q_18
  have q_41 : gp_R s_24 51 7 = some 56 := by rw [e_25]; exact q_19
  have q_42 : gp_us s_24 = 606895 := by rw [e_25]; exact q_20
  have q_43 : gp_sz s_24 = 117 := by rw [e_25]; exact q_21
  have q_44 : gp_I s_24 72 0 = 32 := by rw [e_25]; exact q_22
  have q_45 : 0 ≤ gp_I s_24 73 0 ∧ gp_I s_24 73 0 ≤ 20 := by have x_46 : gp_I s_24 73 0 = p2 := (by rw [e_25]; rfl); omega
  exact zx1795_6_l17_0 p2 k _ _ _ _ _ s_24 hs_26 (Nat.lt_succ_self _) (by omega) (by omega) (by omega) (by omega) (by omega) (by omega) (by omega) (by omega) (by omega) (by omega) (by omega) (by omega) (by omega) (by omega) (by omega) (by omega) (by omega) (by omega) q_39 q_40 q_41 q_42 q_43
set_option maxRecDepth 100000 in
/-- GatheredPoints.sheet [(0, 0), (32, 32), (0, 20)] -/
theorem zx2842_33 {z : gH} {L d : Nat} {K : Option gV → gH → Prop} {s : gH} (p2 : Int) (hs : xM z s) (h_p2 : 0 ≤ p2 ∧ p2 ≤ 20) (q0 : gp_I s 1 2 = 0) (q1 : gp_I s 1 6 = 0) (q2 : gp_I s 1 7 = 1) (q3 : gp_I s 51 8 = 0) (q4 : gp_I s 57 1 = 0) (q5 : gp_I s 57 3 = 0) (q6 : gp_I s 72 0 = 0) (q7 : gp_I s 72 1 = 0) (q8 : gp_I s 72 2 = 0) (q9 : gp_I s 72 3 = 0) (q10 : gp_I s 73 0 = 0) (q11 : gp_I s 73 1 = 0) (q12 : gp_I s 73 2 = 0) (q13 : gp_I s 73 3 = 0) (q14 : ∀ k, k < 8 → gp_R s 4 k = some 25) (q15 : gp_R s 51 6 = some 55) (q16 : gp_R s 51 7 = some 56) (q17 : gp_us s = 606895) (q18 : gp_sz s = 117) (k : ∀ (t : gH), xM z t → (gp_I t 1 2 = 0) → (gp_I t 1 6 = 0) → (gp_I t 1 7 = 1) → (gp_I t 51 8 = 0) → (gp_I t 57 1 = 0) → (gp_I t 57 3 = 0) → (gp_I t 72 0 = 32) → (gp_I t 72 1 = 0) → (gp_I t 72 2 = 0) → (gp_I t 72 3 = 0) → (0 ≤ gp_I t 73 0 ∧ gp_I t 73 0 ≤ 20) → (gp_I t 73 1 = 0) → (gp_I t 73 2 = 0) → (gp_I t 73 3 = 0) → (∀ k, k < 8 → gp_R t 4 k = some 25) → (gp_R t 51 6 = some 55) → (gp_R t 51 7 = some 56) → (gp_us t = 606895) → (gp_sz t = 117) → K (some (gp_i 1)) t) : gs_C L (d + 1) 2842 4 [gp_r (some 1), gp_i 0, gp_i 32, gp_i p2] s K := by
  refine s_2842_e _ _ _ ?_
  refine zx1793_8 hs (by omega) (by omega) (by omega) (by omega) (by omega) (by omega) (by omega) (by omega) (⟨_, rfl, ?_⟩)
  refine ⟨fun h_1 => ?_, fun h_1 => ?_⟩
  · refine ⟨fun h_2 => ?_, fun h_2 => ?_⟩
    · exfalso; omega
    · refine ⟨fun h_3 => ?_, fun h_3 => ?_⟩
      · exfalso; omega
      · refine ⟨fun h_4 => ?_, fun h_4 => ?_⟩
        · exfalso; omega
        · refine ⟨fun h_5 => ?_, fun h_5 => ?_⟩
          · refine s_2842_39 _ _ _ ?_
            refine ⟨fun h_6 => ?_, fun h_6 => ?_⟩
            · exfalso; omega
            · refine ⟨fun h_7 => ?_, fun h_7 => ?_⟩
              · exfalso; omega
              · refine s_2842_53 _ _ _ ?_
                refine ⟨fun h_8 => ?_, fun h_8 => ?_⟩
                · exfalso; omega
                · refine ⟨fun h_9 => ?_, fun h_9 => ?_⟩
                  · exfalso; omega
                  · refine s_2842_69 _ _ _ ?_
                    refine ⟨fun h_10 => ?_, fun h_10 => ?_⟩
                    · exfalso; omega
                    · refine s_2842_84 _ _ _ _ _ _ ?_
                      refine zx1795_6 _ hs (by omega) (by omega) (by omega) (by omega) (by omega) (by omega) (by omega) (by omega) (by omega) (by omega) (by omega) (by omega) (by omega) (by omega) (by omega) q14 q15 q16 q17 q18 (fun s_11 hs_12 q_13 q_14 q_15 q_16 q_17 q_18 q_19 q_20 q_21 q_22 q_23 q_24 q_25 q_26 q_27 q_28 q_29 q_30 q_31 => ⟨rfl, ?_⟩)
                      exact k s_11 hs_12 (by omega) (by omega) (by omega) (by omega) (by omega) (by omega) (by omega) (by omega) (by omega) (by omega) (by omega) (by omega) (by omega) (by omega) q_27 q_28 q_29 q_30 q_31
          · exfalso; omega
  · exfalso; omega
set_option maxRecDepth 100000 in
/-- GatheredPoints.sheet [(0, 0), (32, 32), (21, 2147483647)] -/
theorem zx2842_34 {z : gH} {L d : Nat} {K : Option gV → gH → Prop} {s : gH} (p2 : Int) (hs : xM z s) (h_p2 : 21 ≤ p2 ∧ p2 ≤ 2147483647) (q0 : gp_I s 1 2 = 0) (q1 : gp_I s 1 6 = 0) (q2 : gp_I s 1 7 = 1) (q3 : gp_I s 51 8 = 0) (q4 : gp_I s 57 1 = 0) (q5 : gp_I s 57 3 = 0) (q6 : gp_I s 72 0 = 0) (q7 : gp_I s 72 1 = 0) (q8 : gp_I s 72 2 = 0) (q9 : gp_I s 72 3 = 0) (q10 : gp_I s 73 0 = 0) (q11 : gp_I s 73 1 = 0) (q12 : gp_I s 73 2 = 0) (q13 : gp_I s 73 3 = 0) (q14 : ∀ k, k < 8 → gp_R s 4 k = some 25) (q15 : gp_R s 51 6 = some 55) (q16 : gp_R s 51 7 = some 56) (q17 : gp_us s = 606895) (q18 : gp_sz s = 117) (k : ∀ (t : gH), xM z t → (gp_I t 1 2 = 0) → (gp_I t 1 6 = 0) → (gp_I t 1 7 = 1) → ((-2147483648) ≤ gp_I t 2 1 ∧ gp_I t 2 1 ≤ 2147483647) → (gp_I t 51 8 = 0) → (gp_I t 57 1 = 0) → (gp_I t 57 3 = 0) → (gp_I t 72 0 = 0) → (gp_I t 72 1 = 0) → (gp_I t 72 2 = 0) → (gp_I t 72 3 = 0) → (gp_I t 73 0 = 0) → (gp_I t 73 1 = 0) → (gp_I t 73 2 = 0) → (gp_I t 73 3 = 0) → (∀ k, k < 8 → gp_R t 4 k = some 25) → (gp_R t 51 6 = some 55) → (gp_R t 51 7 = some 56) → (gp_us t = 606895) → (gp_sz t = 117) → K (some (gp_i (-1000000001))) t) : gs_C L (d + 1) 2842 4 [gp_r (some 1), gp_i 0, gp_i 32, gp_i p2] s K := by
  refine s_2842_e _ _ _ ?_
  refine zx1793_8 hs (by omega) (by omega) (by omega) (by omega) (by omega) (by omega) (by omega) (by omega) (⟨_, rfl, ?_⟩)
  refine ⟨fun h_1 => ?_, fun h_1 => ?_⟩
  · refine ⟨fun h_2 => ?_, fun h_2 => ?_⟩
    · exfalso; omega
    · refine ⟨fun h_3 => ?_, fun h_3 => ?_⟩
      · exfalso; omega
      · refine ⟨fun h_4 => ?_, fun h_4 => ?_⟩
        · exfalso; omega
        · refine ⟨fun h_5 => ?_, fun h_5 => ?_⟩
          · refine s_2842_39 _ _ _ ?_
            refine ⟨fun h_6 => ?_, fun h_6 => ?_⟩
            · exfalso; omega
            · refine ⟨fun h_7 => ?_, fun h_7 => ?_⟩
              · exfalso; omega
              · refine s_2842_53 _ _ _ ?_
                refine ⟨fun h_8 => ?_, fun h_8 => ?_⟩
                · exfalso; omega
                · refine ⟨fun h_9 => ?_, fun h_9 => ?_⟩
                  · refine zx2855_12 hs (by omega) (by omega) (by omega) (by omega) (by omega) (by omega) (by omega) (by omega) (by omega) (by omega) (by omega) (by omega) (by omega) (by omega) q14 q15 q16 q17 q18 (fun s_10 hs_11 q_12 q_13 q_14 q_15 q_16 q_17 q_18 q_19 q_20 q_21 q_22 q_23 q_24 q_25 q_26 q_27 q_28 q_29 q_30 q_31 => ⟨_, rfl, ?_⟩)
                    exact k s_10 hs_11 (by omega) (by omega) (by omega) (by omega) (by omega) (by omega) (by omega) (by omega) (by omega) (by omega) (by omega) (by omega) (by omega) (by omega) (by omega) q_27 q_28 q_29 q_30 q_31
                  · exfalso; omega
          · exfalso; omega
  · exfalso; omega
set_option maxRecDepth 100000 in
/-- GatheredPoints.sheet [(1, 1), (8, 8), (-2147483648, -1)] -/
theorem zx2842_35 {z : gH} {L d : Nat} {K : Option gV → gH → Prop} {s : gH} (p2 : Int) (hs : xM z s) (h_p2 : (-2147483648) ≤ p2 ∧ p2 ≤ (-1)) (q0 : gp_I s 1 2 = 0) (q1 : gp_I s 1 6 = 0) (q2 : gp_I s 1 7 = 1) (q3 : gp_I s 51 8 = 0) (q4 : gp_I s 57 1 = 0) (q5 : gp_I s 57 3 = 0) (q6 : gp_I s 72 0 = 0) (q7 : gp_I s 72 1 = 0) (q8 : gp_I s 72 2 = 0) (q9 : gp_I s 72 3 = 0) (q10 : gp_I s 73 0 = 0) (q11 : gp_I s 73 1 = 0) (q12 : gp_I s 73 2 = 0) (q13 : gp_I s 73 3 = 0) (q14 : ∀ k, k < 8 → gp_R s 4 k = some 25) (q15 : gp_R s 51 6 = some 55) (q16 : gp_R s 51 7 = some 56) (q17 : gp_us s = 606895) (q18 : gp_sz s = 117) (k : ∀ (t : gH), xM z t → (gp_I t 1 2 = 0) → (gp_I t 1 6 = 0) → (gp_I t 1 7 = 1) → ((-2147483648) ≤ gp_I t 2 3 ∧ gp_I t 2 3 ≤ 2147483647) → (gp_I t 51 8 = 0) → (gp_I t 57 1 = 0) → (gp_I t 57 3 = 0) → (gp_I t 72 0 = 0) → (gp_I t 72 1 = 0) → (gp_I t 72 2 = 0) → (gp_I t 72 3 = 0) → (gp_I t 73 0 = 0) → (gp_I t 73 1 = 0) → (gp_I t 73 2 = 0) → (gp_I t 73 3 = 0) → (∀ k, k < 8 → gp_R t 4 k = some 25) → (gp_R t 51 6 = some 55) → (gp_R t 51 7 = some 56) → (gp_us t = 606895) → (gp_sz t = 117) → K (some (gp_i (-1000000003))) t) : gs_C L (d + 1) 2842 4 [gp_r (some 1), gp_i 1, gp_i 8, gp_i p2] s K := by
  refine s_2842_e _ _ _ ?_
  refine zx1793_9 hs (by omega) (by omega) (by omega) (by omega) (by omega) (by omega) (by omega) (by omega) (⟨_, rfl, ?_⟩)
  refine ⟨fun h_1 => ?_, fun h_1 => ?_⟩
  · refine ⟨fun h_2 => ?_, fun h_2 => ?_⟩
    · exfalso; omega
    · refine ⟨fun h_3 => ?_, fun h_3 => ?_⟩
      · refine s_2842_39 _ _ _ ?_
        refine ⟨fun h_4 => ?_, fun h_4 => ?_⟩
        · exfalso; omega
        · refine ⟨fun h_5 => ?_, fun h_5 => ?_⟩
          · refine zx2855_13 hs (by omega) (by omega) (by omega) (by omega) (by omega) (by omega) (by omega) (by omega) (by omega) (by omega) (by omega) (by omega) (by omega) (by omega) q14 q15 q16 q17 q18 (fun s_6 hs_7 q_8 q_9 q_10 q_11 q_12 q_13 q_14 q_15 q_16 q_17 q_18 q_19 q_20 q_21 q_22 q_23 q_24 q_25 q_26 q_27 => ⟨_, rfl, ?_⟩)
            exact k s_6 hs_7 (by omega) (by omega) (by omega) (by omega) (by omega) (by omega) (by omega) (by omega) (by omega) (by omega) (by omega) (by omega) (by omega) (by omega) (by omega) q_23 q_24 q_25 q_26 q_27
          · exfalso; omega
      · exfalso; omega
  · exfalso; omega
set_option maxRecDepth 100000 in
/-- Sheets.lay, the loop at 17 -/
theorem zx1795_7_l17_0 {z : gH} {L d : Nat} {K : Option gV → gH → Prop} (p2 : Int)  (k : ∀ (t : gH), xM z t → (gp_I t 1 2 = 0) → (gp_I t 1 6 = 0) → (gp_I t 1 7 = 1) → (gp_I t 51 8 = 0) → (gp_I t 57 1 = 0) → (gp_I t 57 3 = 0) → (gp_I t 72 0 = 0) → (gp_I t 72 1 = 8) → (gp_I t 72 2 = 0) → (gp_I t 72 3 = 0) → (gp_I t 73 0 = 0) → (0 ≤ gp_I t 73 1 ∧ gp_I t 73 1 ≤ 20) → (gp_I t 73 2 = 0) → (gp_I t 73 3 = 0) → (∀ k, k < 8 → gp_R t 4 k = some 25) → (gp_R t 51 6 = some 55) → (gp_R t 51 7 = some 56) → (gp_us t = 606895) → (gp_sz t = 117) → K none t)  : ∀ (n : Nat) (v1 : Int) (v2 : Int) (v3 : Int) (v4 : Int) (s : gH), xM z s → (21 - v4).toNat < n → (v1 = 1) → (v2 = 8) → (0 ≤ v3 ∧ v3 ≤ 20) → (0 ≤ v4 ∧ v4 ≤ 20) → (gp_I s 1 2 = 0) → (gp_I s 1 6 = 0) → (gp_I s 1 7 = 1) → (gp_I s 51 8 = 0) → (gp_I s 57 1 = 0) → (gp_I s 57 3 = 0) → (gp_I s 72 0 = 0) → (gp_I s 72 1 = 8) → (gp_I s 72 2 = 0) → (gp_I s 72 3 = 0) → (gp_I s 73 0 = 0) → (0 ≤ gp_I s 73 1 ∧ gp_I s 73 1 ≤ 20) → (gp_I s 73 2 = 0) → (gp_I s 73 3 = 0) → (∀ k, k < 8 → gp_R s 4 k = some 25) → (gp_R s 51 6 = some 55) → (gp_R s 51 7 = some 56) → (gp_us s = 606895) → (gp_sz s = 117) → gs_E L d 1795 17 [gp_r (some 66), gp_i v1, gp_i v2, gp_i v3, gp_i v4] [] s K := by
  intro n
  induction n with
  | zero => intro v1 v2 v3 v4 s hs hm i0 i1 i2 i3 i4 i5 i6 i7 i8 i9 i10 i11 i12 i13 i14 i15 i16 i17 i18 i19 i20 i21 i22; exact absurd hm (Nat.not_lt_zero _)
  | succ n ih =>
    intro v1 v2 v3 v4 s hs hm i0 i1 i2 i3 i4 i5 i6 i7 i8 i9 i10 i11 i12 i13 i14 i15 i16 i17 i18 i19 i20 i21 i22
    subst i0
    subst i1
    refine s_1795_17 _ _ _ _ ?_
    refine ⟨fun h_1 => ?_, fun h_1 => ?_⟩
    · refine ⟨by omega, ?_⟩
      try rw [show gp_R (gp_mk L s) 67 (1 : Int).toNat = some 69 from rfl]
      refine ⟨69, rfl, ?_⟩
      refine ⟨⟨rfl, by show 0 ≤ v4 ∧ v4 < 20; omega⟩, ?_⟩
      intro s_2 e_3
      have hs_4 : xM z s_2 := by rw [e_3]; exact xw69 hs _ _
      have q_5 : gp_I s_2 1 2 = 0 := by rw [e_3]; exact i4
      have q_6 : gp_I s_2 1 6 = 0 := by rw [e_3]; exact i5
      have q_7 : gp_I s_2 1 7 = 1 := by rw [e_3]; exact i6
      have q_8 : gp_I s_2 51 8 = 0 := by rw [e_3]; exact i7
      have q_9 : gp_I s_2 57 1 = 0 := by rw [e_3]; exact i8
      have q_10 : gp_I s_2 57 3 = 0 := by rw [e_3]; exact i9
      have q_11 : gp_I s_2 72 0 = 0 := by rw [e_3]; exact i10
      have q_12 : gp_I s_2 72 1 = 8 := by rw [e_3]; exact i11
      have q_13 : gp_I s_2 72 2 = 0 := by rw [e_3]; exact i12
      have q_14 : gp_I s_2 72 3 = 0 := by rw [e_3]; exact i13
      have q_15 : gp_I s_2 73 0 = 0 := by rw [e_3]; exact i14
      have q_16 : 0 ≤ gp_I s_2 73 1 ∧ gp_I s_2 73 1 ≤ 20 := by rw [e_3]; exact i15
      have q_17 : gp_I s_2 73 2 = 0 := by rw [e_3]; exact i16
      have q_18 : gp_I s_2 73 3 = 0 := by rw [e_3]; exact i17
      have q_19 : ∀ k, k < 8 → gp_R s_2 4 k = some 25 := by rw [e_3]; exact i18
      have q_20 : gp_R s_2 51 6 = some 55 := by rw [e_3]; exact i19
      have q_21 : gp_R s_2 51 7 = some 56 := by rw [e_3]; exact i20
      have q_22 : gp_us s_2 = 606895 := by rw [e_3]; exact i21
      have q_23 : gp_sz s_2 = 117 := by rw [e_3]; exact i22
      have w_24 := gz_w (v4 + 1)
      exact ih _ _ _ _ s_2 hs_4 (by omega) (by omega) (by omega) (by omega) (by omega) (by omega) (by omega) (by omega) (by omega) (by omega) (by omega) (by omega) (by omega) (by omega) (by omega) (by omega) (by omega) (by omega) (by omega) q_19 q_20 q_21 q_22 q_23
    · have e_25 : v4 = 20 := by omega
      subst e_25
      exact k s hs (by omega) (by omega) (by omega) (by omega) (by omega) (by omega) (by omega) (by omega) (by omega) (by omega) (by omega) (by omega) (by omega) (by omega) i18 i19 i20 i21 i22
set_option maxRecDepth 100000 in
/-- Sheets.lay [(1, 1), (8, 8), (0, 20)] -/
theorem zx1795_7 {z : gH} {L d : Nat} {K : Option gV → gH → Prop} {s : gH} (p2 : Int) (hs : xM z s) (h_p2 : 0 ≤ p2 ∧ p2 ≤ 20) (q0 : gp_I s 1 2 = 0) (q1 : gp_I s 1 6 = 0) (q2 : gp_I s 1 7 = 1) (q3 : gp_I s 51 8 = 0) (q4 : gp_I s 57 1 = 0) (q5 : gp_I s 57 3 = 0) (q6 : gp_I s 72 0 = 0) (q7 : gp_I s 72 1 = 0) (q8 : gp_I s 72 2 = 0) (q9 : gp_I s 72 3 = 0) (q10 : gp_I s 73 0 = 0) (q11 : gp_I s 73 1 = 0) (q12 : gp_I s 73 2 = 0) (q13 : gp_I s 73 3 = 0) (q14 : ∀ k, k < 8 → gp_R s 4 k = some 25) (q15 : gp_R s 51 6 = some 55) (q16 : gp_R s 51 7 = some 56) (q17 : gp_us s = 606895) (q18 : gp_sz s = 117) (k : ∀ (t : gH), xM z t → (gp_I t 1 2 = 0) → (gp_I t 1 6 = 0) → (gp_I t 1 7 = 1) → (gp_I t 51 8 = 0) → (gp_I t 57 1 = 0) → (gp_I t 57 3 = 0) → (gp_I t 72 0 = 0) → (gp_I t 72 1 = 8) → (gp_I t 72 2 = 0) → (gp_I t 72 3 = 0) → (gp_I t 73 0 = 0) → (0 ≤ gp_I t 73 1 ∧ gp_I t 73 1 ≤ 20) → (gp_I t 73 2 = 0) → (gp_I t 73 3 = 0) → (∀ k, k < 8 → gp_R t 4 k = some 25) → (gp_R t 51 6 = some 55) → (gp_R t 51 7 = some 56) → (gp_us t = 606895) → (gp_sz t = 117) → K none t) : gs_C L d 1795 5 [gp_r (some 66), gp_i 1, gp_i 8, gp_i p2] s K := by
  refine s_1795_e _ _ _ ?_
  refine ⟨by omega, ?_⟩
  intro s_1 e_2
  have hs_3 : xM z s_1 := by rw [e_2]; exact xw72 hs _ _
  have q_4 : gp_I s_1 1 2 = 0 := by rw [e_2]; exact q0
  have q_5 : gp_I s_1 1 6 = 0 := by rw [e_2]; exact q1
  have q_6 : gp_I s_1 1 7 = 1 := by rw [e_2]; exact q2
  have q_7 : gp_I s_1 51 8 = 0 := by rw [e_2]; exact q3
  have q_8 : gp_I s_1 57 1 = 0 := by rw [e_2]; exact q4
  have q_9 : gp_I s_1 57 3 = 0 := by rw [e_2]; exact q5
  have q_10 : gp_I s_1 72 0 = 0 := by rw [e_2]; exact q6
  have q_11 : gp_I s_1 72 2 = 0 := by rw [e_2]; exact q8
  have q_12 : gp_I s_1 72 3 = 0 := by rw [e_2]; exact q9
  have q_13 : gp_I s_1 73 0 = 0 := by rw [e_2]; exact q10
  have q_14 : gp_I s_1 73 1 = 0 := by rw [e_2]; exact q11
  have q_15 : gp_I s_1 73 2 = 0 := by rw [e_2]; exact q12
  have q_16 : gp_I s_1 73 3 = 0 := by rw [e_2]; exact q13
  have q_17 : ∀ k, k < 8 → gp_R s_1 4 k = some 25 := by rw [e_2]; exact q14
  have q_18 : gp_R s_1 51 6 = some 55 := by rw [e_2]; exact q15
  have q_19 : gp_R s_1 51 7 = some 56 := by rw [e_2]; exact q16
  have q_20 : gp_us s_1 = 606895 := by rw [e_2]; exact q17
  have q_21 : gp_sz s_1 = 117 := by rw [e_2]; exact q18
  have q_22 : gp_I s_1 72 1 = 8 := by rw [e_2]; rfl
  refine ⟨by omega, ?_⟩
  intro s_24 e_25
  have hs_26 : xM z s_24 := by rw [e_25]; exact xw73 hs_3 _ _
  have q_27 : gp_I s_24 1 2 = 0 := by rw [e_25]; exact q_4
  have q_28 : gp_I s_24 1 6 = 0 := by rw [e_25]; exact q_5
  have q_29 : gp_I s_24 1 7 = 1 := by rw [e_25]; exact q_6
  have q_30 : gp_I s_24 51 8 = 0 := by rw [e_25]; exact q_7
  have q_31 : gp_I s_24 57 1 = 0 := by rw [e_25]; exact q_8
  have q_32 : gp_I s_24 57 3 = 0 := by rw [e_25]; exact q_9
  have q_33 : gp_I s_24 72 0 = 0 := by rw [e_25]; exact q_10
  have q_34 : gp_I s_24 72 2 = 0 := by rw [e_25]; exact q_11
  have q_35 : gp_I s_24 72 3 = 0 := by rw [e_25]; exact q_12
  have q_36 : gp_I s_24 73 0 = 0 := by rw [e_25]; exact q_13
  have q_37 : gp_I s_24 73 2 = 0 := by rw [e_25]; exact q_15
  have q_38 : gp_I s_24 73 3 = 0 := by rw [e_25]; exact q_16
  have q_39 : ∀ k, k < 8 → gp_R s_24 4 k = some 25 := by rw [e_25]; exact q_17
  have q_40 : gp_R s_24 51 6 = some 55 := by rw [e_25]; exact q_18
  have q_41 : gp_R s_24 51 7 = some 56 := by rw [e_25]; exact q_19
  have q_42 : gp_us s_24 = 606895 := by rw [e_25]; exact q_20
  have q_43 : gp_sz s_24 = 117 := by rw [e_25]; exact q_21
  have q_44 : gp_I s_24 72 1 = 8 := by rw [e_25]; exact q_22
  have q_45 : 0 ≤ gp_I s_24 73 1 ∧ gp_I s_24 73 1 ≤ 20 := by have x_46 : gp_I s_24 73 1 = p2 := (by rw [e_25]; rfl); omega
  exact zx1795_7_l17_0 p2 k _ _ _ _ _ s_24 hs_26 (Nat.lt_succ_self _) (by omega) (by omega) (by omega) (by omega) (by omega) (by omega) (by omega) (by omega) (by omega) (by omega) (by omega) (by omega) (by omega) (by omega) (by omega) (by omega) (by omega) (by omega) q_39 q_40 q_41 q_42 q_43
set_option maxRecDepth 100000 in
/-- GatheredPoints.sheet [(1, 1), (8, 8), (0, 20)] -/
theorem zx2842_36 {z : gH} {L d : Nat} {K : Option gV → gH → Prop} {s : gH} (p2 : Int) (hs : xM z s) (h_p2 : 0 ≤ p2 ∧ p2 ≤ 20) (q0 : gp_I s 1 2 = 0) (q1 : gp_I s 1 6 = 0) (q2 : gp_I s 1 7 = 1) (q3 : gp_I s 51 8 = 0) (q4 : gp_I s 57 1 = 0) (q5 : gp_I s 57 3 = 0) (q6 : gp_I s 72 0 = 0) (q7 : gp_I s 72 1 = 0) (q8 : gp_I s 72 2 = 0) (q9 : gp_I s 72 3 = 0) (q10 : gp_I s 73 0 = 0) (q11 : gp_I s 73 1 = 0) (q12 : gp_I s 73 2 = 0) (q13 : gp_I s 73 3 = 0) (q14 : ∀ k, k < 8 → gp_R s 4 k = some 25) (q15 : gp_R s 51 6 = some 55) (q16 : gp_R s 51 7 = some 56) (q17 : gp_us s = 606895) (q18 : gp_sz s = 117) (k : ∀ (t : gH), xM z t → (gp_I t 1 2 = 0) → (gp_I t 1 6 = 0) → (gp_I t 1 7 = 1) → (gp_I t 51 8 = 0) → (gp_I t 57 1 = 0) → (gp_I t 57 3 = 0) → (gp_I t 72 0 = 0) → (gp_I t 72 1 = 8) → (gp_I t 72 2 = 0) → (gp_I t 72 3 = 0) → (gp_I t 73 0 = 0) → (0 ≤ gp_I t 73 1 ∧ gp_I t 73 1 ≤ 20) → (gp_I t 73 2 = 0) → (gp_I t 73 3 = 0) → (∀ k, k < 8 → gp_R t 4 k = some 25) → (gp_R t 51 6 = some 55) → (gp_R t 51 7 = some 56) → (gp_us t = 606895) → (gp_sz t = 117) → K (some (gp_i 1)) t) : gs_C L (d + 1) 2842 4 [gp_r (some 1), gp_i 1, gp_i 8, gp_i p2] s K := by
  refine s_2842_e _ _ _ ?_
  refine zx1793_9 hs (by omega) (by omega) (by omega) (by omega) (by omega) (by omega) (by omega) (by omega) (⟨_, rfl, ?_⟩)
  refine ⟨fun h_1 => ?_, fun h_1 => ?_⟩
  · refine ⟨fun h_2 => ?_, fun h_2 => ?_⟩
    · exfalso; omega
    · refine ⟨fun h_3 => ?_, fun h_3 => ?_⟩
      · refine s_2842_39 _ _ _ ?_
        refine ⟨fun h_4 => ?_, fun h_4 => ?_⟩
        · exfalso; omega
        · refine ⟨fun h_5 => ?_, fun h_5 => ?_⟩
          · exfalso; omega
          · refine s_2842_53 _ _ _ ?_
            refine ⟨fun h_6 => ?_, fun h_6 => ?_⟩
            · exfalso; omega
            · refine ⟨fun h_7 => ?_, fun h_7 => ?_⟩
              · exfalso; omega
              · refine s_2842_69 _ _ _ ?_
                refine ⟨fun h_8 => ?_, fun h_8 => ?_⟩
                · exfalso; omega
                · refine s_2842_84 _ _ _ _ _ _ ?_
                  refine zx1795_7 _ hs (by omega) (by omega) (by omega) (by omega) (by omega) (by omega) (by omega) (by omega) (by omega) (by omega) (by omega) (by omega) (by omega) (by omega) (by omega) q14 q15 q16 q17 q18 (fun s_9 hs_10 q_11 q_12 q_13 q_14 q_15 q_16 q_17 q_18 q_19 q_20 q_21 q_22 q_23 q_24 q_25 q_26 q_27 q_28 q_29 => ⟨rfl, ?_⟩)
                  exact k s_9 hs_10 (by omega) (by omega) (by omega) (by omega) (by omega) (by omega) (by omega) (by omega) (by omega) (by omega) (by omega) (by omega) (by omega) (by omega) q_25 q_26 q_27 q_28 q_29
      · exfalso; omega
  · exfalso; omega
set_option maxRecDepth 100000 in
/-- GatheredPoints.sheet [(1, 1), (8, 8), (21, 2147483647)] -/
theorem zx2842_37 {z : gH} {L d : Nat} {K : Option gV → gH → Prop} {s : gH} (p2 : Int) (hs : xM z s) (h_p2 : 21 ≤ p2 ∧ p2 ≤ 2147483647) (q0 : gp_I s 1 2 = 0) (q1 : gp_I s 1 6 = 0) (q2 : gp_I s 1 7 = 1) (q3 : gp_I s 51 8 = 0) (q4 : gp_I s 57 1 = 0) (q5 : gp_I s 57 3 = 0) (q6 : gp_I s 72 0 = 0) (q7 : gp_I s 72 1 = 0) (q8 : gp_I s 72 2 = 0) (q9 : gp_I s 72 3 = 0) (q10 : gp_I s 73 0 = 0) (q11 : gp_I s 73 1 = 0) (q12 : gp_I s 73 2 = 0) (q13 : gp_I s 73 3 = 0) (q14 : ∀ k, k < 8 → gp_R s 4 k = some 25) (q15 : gp_R s 51 6 = some 55) (q16 : gp_R s 51 7 = some 56) (q17 : gp_us s = 606895) (q18 : gp_sz s = 117) (k : ∀ (t : gH), xM z t → (gp_I t 1 2 = 0) → (gp_I t 1 6 = 0) → (gp_I t 1 7 = 1) → ((-2147483648) ≤ gp_I t 2 1 ∧ gp_I t 2 1 ≤ 2147483647) → (gp_I t 51 8 = 0) → (gp_I t 57 1 = 0) → (gp_I t 57 3 = 0) → (gp_I t 72 0 = 0) → (gp_I t 72 1 = 0) → (gp_I t 72 2 = 0) → (gp_I t 72 3 = 0) → (gp_I t 73 0 = 0) → (gp_I t 73 1 = 0) → (gp_I t 73 2 = 0) → (gp_I t 73 3 = 0) → (∀ k, k < 8 → gp_R t 4 k = some 25) → (gp_R t 51 6 = some 55) → (gp_R t 51 7 = some 56) → (gp_us t = 606895) → (gp_sz t = 117) → K (some (gp_i (-1000000001))) t) : gs_C L (d + 1) 2842 4 [gp_r (some 1), gp_i 1, gp_i 8, gp_i p2] s K := by
  refine s_2842_e _ _ _ ?_
  refine zx1793_9 hs (by omega) (by omega) (by omega) (by omega) (by omega) (by omega) (by omega) (by omega) (⟨_, rfl, ?_⟩)
  refine ⟨fun h_1 => ?_, fun h_1 => ?_⟩
  · refine ⟨fun h_2 => ?_, fun h_2 => ?_⟩
    · exfalso; omega
    · refine ⟨fun h_3 => ?_, fun h_3 => ?_⟩
      · refine s_2842_39 _ _ _ ?_
        refine ⟨fun h_4 => ?_, fun h_4 => ?_⟩
        · exfalso; omega
        · refine ⟨fun h_5 => ?_, fun h_5 => ?_⟩
          · exfalso; omega
          · refine s_2842_53 _ _ _ ?_
            refine ⟨fun h_6 => ?_, fun h_6 => ?_⟩
            · exfalso; omega
            · refine ⟨fun h_7 => ?_, fun h_7 => ?_⟩
              · refine zx2855_12 hs (by omega) (by omega) (by omega) (by omega) (by omega) (by omega) (by omega) (by omega) (by omega) (by omega) (by omega) (by omega) (by omega) (by omega) q14 q15 q16 q17 q18 (fun s_8 hs_9 q_10 q_11 q_12 q_13 q_14 q_15 q_16 q_17 q_18 q_19 q_20 q_21 q_22 q_23 q_24 q_25 q_26 q_27 q_28 q_29 => ⟨_, rfl, ?_⟩)
                exact k s_8 hs_9 (by omega) (by omega) (by omega) (by omega) (by omega) (by omega) (by omega) (by omega) (by omega) (by omega) (by omega) (by omega) (by omega) (by omega) (by omega) q_25 q_26 q_27 q_28 q_29
              · exfalso; omega
      · exfalso; omega
  · exfalso; omega
set_option maxRecDepth 100000 in
/-- GatheredPoints.sheet [(1, 1), (16, 16), (-2147483648, -1)] -/
theorem zx2842_38 {z : gH} {L d : Nat} {K : Option gV → gH → Prop} {s : gH} (p2 : Int) (hs : xM z s) (h_p2 : (-2147483648) ≤ p2 ∧ p2 ≤ (-1)) (q0 : gp_I s 1 2 = 0) (q1 : gp_I s 1 6 = 0) (q2 : gp_I s 1 7 = 1) (q3 : gp_I s 51 8 = 0) (q4 : gp_I s 57 1 = 0) (q5 : gp_I s 57 3 = 0) (q6 : gp_I s 72 0 = 0) (q7 : gp_I s 72 1 = 0) (q8 : gp_I s 72 2 = 0) (q9 : gp_I s 72 3 = 0) (q10 : gp_I s 73 0 = 0) (q11 : gp_I s 73 1 = 0) (q12 : gp_I s 73 2 = 0) (q13 : gp_I s 73 3 = 0) (q14 : ∀ k, k < 8 → gp_R s 4 k = some 25) (q15 : gp_R s 51 6 = some 55) (q16 : gp_R s 51 7 = some 56) (q17 : gp_us s = 606895) (q18 : gp_sz s = 117) (k : ∀ (t : gH), xM z t → (gp_I t 1 2 = 0) → (gp_I t 1 6 = 0) → (gp_I t 1 7 = 1) → ((-2147483648) ≤ gp_I t 2 3 ∧ gp_I t 2 3 ≤ 2147483647) → (gp_I t 51 8 = 0) → (gp_I t 57 1 = 0) → (gp_I t 57 3 = 0) → (gp_I t 72 0 = 0) → (gp_I t 72 1 = 0) → (gp_I t 72 2 = 0) → (gp_I t 72 3 = 0) → (gp_I t 73 0 = 0) → (gp_I t 73 1 = 0) → (gp_I t 73 2 = 0) → (gp_I t 73 3 = 0) → (∀ k, k < 8 → gp_R t 4 k = some 25) → (gp_R t 51 6 = some 55) → (gp_R t 51 7 = some 56) → (gp_us t = 606895) → (gp_sz t = 117) → K (some (gp_i (-1000000003))) t) : gs_C L (d + 1) 2842 4 [gp_r (some 1), gp_i 1, gp_i 16, gp_i p2] s K := by
  refine s_2842_e _ _ _ ?_
  refine zx1793_9 hs (by omega) (by omega) (by omega) (by omega) (by omega) (by omega) (by omega) (by omega) (⟨_, rfl, ?_⟩)
  refine ⟨fun h_1 => ?_, fun h_1 => ?_⟩
  · refine ⟨fun h_2 => ?_, fun h_2 => ?_⟩
    · exfalso; omega
    · refine ⟨fun h_3 => ?_, fun h_3 => ?_⟩
      · exfalso; omega
      · refine ⟨fun h_4 => ?_, fun h_4 => ?_⟩
        · refine s_2842_39 _ _ _ ?_
          refine ⟨fun h_5 => ?_, fun h_5 => ?_⟩
          · exfalso; omega
          · refine ⟨fun h_6 => ?_, fun h_6 => ?_⟩
            · refine zx2855_13 hs (by omega) (by omega) (by omega) (by omega) (by omega) (by omega) (by omega) (by omega) (by omega) (by omega) (by omega) (by omega) (by omega) (by omega) q14 q15 q16 q17 q18 (fun s_7 hs_8 q_9 q_10 q_11 q_12 q_13 q_14 q_15 q_16 q_17 q_18 q_19 q_20 q_21 q_22 q_23 q_24 q_25 q_26 q_27 q_28 => ⟨_, rfl, ?_⟩)
              exact k s_7 hs_8 (by omega) (by omega) (by omega) (by omega) (by omega) (by omega) (by omega) (by omega) (by omega) (by omega) (by omega) (by omega) (by omega) (by omega) (by omega) q_24 q_25 q_26 q_27 q_28
            · exfalso; omega
        · exfalso; omega
  · exfalso; omega
set_option maxRecDepth 100000 in
/-- Sheets.lay, the loop at 17 -/
theorem zx1795_8_l17_0 {z : gH} {L d : Nat} {K : Option gV → gH → Prop} (p2 : Int)  (k : ∀ (t : gH), xM z t → (gp_I t 1 2 = 0) → (gp_I t 1 6 = 0) → (gp_I t 1 7 = 1) → (gp_I t 51 8 = 0) → (gp_I t 57 1 = 0) → (gp_I t 57 3 = 0) → (gp_I t 72 0 = 0) → (gp_I t 72 1 = 16) → (gp_I t 72 2 = 0) → (gp_I t 72 3 = 0) → (gp_I t 73 0 = 0) → (0 ≤ gp_I t 73 1 ∧ gp_I t 73 1 ≤ 20) → (gp_I t 73 2 = 0) → (gp_I t 73 3 = 0) → (∀ k, k < 8 → gp_R t 4 k = some 25) → (gp_R t 51 6 = some 55) → (gp_R t 51 7 = some 56) → (gp_us t = 606895) → (gp_sz t = 117) → K none t)  : ∀ (n : Nat) (v1 : Int) (v2 : Int) (v3 : Int) (v4 : Int) (s : gH), xM z s → (21 - v4).toNat < n → (v1 = 1) → (v2 = 16) → (0 ≤ v3 ∧ v3 ≤ 20) → (0 ≤ v4 ∧ v4 ≤ 20) → (gp_I s 1 2 = 0) → (gp_I s 1 6 = 0) → (gp_I s 1 7 = 1) → (gp_I s 51 8 = 0) → (gp_I s 57 1 = 0) → (gp_I s 57 3 = 0) → (gp_I s 72 0 = 0) → (gp_I s 72 1 = 16) → (gp_I s 72 2 = 0) → (gp_I s 72 3 = 0) → (gp_I s 73 0 = 0) → (0 ≤ gp_I s 73 1 ∧ gp_I s 73 1 ≤ 20) → (gp_I s 73 2 = 0) → (gp_I s 73 3 = 0) → (∀ k, k < 8 → gp_R s 4 k = some 25) → (gp_R s 51 6 = some 55) → (gp_R s 51 7 = some 56) → (gp_us s = 606895) → (gp_sz s = 117) → gs_E L d 1795 17 [gp_r (some 66), gp_i v1, gp_i v2, gp_i v3, gp_i v4] [] s K := by
  intro n
  induction n with
  | zero => intro v1 v2 v3 v4 s hs hm i0 i1 i2 i3 i4 i5 i6 i7 i8 i9 i10 i11 i12 i13 i14 i15 i16 i17 i18 i19 i20 i21 i22; exact absurd hm (Nat.not_lt_zero _)
  | succ n ih =>
    intro v1 v2 v3 v4 s hs hm i0 i1 i2 i3 i4 i5 i6 i7 i8 i9 i10 i11 i12 i13 i14 i15 i16 i17 i18 i19 i20 i21 i22
    subst i0
    subst i1
    refine s_1795_17 _ _ _ _ ?_
    refine ⟨fun h_1 => ?_, fun h_1 => ?_⟩
    · refine ⟨by omega, ?_⟩
      try rw [show gp_R (gp_mk L s) 67 (1 : Int).toNat = some 69 from rfl]
      refine ⟨69, rfl, ?_⟩
      refine ⟨⟨rfl, by show 0 ≤ v4 ∧ v4 < 20; omega⟩, ?_⟩
      intro s_2 e_3
      have hs_4 : xM z s_2 := by rw [e_3]; exact xw69 hs _ _
      have q_5 : gp_I s_2 1 2 = 0 := by rw [e_3]; exact i4
      have q_6 : gp_I s_2 1 6 = 0 := by rw [e_3]; exact i5
      have q_7 : gp_I s_2 1 7 = 1 := by rw [e_3]; exact i6
      have q_8 : gp_I s_2 51 8 = 0 := by rw [e_3]; exact i7
      have q_9 : gp_I s_2 57 1 = 0 := by rw [e_3]; exact i8
      have q_10 : gp_I s_2 57 3 = 0 := by rw [e_3]; exact i9
      have q_11 : gp_I s_2 72 0 = 0 := by rw [e_3]; exact i10
      have q_12 : gp_I s_2 72 1 = 16 := by rw [e_3]; exact i11
      have q_13 : gp_I s_2 72 2 = 0 := by rw [e_3]; exact i12
      have q_14 : gp_I s_2 72 3 = 0 := by rw [e_3]; exact i13
      have q_15 : gp_I s_2 73 0 = 0 := by rw [e_3]; exact i14
      have q_16 : 0 ≤ gp_I s_2 73 1 ∧ gp_I s_2 73 1 ≤ 20 := by rw [e_3]; exact i15
      have q_17 : gp_I s_2 73 2 = 0 := by rw [e_3]; exact i16
      have q_18 : gp_I s_2 73 3 = 0 := by rw [e_3]; exact i17
      have q_19 : ∀ k, k < 8 → gp_R s_2 4 k = some 25 := by rw [e_3]; exact i18
      have q_20 : gp_R s_2 51 6 = some 55 := by rw [e_3]; exact i19
      have q_21 : gp_R s_2 51 7 = some 56 := by rw [e_3]; exact i20
      have q_22 : gp_us s_2 = 606895 := by rw [e_3]; exact i21
      have q_23 : gp_sz s_2 = 117 := by rw [e_3]; exact i22
      have w_24 := gz_w (v4 + 1)
      exact ih _ _ _ _ s_2 hs_4 (by omega) (by omega) (by omega) (by omega) (by omega) (by omega) (by omega) (by omega) (by omega) (by omega) (by omega) (by omega) (by omega) (by omega) (by omega) (by omega) (by omega) (by omega) (by omega) q_19 q_20 q_21 q_22 q_23
    · have e_25 : v4 = 20 := by omega
      subst e_25
      exact k s hs (by omega) (by omega) (by omega) (by omega) (by omega) (by omega) (by omega) (by omega) (by omega) (by omega) (by omega) (by omega) (by omega) (by omega) i18 i19 i20 i21 i22
set_option maxRecDepth 100000 in
/-- Sheets.lay [(1, 1), (16, 16), (0, 20)] -/
theorem zx1795_8 {z : gH} {L d : Nat} {K : Option gV → gH → Prop} {s : gH} (p2 : Int) (hs : xM z s) (h_p2 : 0 ≤ p2 ∧ p2 ≤ 20) (q0 : gp_I s 1 2 = 0) (q1 : gp_I s 1 6 = 0) (q2 : gp_I s 1 7 = 1) (q3 : gp_I s 51 8 = 0) (q4 : gp_I s 57 1 = 0) (q5 : gp_I s 57 3 = 0) (q6 : gp_I s 72 0 = 0) (q7 : gp_I s 72 1 = 0) (q8 : gp_I s 72 2 = 0) (q9 : gp_I s 72 3 = 0) (q10 : gp_I s 73 0 = 0) (q11 : gp_I s 73 1 = 0) (q12 : gp_I s 73 2 = 0) (q13 : gp_I s 73 3 = 0) (q14 : ∀ k, k < 8 → gp_R s 4 k = some 25) (q15 : gp_R s 51 6 = some 55) (q16 : gp_R s 51 7 = some 56) (q17 : gp_us s = 606895) (q18 : gp_sz s = 117) (k : ∀ (t : gH), xM z t → (gp_I t 1 2 = 0) → (gp_I t 1 6 = 0) → (gp_I t 1 7 = 1) → (gp_I t 51 8 = 0) → (gp_I t 57 1 = 0) → (gp_I t 57 3 = 0) → (gp_I t 72 0 = 0) → (gp_I t 72 1 = 16) → (gp_I t 72 2 = 0) → (gp_I t 72 3 = 0) → (gp_I t 73 0 = 0) → (0 ≤ gp_I t 73 1 ∧ gp_I t 73 1 ≤ 20) → (gp_I t 73 2 = 0) → (gp_I t 73 3 = 0) → (∀ k, k < 8 → gp_R t 4 k = some 25) → (gp_R t 51 6 = some 55) → (gp_R t 51 7 = some 56) → (gp_us t = 606895) → (gp_sz t = 117) → K none t) : gs_C L d 1795 5 [gp_r (some 66), gp_i 1, gp_i 16, gp_i p2] s K := by
  refine s_1795_e _ _ _ ?_
  refine ⟨by omega, ?_⟩
  intro s_1 e_2
  have hs_3 : xM z s_1 := by rw [e_2]; exact xw72 hs _ _
  have q_4 : gp_I s_1 1 2 = 0 := by rw [e_2]; exact q0
  have q_5 : gp_I s_1 1 6 = 0 := by rw [e_2]; exact q1
  have q_6 : gp_I s_1 1 7 = 1 := by rw [e_2]; exact q2
  have q_7 : gp_I s_1 51 8 = 0 := by rw [e_2]; exact q3
  have q_8 : gp_I s_1 57 1 = 0 := by rw [e_2]; exact q4
  have q_9 : gp_I s_1 57 3 = 0 := by rw [e_2]; exact q5
  have q_10 : gp_I s_1 72 0 = 0 := by rw [e_2]; exact q6
  have q_11 : gp_I s_1 72 2 = 0 := by rw [e_2]; exact q8
  have q_12 : gp_I s_1 72 3 = 0 := by rw [e_2]; exact q9
  have q_13 : gp_I s_1 73 0 = 0 := by rw [e_2]; exact q10
  have q_14 : gp_I s_1 73 1 = 0 := by rw [e_2]; exact q11
  have q_15 : gp_I s_1 73 2 = 0 := by rw [e_2]; exact q12
  have q_16 : gp_I s_1 73 3 = 0 := by rw [e_2]; exact q13
  have q_17 : ∀ k, k < 8 → gp_R s_1 4 k = some 25 := by rw [e_2]; exact q14
  have q_18 : gp_R s_1 51 6 = some 55 := by rw [e_2]; exact q15
  have q_19 : gp_R s_1 51 7 = some 56 := by rw [e_2]; exact q16
  have q_20 : gp_us s_1 = 606895 := by rw [e_2]; exact q17
  have q_21 : gp_sz s_1 = 117 := by rw [e_2]; exact q18
  have q_22 : gp_I s_1 72 1 = 16 := by rw [e_2]; rfl
  refine ⟨by omega, ?_⟩
  intro s_24 e_25
  have hs_26 : xM z s_24 := by rw [e_25]; exact xw73 hs_3 _ _
  have q_27 : gp_I s_24 1 2 = 0 := by rw [e_25]; exact q_4
  have q_28 : gp_I s_24 1 6 = 0 := by rw [e_25]; exact q_5
  have q_29 : gp_I s_24 1 7 = 1 := by rw [e_25]; exact q_6
  have q_30 : gp_I s_24 51 8 = 0 := by rw [e_25]; exact q_7
  have q_31 : gp_I s_24 57 1 = 0 := by rw [e_25]; exact q_8
  have q_32 : gp_I s_24 57 3 = 0 := by rw [e_25]; exact q_9
  have q_33 : gp_I s_24 72 0 = 0 := by rw [e_25]; exact q_10
  have q_34 : gp_I s_24 72 2 = 0 := by rw [e_25]; exact q_11
  have q_35 : gp_I s_24 72 3 = 0 := by rw [e_25]; exact q_12
  have q_36 : gp_I s_24 73 0 = 0 := by rw [e_25]; exact q_13
  have q_37 : gp_I s_24 73 2 = 0 := by rw [e_25]; exact q_15
  have q_38 : gp_I s_24 73 3 = 0 := by rw [e_25]; exact q_16
  have q_39 : ∀ k, k < 8 → gp_R s_24 4 k = some 25 := by rw [e_25]; exact q_17
  have q_40 : gp_R s_24 51 6 = some 55 := by rw [e_25]; exact q_18
  have q_41 : gp_R s_24 51 7 = some 56 := by rw [e_25]; exact q_19
  have q_42 : gp_us s_24 = 606895 := by rw [e_25]; exact q_20
  have q_43 : gp_sz s_24 = 117 := by rw [e_25]; exact q_21
  have q_44 : gp_I s_24 72 1 = 16 := by rw [e_25]; exact q_22
  have q_45 : 0 ≤ gp_I s_24 73 1 ∧ gp_I s_24 73 1 ≤ 20 := by have x_46 : gp_I s_24 73 1 = p2 := (by rw [e_25]; rfl); omega
  exact zx1795_8_l17_0 p2 k _ _ _ _ _ s_24 hs_26 (Nat.lt_succ_self _) (by omega) (by omega) (by omega) (by omega) (by omega) (by omega) (by omega) (by omega) (by omega) (by omega) (by omega) (by omega) (by omega) (by omega) (by omega) (by omega) (by omega) (by omega) q_39 q_40 q_41 q_42 q_43
set_option maxRecDepth 100000 in
/-- GatheredPoints.sheet [(1, 1), (16, 16), (0, 20)] -/
theorem zx2842_39 {z : gH} {L d : Nat} {K : Option gV → gH → Prop} {s : gH} (p2 : Int) (hs : xM z s) (h_p2 : 0 ≤ p2 ∧ p2 ≤ 20) (q0 : gp_I s 1 2 = 0) (q1 : gp_I s 1 6 = 0) (q2 : gp_I s 1 7 = 1) (q3 : gp_I s 51 8 = 0) (q4 : gp_I s 57 1 = 0) (q5 : gp_I s 57 3 = 0) (q6 : gp_I s 72 0 = 0) (q7 : gp_I s 72 1 = 0) (q8 : gp_I s 72 2 = 0) (q9 : gp_I s 72 3 = 0) (q10 : gp_I s 73 0 = 0) (q11 : gp_I s 73 1 = 0) (q12 : gp_I s 73 2 = 0) (q13 : gp_I s 73 3 = 0) (q14 : ∀ k, k < 8 → gp_R s 4 k = some 25) (q15 : gp_R s 51 6 = some 55) (q16 : gp_R s 51 7 = some 56) (q17 : gp_us s = 606895) (q18 : gp_sz s = 117) (k : ∀ (t : gH), xM z t → (gp_I t 1 2 = 0) → (gp_I t 1 6 = 0) → (gp_I t 1 7 = 1) → (gp_I t 51 8 = 0) → (gp_I t 57 1 = 0) → (gp_I t 57 3 = 0) → (gp_I t 72 0 = 0) → (gp_I t 72 1 = 16) → (gp_I t 72 2 = 0) → (gp_I t 72 3 = 0) → (gp_I t 73 0 = 0) → (0 ≤ gp_I t 73 1 ∧ gp_I t 73 1 ≤ 20) → (gp_I t 73 2 = 0) → (gp_I t 73 3 = 0) → (∀ k, k < 8 → gp_R t 4 k = some 25) → (gp_R t 51 6 = some 55) → (gp_R t 51 7 = some 56) → (gp_us t = 606895) → (gp_sz t = 117) → K (some (gp_i 1)) t) : gs_C L (d + 1) 2842 4 [gp_r (some 1), gp_i 1, gp_i 16, gp_i p2] s K := by
  refine s_2842_e _ _ _ ?_
  refine zx1793_9 hs (by omega) (by omega) (by omega) (by omega) (by omega) (by omega) (by omega) (by omega) (⟨_, rfl, ?_⟩)
  refine ⟨fun h_1 => ?_, fun h_1 => ?_⟩
  · refine ⟨fun h_2 => ?_, fun h_2 => ?_⟩
    · exfalso; omega
    · refine ⟨fun h_3 => ?_, fun h_3 => ?_⟩
      · exfalso; omega
      · refine ⟨fun h_4 => ?_, fun h_4 => ?_⟩
        · refine s_2842_39 _ _ _ ?_
          refine ⟨fun h_5 => ?_, fun h_5 => ?_⟩
          · exfalso; omega
          · refine ⟨fun h_6 => ?_, fun h_6 => ?_⟩
            · exfalso; omega
            · refine s_2842_53 _ _ _ ?_
              refine ⟨fun h_7 => ?_, fun h_7 => ?_⟩
              · exfalso; omega
              · refine ⟨fun h_8 => ?_, fun h_8 => ?_⟩
                · exfalso; omega
                · refine s_2842_69 _ _ _ ?_
                  refine ⟨fun h_9 => ?_, fun h_9 => ?_⟩
                  · exfalso; omega
                  · refine s_2842_84 _ _ _ _ _ _ ?_
                    refine zx1795_8 _ hs (by omega) (by omega) (by omega) (by omega) (by omega) (by omega) (by omega) (by omega) (by omega) (by omega) (by omega) (by omega) (by omega) (by omega) (by omega) q14 q15 q16 q17 q18 (fun s_10 hs_11 q_12 q_13 q_14 q_15 q_16 q_17 q_18 q_19 q_20 q_21 q_22 q_23 q_24 q_25 q_26 q_27 q_28 q_29 q_30 => ⟨rfl, ?_⟩)
                    exact k s_10 hs_11 (by omega) (by omega) (by omega) (by omega) (by omega) (by omega) (by omega) (by omega) (by omega) (by omega) (by omega) (by omega) (by omega) (by omega) q_26 q_27 q_28 q_29 q_30
        · exfalso; omega
  · exfalso; omega
set_option maxRecDepth 100000 in
/-- GatheredPoints.sheet [(1, 1), (16, 16), (21, 2147483647)] -/
theorem zx2842_40 {z : gH} {L d : Nat} {K : Option gV → gH → Prop} {s : gH} (p2 : Int) (hs : xM z s) (h_p2 : 21 ≤ p2 ∧ p2 ≤ 2147483647) (q0 : gp_I s 1 2 = 0) (q1 : gp_I s 1 6 = 0) (q2 : gp_I s 1 7 = 1) (q3 : gp_I s 51 8 = 0) (q4 : gp_I s 57 1 = 0) (q5 : gp_I s 57 3 = 0) (q6 : gp_I s 72 0 = 0) (q7 : gp_I s 72 1 = 0) (q8 : gp_I s 72 2 = 0) (q9 : gp_I s 72 3 = 0) (q10 : gp_I s 73 0 = 0) (q11 : gp_I s 73 1 = 0) (q12 : gp_I s 73 2 = 0) (q13 : gp_I s 73 3 = 0) (q14 : ∀ k, k < 8 → gp_R s 4 k = some 25) (q15 : gp_R s 51 6 = some 55) (q16 : gp_R s 51 7 = some 56) (q17 : gp_us s = 606895) (q18 : gp_sz s = 117) (k : ∀ (t : gH), xM z t → (gp_I t 1 2 = 0) → (gp_I t 1 6 = 0) → (gp_I t 1 7 = 1) → ((-2147483648) ≤ gp_I t 2 1 ∧ gp_I t 2 1 ≤ 2147483647) → (gp_I t 51 8 = 0) → (gp_I t 57 1 = 0) → (gp_I t 57 3 = 0) → (gp_I t 72 0 = 0) → (gp_I t 72 1 = 0) → (gp_I t 72 2 = 0) → (gp_I t 72 3 = 0) → (gp_I t 73 0 = 0) → (gp_I t 73 1 = 0) → (gp_I t 73 2 = 0) → (gp_I t 73 3 = 0) → (∀ k, k < 8 → gp_R t 4 k = some 25) → (gp_R t 51 6 = some 55) → (gp_R t 51 7 = some 56) → (gp_us t = 606895) → (gp_sz t = 117) → K (some (gp_i (-1000000001))) t) : gs_C L (d + 1) 2842 4 [gp_r (some 1), gp_i 1, gp_i 16, gp_i p2] s K := by
  refine s_2842_e _ _ _ ?_
  refine zx1793_9 hs (by omega) (by omega) (by omega) (by omega) (by omega) (by omega) (by omega) (by omega) (⟨_, rfl, ?_⟩)
  refine ⟨fun h_1 => ?_, fun h_1 => ?_⟩
  · refine ⟨fun h_2 => ?_, fun h_2 => ?_⟩
    · exfalso; omega
    · refine ⟨fun h_3 => ?_, fun h_3 => ?_⟩
      · exfalso; omega
      · refine ⟨fun h_4 => ?_, fun h_4 => ?_⟩
        · refine s_2842_39 _ _ _ ?_
          refine ⟨fun h_5 => ?_, fun h_5 => ?_⟩
          · exfalso; omega
          · refine ⟨fun h_6 => ?_, fun h_6 => ?_⟩
            · exfalso; omega
            · refine s_2842_53 _ _ _ ?_
              refine ⟨fun h_7 => ?_, fun h_7 => ?_⟩
              · exfalso; omega
              · refine ⟨fun h_8 => ?_, fun h_8 => ?_⟩
                · refine zx2855_12 hs (by omega) (by omega) (by omega) (by omega) (by omega) (by omega) (by omega) (by omega) (by omega) (by omega) (by omega) (by omega) (by omega) (by omega) q14 q15 q16 q17 q18 (fun s_9 hs_10 q_11 q_12 q_13 q_14 q_15 q_16 q_17 q_18 q_19 q_20 q_21 q_22 q_23 q_24 q_25 q_26 q_27 q_28 q_29 q_30 => ⟨_, rfl, ?_⟩)
                  exact k s_9 hs_10 (by omega) (by omega) (by omega) (by omega) (by omega) (by omega) (by omega) (by omega) (by omega) (by omega) (by omega) (by omega) (by omega) (by omega) (by omega) q_26 q_27 q_28 q_29 q_30
                · exfalso; omega
        · exfalso; omega
  · exfalso; omega
set_option maxRecDepth 100000 in
/-- GatheredPoints.sheet [(1, 1), (32, 32), (-2147483648, -1)] -/
theorem zx2842_41 {z : gH} {L d : Nat} {K : Option gV → gH → Prop} {s : gH} (p2 : Int) (hs : xM z s) (h_p2 : (-2147483648) ≤ p2 ∧ p2 ≤ (-1)) (q0 : gp_I s 1 2 = 0) (q1 : gp_I s 1 6 = 0) (q2 : gp_I s 1 7 = 1) (q3 : gp_I s 51 8 = 0) (q4 : gp_I s 57 1 = 0) (q5 : gp_I s 57 3 = 0) (q6 : gp_I s 72 0 = 0) (q7 : gp_I s 72 1 = 0) (q8 : gp_I s 72 2 = 0) (q9 : gp_I s 72 3 = 0) (q10 : gp_I s 73 0 = 0) (q11 : gp_I s 73 1 = 0) (q12 : gp_I s 73 2 = 0) (q13 : gp_I s 73 3 = 0) (q14 : ∀ k, k < 8 → gp_R s 4 k = some 25) (q15 : gp_R s 51 6 = some 55) (q16 : gp_R s 51 7 = some 56) (q17 : gp_us s = 606895) (q18 : gp_sz s = 117) (k : ∀ (t : gH), xM z t → (gp_I t 1 2 = 0) → (gp_I t 1 6 = 0) → (gp_I t 1 7 = 1) → ((-2147483648) ≤ gp_I t 2 3 ∧ gp_I t 2 3 ≤ 2147483647) → (gp_I t 51 8 = 0) → (gp_I t 57 1 = 0) → (gp_I t 57 3 = 0) → (gp_I t 72 0 = 0) → (gp_I t 72 1 = 0) → (gp_I t 72 2 = 0) → (gp_I t 72 3 = 0) → (gp_I t 73 0 = 0) → (gp_I t 73 1 = 0) → (gp_I t 73 2 = 0) → (gp_I t 73 3 = 0) → (∀ k, k < 8 → gp_R t 4 k = some 25) → (gp_R t 51 6 = some 55) → (gp_R t 51 7 = some 56) → (gp_us t = 606895) → (gp_sz t = 117) → K (some (gp_i (-1000000003))) t) : gs_C L (d + 1) 2842 4 [gp_r (some 1), gp_i 1, gp_i 32, gp_i p2] s K := by
  refine s_2842_e _ _ _ ?_
  refine zx1793_9 hs (by omega) (by omega) (by omega) (by omega) (by omega) (by omega) (by omega) (by omega) (⟨_, rfl, ?_⟩)
  refine ⟨fun h_1 => ?_, fun h_1 => ?_⟩
  · refine ⟨fun h_2 => ?_, fun h_2 => ?_⟩
    · exfalso; omega
    · refine ⟨fun h_3 => ?_, fun h_3 => ?_⟩
      · exfalso; omega
      · refine ⟨fun h_4 => ?_, fun h_4 => ?_⟩
        · exfalso; omega
        · refine ⟨fun h_5 => ?_, fun h_5 => ?_⟩
          · refine s_2842_39 _ _ _ ?_
            refine ⟨fun h_6 => ?_, fun h_6 => ?_⟩
            · exfalso; omega
            · refine ⟨fun h_7 => ?_, fun h_7 => ?_⟩
              · refine zx2855_13 hs (by omega) (by omega) (by omega) (by omega) (by omega) (by omega) (by omega) (by omega) (by omega) (by omega) (by omega) (by omega) (by omega) (by omega) q14 q15 q16 q17 q18 (fun s_8 hs_9 q_10 q_11 q_12 q_13 q_14 q_15 q_16 q_17 q_18 q_19 q_20 q_21 q_22 q_23 q_24 q_25 q_26 q_27 q_28 q_29 => ⟨_, rfl, ?_⟩)
                exact k s_8 hs_9 (by omega) (by omega) (by omega) (by omega) (by omega) (by omega) (by omega) (by omega) (by omega) (by omega) (by omega) (by omega) (by omega) (by omega) (by omega) q_25 q_26 q_27 q_28 q_29
              · exfalso; omega
          · exfalso; omega
  · exfalso; omega
set_option maxRecDepth 100000 in
/-- Sheets.lay, the loop at 17 -/
theorem zx1795_9_l17_0 {z : gH} {L d : Nat} {K : Option gV → gH → Prop} (p2 : Int)  (k : ∀ (t : gH), xM z t → (gp_I t 1 2 = 0) → (gp_I t 1 6 = 0) → (gp_I t 1 7 = 1) → (gp_I t 51 8 = 0) → (gp_I t 57 1 = 0) → (gp_I t 57 3 = 0) → (gp_I t 72 0 = 0) → (gp_I t 72 1 = 32) → (gp_I t 72 2 = 0) → (gp_I t 72 3 = 0) → (gp_I t 73 0 = 0) → (0 ≤ gp_I t 73 1 ∧ gp_I t 73 1 ≤ 20) → (gp_I t 73 2 = 0) → (gp_I t 73 3 = 0) → (∀ k, k < 8 → gp_R t 4 k = some 25) → (gp_R t 51 6 = some 55) → (gp_R t 51 7 = some 56) → (gp_us t = 606895) → (gp_sz t = 117) → K none t)  : ∀ (n : Nat) (v1 : Int) (v2 : Int) (v3 : Int) (v4 : Int) (s : gH), xM z s → (21 - v4).toNat < n → (v1 = 1) → (v2 = 32) → (0 ≤ v3 ∧ v3 ≤ 20) → (0 ≤ v4 ∧ v4 ≤ 20) → (gp_I s 1 2 = 0) → (gp_I s 1 6 = 0) → (gp_I s 1 7 = 1) → (gp_I s 51 8 = 0) → (gp_I s 57 1 = 0) → (gp_I s 57 3 = 0) → (gp_I s 72 0 = 0) → (gp_I s 72 1 = 32) → (gp_I s 72 2 = 0) → (gp_I s 72 3 = 0) → (gp_I s 73 0 = 0) → (0 ≤ gp_I s 73 1 ∧ gp_I s 73 1 ≤ 20) → (gp_I s 73 2 = 0) → (gp_I s 73 3 = 0) → (∀ k, k < 8 → gp_R s 4 k = some 25) → (gp_R s 51 6 = some 55) → (gp_R s 51 7 = some 56) → (gp_us s = 606895) → (gp_sz s = 117) → gs_E L d 1795 17 [gp_r (some 66), gp_i v1, gp_i v2, gp_i v3, gp_i v4] [] s K := by
  intro n
  induction n with
  | zero => intro v1 v2 v3 v4 s hs hm i0 i1 i2 i3 i4 i5 i6 i7 i8 i9 i10 i11 i12 i13 i14 i15 i16 i17 i18 i19 i20 i21 i22; exact absurd hm (Nat.not_lt_zero _)
  | succ n ih =>
    intro v1 v2 v3 v4 s hs hm i0 i1 i2 i3 i4 i5 i6 i7 i8 i9 i10 i11 i12 i13 i14 i15 i16 i17 i18 i19 i20 i21 i22
    subst i0
    subst i1
    refine s_1795_17 _ _ _ _ ?_
    refine ⟨fun h_1 => ?_, fun h_1 => ?_⟩
    · refine ⟨by omega, ?_⟩
      try rw [show gp_R (gp_mk L s) 67 (1 : Int).toNat = some 69 from rfl]
      refine ⟨69, rfl, ?_⟩
      refine ⟨⟨rfl, by show 0 ≤ v4 ∧ v4 < 20; omega⟩, ?_⟩
      intro s_2 e_3
      have hs_4 : xM z s_2 := by rw [e_3]; exact xw69 hs _ _
      have q_5 : gp_I s_2 1 2 = 0 := by rw [e_3]; exact i4
      have q_6 : gp_I s_2 1 6 = 0 := by rw [e_3]; exact i5
      have q_7 : gp_I s_2 1 7 = 1 := by rw [e_3]; exact i6
      have q_8 : gp_I s_2 51 8 = 0 := by rw [e_3]; exact i7
      have q_9 : gp_I s_2 57 1 = 0 := by rw [e_3]; exact i8
      have q_10 : gp_I s_2 57 3 = 0 := by rw [e_3]; exact i9
      have q_11 : gp_I s_2 72 0 = 0 := by rw [e_3]; exact i10
      have q_12 : gp_I s_2 72 1 = 32 := by rw [e_3]; exact i11
      have q_13 : gp_I s_2 72 2 = 0 := by rw [e_3]; exact i12
      have q_14 : gp_I s_2 72 3 = 0 := by rw [e_3]; exact i13
      have q_15 : gp_I s_2 73 0 = 0 := by rw [e_3]; exact i14
      have q_16 : 0 ≤ gp_I s_2 73 1 ∧ gp_I s_2 73 1 ≤ 20 := by rw [e_3]; exact i15
      have q_17 : gp_I s_2 73 2 = 0 := by rw [e_3]; exact i16
      have q_18 : gp_I s_2 73 3 = 0 := by rw [e_3]; exact i17
      have q_19 : ∀ k, k < 8 → gp_R s_2 4 k = some 25 := by rw [e_3]; exact i18
      have q_20 : gp_R s_2 51 6 = some 55 := by rw [e_3]; exact i19
      have q_21 : gp_R s_2 51 7 = some 56 := by rw [e_3]; exact i20
      have q_22 : gp_us s_2 = 606895 := by rw [e_3]; exact i21
      have q_23 : gp_sz s_2 = 117 := by rw [e_3]; exact i22
      have w_24 := gz_w (v4 + 1)
      exact ih _ _ _ _ s_2 hs_4 (by omega) (by omega) (by omega) (by omega) (by omega) (by omega) (by omega) (by omega) (by omega) (by omega) (by omega) (by omega) (by omega) (by omega) (by omega) (by omega) (by omega) (by omega) (by omega) q_19 q_20 q_21 q_22 q_23
    · have e_25 : v4 = 20 := by omega
      subst e_25
      exact k s hs (by omega) (by omega) (by omega) (by omega) (by omega) (by omega) (by omega) (by omega) (by omega) (by omega) (by omega) (by omega) (by omega) (by omega) i18 i19 i20 i21 i22
set_option maxRecDepth 100000 in
/-- Sheets.lay [(1, 1), (32, 32), (0, 20)] -/
theorem zx1795_9 {z : gH} {L d : Nat} {K : Option gV → gH → Prop} {s : gH} (p2 : Int) (hs : xM z s) (h_p2 : 0 ≤ p2 ∧ p2 ≤ 20) (q0 : gp_I s 1 2 = 0) (q1 : gp_I s 1 6 = 0) (q2 : gp_I s 1 7 = 1) (q3 : gp_I s 51 8 = 0) (q4 : gp_I s 57 1 = 0) (q5 : gp_I s 57 3 = 0) (q6 : gp_I s 72 0 = 0) (q7 : gp_I s 72 1 = 0) (q8 : gp_I s 72 2 = 0) (q9 : gp_I s 72 3 = 0) (q10 : gp_I s 73 0 = 0) (q11 : gp_I s 73 1 = 0) (q12 : gp_I s 73 2 = 0) (q13 : gp_I s 73 3 = 0) (q14 : ∀ k, k < 8 → gp_R s 4 k = some 25) (q15 : gp_R s 51 6 = some 55) (q16 : gp_R s 51 7 = some 56) (q17 : gp_us s = 606895) (q18 : gp_sz s = 117) (k : ∀ (t : gH), xM z t → (gp_I t 1 2 = 0) → (gp_I t 1 6 = 0) → (gp_I t 1 7 = 1) → (gp_I t 51 8 = 0) → (gp_I t 57 1 = 0) → (gp_I t 57 3 = 0) → (gp_I t 72 0 = 0) → (gp_I t 72 1 = 32) → (gp_I t 72 2 = 0) → (gp_I t 72 3 = 0) → (gp_I t 73 0 = 0) → (0 ≤ gp_I t 73 1 ∧ gp_I t 73 1 ≤ 20) → (gp_I t 73 2 = 0) → (gp_I t 73 3 = 0) → (∀ k, k < 8 → gp_R t 4 k = some 25) → (gp_R t 51 6 = some 55) → (gp_R t 51 7 = some 56) → (gp_us t = 606895) → (gp_sz t = 117) → K none t) : gs_C L d 1795 5 [gp_r (some 66), gp_i 1, gp_i 32, gp_i p2] s K := by
  refine s_1795_e _ _ _ ?_
  refine ⟨by omega, ?_⟩
  intro s_1 e_2
  have hs_3 : xM z s_1 := by rw [e_2]; exact xw72 hs _ _
  have q_4 : gp_I s_1 1 2 = 0 := by rw [e_2]; exact q0
  have q_5 : gp_I s_1 1 6 = 0 := by rw [e_2]; exact q1
  have q_6 : gp_I s_1 1 7 = 1 := by rw [e_2]; exact q2
  have q_7 : gp_I s_1 51 8 = 0 := by rw [e_2]; exact q3
  have q_8 : gp_I s_1 57 1 = 0 := by rw [e_2]; exact q4
  have q_9 : gp_I s_1 57 3 = 0 := by rw [e_2]; exact q5
  have q_10 : gp_I s_1 72 0 = 0 := by rw [e_2]; exact q6
  have q_11 : gp_I s_1 72 2 = 0 := by rw [e_2]; exact q8
  have q_12 : gp_I s_1 72 3 = 0 := by rw [e_2]; exact q9
  have q_13 : gp_I s_1 73 0 = 0 := by rw [e_2]; exact q10
  have q_14 : gp_I s_1 73 1 = 0 := by rw [e_2]; exact q11
  have q_15 : gp_I s_1 73 2 = 0 := by rw [e_2]; exact q12
  have q_16 : gp_I s_1 73 3 = 0 := by rw [e_2]; exact q13
  have q_17 : ∀ k, k < 8 → gp_R s_1 4 k = some 25 := by rw [e_2]; exact q14
  have q_18 : gp_R s_1 51 6 = some 55 := by rw [e_2]; exact q15
  have q_19 : gp_R s_1 51 7 = some 56 := by rw [e_2]; exact q16
  have q_20 : gp_us s_1 = 606895 := by rw [e_2]; exact q17
  have q_21 : gp_sz s_1 = 117 := by rw [e_2]; exact q18
  have q_22 : gp_I s_1 72 1 = 32 := by rw [e_2]; rfl
  refine ⟨by omega, ?_⟩
  intro s_24 e_25
  have hs_26 : xM z s_24 := by rw [e_25]; exact xw73 hs_3 _ _
  have q_27 : gp_I s_24 1 2 = 0 := by rw [e_25]; exact q_4
  have q_28 : gp_I s_24 1 6 = 0 := by rw [e_25]; exact q_5
  have q_29 : gp_I s_24 1 7 = 1 := by rw [e_25]; exact q_6
  have q_30 : gp_I s_24 51 8 = 0 := by rw [e_25]; exact q_7
  have q_31 : gp_I s_24 57 1 = 0 := by rw [e_25]; exact q_8
  have q_32 : gp_I s_24 57 3 = 0 := by rw [e_25]; exact q_9
  have q_33 : gp_I s_24 72 0 = 0 := by rw [e_25]; exact q_10
  have q_34 : gp_I s_24 72 2 = 0 := by rw [e_25]; exact q_11
  have q_35 : gp_I s_24 72 3 = 0 := by rw [e_25]; exact q_12
  have q_36 : gp_I s_24 73 0 = 0 := by rw [e_25]; exact q_13
  have q_37 : gp_I s_24 73 2 = 0 := by rw [e_25]; exact q_15
  have q_38 : gp_I s_24 73 3 = 0 := by rw [e_25]; exact q_16
  have q_39 : ∀ k, k < 8 → gp_R s_24 4 k = some 25 := by rw [e_25]; exact q_17
  have q_40 : gp_R s_24 51 6 = some 55 := by rw [e_25]; exact q_18
  have q_41 : gp_R s_24 51 7 = some 56 := by rw [e_25]; exact q_19
  have q_42 : gp_us s_24 = 606895 := by rw [e_25]; exact q_20
  have q_43 : gp_sz s_24 = 117 := by rw [e_25]; exact q_21
  have q_44 : gp_I s_24 72 1 = 32 := by rw [e_25]; exact q_22
  have q_45 : 0 ≤ gp_I s_24 73 1 ∧ gp_I s_24 73 1 ≤ 20 := by have x_46 : gp_I s_24 73 1 = p2 := (by rw [e_25]; rfl); omega
  exact zx1795_9_l17_0 p2 k _ _ _ _ _ s_24 hs_26 (Nat.lt_succ_self _) (by omega) (by omega) (by omega) (by omega) (by omega) (by omega) (by omega) (by omega) (by omega) (by omega) (by omega) (by omega) (by omega) (by omega) (by omega) (by omega) (by omega) (by omega) q_39 q_40 q_41 q_42 q_43
set_option maxRecDepth 100000 in
/-- GatheredPoints.sheet [(1, 1), (32, 32), (0, 20)] -/
theorem zx2842_42 {z : gH} {L d : Nat} {K : Option gV → gH → Prop} {s : gH} (p2 : Int) (hs : xM z s) (h_p2 : 0 ≤ p2 ∧ p2 ≤ 20) (q0 : gp_I s 1 2 = 0) (q1 : gp_I s 1 6 = 0) (q2 : gp_I s 1 7 = 1) (q3 : gp_I s 51 8 = 0) (q4 : gp_I s 57 1 = 0) (q5 : gp_I s 57 3 = 0) (q6 : gp_I s 72 0 = 0) (q7 : gp_I s 72 1 = 0) (q8 : gp_I s 72 2 = 0) (q9 : gp_I s 72 3 = 0) (q10 : gp_I s 73 0 = 0) (q11 : gp_I s 73 1 = 0) (q12 : gp_I s 73 2 = 0) (q13 : gp_I s 73 3 = 0) (q14 : ∀ k, k < 8 → gp_R s 4 k = some 25) (q15 : gp_R s 51 6 = some 55) (q16 : gp_R s 51 7 = some 56) (q17 : gp_us s = 606895) (q18 : gp_sz s = 117) (k : ∀ (t : gH), xM z t → (gp_I t 1 2 = 0) → (gp_I t 1 6 = 0) → (gp_I t 1 7 = 1) → (gp_I t 51 8 = 0) → (gp_I t 57 1 = 0) → (gp_I t 57 3 = 0) → (gp_I t 72 0 = 0) → (gp_I t 72 1 = 32) → (gp_I t 72 2 = 0) → (gp_I t 72 3 = 0) → (gp_I t 73 0 = 0) → (0 ≤ gp_I t 73 1 ∧ gp_I t 73 1 ≤ 20) → (gp_I t 73 2 = 0) → (gp_I t 73 3 = 0) → (∀ k, k < 8 → gp_R t 4 k = some 25) → (gp_R t 51 6 = some 55) → (gp_R t 51 7 = some 56) → (gp_us t = 606895) → (gp_sz t = 117) → K (some (gp_i 1)) t) : gs_C L (d + 1) 2842 4 [gp_r (some 1), gp_i 1, gp_i 32, gp_i p2] s K := by
  refine s_2842_e _ _ _ ?_
  refine zx1793_9 hs (by omega) (by omega) (by omega) (by omega) (by omega) (by omega) (by omega) (by omega) (⟨_, rfl, ?_⟩)
  refine ⟨fun h_1 => ?_, fun h_1 => ?_⟩
  · refine ⟨fun h_2 => ?_, fun h_2 => ?_⟩
    · exfalso; omega
    · refine ⟨fun h_3 => ?_, fun h_3 => ?_⟩
      · exfalso; omega
      · refine ⟨fun h_4 => ?_, fun h_4 => ?_⟩
        · exfalso; omega
        · refine ⟨fun h_5 => ?_, fun h_5 => ?_⟩
          · refine s_2842_39 _ _ _ ?_
            refine ⟨fun h_6 => ?_, fun h_6 => ?_⟩
            · exfalso; omega
            · refine ⟨fun h_7 => ?_, fun h_7 => ?_⟩
              · exfalso; omega
              · refine s_2842_53 _ _ _ ?_
                refine ⟨fun h_8 => ?_, fun h_8 => ?_⟩
                · exfalso; omega
                · refine ⟨fun h_9 => ?_, fun h_9 => ?_⟩
                  · exfalso; omega
                  · refine s_2842_69 _ _ _ ?_
                    refine ⟨fun h_10 => ?_, fun h_10 => ?_⟩
                    · exfalso; omega
                    · refine s_2842_84 _ _ _ _ _ _ ?_
                      refine zx1795_9 _ hs (by omega) (by omega) (by omega) (by omega) (by omega) (by omega) (by omega) (by omega) (by omega) (by omega) (by omega) (by omega) (by omega) (by omega) (by omega) q14 q15 q16 q17 q18 (fun s_11 hs_12 q_13 q_14 q_15 q_16 q_17 q_18 q_19 q_20 q_21 q_22 q_23 q_24 q_25 q_26 q_27 q_28 q_29 q_30 q_31 => ⟨rfl, ?_⟩)
                      exact k s_11 hs_12 (by omega) (by omega) (by omega) (by omega) (by omega) (by omega) (by omega) (by omega) (by omega) (by omega) (by omega) (by omega) (by omega) (by omega) q_27 q_28 q_29 q_30 q_31
          · exfalso; omega
  · exfalso; omega
set_option maxRecDepth 100000 in
/-- GatheredPoints.sheet [(1, 1), (32, 32), (21, 2147483647)] -/
theorem zx2842_43 {z : gH} {L d : Nat} {K : Option gV → gH → Prop} {s : gH} (p2 : Int) (hs : xM z s) (h_p2 : 21 ≤ p2 ∧ p2 ≤ 2147483647) (q0 : gp_I s 1 2 = 0) (q1 : gp_I s 1 6 = 0) (q2 : gp_I s 1 7 = 1) (q3 : gp_I s 51 8 = 0) (q4 : gp_I s 57 1 = 0) (q5 : gp_I s 57 3 = 0) (q6 : gp_I s 72 0 = 0) (q7 : gp_I s 72 1 = 0) (q8 : gp_I s 72 2 = 0) (q9 : gp_I s 72 3 = 0) (q10 : gp_I s 73 0 = 0) (q11 : gp_I s 73 1 = 0) (q12 : gp_I s 73 2 = 0) (q13 : gp_I s 73 3 = 0) (q14 : ∀ k, k < 8 → gp_R s 4 k = some 25) (q15 : gp_R s 51 6 = some 55) (q16 : gp_R s 51 7 = some 56) (q17 : gp_us s = 606895) (q18 : gp_sz s = 117) (k : ∀ (t : gH), xM z t → (gp_I t 1 2 = 0) → (gp_I t 1 6 = 0) → (gp_I t 1 7 = 1) → ((-2147483648) ≤ gp_I t 2 1 ∧ gp_I t 2 1 ≤ 2147483647) → (gp_I t 51 8 = 0) → (gp_I t 57 1 = 0) → (gp_I t 57 3 = 0) → (gp_I t 72 0 = 0) → (gp_I t 72 1 = 0) → (gp_I t 72 2 = 0) → (gp_I t 72 3 = 0) → (gp_I t 73 0 = 0) → (gp_I t 73 1 = 0) → (gp_I t 73 2 = 0) → (gp_I t 73 3 = 0) → (∀ k, k < 8 → gp_R t 4 k = some 25) → (gp_R t 51 6 = some 55) → (gp_R t 51 7 = some 56) → (gp_us t = 606895) → (gp_sz t = 117) → K (some (gp_i (-1000000001))) t) : gs_C L (d + 1) 2842 4 [gp_r (some 1), gp_i 1, gp_i 32, gp_i p2] s K := by
  refine s_2842_e _ _ _ ?_
  refine zx1793_9 hs (by omega) (by omega) (by omega) (by omega) (by omega) (by omega) (by omega) (by omega) (⟨_, rfl, ?_⟩)
  refine ⟨fun h_1 => ?_, fun h_1 => ?_⟩
  · refine ⟨fun h_2 => ?_, fun h_2 => ?_⟩
    · exfalso; omega
    · refine ⟨fun h_3 => ?_, fun h_3 => ?_⟩
      · exfalso; omega
      · refine ⟨fun h_4 => ?_, fun h_4 => ?_⟩
        · exfalso; omega
        · refine ⟨fun h_5 => ?_, fun h_5 => ?_⟩
          · refine s_2842_39 _ _ _ ?_
            refine ⟨fun h_6 => ?_, fun h_6 => ?_⟩
            · exfalso; omega
            · refine ⟨fun h_7 => ?_, fun h_7 => ?_⟩
              · exfalso; omega
              · refine s_2842_53 _ _ _ ?_
                refine ⟨fun h_8 => ?_, fun h_8 => ?_⟩
                · exfalso; omega
                · refine ⟨fun h_9 => ?_, fun h_9 => ?_⟩
                  · refine zx2855_12 hs (by omega) (by omega) (by omega) (by omega) (by omega) (by omega) (by omega) (by omega) (by omega) (by omega) (by omega) (by omega) (by omega) (by omega) q14 q15 q16 q17 q18 (fun s_10 hs_11 q_12 q_13 q_14 q_15 q_16 q_17 q_18 q_19 q_20 q_21 q_22 q_23 q_24 q_25 q_26 q_27 q_28 q_29 q_30 q_31 => ⟨_, rfl, ?_⟩)
                    exact k s_10 hs_11 (by omega) (by omega) (by omega) (by omega) (by omega) (by omega) (by omega) (by omega) (by omega) (by omega) (by omega) (by omega) (by omega) (by omega) (by omega) q_27 q_28 q_29 q_30 q_31
                  · exfalso; omega
          · exfalso; omega
  · exfalso; omega
set_option maxRecDepth 100000 in
/-- GatheredPoints.sheet [(2, 2), (8, 8), (-2147483648, -1)] -/
theorem zx2842_44 {z : gH} {L d : Nat} {K : Option gV → gH → Prop} {s : gH} (p2 : Int) (hs : xM z s) (h_p2 : (-2147483648) ≤ p2 ∧ p2 ≤ (-1)) (q0 : gp_I s 1 2 = 0) (q1 : gp_I s 1 6 = 0) (q2 : gp_I s 1 7 = 1) (q3 : gp_I s 51 8 = 0) (q4 : gp_I s 57 1 = 0) (q5 : gp_I s 57 3 = 0) (q6 : gp_I s 72 0 = 0) (q7 : gp_I s 72 1 = 0) (q8 : gp_I s 72 2 = 0) (q9 : gp_I s 72 3 = 0) (q10 : gp_I s 73 0 = 0) (q11 : gp_I s 73 1 = 0) (q12 : gp_I s 73 2 = 0) (q13 : gp_I s 73 3 = 0) (q14 : ∀ k, k < 8 → gp_R s 4 k = some 25) (q15 : gp_R s 51 6 = some 55) (q16 : gp_R s 51 7 = some 56) (q17 : gp_us s = 606895) (q18 : gp_sz s = 117) (k : ∀ (t : gH), xM z t → (gp_I t 1 2 = 0) → (gp_I t 1 6 = 0) → (gp_I t 1 7 = 1) → ((-2147483648) ≤ gp_I t 2 3 ∧ gp_I t 2 3 ≤ 2147483647) → (gp_I t 51 8 = 0) → (gp_I t 57 1 = 0) → (gp_I t 57 3 = 0) → (gp_I t 72 0 = 0) → (gp_I t 72 1 = 0) → (gp_I t 72 2 = 0) → (gp_I t 72 3 = 0) → (gp_I t 73 0 = 0) → (gp_I t 73 1 = 0) → (gp_I t 73 2 = 0) → (gp_I t 73 3 = 0) → (∀ k, k < 8 → gp_R t 4 k = some 25) → (gp_R t 51 6 = some 55) → (gp_R t 51 7 = some 56) → (gp_us t = 606895) → (gp_sz t = 117) → K (some (gp_i (-1000000003))) t) : gs_C L (d + 1) 2842 4 [gp_r (some 1), gp_i 2, gp_i 8, gp_i p2] s K := by
  refine s_2842_e _ _ _ ?_
  refine zx1793_10 hs (by omega) (by omega) (by omega) (by omega) (by omega) (by omega) (by omega) (by omega) (⟨_, rfl, ?_⟩)
  refine ⟨fun h_1 => ?_, fun h_1 => ?_⟩
  · refine ⟨fun h_2 => ?_, fun h_2 => ?_⟩
    · exfalso; omega
    · refine ⟨fun h_3 => ?_, fun h_3 => ?_⟩
      · refine s_2842_39 _ _ _ ?_
        refine ⟨fun h_4 => ?_, fun h_4 => ?_⟩
        · exfalso; omega
        · refine ⟨fun h_5 => ?_, fun h_5 => ?_⟩
          · refine zx2855_13 hs (by omega) (by omega) (by omega) (by omega) (by omega) (by omega) (by omega) (by omega) (by omega) (by omega) (by omega) (by omega) (by omega) (by omega) q14 q15 q16 q17 q18 (fun s_6 hs_7 q_8 q_9 q_10 q_11 q_12 q_13 q_14 q_15 q_16 q_17 q_18 q_19 q_20 q_21 q_22 q_23 q_24 q_25 q_26 q_27 => ⟨_, rfl, ?_⟩)
            exact k s_6 hs_7 (by omega) (by omega) (by omega) (by omega) (by omega) (by omega) (by omega) (by omega) (by omega) (by omega) (by omega) (by omega) (by omega) (by omega) (by omega) q_23 q_24 q_25 q_26 q_27
          · exfalso; omega
      · exfalso; omega
  · exfalso; omega
set_option maxRecDepth 100000 in
/-- Sheets.lay, the loop at 17 -/
theorem zx1795_10_l17_0 {z : gH} {L d : Nat} {K : Option gV → gH → Prop} (p2 : Int)  (k : ∀ (t : gH), xM z t → (gp_I t 1 2 = 0) → (gp_I t 1 6 = 0) → (gp_I t 1 7 = 1) → (gp_I t 51 8 = 0) → (gp_I t 57 1 = 0) → (gp_I t 57 3 = 0) → (gp_I t 72 0 = 0) → (gp_I t 72 1 = 0) → (gp_I t 72 2 = 8) → (gp_I t 72 3 = 0) → (gp_I t 73 0 = 0) → (gp_I t 73 1 = 0) → (0 ≤ gp_I t 73 2 ∧ gp_I t 73 2 ≤ 20) → (gp_I t 73 3 = 0) → (∀ k, k < 8 → gp_R t 4 k = some 25) → (gp_R t 51 6 = some 55) → (gp_R t 51 7 = some 56) → (gp_us t = 606895) → (gp_sz t = 117) → K none t)  : ∀ (n : Nat) (v1 : Int) (v2 : Int) (v3 : Int) (v4 : Int) (s : gH), xM z s → (21 - v4).toNat < n → (v1 = 2) → (v2 = 8) → (0 ≤ v3 ∧ v3 ≤ 20) → (0 ≤ v4 ∧ v4 ≤ 20) → (gp_I s 1 2 = 0) → (gp_I s 1 6 = 0) → (gp_I s 1 7 = 1) → (gp_I s 51 8 = 0) → (gp_I s 57 1 = 0) → (gp_I s 57 3 = 0) → (gp_I s 72 0 = 0) → (gp_I s 72 1 = 0) → (gp_I s 72 2 = 8) → (gp_I s 72 3 = 0) → (gp_I s 73 0 = 0) → (gp_I s 73 1 = 0) → (0 ≤ gp_I s 73 2 ∧ gp_I s 73 2 ≤ 20) → (gp_I s 73 3 = 0) → (∀ k, k < 8 → gp_R s 4 k = some 25) → (gp_R s 51 6 = some 55) → (gp_R s 51 7 = some 56) → (gp_us s = 606895) → (gp_sz s = 117) → gs_E L d 1795 17 [gp_r (some 66), gp_i v1, gp_i v2, gp_i v3, gp_i v4] [] s K := by
  intro n
  induction n with
  | zero => intro v1 v2 v3 v4 s hs hm i0 i1 i2 i3 i4 i5 i6 i7 i8 i9 i10 i11 i12 i13 i14 i15 i16 i17 i18 i19 i20 i21 i22; exact absurd hm (Nat.not_lt_zero _)
  | succ n ih =>
    intro v1 v2 v3 v4 s hs hm i0 i1 i2 i3 i4 i5 i6 i7 i8 i9 i10 i11 i12 i13 i14 i15 i16 i17 i18 i19 i20 i21 i22
    subst i0
    subst i1
    refine s_1795_17 _ _ _ _ ?_
    refine ⟨fun h_1 => ?_, fun h_1 => ?_⟩
    · refine ⟨by omega, ?_⟩
      try rw [show gp_R (gp_mk L s) 67 (2 : Int).toNat = some 70 from rfl]
      refine ⟨70, rfl, ?_⟩
      refine ⟨⟨rfl, by show 0 ≤ v4 ∧ v4 < 20; omega⟩, ?_⟩
      intro s_2 e_3
      have hs_4 : xM z s_2 := by rw [e_3]; exact xw70 hs _ _
      have q_5 : gp_I s_2 1 2 = 0 := by rw [e_3]; exact i4
      have q_6 : gp_I s_2 1 6 = 0 := by rw [e_3]; exact i5
      have q_7 : gp_I s_2 1 7 = 1 := by rw [e_3]; exact i6
      have q_8 : gp_I s_2 51 8 = 0 := by rw [e_3]; exact i7
      have q_9 : gp_I s_2 57 1 = 0 := by rw [e_3]; exact i8
      have q_10 : gp_I s_2 57 3 = 0 := by rw [e_3]; exact i9
      have q_11 : gp_I s_2 72 0 = 0 := by rw [e_3]; exact i10
      have q_12 : gp_I s_2 72 1 = 0 := by rw [e_3]; exact i11
      have q_13 : gp_I s_2 72 2 = 8 := by rw [e_3]; exact i12
      have q_14 : gp_I s_2 72 3 = 0 := by rw [e_3]; exact i13
      have q_15 : gp_I s_2 73 0 = 0 := by rw [e_3]; exact i14
      have q_16 : gp_I s_2 73 1 = 0 := by rw [e_3]; exact i15
      have q_17 : 0 ≤ gp_I s_2 73 2 ∧ gp_I s_2 73 2 ≤ 20 := by rw [e_3]; exact i16
      have q_18 : gp_I s_2 73 3 = 0 := by rw [e_3]; exact i17
      have q_19 : ∀ k, k < 8 → gp_R s_2 4 k = some 25 := by rw [e_3]; exact i18
      have q_20 : gp_R s_2 51 6 = some 55 := by rw [e_3]; exact i19
      have q_21 : gp_R s_2 51 7 = some 56 := by rw [e_3]; exact i20
      have q_22 : gp_us s_2 = 606895 := by rw [e_3]; exact i21
      have q_23 : gp_sz s_2 = 117 := by rw [e_3]; exact i22
      have w_24 := gz_w (v4 + 1)
      exact ih _ _ _ _ s_2 hs_4 (by omega) (by omega) (by omega) (by omega) (by omega) (by omega) (by omega) (by omega) (by omega) (by omega) (by omega) (by omega) (by omega) (by omega) (by omega) (by omega) (by omega) (by omega) (by omega) q_19 q_20 q_21 q_22 q_23
    · have e_25 : v4 = 20 := by omega
      subst e_25
      exact k s hs (by omega) (by omega) (by omega) (by omega) (by omega) (by omega) (by omega) (by omega) (by omega) (by omega) (by omega) (by omega) (by omega) (by omega) i18 i19 i20 i21 i22
set_option maxRecDepth 100000 in
/-- Sheets.lay [(2, 2), (8, 8), (0, 20)] -/
theorem zx1795_10 {z : gH} {L d : Nat} {K : Option gV → gH → Prop} {s : gH} (p2 : Int) (hs : xM z s) (h_p2 : 0 ≤ p2 ∧ p2 ≤ 20) (q0 : gp_I s 1 2 = 0) (q1 : gp_I s 1 6 = 0) (q2 : gp_I s 1 7 = 1) (q3 : gp_I s 51 8 = 0) (q4 : gp_I s 57 1 = 0) (q5 : gp_I s 57 3 = 0) (q6 : gp_I s 72 0 = 0) (q7 : gp_I s 72 1 = 0) (q8 : gp_I s 72 2 = 0) (q9 : gp_I s 72 3 = 0) (q10 : gp_I s 73 0 = 0) (q11 : gp_I s 73 1 = 0) (q12 : gp_I s 73 2 = 0) (q13 : gp_I s 73 3 = 0) (q14 : ∀ k, k < 8 → gp_R s 4 k = some 25) (q15 : gp_R s 51 6 = some 55) (q16 : gp_R s 51 7 = some 56) (q17 : gp_us s = 606895) (q18 : gp_sz s = 117) (k : ∀ (t : gH), xM z t → (gp_I t 1 2 = 0) → (gp_I t 1 6 = 0) → (gp_I t 1 7 = 1) → (gp_I t 51 8 = 0) → (gp_I t 57 1 = 0) → (gp_I t 57 3 = 0) → (gp_I t 72 0 = 0) → (gp_I t 72 1 = 0) → (gp_I t 72 2 = 8) → (gp_I t 72 3 = 0) → (gp_I t 73 0 = 0) → (gp_I t 73 1 = 0) → (0 ≤ gp_I t 73 2 ∧ gp_I t 73 2 ≤ 20) → (gp_I t 73 3 = 0) → (∀ k, k < 8 → gp_R t 4 k = some 25) → (gp_R t 51 6 = some 55) → (gp_R t 51 7 = some 56) → (gp_us t = 606895) → (gp_sz t = 117) → K none t) : gs_C L d 1795 5 [gp_r (some 66), gp_i 2, gp_i 8, gp_i p2] s K := by
  refine s_1795_e _ _ _ ?_
  refine ⟨by omega, ?_⟩
  intro s_1 e_2
  have hs_3 : xM z s_1 := by rw [e_2]; exact xw72 hs _ _
  have q_4 : gp_I s_1 1 2 = 0 := by rw [e_2]; exact q0
  have q_5 : gp_I s_1 1 6 = 0 := by rw [e_2]; exact q1
  have q_6 : gp_I s_1 1 7 = 1 := by rw [e_2]; exact q2
  have q_7 : gp_I s_1 51 8 = 0 := by rw [e_2]; exact q3
  have q_8 : gp_I s_1 57 1 = 0 := by rw [e_2]; exact q4
  have q_9 : gp_I s_1 57 3 = 0 := by rw [e_2]; exact q5
  have q_10 : gp_I s_1 72 0 = 0 := by rw [e_2]; exact q6
  have q_11 : gp_I s_1 72 1 = 0 := by rw [e_2]; exact q7
  have q_12 : gp_I s_1 72 3 = 0 := by rw [e_2]; exact q9
  have q_13 : gp_I s_1 73 0 = 0 := by rw [e_2]; exact q10
  have q_14 : gp_I s_1 73 1 = 0 := by rw [e_2]; exact q11
  have q_15 : gp_I s_1 73 2 = 0 := by rw [e_2]; exact q12
  have q_16 : gp_I s_1 73 3 = 0 := by rw [e_2]; exact q13
  have q_17 : ∀ k, k < 8 → gp_R s_1 4 k = some 25 := by rw [e_2]; exact q14
  have q_18 : gp_R s_1 51 6 = some 55 := by rw [e_2]; exact q15
  have q_19 : gp_R s_1 51 7 = some 56 := by rw [e_2]; exact q16
  have q_20 : gp_us s_1 = 606895 := by rw [e_2]; exact q17
  have q_21 : gp_sz s_1 = 117 := by rw [e_2]; exact q18
  have q_22 : gp_I s_1 72 2 = 8 := by rw [e_2]; rfl
  refine ⟨by omega, ?_⟩
  intro s_24 e_25
  have hs_26 : xM z s_24 := by rw [e_25]; exact xw73 hs_3 _ _
  have q_27 : gp_I s_24 1 2 = 0 := by rw [e_25]; exact q_4
  have q_28 : gp_I s_24 1 6 = 0 := by rw [e_25]; exact q_5
  have q_29 : gp_I s_24 1 7 = 1 := by rw [e_25]; exact q_6
  have q_30 : gp_I s_24 51 8 = 0 := by rw [e_25]; exact q_7
  have q_31 : gp_I s_24 57 1 = 0 := by rw [e_25]; exact q_8
  have q_32 : gp_I s_24 57 3 = 0 := by rw [e_25]; exact q_9
  have q_33 : gp_I s_24 72 0 = 0 := by rw [e_25]; exact q_10
  have q_34 : gp_I s_24 72 1 = 0 := by rw [e_25]; exact q_11
  have q_35 : gp_I s_24 72 3 = 0 := by rw [e_25]; exact q_12
  have q_36 : gp_I s_24 73 0 = 0 := by rw [e_25]; exact q_13
  have q_37 : gp_I s_24 73 1 = 0 := by rw [e_25]; exact q_14
  have q_38 : gp_I s_24 73 3 = 0 := by rw [e_25]; exact q_16
  have q_39 : ∀ k, k < 8 → gp_R s_24 4 k = some 25 := by rw [e_25]; exact q_17
  have q_40 : gp_R s_24 51 6 = some 55 := by rw [e_25]; exact q_18
  have q_41 : gp_R s_24 51 7 = some 56 := by rw [e_25]; exact q_19
  have q_42 : gp_us s_24 = 606895 := by rw [e_25]; exact q_20
  have q_43 : gp_sz s_24 = 117 := by rw [e_25]; exact q_21
  have q_44 : gp_I s_24 72 2 = 8 := by rw [e_25]; exact q_22
  have q_45 : 0 ≤ gp_I s_24 73 2 ∧ gp_I s_24 73 2 ≤ 20 := by have x_46 : gp_I s_24 73 2 = p2 := (by rw [e_25]; rfl); omega
  exact zx1795_10_l17_0 p2 k _ _ _ _ _ s_24 hs_26 (Nat.lt_succ_self _) (by omega) (by omega) (by omega) (by omega) (by omega) (by omega) (by omega) (by omega) (by omega) (by omega) (by omega) (by omega) (by omega) (by omega) (by omega) (by omega) (by omega) (by omega) q_39 q_40 q_41 q_42 q_43
set_option maxRecDepth 100000 in
/-- GatheredPoints.sheet [(2, 2), (8, 8), (0, 20)] -/
theorem zx2842_45 {z : gH} {L d : Nat} {K : Option gV → gH → Prop} {s : gH} (p2 : Int) (hs : xM z s) (h_p2 : 0 ≤ p2 ∧ p2 ≤ 20) (q0 : gp_I s 1 2 = 0) (q1 : gp_I s 1 6 = 0) (q2 : gp_I s 1 7 = 1) (q3 : gp_I s 51 8 = 0) (q4 : gp_I s 57 1 = 0) (q5 : gp_I s 57 3 = 0) (q6 : gp_I s 72 0 = 0) (q7 : gp_I s 72 1 = 0) (q8 : gp_I s 72 2 = 0) (q9 : gp_I s 72 3 = 0) (q10 : gp_I s 73 0 = 0) (q11 : gp_I s 73 1 = 0) (q12 : gp_I s 73 2 = 0) (q13 : gp_I s 73 3 = 0) (q14 : ∀ k, k < 8 → gp_R s 4 k = some 25) (q15 : gp_R s 51 6 = some 55) (q16 : gp_R s 51 7 = some 56) (q17 : gp_us s = 606895) (q18 : gp_sz s = 117) (k : ∀ (t : gH), xM z t → (gp_I t 1 2 = 0) → (gp_I t 1 6 = 0) → (gp_I t 1 7 = 1) → (gp_I t 51 8 = 0) → (gp_I t 57 1 = 0) → (gp_I t 57 3 = 0) → (gp_I t 72 0 = 0) → (gp_I t 72 1 = 0) → (gp_I t 72 2 = 8) → (gp_I t 72 3 = 0) → (gp_I t 73 0 = 0) → (gp_I t 73 1 = 0) → (0 ≤ gp_I t 73 2 ∧ gp_I t 73 2 ≤ 20) → (gp_I t 73 3 = 0) → (∀ k, k < 8 → gp_R t 4 k = some 25) → (gp_R t 51 6 = some 55) → (gp_R t 51 7 = some 56) → (gp_us t = 606895) → (gp_sz t = 117) → K (some (gp_i 1)) t) : gs_C L (d + 1) 2842 4 [gp_r (some 1), gp_i 2, gp_i 8, gp_i p2] s K := by
  refine s_2842_e _ _ _ ?_
  refine zx1793_10 hs (by omega) (by omega) (by omega) (by omega) (by omega) (by omega) (by omega) (by omega) (⟨_, rfl, ?_⟩)
  refine ⟨fun h_1 => ?_, fun h_1 => ?_⟩
  · refine ⟨fun h_2 => ?_, fun h_2 => ?_⟩
    · exfalso; omega
    · refine ⟨fun h_3 => ?_, fun h_3 => ?_⟩
      · refine s_2842_39 _ _ _ ?_
        refine ⟨fun h_4 => ?_, fun h_4 => ?_⟩
        · exfalso; omega
        · refine ⟨fun h_5 => ?_, fun h_5 => ?_⟩
          · exfalso; omega
          · refine s_2842_53 _ _ _ ?_
            refine ⟨fun h_6 => ?_, fun h_6 => ?_⟩
            · exfalso; omega
            · refine ⟨fun h_7 => ?_, fun h_7 => ?_⟩
              · exfalso; omega
              · refine s_2842_69 _ _ _ ?_
                refine ⟨fun h_8 => ?_, fun h_8 => ?_⟩
                · exfalso; omega
                · refine s_2842_84 _ _ _ _ _ _ ?_
                  refine zx1795_10 _ hs (by omega) (by omega) (by omega) (by omega) (by omega) (by omega) (by omega) (by omega) (by omega) (by omega) (by omega) (by omega) (by omega) (by omega) (by omega) q14 q15 q16 q17 q18 (fun s_9 hs_10 q_11 q_12 q_13 q_14 q_15 q_16 q_17 q_18 q_19 q_20 q_21 q_22 q_23 q_24 q_25 q_26 q_27 q_28 q_29 => ⟨rfl, ?_⟩)
                  exact k s_9 hs_10 (by omega) (by omega) (by omega) (by omega) (by omega) (by omega) (by omega) (by omega) (by omega) (by omega) (by omega) (by omega) (by omega) (by omega) q_25 q_26 q_27 q_28 q_29
      · exfalso; omega
  · exfalso; omega
set_option maxRecDepth 100000 in
/-- GatheredPoints.sheet [(2, 2), (8, 8), (21, 2147483647)] -/
theorem zx2842_46 {z : gH} {L d : Nat} {K : Option gV → gH → Prop} {s : gH} (p2 : Int) (hs : xM z s) (h_p2 : 21 ≤ p2 ∧ p2 ≤ 2147483647) (q0 : gp_I s 1 2 = 0) (q1 : gp_I s 1 6 = 0) (q2 : gp_I s 1 7 = 1) (q3 : gp_I s 51 8 = 0) (q4 : gp_I s 57 1 = 0) (q5 : gp_I s 57 3 = 0) (q6 : gp_I s 72 0 = 0) (q7 : gp_I s 72 1 = 0) (q8 : gp_I s 72 2 = 0) (q9 : gp_I s 72 3 = 0) (q10 : gp_I s 73 0 = 0) (q11 : gp_I s 73 1 = 0) (q12 : gp_I s 73 2 = 0) (q13 : gp_I s 73 3 = 0) (q14 : ∀ k, k < 8 → gp_R s 4 k = some 25) (q15 : gp_R s 51 6 = some 55) (q16 : gp_R s 51 7 = some 56) (q17 : gp_us s = 606895) (q18 : gp_sz s = 117) (k : ∀ (t : gH), xM z t → (gp_I t 1 2 = 0) → (gp_I t 1 6 = 0) → (gp_I t 1 7 = 1) → ((-2147483648) ≤ gp_I t 2 1 ∧ gp_I t 2 1 ≤ 2147483647) → (gp_I t 51 8 = 0) → (gp_I t 57 1 = 0) → (gp_I t 57 3 = 0) → (gp_I t 72 0 = 0) → (gp_I t 72 1 = 0) → (gp_I t 72 2 = 0) → (gp_I t 72 3 = 0) → (gp_I t 73 0 = 0) → (gp_I t 73 1 = 0) → (gp_I t 73 2 = 0) → (gp_I t 73 3 = 0) → (∀ k, k < 8 → gp_R t 4 k = some 25) → (gp_R t 51 6 = some 55) → (gp_R t 51 7 = some 56) → (gp_us t = 606895) → (gp_sz t = 117) → K (some (gp_i (-1000000001))) t) : gs_C L (d + 1) 2842 4 [gp_r (some 1), gp_i 2, gp_i 8, gp_i p2] s K := by
  refine s_2842_e _ _ _ ?_
  refine zx1793_10 hs (by omega) (by omega) (by omega) (by omega) (by omega) (by omega) (by omega) (by omega) (⟨_, rfl, ?_⟩)
  refine ⟨fun h_1 => ?_, fun h_1 => ?_⟩
  · refine ⟨fun h_2 => ?_, fun h_2 => ?_⟩
    · exfalso; omega
    · refine ⟨fun h_3 => ?_, fun h_3 => ?_⟩
      · refine s_2842_39 _ _ _ ?_
        refine ⟨fun h_4 => ?_, fun h_4 => ?_⟩
        · exfalso; omega
        · refine ⟨fun h_5 => ?_, fun h_5 => ?_⟩
          · exfalso; omega
          · refine s_2842_53 _ _ _ ?_
            refine ⟨fun h_6 => ?_, fun h_6 => ?_⟩
            · exfalso; omega
            · refine ⟨fun h_7 => ?_, fun h_7 => ?_⟩
              · refine zx2855_12 hs (by omega) (by omega) (by omega) (by omega) (by omega) (by omega) (by omega) (by omega) (by omega) (by omega) (by omega) (by omega) (by omega) (by omega) q14 q15 q16 q17 q18 (fun s_8 hs_9 q_10 q_11 q_12 q_13 q_14 q_15 q_16 q_17 q_18 q_19 q_20 q_21 q_22 q_23 q_24 q_25 q_26 q_27 q_28 q_29 => ⟨_, rfl, ?_⟩)
                exact k s_8 hs_9 (by omega) (by omega) (by omega) (by omega) (by omega) (by omega) (by omega) (by omega) (by omega) (by omega) (by omega) (by omega) (by omega) (by omega) (by omega) q_25 q_26 q_27 q_28 q_29
              · exfalso; omega
      · exfalso; omega
  · exfalso; omega
set_option maxRecDepth 100000 in
/-- GatheredPoints.sheet [(2, 2), (16, 16), (-2147483648, -1)] -/
theorem zx2842_47 {z : gH} {L d : Nat} {K : Option gV → gH → Prop} {s : gH} (p2 : Int) (hs : xM z s) (h_p2 : (-2147483648) ≤ p2 ∧ p2 ≤ (-1)) (q0 : gp_I s 1 2 = 0) (q1 : gp_I s 1 6 = 0) (q2 : gp_I s 1 7 = 1) (q3 : gp_I s 51 8 = 0) (q4 : gp_I s 57 1 = 0) (q5 : gp_I s 57 3 = 0) (q6 : gp_I s 72 0 = 0) (q7 : gp_I s 72 1 = 0) (q8 : gp_I s 72 2 = 0) (q9 : gp_I s 72 3 = 0) (q10 : gp_I s 73 0 = 0) (q11 : gp_I s 73 1 = 0) (q12 : gp_I s 73 2 = 0) (q13 : gp_I s 73 3 = 0) (q14 : ∀ k, k < 8 → gp_R s 4 k = some 25) (q15 : gp_R s 51 6 = some 55) (q16 : gp_R s 51 7 = some 56) (q17 : gp_us s = 606895) (q18 : gp_sz s = 117) (k : ∀ (t : gH), xM z t → (gp_I t 1 2 = 0) → (gp_I t 1 6 = 0) → (gp_I t 1 7 = 1) → ((-2147483648) ≤ gp_I t 2 3 ∧ gp_I t 2 3 ≤ 2147483647) → (gp_I t 51 8 = 0) → (gp_I t 57 1 = 0) → (gp_I t 57 3 = 0) → (gp_I t 72 0 = 0) → (gp_I t 72 1 = 0) → (gp_I t 72 2 = 0) → (gp_I t 72 3 = 0) → (gp_I t 73 0 = 0) → (gp_I t 73 1 = 0) → (gp_I t 73 2 = 0) → (gp_I t 73 3 = 0) → (∀ k, k < 8 → gp_R t 4 k = some 25) → (gp_R t 51 6 = some 55) → (gp_R t 51 7 = some 56) → (gp_us t = 606895) → (gp_sz t = 117) → K (some (gp_i (-1000000003))) t) : gs_C L (d + 1) 2842 4 [gp_r (some 1), gp_i 2, gp_i 16, gp_i p2] s K := by
  refine s_2842_e _ _ _ ?_
  refine zx1793_10 hs (by omega) (by omega) (by omega) (by omega) (by omega) (by omega) (by omega) (by omega) (⟨_, rfl, ?_⟩)
  refine ⟨fun h_1 => ?_, fun h_1 => ?_⟩
  · refine ⟨fun h_2 => ?_, fun h_2 => ?_⟩
    · exfalso; omega
    · refine ⟨fun h_3 => ?_, fun h_3 => ?_⟩
      · exfalso; omega
      · refine ⟨fun h_4 => ?_, fun h_4 => ?_⟩
        · refine s_2842_39 _ _ _ ?_
          refine ⟨fun h_5 => ?_, fun h_5 => ?_⟩
          · exfalso; omega
          · refine ⟨fun h_6 => ?_, fun h_6 => ?_⟩
            · refine zx2855_13 hs (by omega) (by omega) (by omega) (by omega) (by omega) (by omega) (by omega) (by omega) (by omega) (by omega) (by omega) (by omega) (by omega) (by omega) q14 q15 q16 q17 q18 (fun s_7 hs_8 q_9 q_10 q_11 q_12 q_13 q_14 q_15 q_16 q_17 q_18 q_19 q_20 q_21 q_22 q_23 q_24 q_25 q_26 q_27 q_28 => ⟨_, rfl, ?_⟩)
              exact k s_7 hs_8 (by omega) (by omega) (by omega) (by omega) (by omega) (by omega) (by omega) (by omega) (by omega) (by omega) (by omega) (by omega) (by omega) (by omega) (by omega) q_24 q_25 q_26 q_27 q_28
            · exfalso; omega
        · exfalso; omega
  · exfalso; omega
set_option maxRecDepth 100000 in
/-- Sheets.lay, the loop at 17 -/
theorem zx1795_11_l17_0 {z : gH} {L d : Nat} {K : Option gV → gH → Prop} (p2 : Int)  (k : ∀ (t : gH), xM z t → (gp_I t 1 2 = 0) → (gp_I t 1 6 = 0) → (gp_I t 1 7 = 1) → (gp_I t 51 8 = 0) → (gp_I t 57 1 = 0) → (gp_I t 57 3 = 0) → (gp_I t 72 0 = 0) → (gp_I t 72 1 = 0) → (gp_I t 72 2 = 16) → (gp_I t 72 3 = 0) → (gp_I t 73 0 = 0) → (gp_I t 73 1 = 0) → (0 ≤ gp_I t 73 2 ∧ gp_I t 73 2 ≤ 20) → (gp_I t 73 3 = 0) → (∀ k, k < 8 → gp_R t 4 k = some 25) → (gp_R t 51 6 = some 55) → (gp_R t 51 7 = some 56) → (gp_us t = 606895) → (gp_sz t = 117) → K none t)  : ∀ (n : Nat) (v1 : Int) (v2 : Int) (v3 : Int) (v4 : Int) (s : gH), xM z s → (21 - v4).toNat < n → (v1 = 2) → (v2 = 16) → (0 ≤ v3 ∧ v3 ≤ 20) → (0 ≤ v4 ∧ v4 ≤ 20) → (gp_I s 1 2 = 0) → (gp_I s 1 6 = 0) → (gp_I s 1 7 = 1) → (gp_I s 51 8 = 0) → (gp_I s 57 1 = 0) → (gp_I s 57 3 = 0) → (gp_I s 72 0 = 0) → (gp_I s 72 1 = 0) → (gp_I s 72 2 = 16) → (gp_I s 72 3 = 0) → (gp_I s 73 0 = 0) → (gp_I s 73 1 = 0) → (0 ≤ gp_I s 73 2 ∧ gp_I s 73 2 ≤ 20) → (gp_I s 73 3 = 0) → (∀ k, k < 8 → gp_R s 4 k = some 25) → (gp_R s 51 6 = some 55) → (gp_R s 51 7 = some 56) → (gp_us s = 606895) → (gp_sz s = 117) → gs_E L d 1795 17 [gp_r (some 66), gp_i v1, gp_i v2, gp_i v3, gp_i v4] [] s K := by
  intro n
  induction n with
  | zero => intro v1 v2 v3 v4 s hs hm i0 i1 i2 i3 i4 i5 i6 i7 i8 i9 i10 i11 i12 i13 i14 i15 i16 i17 i18 i19 i20 i21 i22; exact absurd hm (Nat.not_lt_zero _)
  | succ n ih =>
    intro v1 v2 v3 v4 s hs hm i0 i1 i2 i3 i4 i5 i6 i7 i8 i9 i10 i11 i12 i13 i14 i15 i16 i17 i18 i19 i20 i21 i22
    subst i0
    subst i1
    refine s_1795_17 _ _ _ _ ?_
    refine ⟨fun h_1 => ?_, fun h_1 => ?_⟩
    · refine ⟨by omega, ?_⟩
      try rw [show gp_R (gp_mk L s) 67 (2 : Int).toNat = some 70 from rfl]
      refine ⟨70, rfl, ?_⟩
      refine ⟨⟨rfl, by show 0 ≤ v4 ∧ v4 < 20; omega⟩, ?_⟩
      intro s_2 e_3
      have hs_4 : xM z s_2 := by rw [e_3]; exact xw70 hs _ _
      have q_5 : gp_I s_2 1 2 = 0 := by rw [e_3]; exact i4
      have q_6 : gp_I s_2 1 6 = 0 := by rw [e_3]; exact i5
      have q_7 : gp_I s_2 1 7 = 1 := by rw [e_3]; exact i6
      have q_8 : gp_I s_2 51 8 = 0 := by rw [e_3]; exact i7
      have q_9 : gp_I s_2 57 1 = 0 := by rw [e_3]; exact i8
      have q_10 : gp_I s_2 57 3 = 0 := by rw [e_3]; exact i9
      have q_11 : gp_I s_2 72 0 = 0 := by rw [e_3]; exact i10
      have q_12 : gp_I s_2 72 1 = 0 := by rw [e_3]; exact i11
      have q_13 : gp_I s_2 72 2 = 16 := by rw [e_3]; exact i12
      have q_14 : gp_I s_2 72 3 = 0 := by rw [e_3]; exact i13
      have q_15 : gp_I s_2 73 0 = 0 := by rw [e_3]; exact i14
      have q_16 : gp_I s_2 73 1 = 0 := by rw [e_3]; exact i15
      have q_17 : 0 ≤ gp_I s_2 73 2 ∧ gp_I s_2 73 2 ≤ 20 := by rw [e_3]; exact i16
      have q_18 : gp_I s_2 73 3 = 0 := by rw [e_3]; exact i17
      have q_19 : ∀ k, k < 8 → gp_R s_2 4 k = some 25 := by rw [e_3]; exact i18
      have q_20 : gp_R s_2 51 6 = some 55 := by rw [e_3]; exact i19
      have q_21 : gp_R s_2 51 7 = some 56 := by rw [e_3]; exact i20
      have q_22 : gp_us s_2 = 606895 := by rw [e_3]; exact i21
      have q_23 : gp_sz s_2 = 117 := by rw [e_3]; exact i22
      have w_24 := gz_w (v4 + 1)
      exact ih _ _ _ _ s_2 hs_4 (by omega) (by omega) (by omega) (by omega) (by omega) (by omega) (by omega) (by omega) (by omega) (by omega) (by omega) (by omega) (by omega) (by omega) (by omega) (by omega) (by omega) (by omega) (by omega) q_19 q_20 q_21 q_22 q_23
    · have e_25 : v4 = 20 := by omega
      subst e_25
      exact k s hs (by omega) (by omega) (by omega) (by omega) (by omega) (by omega) (by omega) (by omega) (by omega) (by omega) (by omega) (by omega) (by omega) (by omega) i18 i19 i20 i21 i22
set_option maxRecDepth 100000 in
/-- Sheets.lay [(2, 2), (16, 16), (0, 20)] -/
theorem zx1795_11 {z : gH} {L d : Nat} {K : Option gV → gH → Prop} {s : gH} (p2 : Int) (hs : xM z s) (h_p2 : 0 ≤ p2 ∧ p2 ≤ 20) (q0 : gp_I s 1 2 = 0) (q1 : gp_I s 1 6 = 0) (q2 : gp_I s 1 7 = 1) (q3 : gp_I s 51 8 = 0) (q4 : gp_I s 57 1 = 0) (q5 : gp_I s 57 3 = 0) (q6 : gp_I s 72 0 = 0) (q7 : gp_I s 72 1 = 0) (q8 : gp_I s 72 2 = 0) (q9 : gp_I s 72 3 = 0) (q10 : gp_I s 73 0 = 0) (q11 : gp_I s 73 1 = 0) (q12 : gp_I s 73 2 = 0) (q13 : gp_I s 73 3 = 0) (q14 : ∀ k, k < 8 → gp_R s 4 k = some 25) (q15 : gp_R s 51 6 = some 55) (q16 : gp_R s 51 7 = some 56) (q17 : gp_us s = 606895) (q18 : gp_sz s = 117) (k : ∀ (t : gH), xM z t → (gp_I t 1 2 = 0) → (gp_I t 1 6 = 0) → (gp_I t 1 7 = 1) → (gp_I t 51 8 = 0) → (gp_I t 57 1 = 0) → (gp_I t 57 3 = 0) → (gp_I t 72 0 = 0) → (gp_I t 72 1 = 0) → (gp_I t 72 2 = 16) → (gp_I t 72 3 = 0) → (gp_I t 73 0 = 0) → (gp_I t 73 1 = 0) → (0 ≤ gp_I t 73 2 ∧ gp_I t 73 2 ≤ 20) → (gp_I t 73 3 = 0) → (∀ k, k < 8 → gp_R t 4 k = some 25) → (gp_R t 51 6 = some 55) → (gp_R t 51 7 = some 56) → (gp_us t = 606895) → (gp_sz t = 117) → K none t) : gs_C L d 1795 5 [gp_r (some 66), gp_i 2, gp_i 16, gp_i p2] s K := by
  refine s_1795_e _ _ _ ?_
  refine ⟨by omega, ?_⟩
  intro s_1 e_2
  have hs_3 : xM z s_1 := by rw [e_2]; exact xw72 hs _ _
  have q_4 : gp_I s_1 1 2 = 0 := by rw [e_2]; exact q0
  have q_5 : gp_I s_1 1 6 = 0 := by rw [e_2]; exact q1
  have q_6 : gp_I s_1 1 7 = 1 := by rw [e_2]; exact q2
  have q_7 : gp_I s_1 51 8 = 0 := by rw [e_2]; exact q3
  have q_8 : gp_I s_1 57 1 = 0 := by rw [e_2]; exact q4
  have q_9 : gp_I s_1 57 3 = 0 := by rw [e_2]; exact q5
  have q_10 : gp_I s_1 72 0 = 0 := by rw [e_2]; exact q6
  have q_11 : gp_I s_1 72 1 = 0 := by rw [e_2]; exact q7
  have q_12 : gp_I s_1 72 3 = 0 := by rw [e_2]; exact q9
  have q_13 : gp_I s_1 73 0 = 0 := by rw [e_2]; exact q10
  have q_14 : gp_I s_1 73 1 = 0 := by rw [e_2]; exact q11
  have q_15 : gp_I s_1 73 2 = 0 := by rw [e_2]; exact q12
  have q_16 : gp_I s_1 73 3 = 0 := by rw [e_2]; exact q13
  have q_17 : ∀ k, k < 8 → gp_R s_1 4 k = some 25 := by rw [e_2]; exact q14
  have q_18 : gp_R s_1 51 6 = some 55 := by rw [e_2]; exact q15
  have q_19 : gp_R s_1 51 7 = some 56 := by rw [e_2]; exact q16
  have q_20 : gp_us s_1 = 606895 := by rw [e_2]; exact q17
  have q_21 : gp_sz s_1 = 117 := by rw [e_2]; exact q18
  have q_22 : gp_I s_1 72 2 = 16 := by rw [e_2]; rfl
  refine ⟨by omega, ?_⟩
  intro s_24 e_25
  have hs_26 : xM z s_24 := by rw [e_25]; exact xw73 hs_3 _ _
  have q_27 : gp_I s_24 1 2 = 0 := by rw [e_25]; exact q_4
  have q_28 : gp_I s_24 1 6 = 0 := by rw [e_25]; exact q_5
  have q_29 : gp_I s_24 1 7 = 1 := by rw [e_25]; exact q_6
  have q_30 : gp_I s_24 51 8 = 0 := by rw [e_25]; exact q_7
  have q_31 : gp_I s_24 57 1 = 0 := by rw [e_25]; exact q_8
  have q_32 : gp_I s_24 57 3 = 0 := by rw [e_25]; exact q_9
  have q_33 : gp_I s_24 72 0 = 0 := by rw [e_25]; exact q_10
  have q_34 : gp_I s_24 72 1 = 0 := by rw [e_25]; exact q_11
  have q_35 : gp_I s_24 72 3 = 0 := by rw [e_25]; exact q_12
  have q_36 : gp_I s_24 73 0 = 0 := by rw [e_25]; exact q_13
  have q_37 : gp_I s_24 73 1 = 0 := by rw [e_25]; exact q_14
  have q_38 : gp_I s_24 73 3 = 0 := by rw [e_25]; exact q_16
  have q_39 : ∀ k, k < 8 → gp_R s_24 4 k = some 25 := by rw [e_25]; exact q_17
  have q_40 : gp_R s_24 51 6 = some 55 := by rw [e_25]; exact q_18
  have q_41 : gp_R s_24 51 7 = some 56 := by rw [e_25]; exact q_19
  have q_42 : gp_us s_24 = 606895 := by rw [e_25]; exact q_20
  have q_43 : gp_sz s_24 = 117 := by rw [e_25]; exact q_21
  have q_44 : gp_I s_24 72 2 = 16 := by rw [e_25]; exact q_22
  have q_45 : 0 ≤ gp_I s_24 73 2 ∧ gp_I s_24 73 2 ≤ 20 := by have x_46 : gp_I s_24 73 2 = p2 := (by rw [e_25]; rfl); omega
  exact zx1795_11_l17_0 p2 k _ _ _ _ _ s_24 hs_26 (Nat.lt_succ_self _) (by omega) (by omega) (by omega) (by omega) (by omega) (by omega) (by omega) (by omega) (by omega) (by omega) (by omega) (by omega) (by omega) (by omega) (by omega) (by omega) (by omega) (by omega) q_39 q_40 q_41 q_42 q_43
