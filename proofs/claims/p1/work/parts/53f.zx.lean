set_option maxRecDepth 100000 in
/-- GatheredPoints.count [(1, 1)] -/
theorem zx2850_2 {z : gH} {L d : Nat} {K : Option gV → gH → Prop} {s : gH}  (hs : xM z s)  (q0 : gp_I s 1 2 = 0) (q1 : gp_I s 1 6 = 0) (q2 : gp_I s 1 7 = 1) (q3 : gp_I s 51 8 = 0) (q4 : gp_I s 57 1 = 0) (q5 : gp_I s 57 3 = 0) (q6 : gp_R s 25 6 = none) (q7 : gp_R s 25 7 = none) (q8 : gp_R s 25 8 = none) (q9 : gp_R s 25 9 = none) (q10 : ∀ k, k < 8 → gp_R s 4 k = some 25) (q11 : gp_R s 51 6 = some 55) (q12 : gp_R s 51 7 = some 56) (q13 : gp_us s = 606895) (q14 : gp_sz s = 117) (k : ∀ (t : gH), xM z t → (gp_I t 1 2 = 0) → (gp_I t 1 6 = 0) → (gp_I t 1 7 = 1) → (gp_I t 51 8 = 0) → (gp_I t 57 1 = 0) → (gp_I t 57 3 = 0) → (gp_R t 25 6 = none) → (gp_R t 25 7 = none) → (gp_R t 25 8 = none) → (gp_R t 25 9 = none) → (∀ k, k < 8 → gp_R t 4 k = some 25) → (gp_R t 51 6 = some 55) → (gp_R t 51 7 = some 56) → (gp_us t = 606895) → (gp_sz t = 117) → K (some (gp_i 8)) t) : gs_C L (d + 4) 2850 2 [gp_r (some 1), gp_i 1] s K := by
  refine s_2850_e _ ?_
  refine ⟨fun h_1 => ?_, fun h_1 => ?_, fun h_1 => ?_, fun h_1 => ?_, fun h_1 => ?_, fun h_1 => ?_⟩
  · exfalso; omega
  · refine zx2853_0 hs (by omega) (by omega) (by omega) (by omega) (by omega) (by omega) q6 q7 q8 q9 q10 q11 q12 q13 q14 (fun s_2 hs_3 q_4 q_5 q_6 q_7 q_8 q_9 q_10 q_11 q_12 q_13 q_14 q_15 q_16 q_17 q_18 => ⟨_, rfl, ?_⟩)
    exact k s_2 hs_3 (by omega) (by omega) (by omega) (by omega) (by omega) (by omega) q_10 q_11 q_12 q_13 q_14 q_15 q_16 q_17 q_18
  · exfalso; omega
  · exfalso; omega
  · exfalso; omega
  · exfalso; omega
set_option maxRecDepth 100000 in
/-- GatheredPoints.count [(2, 2)] -/
theorem zx2850_3 {z : gH} {L d : Nat} {K : Option gV → gH → Prop} {s : gH}  (hs : xM z s)  (q0 : gp_I s 1 2 = 0) (q1 : gp_I s 1 6 = 0) (q2 : gp_I s 1 7 = 1) (q3 : gp_I s 51 8 = 0) (q4 : gp_I s 57 1 = 0) (q5 : gp_I s 57 3 = 0) (q6 : gp_R s 25 6 = none) (q7 : gp_R s 25 7 = none) (q8 : gp_R s 25 8 = none) (q9 : gp_R s 25 9 = none) (q10 : ∀ k, k < 8 → gp_R s 4 k = some 25) (q11 : gp_R s 51 6 = some 55) (q12 : gp_R s 51 7 = some 56) (q13 : gp_us s = 606895) (q14 : gp_sz s = 117) (k : K (some (gp_i 0)) s) : gs_C L (d + 1) 2850 2 [gp_r (some 1), gp_i 2] s K := by
  refine s_2850_e _ ?_
  refine ⟨fun h_1 => ?_, fun h_1 => ?_, fun h_1 => ?_, fun h_1 => ?_, fun h_1 => ?_, fun h_1 => ?_⟩
  · exfalso; omega
  · exfalso; omega
  · try rw [show gp_I s 1 2 = 0 from q0]
    exact k
  · exfalso; omega
  · exfalso; omega
  · exfalso; omega
set_option maxRecDepth 100000 in
/-- GatheredPoints.count [(3, 3)] -/
theorem zx2850_4 {z : gH} {L d : Nat} {K : Option gV → gH → Prop} {s : gH}  (hs : xM z s)  (q0 : gp_I s 1 2 = 0) (q1 : gp_I s 1 6 = 0) (q2 : gp_I s 1 7 = 1) (q3 : gp_I s 51 8 = 0) (q4 : gp_I s 57 1 = 0) (q5 : gp_I s 57 3 = 0) (q6 : gp_R s 25 6 = none) (q7 : gp_R s 25 7 = none) (q8 : gp_R s 25 8 = none) (q9 : gp_R s 25 9 = none) (q10 : ∀ k, k < 8 → gp_R s 4 k = some 25) (q11 : gp_R s 51 6 = some 55) (q12 : gp_R s 51 7 = some 56) (q13 : gp_us s = 606895) (q14 : gp_sz s = 117) (k : K (some (gp_i 0)) s) : gs_C L (d + 1) 2850 2 [gp_r (some 1), gp_i 3] s K := by
  refine s_2850_e _ ?_
  refine ⟨fun h_1 => ?_, fun h_1 => ?_, fun h_1 => ?_, fun h_1 => ?_, fun h_1 => ?_, fun h_1 => ?_⟩
  · exfalso; omega
  · exfalso; omega
  · exfalso; omega
  · try rw [show gp_I s 57 1 = 0 from q4]
    refine ⟨fun h_2 => ?_, fun h_2 => ?_⟩
    · refine s_2850_72 _ _ ?_
      exact k
    · exfalso; omega
  · exfalso; omega
  · exfalso; omega
set_option maxRecDepth 100000 in
/-- GatheredPoints.count [(4, 4)] -/
theorem zx2850_5 {z : gH} {L d : Nat} {K : Option gV → gH → Prop} {s : gH}  (hs : xM z s)  (q0 : gp_I s 1 2 = 0) (q1 : gp_I s 1 6 = 0) (q2 : gp_I s 1 7 = 1) (q3 : gp_I s 51 8 = 0) (q4 : gp_I s 57 1 = 0) (q5 : gp_I s 57 3 = 0) (q6 : gp_R s 25 6 = none) (q7 : gp_R s 25 7 = none) (q8 : gp_R s 25 8 = none) (q9 : gp_R s 25 9 = none) (q10 : ∀ k, k < 8 → gp_R s 4 k = some 25) (q11 : gp_R s 51 6 = some 55) (q12 : gp_R s 51 7 = some 56) (q13 : gp_us s = 606895) (q14 : gp_sz s = 117) (k : K (some (gp_i 1)) s) : gs_C L (d + 1) 2850 2 [gp_r (some 1), gp_i 4] s K := by
  refine s_2850_e _ ?_
  refine ⟨fun h_1 => ?_, fun h_1 => ?_, fun h_1 => ?_, fun h_1 => ?_, fun h_1 => ?_, fun h_1 => ?_⟩
  · exfalso; omega
  · exfalso; omega
  · exfalso; omega
  · exfalso; omega
  · try rw [show gp_I s 1 7 = 1 from q2]
    exact k
  · exfalso; omega
set_option maxRecDepth 100000 in
/-- GatheredPoints.count [(5, 2147483647)] -/
theorem zx2850_6 {z : gH} {L d : Nat} {K : Option gV → gH → Prop} {s : gH} (p0 : Int) (hs : xM z s) (h_p0 : 5 ≤ p0 ∧ p0 ≤ 2147483647) (q0 : gp_I s 1 2 = 0) (q1 : gp_I s 1 6 = 0) (q2 : gp_I s 1 7 = 1) (q3 : gp_I s 51 8 = 0) (q4 : gp_I s 57 1 = 0) (q5 : gp_I s 57 3 = 0) (q6 : gp_R s 25 6 = none) (q7 : gp_R s 25 7 = none) (q8 : gp_R s 25 8 = none) (q9 : gp_R s 25 9 = none) (q10 : ∀ k, k < 8 → gp_R s 4 k = some 25) (q11 : gp_R s 51 6 = some 55) (q12 : gp_R s 51 7 = some 56) (q13 : gp_us s = 606895) (q14 : gp_sz s = 117) (k : ∀ (t : gH), xM z t → (gp_I t 1 2 = 0) → (gp_I t 1 6 = 0) → (gp_I t 1 7 = 1) → ((-2147483648) ≤ gp_I t 2 1 ∧ gp_I t 2 1 ≤ 2147483647) → (gp_I t 51 8 = 0) → (gp_I t 57 1 = 0) → (gp_I t 57 3 = 0) → (gp_R t 25 6 = none) → (gp_R t 25 7 = none) → (gp_R t 25 8 = none) → (gp_R t 25 9 = none) → (∀ k, k < 8 → gp_R t 4 k = some 25) → (gp_R t 51 6 = some 55) → (gp_R t 51 7 = some 56) → (gp_us t = 606895) → (gp_sz t = 117) → K (some (gp_i (-1000000001))) t) : gs_C L (d + 1) 2850 2 [gp_r (some 1), gp_i p0] s K := by
  refine s_2850_e _ ?_
  refine ⟨fun h_1 => ?_, fun h_1 => ?_, fun h_1 => ?_, fun h_1 => ?_, fun h_1 => ?_, fun h_1 => ?_⟩
  · exfalso; omega
  · exfalso; omega
  · exfalso; omega
  · exfalso; omega
  · exfalso; omega
  · refine zx2855_4 hs (by omega) (by omega) (by omega) (by omega) (by omega) (by omega) q6 q7 q8 q9 q10 q11 q12 q13 q14 (fun s_2 hs_3 q_4 q_5 q_6 q_7 q_8 q_9 q_10 q_11 q_12 q_13 q_14 q_15 q_16 q_17 q_18 q_19 => ⟨_, rfl, ?_⟩)
    exact k s_2 hs_3 (by omega) (by omega) (by omega) (by omega) (by omega) (by omega) (by omega) q_11 q_12 q_13 q_14 q_15 q_16 q_17 q_18 q_19
set_option maxRecDepth 100000 in
/-- GatheredPoints.refused [(1, 1)] -/
theorem zx2855_18 {z : gH} {L d : Nat} {K : Option gV → gH → Prop} {s : gH}  (hs : xM z s)  (q0 : gp_I s 1 2 = 0) (q1 : gp_I s 1 6 = 0) (q2 : gp_I s 1 7 = 1) (q3 : gp_I s 2 1 = 0) (q4 : gp_I s 2 2 = 0) (q5 : gp_I s 2 3 = 0) (q6 : gp_I s 2 4 = 0) (q7 : gp_I s 2 5 = 0) (q8 : gp_I s 2 6 = 0) (q9 : gp_I s 51 8 = 0) (q10 : gp_I s 57 1 = 0) (q11 : gp_I s 57 3 = 0) (q12 : ∀ k, k < 8 → gp_R s 4 k = some 25) (q13 : gp_R s 51 6 = some 55) (q14 : gp_R s 51 7 = some 56) (q15 : gp_us s = 606895) (q16 : gp_sz s = 117) (k : ∀ (t : gH), xM z t → (gp_I t 1 2 = 0) → (gp_I t 1 6 = 0) → (gp_I t 1 7 = 1) → (gp_I t 2 1 = 1) → (gp_I t 2 2 = 0) → (gp_I t 2 3 = 0) → (gp_I t 2 4 = 0) → (gp_I t 2 5 = 0) → (gp_I t 2 6 = 0) → (gp_I t 51 8 = 0) → (gp_I t 57 1 = 0) → (gp_I t 57 3 = 0) → (∀ k, k < 8 → gp_R t 4 k = some 25) → (gp_R t 51 6 = some 55) → (gp_R t 51 7 = some 56) → (gp_us t = 606895) → (gp_sz t = 117) → K (some (gp_i (-1000000001))) t) : gs_C L d 2855 2 [gp_r (some 1), gp_i 1] s K := by
  refine s_2855_e _ ?_
  refine ⟨by omega, ?_⟩
  try rw [show gp_I s 2 (1 : Int).toNat = 0 from q3]
  have w_1 := gz_w (0 + 1)
  have e_2 : gp_wr (0 + 1) = 1 := by omega
  try rw [e_2]
  refine ⟨by omega, ?_⟩
  intro s_3 e_4
  have hs_5 : xM z s_3 := by rw [e_4]; exact xw2 hs _ _
  have q_6 : gp_I s_3 1 2 = 0 := by rw [e_4]; exact q0
  have q_7 : gp_I s_3 1 6 = 0 := by rw [e_4]; exact q1
  have q_8 : gp_I s_3 1 7 = 1 := by rw [e_4]; exact q2
  have q_9 : gp_I s_3 2 2 = 0 := by rw [e_4]; exact q4
  have q_10 : gp_I s_3 2 3 = 0 := by rw [e_4]; exact q5
  have q_11 : gp_I s_3 2 4 = 0 := by rw [e_4]; exact q6
  have q_12 : gp_I s_3 2 5 = 0 := by rw [e_4]; exact q7
  have q_13 : gp_I s_3 2 6 = 0 := by rw [e_4]; exact q8
  have q_14 : gp_I s_3 51 8 = 0 := by rw [e_4]; exact q9
  have q_15 : gp_I s_3 57 1 = 0 := by rw [e_4]; exact q10
  have q_16 : gp_I s_3 57 3 = 0 := by rw [e_4]; exact q11
  have q_17 : ∀ k, k < 8 → gp_R s_3 4 k = some 25 := by rw [e_4]; exact q12
  have q_18 : gp_R s_3 51 6 = some 55 := by rw [e_4]; exact q13
  have q_19 : gp_R s_3 51 7 = some 56 := by rw [e_4]; exact q14
  have q_20 : gp_us s_3 = 606895 := by rw [e_4]; exact q15
  have q_21 : gp_sz s_3 = 117 := by rw [e_4]; exact q16
  have q_22 : gp_I s_3 2 1 = 1 := by rw [e_4]; rfl
  have w_24 := gz_w ((-1000000000) - 1)
  have e_25 : gp_wr ((-1000000000) - 1) = (-1000000001) := by omega
  try rw [e_25]
  exact k s_3 hs_5 (by omega) (by omega) (by omega) (by omega) (by omega) (by omega) (by omega) (by omega) (by omega) (by omega) (by omega) (by omega) q_17 q_18 q_19 q_20 q_21
set_option maxRecDepth 100000 in
/-- GatheredPoints.told [(-2147483648, 0)] -/
theorem zx2851_0 {z : gH} {L d : Nat} {K : Option gV → gH → Prop} {s : gH} (p0 : Int) (hs : xM z s) (h_p0 : (-2147483648) ≤ p0 ∧ p0 ≤ 0) (q0 : gp_I s 1 2 = 0) (q1 : gp_I s 1 6 = 0) (q2 : gp_I s 1 7 = 1) (q3 : gp_I s 2 1 = 0) (q4 : gp_I s 2 2 = 0) (q5 : gp_I s 2 3 = 0) (q6 : gp_I s 2 4 = 0) (q7 : gp_I s 2 5 = 0) (q8 : gp_I s 2 6 = 0) (q9 : gp_I s 51 8 = 0) (q10 : gp_I s 57 1 = 0) (q11 : gp_I s 57 3 = 0) (q12 : ∀ k, k < 8 → gp_R s 4 k = some 25) (q13 : gp_R s 51 6 = some 55) (q14 : gp_R s 51 7 = some 56) (q15 : gp_us s = 606895) (q16 : gp_sz s = 117) (k : ∀ (t : gH), xM z t → (gp_I t 1 2 = 0) → (gp_I t 1 6 = 0) → (gp_I t 1 7 = 1) → (gp_I t 2 1 = 1) → (gp_I t 2 2 = 0) → (gp_I t 2 3 = 0) → (gp_I t 2 4 = 0) → (gp_I t 2 5 = 0) → (gp_I t 2 6 = 0) → (gp_I t 51 8 = 0) → (gp_I t 57 1 = 0) → (gp_I t 57 3 = 0) → (∀ k, k < 8 → gp_R t 4 k = some 25) → (gp_R t 51 6 = some 55) → (gp_R t 51 7 = some 56) → (gp_us t = 606895) → (gp_sz t = 117) → K (some (gp_i (-1000000001))) t) : gs_C L (d + 1) 2851 2 [gp_r (some 1), gp_i p0] s K := by
  refine s_2851_e _ ?_
  refine ⟨fun h_1 => ?_, fun h_1 => ?_⟩
  · refine s_2851_11 _ ?_
    refine zx2855_18 hs (by omega) (by omega) (by omega) (by omega) (by omega) (by omega) (by omega) (by omega) (by omega) (by omega) (by omega) (by omega) q12 q13 q14 q15 q16 (fun s_2 hs_3 q_4 q_5 q_6 q_7 q_8 q_9 q_10 q_11 q_12 q_13 q_14 q_15 q_16 q_17 q_18 q_19 q_20 => ⟨_, rfl, ?_⟩)
    exact k s_2 hs_3 (by omega) (by omega) (by omega) (by omega) (by omega) (by omega) (by omega) (by omega) (by omega) (by omega) (by omega) (by omega) q_16 q_17 q_18 q_19 q_20
  · exfalso; omega
set_option maxRecDepth 100000 in
/-- GatheredPoints.told [(1, 1)] -/
theorem zx2851_1 {z : gH} {L d : Nat} {K : Option gV → gH → Prop} {s : gH}  (hs : xM z s)  (q0 : gp_I s 1 2 = 0) (q1 : gp_I s 1 6 = 0) (q2 : gp_I s 1 7 = 1) (q3 : gp_I s 2 1 = 0) (q4 : gp_I s 2 2 = 0) (q5 : gp_I s 2 3 = 0) (q6 : gp_I s 2 4 = 0) (q7 : gp_I s 2 5 = 0) (q8 : gp_I s 2 6 = 0) (q9 : gp_I s 51 8 = 0) (q10 : gp_I s 57 1 = 0) (q11 : gp_I s 57 3 = 0) (q12 : ∀ k, k < 8 → gp_R s 4 k = some 25) (q13 : gp_R s 51 6 = some 55) (q14 : gp_R s 51 7 = some 56) (q15 : gp_us s = 606895) (q16 : gp_sz s = 117) (k : K (some (gp_i 0)) s) : gs_C L (d + 1) 2851 2 [gp_r (some 1), gp_i 1] s K := by
  refine s_2851_e _ ?_
  refine ⟨fun h_1 => ?_, fun h_1 => ?_⟩
  · exfalso; omega
  · refine ⟨fun h_2 => ?_, fun h_2 => ?_⟩
    · exfalso; omega
    · refine ⟨by omega, ?_⟩
      try rw [show gp_I s 2 (1 : Int).toNat = 0 from q3]
      exact k
set_option maxRecDepth 100000 in
/-- GatheredPoints.told [(2, 2)] -/
theorem zx2851_2 {z : gH} {L d : Nat} {K : Option gV → gH → Prop} {s : gH}  (hs : xM z s)  (q0 : gp_I s 1 2 = 0) (q1 : gp_I s 1 6 = 0) (q2 : gp_I s 1 7 = 1) (q3 : gp_I s 2 1 = 0) (q4 : gp_I s 2 2 = 0) (q5 : gp_I s 2 3 = 0) (q6 : gp_I s 2 4 = 0) (q7 : gp_I s 2 5 = 0) (q8 : gp_I s 2 6 = 0) (q9 : gp_I s 51 8 = 0) (q10 : gp_I s 57 1 = 0) (q11 : gp_I s 57 3 = 0) (q12 : ∀ k, k < 8 → gp_R s 4 k = some 25) (q13 : gp_R s 51 6 = some 55) (q14 : gp_R s 51 7 = some 56) (q15 : gp_us s = 606895) (q16 : gp_sz s = 117) (k : K (some (gp_i 0)) s) : gs_C L (d + 1) 2851 2 [gp_r (some 1), gp_i 2] s K := by
  refine s_2851_e _ ?_
  refine ⟨fun h_1 => ?_, fun h_1 => ?_⟩
  · exfalso; omega
  · refine ⟨fun h_2 => ?_, fun h_2 => ?_⟩
    · exfalso; omega
    · refine ⟨by omega, ?_⟩
      try rw [show gp_I s 2 (2 : Int).toNat = 0 from q4]
      exact k
set_option maxRecDepth 100000 in
/-- GatheredPoints.told [(3, 3)] -/
theorem zx2851_3 {z : gH} {L d : Nat} {K : Option gV → gH → Prop} {s : gH}  (hs : xM z s)  (q0 : gp_I s 1 2 = 0) (q1 : gp_I s 1 6 = 0) (q2 : gp_I s 1 7 = 1) (q3 : gp_I s 2 1 = 0) (q4 : gp_I s 2 2 = 0) (q5 : gp_I s 2 3 = 0) (q6 : gp_I s 2 4 = 0) (q7 : gp_I s 2 5 = 0) (q8 : gp_I s 2 6 = 0) (q9 : gp_I s 51 8 = 0) (q10 : gp_I s 57 1 = 0) (q11 : gp_I s 57 3 = 0) (q12 : ∀ k, k < 8 → gp_R s 4 k = some 25) (q13 : gp_R s 51 6 = some 55) (q14 : gp_R s 51 7 = some 56) (q15 : gp_us s = 606895) (q16 : gp_sz s = 117) (k : K (some (gp_i 0)) s) : gs_C L (d + 1) 2851 2 [gp_r (some 1), gp_i 3] s K := by
  refine s_2851_e _ ?_
  refine ⟨fun h_1 => ?_, fun h_1 => ?_⟩
  · exfalso; omega
  · refine ⟨fun h_2 => ?_, fun h_2 => ?_⟩
    · exfalso; omega
    · refine ⟨by omega, ?_⟩
      try rw [show gp_I s 2 (3 : Int).toNat = 0 from q5]
      exact k
set_option maxRecDepth 100000 in
/-- GatheredPoints.told [(4, 4)] -/
theorem zx2851_4 {z : gH} {L d : Nat} {K : Option gV → gH → Prop} {s : gH}  (hs : xM z s)  (q0 : gp_I s 1 2 = 0) (q1 : gp_I s 1 6 = 0) (q2 : gp_I s 1 7 = 1) (q3 : gp_I s 2 1 = 0) (q4 : gp_I s 2 2 = 0) (q5 : gp_I s 2 3 = 0) (q6 : gp_I s 2 4 = 0) (q7 : gp_I s 2 5 = 0) (q8 : gp_I s 2 6 = 0) (q9 : gp_I s 51 8 = 0) (q10 : gp_I s 57 1 = 0) (q11 : gp_I s 57 3 = 0) (q12 : ∀ k, k < 8 → gp_R s 4 k = some 25) (q13 : gp_R s 51 6 = some 55) (q14 : gp_R s 51 7 = some 56) (q15 : gp_us s = 606895) (q16 : gp_sz s = 117) (k : K (some (gp_i 0)) s) : gs_C L (d + 1) 2851 2 [gp_r (some 1), gp_i 4] s K := by
  refine s_2851_e _ ?_
  refine ⟨fun h_1 => ?_, fun h_1 => ?_⟩
  · exfalso; omega
  · refine ⟨fun h_2 => ?_, fun h_2 => ?_⟩
    · exfalso; omega
    · refine ⟨by omega, ?_⟩
      try rw [show gp_I s 2 (4 : Int).toNat = 0 from q6]
      exact k
set_option maxRecDepth 100000 in
/-- GatheredPoints.told [(5, 5)] -/
theorem zx2851_5 {z : gH} {L d : Nat} {K : Option gV → gH → Prop} {s : gH}  (hs : xM z s)  (q0 : gp_I s 1 2 = 0) (q1 : gp_I s 1 6 = 0) (q2 : gp_I s 1 7 = 1) (q3 : gp_I s 2 1 = 0) (q4 : gp_I s 2 2 = 0) (q5 : gp_I s 2 3 = 0) (q6 : gp_I s 2 4 = 0) (q7 : gp_I s 2 5 = 0) (q8 : gp_I s 2 6 = 0) (q9 : gp_I s 51 8 = 0) (q10 : gp_I s 57 1 = 0) (q11 : gp_I s 57 3 = 0) (q12 : ∀ k, k < 8 → gp_R s 4 k = some 25) (q13 : gp_R s 51 6 = some 55) (q14 : gp_R s 51 7 = some 56) (q15 : gp_us s = 606895) (q16 : gp_sz s = 117) (k : K (some (gp_i 0)) s) : gs_C L (d + 1) 2851 2 [gp_r (some 1), gp_i 5] s K := by
  refine s_2851_e _ ?_
  refine ⟨fun h_1 => ?_, fun h_1 => ?_⟩
  · exfalso; omega
  · refine ⟨fun h_2 => ?_, fun h_2 => ?_⟩
    · exfalso; omega
    · refine ⟨by omega, ?_⟩
      try rw [show gp_I s 2 (5 : Int).toNat = 0 from q7]
      exact k
set_option maxRecDepth 100000 in
/-- GatheredPoints.told [(6, 6)] -/
theorem zx2851_6 {z : gH} {L d : Nat} {K : Option gV → gH → Prop} {s : gH}  (hs : xM z s)  (q0 : gp_I s 1 2 = 0) (q1 : gp_I s 1 6 = 0) (q2 : gp_I s 1 7 = 1) (q3 : gp_I s 2 1 = 0) (q4 : gp_I s 2 2 = 0) (q5 : gp_I s 2 3 = 0) (q6 : gp_I s 2 4 = 0) (q7 : gp_I s 2 5 = 0) (q8 : gp_I s 2 6 = 0) (q9 : gp_I s 51 8 = 0) (q10 : gp_I s 57 1 = 0) (q11 : gp_I s 57 3 = 0) (q12 : ∀ k, k < 8 → gp_R s 4 k = some 25) (q13 : gp_R s 51 6 = some 55) (q14 : gp_R s 51 7 = some 56) (q15 : gp_us s = 606895) (q16 : gp_sz s = 117) (k : K (some (gp_i 0)) s) : gs_C L (d + 1) 2851 2 [gp_r (some 1), gp_i 6] s K := by
  refine s_2851_e _ ?_
  refine ⟨fun h_1 => ?_, fun h_1 => ?_⟩
  · exfalso; omega
  · refine ⟨fun h_2 => ?_, fun h_2 => ?_⟩
    · exfalso; omega
    · refine ⟨by omega, ?_⟩
      try rw [show gp_I s 2 (6 : Int).toNat = 0 from q8]
      exact k
set_option maxRecDepth 100000 in
/-- GatheredPoints.told [(7, 2147483647)] -/
theorem zx2851_7 {z : gH} {L d : Nat} {K : Option gV → gH → Prop} {s : gH} (p0 : Int) (hs : xM z s) (h_p0 : 7 ≤ p0 ∧ p0 ≤ 2147483647) (q0 : gp_I s 1 2 = 0) (q1 : gp_I s 1 6 = 0) (q2 : gp_I s 1 7 = 1) (q3 : gp_I s 2 1 = 0) (q4 : gp_I s 2 2 = 0) (q5 : gp_I s 2 3 = 0) (q6 : gp_I s 2 4 = 0) (q7 : gp_I s 2 5 = 0) (q8 : gp_I s 2 6 = 0) (q9 : gp_I s 51 8 = 0) (q10 : gp_I s 57 1 = 0) (q11 : gp_I s 57 3 = 0) (q12 : ∀ k, k < 8 → gp_R s 4 k = some 25) (q13 : gp_R s 51 6 = some 55) (q14 : gp_R s 51 7 = some 56) (q15 : gp_us s = 606895) (q16 : gp_sz s = 117) (k : ∀ (t : gH), xM z t → (gp_I t 1 2 = 0) → (gp_I t 1 6 = 0) → (gp_I t 1 7 = 1) → (gp_I t 2 1 = 1) → (gp_I t 2 2 = 0) → (gp_I t 2 3 = 0) → (gp_I t 2 4 = 0) → (gp_I t 2 5 = 0) → (gp_I t 2 6 = 0) → (gp_I t 51 8 = 0) → (gp_I t 57 1 = 0) → (gp_I t 57 3 = 0) → (∀ k, k < 8 → gp_R t 4 k = some 25) → (gp_R t 51 6 = some 55) → (gp_R t 51 7 = some 56) → (gp_us t = 606895) → (gp_sz t = 117) → K (some (gp_i (-1000000001))) t) : gs_C L (d + 1) 2851 2 [gp_r (some 1), gp_i p0] s K := by
  refine s_2851_e _ ?_
  refine ⟨fun h_1 => ?_, fun h_1 => ?_⟩
  · exfalso; omega
  · refine ⟨fun h_2 => ?_, fun h_2 => ?_⟩
    · refine s_2851_11 _ ?_
      refine zx2855_18 hs (by omega) (by omega) (by omega) (by omega) (by omega) (by omega) (by omega) (by omega) (by omega) (by omega) (by omega) (by omega) q12 q13 q14 q15 q16 (fun s_3 hs_4 q_5 q_6 q_7 q_8 q_9 q_10 q_11 q_12 q_13 q_14 q_15 q_16 q_17 q_18 q_19 q_20 q_21 => ⟨_, rfl, ?_⟩)
      exact k s_3 hs_4 (by omega) (by omega) (by omega) (by omega) (by omega) (by omega) (by omega) (by omega) (by omega) (by omega) (by omega) (by omega) q_17 q_18 q_19 q_20 q_21
    · exfalso; omega
