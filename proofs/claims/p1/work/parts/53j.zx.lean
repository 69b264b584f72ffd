set_option maxRecDepth 100000 in
/-- GatheredPoints.count [(1, 1)] -/
theorem zx2850_2 {z : gH} {L d : Nat} {K : Option gV → gH → Prop} {s : gH}  (hs : xM z s)  (q0 : gp_I s 1 2 = 0) (q1 : gp_I s 1 6 = 0) (q2 : gp_I s 1 7 = 1) (q3 : gp_I s 51 8 = 0) (q4 : gp_I s 57 1 = 0) (q5 : gp_I s 57 3 = 0) (q6 : gp_R s 25 6 = none) (q7 : gp_R s 25 7 = none) (q8 : gp_R s 25 8 = none) (q9 : gp_R s 25 9 = none) (q10 : ∀ k, k < 8 → gp_R s 4 k = some 25) (q11 : gp_R s 51 6 = some 55) (q12 : gp_R s 51 7 = some 56) (q13 : gp_us s = 606895) (q14 : gp_sz s = 117) (k : ∀ (t : gH), xM z t → (gp_I t 1 2 = 0) → (gp_I t 1 6 = 0) → (gp_I t 1 7 = 1) → (gp_I t 51 8 = 0) → (gp_I t 57 1 = 0) → (gp_I t 57 3 = 0) → (gp_R t 25 6 = none) → (gp_R t 25 7 = none) → (gp_R t 25 8 = none) → (gp_R t 25 9 = none) → (∀ k, k < 8 → gp_R t 4 k = some 25) → (gp_R t 51 6 = some 55) → (gp_R t 51 7 = some 56) → (gp_us t = 606895) → (gp_sz t = 117) → K (some (gp_i 8)) t) : gs_C L (d + 4) 2850 2 [gp_r (some 1), gp_i 1] s K := by
  refine s_2850_e _ ?_
  refine ⟨fun h_1 => ?_, fun h_1 => ?_, fun h_1 => ?_, fun h_1 => ?_, fun h_1 => ?_, fun h_1 => ?_⟩
  · exfalso; omega
  · refine zx2853_0 hs (by omega) (by omega) (by omega) (by omega) (by omega) (by omega) q6 q7 q8 q9 q10 q11 q12 q13 q14 (fun s_2 hs_3 q_4 q_5 q_6 q_7 q_8 q_9 q_10 q_11 q_12 q_13 q_14 q_15 q_16 q_17 q_18 => ⟨_, rfl, ?_⟩)
    exact k s_2 hs_3 (by omega) (by omega) (by omega) (by omega) (by omega) (by omega) q_10 q_11 q_12 q_13 q_14 q_15 q_16 q_17 q_18
  · exfalso; omega
  · exfalso; omega
  · exfalso; omega
  · exfalso; omega
set_option maxRecDepth 100000 in
/-- GatheredPoints.count [(2, 2)] -/
theorem zx2850_3 {z : gH} {L d : Nat} {K : Option gV → gH → Prop} {s : gH}  (hs : xM z s)  (q0 : gp_I s 1 2 = 0) (q1 : gp_I s 1 6 = 0) (q2 : gp_I s 1 7 = 1) (q3 : gp_I s 51 8 = 0) (q4 : gp_I s 57 1 = 0) (q5 : gp_I s 57 3 = 0) (q6 : gp_R s 25 6 = none) (q7 : gp_R s 25 7 = none) (q8 : gp_R s 25 8 = none) (q9 : gp_R s 25 9 = none) (q10 : ∀ k, k < 8 → gp_R s 4 k = some 25) (q11 : gp_R s 51 6 = some 55) (q12 : gp_R s 51 7 = some 56) (q13 : gp_us s = 606895) (q14 : gp_sz s = 117) (k : K (some (gp_i 0)) s) : gs_C L (d + 1) 2850 2 [gp_r (some 1), gp_i 2] s K := by
  refine s_2850_e _ ?_
  refine ⟨fun h_1 => ?_, fun h_1 => ?_, fun h_1 => ?_, fun h_1 => ?_, fun h_1 => ?_, fun h_1 => ?_⟩
  · exfalso; omega
  · exfalso; omega
  · try rw [show gp_I s 1 2 = 0 from q0]
    exact k
  · exfalso; omega
  · exfalso; omega
  · exfalso; omega
set_option maxRecDepth 100000 in
/-- GatheredPoints.count [(3, 3)] -/
theorem zx2850_4 {z : gH} {L d : Nat} {K : Option gV → gH → Prop} {s : gH}  (hs : xM z s)  (q0 : gp_I s 1 2 = 0) (q1 : gp_I s 1 6 = 0) (q2 : gp_I s 1 7 = 1) (q3 : gp_I s 51 8 = 0) (q4 : gp_I s 57 1 = 0) (q5 : gp_I s 57 3 = 0) (q6 : gp_R s 25 6 = none) (q7 : gp_R s 25 7 = none) (q8 : gp_R s 25 8 = none) (q9 : gp_R s 25 9 = none) (q10 : ∀ k, k < 8 → gp_R s 4 k = some 25) (q11 : gp_R s 51 6 = some 55) (q12 : gp_R s 51 7 = some 56) (q13 : gp_us s = 606895) (q14 : gp_sz s = 117) (k : K (some (gp_i 0)) s) : gs_C L (d + 1) 2850 2 [gp_r (some 1), gp_i 3] s K := by
  refine s_2850_e _ ?_
  refine ⟨fun h_1 => ?_, fun h_1 => ?_, fun h_1 => ?_, fun h_1 => ?_, fun h_1 => ?_, fun h_1 => ?_⟩
  · exfalso; omega
  · exfalso; omega
  · exfalso; omega
  · try rw [show gp_I s 57 1 = 0 from q4]
    refine ⟨fun h_2 => ?_, fun h_2 => ?_⟩
    · refine s_2850_72 _ _ ?_
      exact k
    · exfalso; omega
  · exfalso; omega
  · exfalso; omega
set_option maxRecDepth 100000 in
/-- GatheredPoints.count [(4, 4)] -/
theorem zx2850_5 {z : gH} {L d : Nat} {K : Option gV → gH → Prop} {s : gH}  (hs : xM z s)  (q0 : gp_I s 1 2 = 0) (q1 : gp_I s 1 6 = 0) (q2 : gp_I s 1 7 = 1) (q3 : gp_I s 51 8 = 0) (q4 : gp_I s 57 1 = 0) (q5 : gp_I s 57 3 = 0) (q6 : gp_R s 25 6 = none) (q7 : gp_R s 25 7 = none) (q8 : gp_R s 25 8 = none) (q9 : gp_R s 25 9 = none) (q10 : ∀ k, k < 8 → gp_R s 4 k = some 25) (q11 : gp_R s 51 6 = some 55) (q12 : gp_R s 51 7 = some 56) (q13 : gp_us s = 606895) (q14 : gp_sz s = 117) (k : K (some (gp_i 1)) s) : gs_C L (d + 1) 2850 2 [gp_r (some 1), gp_i 4] s K := by
  refine s_2850_e _ ?_
  refine ⟨fun h_1 => ?_, fun h_1 => ?_, fun h_1 => ?_, fun h_1 => ?_, fun h_1 => ?_, fun h_1 => ?_⟩
  · exfalso; omega
  · exfalso; omega
  · exfalso; omega
  · exfalso; omega
  · try rw [show gp_I s 1 7 = 1 from q2]
    exact k
  · exfalso; omega
set_option maxRecDepth 100000 in
/-- GatheredPoints.count [(5, 2147483647)] -/
theorem zx2850_6 {z : gH} {L d : Nat} {K : Option gV → gH → Prop} {s : gH} (p0 : Int) (hs : xM z s) (h_p0 : 5 ≤ p0 ∧ p0 ≤ 2147483647) (q0 : gp_I s 1 2 = 0) (q1 : gp_I s 1 6 = 0) (q2 : gp_I s 1 7 = 1) (q3 : gp_I s 51 8 = 0) (q4 : gp_I s 57 1 = 0) (q5 : gp_I s 57 3 = 0) (q6 : gp_R s 25 6 = none) (q7 : gp_R s 25 7 = none) (q8 : gp_R s 25 8 = none) (q9 : gp_R s 25 9 = none) (q10 : ∀ k, k < 8 → gp_R s 4 k = some 25) (q11 : gp_R s 51 6 = some 55) (q12 : gp_R s 51 7 = some 56) (q13 : gp_us s = 606895) (q14 : gp_sz s = 117) (k : ∀ (t : gH), xM z t → (gp_I t 1 2 = 0) → (gp_I t 1 6 = 0) → (gp_I t 1 7 = 1) → ((-2147483648) ≤ gp_I t 2 1 ∧ gp_I t 2 1 ≤ 2147483647) → (gp_I t 51 8 = 0) → (gp_I t 57 1 = 0) → (gp_I t 57 3 = 0) → (gp_R t 25 6 = none) → (gp_R t 25 7 = none) → (gp_R t 25 8 = none) → (gp_R t 25 9 = none) → (∀ k, k < 8 → gp_R t 4 k = some 25) → (gp_R t 51 6 = some 55) → (gp_R t 51 7 = some 56) → (gp_us t = 606895) → (gp_sz t = 117) → K (some (gp_i (-1000000001))) t) : gs_C L (d + 1) 2850 2 [gp_r (some 1), gp_i p0] s K := by
  refine s_2850_e _ ?_
  refine ⟨fun h_1 => ?_, fun h_1 => ?_, fun h_1 => ?_, fun h_1 => ?_, fun h_1 => ?_, fun h_1 => ?_⟩
  · exfalso; omega
  · exfalso; omega
  · exfalso; omega
  · exfalso; omega
  · exfalso; omega
  · refine zx2855_4 hs (by omega) (by omega) (by omega) (by omega) (by omega) (by omega) q6 q7 q8 q9 q10 q11 q12 q13 q14 (fun s_2 hs_3 q_4 q_5 q_6 q_7 q_8 q_9 q_10 q_11 q_12 q_13 q_14 q_15 q_16 q_17 q_18 q_19 => ⟨_, rfl, ?_⟩)
    exact k s_2 hs_3 (by omega) (by omega) (by omega) (by omega) (by omega) (by omega) (by omega) q_11 q_12 q_13 q_14 q_15 q_16 q_17 q_18 q_19
set_option maxRecDepth 100000 in
/-- GatheredPoints.refused [(1, 1)] -/
theorem zx2855_18 {z : gH} {L d : Nat} {K : Option gV → gH → Prop} {s : gH}  (hs : xM z s)  (q0 : gp_I s 1 2 = 0) (q1 : gp_I s 1 6 = 0) (q2 : gp_I s 1 7 = 1) (q3 : gp_I s 2 1 = 0) (q4 : gp_I s 2 2 = 0) (q5 : gp_I s 2 3 = 0) (q6 : gp_I s 2 4 = 0) (q7 : gp_I s 2 5 = 0) (q8 : gp_I s 2 6 = 0) (q9 : gp_I s 51 8 = 0) (q10 : gp_I s 57 1 = 0) (q11 : gp_I s 57 3 = 0) (q12 : ∀ k, k < 8 → gp_R s 4 k = some 25) (q13 : gp_R s 51 6 = some 55) (q14 : gp_R s 51 7 = some 56) (q15 : gp_us s = 606895) (q16 : gp_sz s = 117) (k : ∀ (t : gH), xM z t → (gp_I t 1 2 = 0) → (gp_I t 1 6 = 0) → (gp_I t 1 7 = 1) → (gp_I t 2 1 = 1) → (gp_I t 2 2 = 0) → (gp_I t 2 3 = 0) → (gp_I t 2 4 = 0) → (gp_I t 2 5 = 0) → (gp_I t 2 6 = 0) → (gp_I t 51 8 = 0) → (gp_I t 57 1 = 0) → (gp_I t 57 3 = 0) → (∀ k, k < 8 → gp_R t 4 k = some 25) → (gp_R t 51 6 = some 55) → (gp_R t 51 7 = some 56) → (gp_us t = 606895) → (gp_sz t = 117) → K (some (gp_i (-1000000001))) t) : gs_C L d 2855 2 [gp_r (some 1), gp_i 1] s K := by
  refine s_2855_e _ ?_
  refine ⟨by omega, ?_⟩
  try rw [show gp_I s 2 (1 : Int).toNat = 0 from q3]
  have w_1 := gz_w (0 + 1)
  have e_2 : gp_wr (0 + 1) = 1 := by omega
  try rw [e_2]
  refine ⟨by omega, ?_⟩
  intro s_3 e_4
  have hs_5 : xM z s_3 := by rw [e_4]; exact xw2 hs _ _
  have q_6 : gp_I s_3 1 2 = 0 := by rw [e_4]; exact q0
  have q_7 : gp_I s_3 1 6 = 0 := by rw [e_4]; exact q1
  have q_8 : gp_I s_3 1 7 = 1 := by rw [e_4]; exact q2
  have q_9 : gp_I s_3 2 2 = 0 := by rw [e_4]; exact q4
  have q_10 : gp_I s_3 2 3 = 0 := by rw [e_4]; exact q5
  have q_11 : gp_I s_3 2 4 = 0 := by rw [e_4]; exact q6
  have q_12 : gp_I s_3 2 5 = 0 := by rw [e_4]; exact q7
  have q_13 : gp_I s_3 2 6 = 0 := by rw [e_4]; exact q8
  have q_14 : gp_I s_3 51 8 = 0 := by rw [e_4]; exact q9
  have q_15 : gp_I s_3 57 1 = 0 := by rw [e_4]; exact q10
  have q_16 : gp_I s_3 57 3 = 0 := by rw [e_4]; exact q11
  have q_17 : ∀ k, k < 8 → gp_R s_3 4 k = some 25 := by rw [e_4]; exact q12
  have q_18 : gp_R s_3 51 6 = some 55 := by rw [e_4]; exact q13
  have q_19 : gp_R s_3 51 7 = some 56 := by rw [e_4]; exact q14
  have q_20 : gp_us s_3 = 606895 := by rw [e_4]; exact q15
  have q_21 : gp_sz s_3 = 117 := by rw [e_4]; exact q16
  have q_22 : gp_I s_3 2 1 = 1 := by rw [e_4]; rfl
  have w_24 := gz_w ((-1000000000) - 1)
  have e_25 : gp_wr ((-1000000000) - 1) = (-1000000001) := by omega
  try rw [e_25]
  exact k s_3 hs_5 (by omega) (by omega) (by omega) (by omega) (by omega) (by omega) (by omega) (by omega) (by omega) (by omega) (by omega) (by omega) q_17 q_18 q_19 q_20 q_21
set_option maxRecDepth 100000 in
/-- GatheredPoints.told [(-2147483648, 0)] -/
theorem zx2851_0 {z : gH} {L d : Nat} {K : Option gV → gH → Prop} {s : gH} (p0 : Int) (hs : xM z s) (h_p0 : (-2147483648) ≤ p0 ∧ p0 ≤ 0) (q0 : gp_I s 1 2 = 0) (q1 : gp_I s 1 6 = 0) (q2 : gp_I s 1 7 = 1) (q3 : gp_I s 2 1 = 0) (q4 : gp_I s 2 2 = 0) (q5 : gp_I s 2 3 = 0) (q6 : gp_I s 2 4 = 0) (q7 : gp_I s 2 5 = 0) (q8 : gp_I s 2 6 = 0) (q9 : gp_I s 51 8 = 0) (q10 : gp_I s 57 1 = 0) (q11 : gp_I s 57 3 = 0) (q12 : ∀ k, k < 8 → gp_R s 4 k = some 25) (q13 : gp_R s 51 6 = some 55) (q14 : gp_R s 51 7 = some 56) (q15 : gp_us s = 606895) (q16 : gp_sz s = 117) (k : ∀ (t : gH), xM z t → (gp_I t 1 2 = 0) → (gp_I t 1 6 = 0) → (gp_I t 1 7 = 1) → (gp_I t 2 1 = 1) → (gp_I t 2 2 = 0) → (gp_I t 2 3 = 0) → (gp_I t 2 4 = 0) → (gp_I t 2 5 = 0) → (gp_I t 2 6 = 0) → (gp_I t 51 8 = 0) → (gp_I t 57 1 = 0) → (gp_I t 57 3 = 0) → (∀ k, k < 8 → gp_R t 4 k = some 25) → (gp_R t 51 6 = some 55) → (gp_R t 51 7 = some 56) → (gp_us t = 606895) → (gp_sz t = 117) → K (some (gp_i (-1000000001))) t) : gs_C L (d + 1) 2851 2 [gp_r (some 1), gp_i p0] s K := by
  refine s_2851_e _ ?_
  refine ⟨fun h_1 => ?_, fun h_1 => ?_⟩
  · refine s_2851_11 _ ?_
    refine zx2855_18 hs (by omega) (by omega) (by omega) (by omega) (by omega) (by omega) (by omega) (by omega) (by omega) (by omega) (by omega) (by omega) q12 q13 q14 q15 q16 (fun s_2 hs_3 q_4 q_5 q_6 q_7 q_8 q_9 q_10 q_11 q_12 q_13 q_14 q_15 q_16 q_17 q_18 q_19 q_20 => ⟨_, rfl, ?_⟩)
    exact k s_2 hs_3 (by omega) (by omega) (by omega) (by omega) (by omega) (by omega) (by omega) (by omega) (by omega) (by omega) (by omega) (by omega) q_16 q_17 q_18 q_19 q_20
  · exfalso; omega
set_option maxRecDepth 100000 in
/-- GatheredPoints.told [(1, 1)] -/
theorem zx2851_1 {z : gH} {L d : Nat} {K : Option gV → gH → Prop} {s : gH}  (hs : xM z s)  (q0 : gp_I s 1 2 = 0) (q1 : gp_I s 1 6 = 0) (q2 : gp_I s 1 7 = 1) (q3 : gp_I s 2 1 = 0) (q4 : gp_I s 2 2 = 0) (q5 : gp_I s 2 3 = 0) (q6 : gp_I s 2 4 = 0) (q7 : gp_I s 2 5 = 0) (q8 : gp_I s 2 6 = 0) (q9 : gp_I s 51 8 = 0) (q10 : gp_I s 57 1 = 0) (q11 : gp_I s 57 3 = 0) (q12 : ∀ k, k < 8 → gp_R s 4 k = some 25) (q13 : gp_R s 51 6 = some 55) (q14 : gp_R s 51 7 = some 56) (q15 : gp_us s = 606895) (q16 : gp_sz s = 117) (k : K (some (gp_i 0)) s) : gs_C L (d + 1) 2851 2 [gp_r (some 1), gp_i 1] s K := by
  refine s_2851_e _ ?_
  refine ⟨fun h_1 => ?_, fun h_1 => ?_⟩
  · exfalso; omega
  · refine ⟨fun h_2 => ?_, fun h_2 => ?_⟩
    · exfalso; omega
    · refine ⟨by omega, ?_⟩
      try rw [show gp_I s 2 (1 : Int).toNat = 0 from q3]
      exact k
set_option maxRecDepth 100000 in
/-- GatheredPoints.told [(2, 2)] -/
theorem zx2851_2 {z : gH} {L d : Nat} {K : Option gV → gH → Prop} {s : gH}  (hs : xM z s)  (q0 : gp_I s 1 2 = 0) (q1 : gp_I s 1 6 = 0) (q2 : gp_I s 1 7 = 1) (q3 : gp_I s 2 1 = 0) (q4 : gp_I s 2 2 = 0) (q5 : gp_I s 2 3 = 0) (q6 : gp_I s 2 4 = 0) (q7 : gp_I s 2 5 = 0) (q8 : gp_I s 2 6 = 0) (q9 : gp_I s 51 8 = 0) (q10 : gp_I s 57 1 = 0) (q11 : gp_I s 57 3 = 0) (q12 : ∀ k, k < 8 → gp_R s 4 k = some 25) (q13 : gp_R s 51 6 = some 55) (q14 : gp_R s 51 7 = some 56) (q15 : gp_us s = 606895) (q16 : gp_sz s = 117) (k : K (some (gp_i 0)) s) : gs_C L (d + 1) 2851 2 [gp_r (some 1), gp_i 2] s K := by
  refine s_2851_e _ ?_
  refine ⟨fun h_1 => ?_, fun h_1 => ?_⟩
  · exfalso; omega
  · refine ⟨fun h_2 => ?_, fun h_2 => ?_⟩
    · exfalso; omega
    · refine ⟨by omega, ?_⟩
      try rw [show gp_I s 2 (2 : Int).toNat = 0 from q4]
      exact k
set_option maxRecDepth 100000 in
/-- GatheredPoints.told [(3, 3)] -/
theorem zx2851_3 {z : gH} {L d : Nat} {K : Option gV → gH → Prop} {s : gH}  (hs : xM z s)  (q0 : gp_I s 1 2 = 0) (q1 : gp_I s 1 6 = 0) (q2 : gp_I s 1 7 = 1) (q3 : gp_I s 2 1 = 0) (q4 : gp_I s 2 2 = 0) (q5 : gp_I s 2 3 = 0) (q6 : gp_I s 2 4 = 0) (q7 : gp_I s 2 5 = 0) (q8 : gp_I s 2 6 = 0) (q9 : gp_I s 51 8 = 0) (q10 : gp_I s 57 1 = 0) (q11 : gp_I s 57 3 = 0) (q12 : ∀ k, k < 8 → gp_R s 4 k = some 25) (q13 : gp_R s 51 6 = some 55) (q14 : gp_R s 51 7 = some 56) (q15 : gp_us s = 606895) (q16 : gp_sz s = 117) (k : K (some (gp_i 0)) s) : gs_C L (d + 1) 2851 2 [gp_r (some 1), gp_i 3] s K := by
  refine s_2851_e _ ?_
  refine ⟨fun h_1 => ?_, fun h_1 => ?_⟩
  · exfalso; omega
  · refine ⟨fun h_2 => ?_, fun h_2 => ?_⟩
    · exfalso; omega
    · refine ⟨by omega, ?_⟩
      try rw [show gp_I s 2 (3 : Int).toNat = 0 from q5]
      exact k
set_option maxRecDepth 100000 in
/-- GatheredPoints.told [(4, 4)] -/
theorem zx2851_4 {z : gH} {L d : Nat} {K : Option gV → gH → Prop} {s : gH}  (hs : xM z s)  (q0 : gp_I s 1 2 = 0) (q1 : gp_I s 1 6 = 0) (q2 : gp_I s 1 7 = 1) (q3 : gp_I s 2 1 = 0) (q4 : gp_I s 2 2 = 0) (q5 : gp_I s 2 3 = 0) (q6 : gp_I s 2 4 = 0) (q7 : gp_I s 2 5 = 0) (q8 : gp_I s 2 6 = 0) (q9 : gp_I s 51 8 = 0) (q10 : gp_I s 57 1 = 0) (q11 : gp_I s 57 3 = 0) (q12 : ∀ k, k < 8 → gp_R s 4 k = some 25) (q13 : gp_R s 51 6 = some 55) (q14 : gp_R s 51 7 = some 56) (q15 : gp_us s = 606895) (q16 : gp_sz s = 117) (k : K (some (gp_i 0)) s) : gs_C L (d + 1) 2851 2 [gp_r (some 1), gp_i 4] s K := by
  refine s_2851_e _ ?_
  refine ⟨fun h_1 => ?_, fun h_1 => ?_⟩
  · exfalso; omega
  · refine ⟨fun h_2 => ?_, fun h_2 => ?_⟩
    · exfalso; omega
    · refine ⟨by omega, ?_⟩
      try rw [show gp_I s 2 (4 : Int).toNat = 0 from q6]
      exact k
set_option maxRecDepth 100000 in
/-- GatheredPoints.told [(5, 5)] -/
theorem zx2851_5 {z : gH} {L d : Nat} {K : Option gV → gH → Prop} {s : gH}  (hs : xM z s)  (q0 : gp_I s 1 2 = 0) (q1 : gp_I s 1 6 = 0) (q2 : gp_I s 1 7 = 1) (q3 : gp_I s 2 1 = 0) (q4 : gp_I s 2 2 = 0) (q5 : gp_I s 2 3 = 0) (q6 : gp_I s 2 4 = 0) (q7 : gp_I s 2 5 = 0) (q8 : gp_I s 2 6 = 0) (q9 : gp_I s 51 8 = 0) (q10 : gp_I s 57 1 = 0) (q11 : gp_I s 57 3 = 0) (q12 : ∀ k, k < 8 → gp_R s 4 k = some 25) (q13 : gp_R s 51 6 = some 55) (q14 : gp_R s 51 7 = some 56) (q15 : gp_us s = 606895) (q16 : gp_sz s = 117) (k : K (some (gp_i 0)) s) : gs_C L (d + 1) 2851 2 [gp_r (some 1), gp_i 5] s K := by
  refine s_2851_e _ ?_
  refine ⟨fun h_1 => ?_, fun h_1 => ?_⟩
  · exfalso; omega
  · refine ⟨fun h_2 => ?_, fun h_2 => ?_⟩
    · exfalso; omega
    · refine ⟨by omega, ?_⟩
      try rw [show gp_I s 2 (5 : Int).toNat = 0 from q7]
      exact k
set_option maxRecDepth 100000 in
/-- GatheredPoints.told [(6, 6)] -/
theorem zx2851_6 {z : gH} {L d : Nat} {K : Option gV → gH → Prop} {s : gH}  (hs : xM z s)  (q0 : gp_I s 1 2 = 0) (q1 : gp_I s 1 6 = 0) (q2 : gp_I s 1 7 = 1) (q3 : gp_I s 2 1 = 0) (q4 : gp_I s 2 2 = 0) (q5 : gp_I s 2 3 = 0) (q6 : gp_I s 2 4 = 0) (q7 : gp_I s 2 5 = 0) (q8 : gp_I s 2 6 = 0) (q9 : gp_I s 51 8 = 0) (q10 : gp_I s 57 1 = 0) (q11 : gp_I s 57 3 = 0) (q12 : ∀ k, k < 8 → gp_R s 4 k = some 25) (q13 : gp_R s 51 6 = some 55) (q14 : gp_R s 51 7 = some 56) (q15 : gp_us s = 606895) (q16 : gp_sz s = 117) (k : K (some (gp_i 0)) s) : gs_C L (d + 1) 2851 2 [gp_r (some 1), gp_i 6] s K := by
  refine s_2851_e _ ?_
  refine ⟨fun h_1 => ?_, fun h_1 => ?_⟩
  · exfalso; omega
  · refine ⟨fun h_2 => ?_, fun h_2 => ?_⟩
    · exfalso; omega
    · refine ⟨by omega, ?_⟩
      try rw [show gp_I s 2 (6 : Int).toNat = 0 from q8]
      exact k
set_option maxRecDepth 100000 in
/-- GatheredPoints.told [(7, 2147483647)] -/
theorem zx2851_7 {z : gH} {L d : Nat} {K : Option gV → gH → Prop} {s : gH} (p0 : Int) (hs : xM z s) (h_p0 : 7 ≤ p0 ∧ p0 ≤ 2147483647) (q0 : gp_I s 1 2 = 0) (q1 : gp_I s 1 6 = 0) (q2 : gp_I s 1 7 = 1) (q3 : gp_I s 2 1 = 0) (q4 : gp_I s 2 2 = 0) (q5 : gp_I s 2 3 = 0) (q6 : gp_I s 2 4 = 0) (q7 : gp_I s 2 5 = 0) (q8 : gp_I s 2 6 = 0) (q9 : gp_I s 51 8 = 0) (q10 : gp_I s 57 1 = 0) (q11 : gp_I s 57 3 = 0) (q12 : ∀ k, k < 8 → gp_R s 4 k = some 25) (q13 : gp_R s 51 6 = some 55) (q14 : gp_R s 51 7 = some 56) (q15 : gp_us s = 606895) (q16 : gp_sz s = 117) (k : ∀ (t : gH), xM z t → (gp_I t 1 2 = 0) → (gp_I t 1 6 = 0) → (gp_I t 1 7 = 1) → (gp_I t 2 1 = 1) → (gp_I t 2 2 = 0) → (gp_I t 2 3 = 0) → (gp_I t 2 4 = 0) → (gp_I t 2 5 = 0) → (gp_I t 2 6 = 0) → (gp_I t 51 8 = 0) → (gp_I t 57 1 = 0) → (gp_I t 57 3 = 0) → (∀ k, k < 8 → gp_R t 4 k = some 25) → (gp_R t 51 6 = some 55) → (gp_R t 51 7 = some 56) → (gp_us t = 606895) → (gp_sz t = 117) → K (some (gp_i (-1000000001))) t) : gs_C L (d + 1) 2851 2 [gp_r (some 1), gp_i p0] s K := by
  refine s_2851_e _ ?_
  refine ⟨fun h_1 => ?_, fun h_1 => ?_⟩
  · exfalso; omega
  · refine ⟨fun h_2 => ?_, fun h_2 => ?_⟩
    · refine s_2851_11 _ ?_
      refine zx2855_18 hs (by omega) (by omega) (by omega) (by omega) (by omega) (by omega) (by omega) (by omega) (by omega) (by omega) (by omega) (by omega) q12 q13 q14 q15 q16 (fun s_3 hs_4 q_5 q_6 q_7 q_8 q_9 q_10 q_11 q_12 q_13 q_14 q_15 q_16 q_17 q_18 q_19 q_20 q_21 => ⟨_, rfl, ?_⟩)
      exact k s_3 hs_4 (by omega) (by omega) (by omega) (by omega) (by omega) (by omega) (by omega) (by omega) (by omega) (by omega) (by omega) (by omega) q_17 q_18 q_19 q_20 q_21
    · exfalso; omega
set_option maxRecDepth 100000 in
/-- GatheredPoints.noSet [(-2147483648, 0)] -/
theorem zx2858_0 {z : gH} {L d : Nat} {K : Option gV → gH → Prop} {s : gH} (p0 : Int) (hs : xM z s) (h_p0 : (-2147483648) ≤ p0 ∧ p0 ≤ 0)  (k : K (some (gp_i 1)) s) : gs_C L (d + 1) 2858 1 [gp_i p0] s K := by
  refine s_2858_e _ ?_
  refine ⟨fun h_1 => ?_, fun h_1 => ?_⟩
  · refine s_2858_20 _ ?_
    refine s_2858_25 _ _ ?_
    refine ⟨by omega, ?_⟩
    exact k
  · exfalso; omega
set_option maxRecDepth 100000 in
/-- GatheredPoints.score [(-2147483648, 0), (-2147483648, 2147483647)] -/
theorem zx2832_0 {z : gH} {L d : Nat} {K : Option gV → gH → Prop} {s : gH} (p0 : Int) (p1 : Int) (hs : xM z s) (h_p0 : (-2147483648) ≤ p0 ∧ p0 ≤ 0) (h_p1 : (-2147483648) ≤ p1 ∧ p1 ≤ 2147483647) (q0 : gp_I s 1 2 = 0) (q1 : gp_I s 1 6 = 0) (q2 : gp_I s 1 7 = 1) (q3 : gp_I s 51 8 = 0) (q4 : gp_I s 57 1 = 0) (q5 : gp_I s 57 3 = 0) (q6 : gp_I s 60 8 = 0) (q7 : gp_R s 25 6 = none) (q8 : gp_R s 25 7 = none) (q9 : gp_R s 25 8 = none) (q10 : gp_R s 25 9 = none) (q11 : ∀ k, k < 8 → gp_R s 4 k = some 25) (q12 : gp_R s 51 6 = some 55) (q13 : gp_R s 51 7 = some 56) (q14 : ∀ k, k < 3 → gp_R s 52 k = some 25) (q15 : gp_R s 60 6 = some 64) (q16 : gp_R s 60 7 = some 65) (q17 : ∀ k, k < 3 → gp_R s 61 k = some 25) (q18 : gp_us s = 606895) (q19 : gp_sz s = 117) (k : ∀ (t : gH), xM z t → (gp_I t 1 2 = 0) → (gp_I t 1 6 = 0) → (gp_I t 1 7 = 1) → ((-2147483648) ≤ gp_I t 2 1 ∧ gp_I t 2 1 ≤ 2147483647) → (gp_I t 51 8 = 0) → (gp_I t 57 1 = 0) → (gp_I t 57 3 = 0) → (gp_I t 60 8 = 0) → (gp_R t 25 6 = none) → (gp_R t 25 7 = none) → (gp_R t 25 8 = none) → (gp_R t 25 9 = none) → (∀ k, k < 8 → gp_R t 4 k = some 25) → (gp_R t 51 6 = some 55) → (gp_R t 51 7 = some 56) → (∀ k, k < 3 → gp_R t 52 k = some 25) → (gp_R t 60 6 = some 64) → (gp_R t 60 7 = some 65) → (∀ k, k < 3 → gp_R t 61 k = some 25) → (gp_us t = 606895) → (gp_sz t = 117) → K (some (gp_i (-1000000001))) t) : gs_C L (d + 2) 2832 3 [gp_r (some 1), gp_i p0, gp_i p1] s K := by
  refine s_2832_e _ _ ?_
  refine zx2858_0 _ hs (by omega) (⟨_, rfl, ?_⟩)
  refine ⟨fun h_1 => ?_, fun h_1 => ?_⟩
  · exfalso; omega
  · refine s_2832_14 _ _ ?_
    refine zx2855_10 hs (by omega) (by omega) (by omega) (by omega) (by omega) (by omega) (by omega) q7 q8 q9 q10 q11 q12 q13 q14 q15 q16 q17 q18 q19 (fun s_2 hs_3 q_4 q_5 q_6 q_7 q_8 q_9 q_10 q_11 q_12 q_13 q_14 q_15 q_16 q_17 q_18 q_19 q_20 q_21 q_22 q_23 q_24 => ⟨_, rfl, ?_⟩)
    exact k s_2 hs_3 (by omega) (by omega) (by omega) (by omega) (by omega) (by omega) (by omega) (by omega) q_12 q_13 q_14 q_15 q_16 q_17 q_18 q_19 q_20 q_21 q_22 q_23 q_24
set_option maxRecDepth 100000 in
/-- GatheredPoints.noSet [(256, 2147483647)] -/
theorem zx2858_1 {z : gH} {L d : Nat} {K : Option gV → gH → Prop} {s : gH} (p0 : Int) (hs : xM z s) (h_p0 : 256 ≤ p0 ∧ p0 ≤ 2147483647)  (k : K (some (gp_i 1)) s) : gs_C L (d + 1) 2858 1 [gp_i p0] s K := by
  refine s_2858_e _ ?_
  refine ⟨fun h_1 => ?_, fun h_1 => ?_⟩
  · exfalso; omega
  · refine ⟨fun h_2 => ?_, fun h_2 => ?_⟩
    · exfalso; omega
    · refine s_2858_20 _ ?_
      refine s_2858_25 _ _ ?_
      refine ⟨by omega, ?_⟩
      exact k
set_option maxRecDepth 100000 in
/-- GatheredPoints.score [(256, 2147483647), (-2147483648, 2147483647)] -/
theorem zx2832_1 {z : gH} {L d : Nat} {K : Option gV → gH → Prop} {s : gH} (p0 : Int) (p1 : Int) (hs : xM z s) (h_p0 : 256 ≤ p0 ∧ p0 ≤ 2147483647) (h_p1 : (-2147483648) ≤ p1 ∧ p1 ≤ 2147483647) (q0 : gp_I s 1 2 = 0) (q1 : gp_I s 1 6 = 0) (q2 : gp_I s 1 7 = 1) (q3 : gp_I s 51 8 = 0) (q4 : gp_I s 57 1 = 0) (q5 : gp_I s 57 3 = 0) (q6 : gp_I s 60 8 = 0) (q7 : gp_R s 25 6 = none) (q8 : gp_R s 25 7 = none) (q9 : gp_R s 25 8 = none) (q10 : gp_R s 25 9 = none) (q11 : ∀ k, k < 8 → gp_R s 4 k = some 25) (q12 : gp_R s 51 6 = some 55) (q13 : gp_R s 51 7 = some 56) (q14 : ∀ k, k < 3 → gp_R s 52 k = some 25) (q15 : gp_R s 60 6 = some 64) (q16 : gp_R s 60 7 = some 65) (q17 : ∀ k, k < 3 → gp_R s 61 k = some 25) (q18 : gp_us s = 606895) (q19 : gp_sz s = 117) (k : ∀ (t : gH), xM z t → (gp_I t 1 2 = 0) → (gp_I t 1 6 = 0) → (gp_I t 1 7 = 1) → ((-2147483648) ≤ gp_I t 2 1 ∧ gp_I t 2 1 ≤ 2147483647) → (gp_I t 51 8 = 0) → (gp_I t 57 1 = 0) → (gp_I t 57 3 = 0) → (gp_I t 60 8 = 0) → (gp_R t 25 6 = none) → (gp_R t 25 7 = none) → (gp_R t 25 8 = none) → (gp_R t 25 9 = none) → (∀ k, k < 8 → gp_R t 4 k = some 25) → (gp_R t 51 6 = some 55) → (gp_R t 51 7 = some 56) → (∀ k, k < 3 → gp_R t 52 k = some 25) → (gp_R t 60 6 = some 64) → (gp_R t 60 7 = some 65) → (∀ k, k < 3 → gp_R t 61 k = some 25) → (gp_us t = 606895) → (gp_sz t = 117) → K (some (gp_i (-1000000001))) t) : gs_C L (d + 2) 2832 3 [gp_r (some 1), gp_i p0, gp_i p1] s K := by
  refine s_2832_e _ _ ?_
  refine zx2858_1 _ hs (by omega) (⟨_, rfl, ?_⟩)
  refine ⟨fun h_1 => ?_, fun h_1 => ?_⟩
  · exfalso; omega
  · refine s_2832_14 _ _ ?_
    refine zx2855_10 hs (by omega) (by omega) (by omega) (by omega) (by omega) (by omega) (by omega) q7 q8 q9 q10 q11 q12 q13 q14 q15 q16 q17 q18 q19 (fun s_2 hs_3 q_4 q_5 q_6 q_7 q_8 q_9 q_10 q_11 q_12 q_13 q_14 q_15 q_16 q_17 q_18 q_19 q_20 q_21 q_22 q_23 q_24 => ⟨_, rfl, ?_⟩)
    exact k s_2 hs_3 (by omega) (by omega) (by omega) (by omega) (by omega) (by omega) (by omega) (by omega) q_12 q_13 q_14 q_15 q_16 q_17 q_18 q_19 q_20 q_21 q_22 q_23 q_24
set_option maxRecDepth 100000 in
/-- GatheredPoints.score [(1, 255, 'S4'), (-2147483648, 2147483647)] -/
theorem zx2832_2 {z : gH} {L d : Nat} {K : Option gV → gH → Prop} {s : gH} (p0 : Int) (p1 : Int) (hs : xM z s) (h_p0 : 1 ≤ p0 ∧ p0 ≤ 255) (h_p1 : (-2147483648) ≤ p1 ∧ p1 ≤ 2147483647) (g_p0 : gm_cnt (BitVec.ofInt 64 p0) 64 > 3) (q0 : gp_I s 1 2 = 0) (q1 : gp_I s 1 6 = 0) (q2 : gp_I s 1 7 = 1) (q3 : gp_I s 51 8 = 0) (q4 : gp_I s 57 1 = 0) (q5 : gp_I s 57 3 = 0) (q6 : gp_I s 60 8 = 0) (q7 : gp_R s 25 6 = none) (q8 : gp_R s 25 7 = none) (q9 : gp_R s 25 8 = none) (q10 : gp_R s 25 9 = none) (q11 : ∀ k, k < 8 → gp_R s 4 k = some 25) (q12 : gp_R s 51 6 = some 55) (q13 : gp_R s 51 7 = some 56) (q14 : ∀ k, k < 3 → gp_R s 52 k = some 25) (q15 : gp_R s 60 6 = some 64) (q16 : gp_R s 60 7 = some 65) (q17 : ∀ k, k < 3 → gp_R s 61 k = some 25) (q18 : gp_us s = 606895) (q19 : gp_sz s = 117) (k : ∀ (t : gH), xM z t → (gp_I t 1 2 = 0) → (gp_I t 1 6 = 0) → (gp_I t 1 7 = 1) → ((-2147483648) ≤ gp_I t 2 1 ∧ gp_I t 2 1 ≤ 2147483647) → (gp_I t 51 8 = 0) → (gp_I t 57 1 = 0) → (gp_I t 57 3 = 0) → (gp_I t 60 8 = 0) → (gp_R t 25 6 = none) → (gp_R t 25 7 = none) → (gp_R t 25 8 = none) → (gp_R t 25 9 = none) → (∀ k, k < 8 → gp_R t 4 k = some 25) → (gp_R t 51 6 = some 55) → (gp_R t 51 7 = some 56) → (∀ k, k < 3 → gp_R t 52 k = some 25) → (gp_R t 60 6 = some 64) → (gp_R t 60 7 = some 65) → (∀ k, k < 3 → gp_R t 61 k = some 25) → (gp_us t = 606895) → (gp_sz t = 117) → K (some (gp_i (-1000000001))) t) : gs_C L (d + 2) 2832 3 [gp_r (some 1), gp_i p0, gp_i p1] s K := by
  refine s_2832_e _ _ ?_
  refine zx_noSet4 _ hs (by omega) g_p0 (⟨_, rfl, ?_⟩)
  refine ⟨fun h_1 => ?_, fun h_1 => ?_⟩
  · exfalso; omega
  · refine s_2832_14 _ _ ?_
    refine zx2855_10 hs (by omega) (by omega) (by omega) (by omega) (by omega) (by omega) (by omega) q7 q8 q9 q10 q11 q12 q13 q14 q15 q16 q17 q18 q19 (fun s_2 hs_3 q_4 q_5 q_6 q_7 q_8 q_9 q_10 q_11 q_12 q_13 q_14 q_15 q_16 q_17 q_18 q_19 q_20 q_21 q_22 q_23 q_24 => ⟨_, rfl, ?_⟩)
    exact k s_2 hs_3 (by omega) (by omega) (by omega) (by omega) (by omega) (by omega) (by omega) (by omega) q_12 q_13 q_14 q_15 q_16 q_17 q_18 q_19 q_20 q_21 q_22 q_23 q_24
set_option maxRecDepth 100000 in
/-- GatheredPoints.score [(1, 255, 'S3'), (-2147483648, -1)] -/
theorem zx2832_3 {z : gH} {L d : Nat} {K : Option gV → gH → Prop} {s : gH} (p0 : Int) (p1 : Int) (hs : xM z s) (h_p0 : 1 ≤ p0 ∧ p0 ≤ 255) (h_p1 : (-2147483648) ≤ p1 ∧ p1 ≤ (-1)) (g_p0 : gm_cnt (BitVec.ofInt 64 p0) 64 ≤ 3) (q0 : gp_I s 1 2 = 0) (q1 : gp_I s 1 6 = 0) (q2 : gp_I s 1 7 = 1) (q3 : gp_I s 51 8 = 0) (q4 : gp_I s 57 1 = 0) (q5 : gp_I s 57 3 = 0) (q6 : gp_I s 60 8 = 0) (q7 : gp_R s 25 6 = none) (q8 : gp_R s 25 7 = none) (q9 : gp_R s 25 8 = none) (q10 : gp_R s 25 9 = none) (q11 : ∀ k, k < 8 → gp_R s 4 k = some 25) (q12 : gp_R s 51 6 = some 55) (q13 : gp_R s 51 7 = some 56) (q14 : ∀ k, k < 3 → gp_R s 52 k = some 25) (q15 : gp_R s 60 6 = some 64) (q16 : gp_R s 60 7 = some 65) (q17 : ∀ k, k < 3 → gp_R s 61 k = some 25) (q18 : gp_us s = 606895) (q19 : gp_sz s = 117) (k : ∀ (t : gH), xM z t → (gp_I t 1 2 = 0) → (gp_I t 1 6 = 0) → (gp_I t 1 7 = 1) → ((-2147483648) ≤ gp_I t 2 1 ∧ gp_I t 2 1 ≤ 2147483647) → (gp_I t 51 8 = 0) → (gp_I t 57 1 = 0) → (gp_I t 57 3 = 0) → (gp_I t 60 8 = 0) → (gp_R t 25 6 = none) → (gp_R t 25 7 = none) → (gp_R t 25 8 = none) → (gp_R t 25 9 = none) → (∀ k, k < 8 → gp_R t 4 k = some 25) → (gp_R t 51 6 = some 55) → (gp_R t 51 7 = some 56) → (∀ k, k < 3 → gp_R t 52 k = some 25) → (gp_R t 60 6 = some 64) → (gp_R t 60 7 = some 65) → (∀ k, k < 3 → gp_R t 61 k = some 25) → (gp_us t = 606895) → (gp_sz t = 117) → K (some (gp_i (-1000000001))) t) : gs_C L (d + 2) 2832 3 [gp_r (some 1), gp_i p0, gp_i p1] s K := by
  refine s_2832_e _ _ ?_
  refine zx_noSet3 _ hs (by omega) g_p0 (⟨_, rfl, ?_⟩)
  refine ⟨fun h_1 => ?_, fun h_1 => ?_⟩
  · refine zx2857_0 _ hs (by omega) (by omega) (by omega) (by omega) (by omega) (by omega) (by omega) q7 q8 q9 q10 q11 q12 q13 (⟨_, rfl, ?_⟩)
    refine ⟨fun h_2 => ?_, fun h_2 => ?_⟩
    · exfalso; omega
    · refine s_2832_14 _ _ ?_
      refine zx2855_10 hs (by omega) (by omega) (by omega) (by omega) (by omega) (by omega) (by omega) q7 q8 q9 q10 q11 q12 q13 q14 q15 q16 q17 q18 q19 (fun s_3 hs_4 q_5 q_6 q_7 q_8 q_9 q_10 q_11 q_12 q_13 q_14 q_15 q_16 q_17 q_18 q_19 q_20 q_21 q_22 q_23 q_24 q_25 => ⟨_, rfl, ?_⟩)
      exact k s_3 hs_4 (by omega) (by omega) (by omega) (by omega) (by omega) (by omega) (by omega) (by omega) q_13 q_14 q_15 q_16 q_17 q_18 q_19 q_20 q_21 q_22 q_23 q_24 q_25
  · exfalso; omega
set_option maxRecDepth 100000 in
/-- GatheredPoints.score [(1, 255, 'S3'), (2, 2147483647)] -/
theorem zx2832_4 {z : gH} {L d : Nat} {K : Option gV → gH → Prop} {s : gH} (p0 : Int) (p1 : Int) (hs : xM z s) (h_p0 : 1 ≤ p0 ∧ p0 ≤ 255) (h_p1 : 2 ≤ p1 ∧ p1 ≤ 2147483647) (g_p0 : gm_cnt (BitVec.ofInt 64 p0) 64 ≤ 3) (q0 : gp_I s 1 2 = 0) (q1 : gp_I s 1 6 = 0) (q2 : gp_I s 1 7 = 1) (q3 : gp_I s 51 8 = 0) (q4 : gp_I s 57 1 = 0) (q5 : gp_I s 57 3 = 0) (q6 : gp_I s 60 8 = 0) (q7 : gp_R s 25 6 = none) (q8 : gp_R s 25 7 = none) (q9 : gp_R s 25 8 = none) (q10 : gp_R s 25 9 = none) (q11 : ∀ k, k < 8 → gp_R s 4 k = some 25) (q12 : gp_R s 51 6 = some 55) (q13 : gp_R s 51 7 = some 56) (q14 : ∀ k, k < 3 → gp_R s 52 k = some 25) (q15 : gp_R s 60 6 = some 64) (q16 : gp_R s 60 7 = some 65) (q17 : ∀ k, k < 3 → gp_R s 61 k = some 25) (q18 : gp_us s = 606895) (q19 : gp_sz s = 117) (k : ∀ (t : gH), xM z t → (gp_I t 1 2 = 0) → (gp_I t 1 6 = 0) → (gp_I t 1 7 = 1) → ((-2147483648) ≤ gp_I t 2 1 ∧ gp_I t 2 1 ≤ 2147483647) → (gp_I t 51 8 = 0) → (gp_I t 57 1 = 0) → (gp_I t 57 3 = 0) → (gp_I t 60 8 = 0) → (gp_R t 25 6 = none) → (gp_R t 25 7 = none) → (gp_R t 25 8 = none) → (gp_R t 25 9 = none) → (∀ k, k < 8 → gp_R t 4 k = some 25) → (gp_R t 51 6 = some 55) → (gp_R t 51 7 = some 56) → (∀ k, k < 3 → gp_R t 52 k = some 25) → (gp_R t 60 6 = some 64) → (gp_R t 60 7 = some 65) → (∀ k, k < 3 → gp_R t 61 k = some 25) → (gp_us t = 606895) → (gp_sz t = 117) → K (some (gp_i (-1000000001))) t) : gs_C L (d + 2) 2832 3 [gp_r (some 1), gp_i p0, gp_i p1] s K := by
  refine s_2832_e _ _ ?_
  refine zx_noSet3 _ hs (by omega) g_p0 (⟨_, rfl, ?_⟩)
  refine ⟨fun h_1 => ?_, fun h_1 => ?_⟩
  · refine zx2857_1 _ hs (by omega) (by omega) (by omega) (by omega) (by omega) (by omega) (by omega) q7 q8 q9 q10 q11 q12 q13 (⟨_, rfl, ?_⟩)
    refine ⟨fun h_2 => ?_, fun h_2 => ?_⟩
    · exfalso; omega
    · refine s_2832_14 _ _ ?_
      refine zx2855_10 hs (by omega) (by omega) (by omega) (by omega) (by omega) (by omega) (by omega) q7 q8 q9 q10 q11 q12 q13 q14 q15 q16 q17 q18 q19 (fun s_3 hs_4 q_5 q_6 q_7 q_8 q_9 q_10 q_11 q_12 q_13 q_14 q_15 q_16 q_17 q_18 q_19 q_20 q_21 q_22 q_23 q_24 q_25 => ⟨_, rfl, ?_⟩)
      exact k s_3 hs_4 (by omega) (by omega) (by omega) (by omega) (by omega) (by omega) (by omega) (by omega) q_13 q_14 q_15 q_16 q_17 q_18 q_19 q_20 q_21 q_22 q_23 q_24 q_25
  · exfalso; omega
set_option maxRecDepth 100000 in
/-- Sum.stand [51, (0, 0), 25] -/
theorem zx2050_0 {z : gH} {L d : Nat} {K : Option gV → gH → Prop} {s : gH}  (hs : xM z s)  (q0 : gp_I s 1 2 = 0) (q1 : gp_I s 1 6 = 0) (q2 : gp_I s 1 7 = 1) (q3 : gp_I s 51 4 = 0) (q4 : gp_I s 51 8 = 0) (q5 : gp_I s 57 1 = 0) (q6 : gp_I s 57 3 = 0) (q7 : gp_I s 60 8 = 0) (q8 : gp_R s 25 6 = none) (q9 : gp_R s 25 7 = none) (q10 : gp_R s 25 8 = none) (q11 : gp_R s 25 9 = none) (q12 : ∀ k, k < 8 → gp_R s 4 k = some 25) (q13 : gp_R s 51 6 = some 55) (q14 : gp_R s 51 7 = some 56) (q15 : ∀ k, k < 3 → gp_R s 52 k = some 25) (q16 : gp_R s 60 6 = some 64) (q17 : gp_R s 60 7 = some 65) (q18 : ∀ k, k < 3 → gp_R s 61 k = some 25) (q19 : gp_us s = 606895) (q20 : gp_sz s = 117) (k : ∀ (t : gH), xM z t → (gp_I t 1 2 = 0) → (gp_I t 1 6 = 0) → (gp_I t 1 7 = 1) → (gp_I t 51 4 = 0) → (gp_I t 51 8 = 0) → (gp_I t 57 1 = 0) → (gp_I t 57 3 = 0) → (gp_I t 60 8 = 0) → (gp_R t 25 6 = none) → (gp_R t 25 7 = none) → (gp_R t 25 8 = none) → (gp_R t 25 9 = none) → (∀ k, k < 8 → gp_R t 4 k = some 25) → (gp_R t 51 6 = some 55) → (gp_R t 51 7 = some 56) → (∀ k, k < 3 → gp_R t 52 k = some 25) → (gp_R t 60 6 = some 64) → (gp_R t 60 7 = some 65) → (∀ k, k < 3 → gp_R t 61 k = some 25) → (gp_us t = 606895) → (gp_sz t = 117) → K none t) : gs_C L (d + 1) 2050 3 [gp_r (some 51), gp_i 0, gp_r (some 25)] s K := by
  refine s_2050_e _ _ _ ?_
  refine ⟨51, rfl, ?_⟩
  refine ⟨rfl, ?_⟩
  try rw [show gp_I s 51 8 = 0 from q4]
  refine ⟨fun h_1 => ?_, fun h_1 => ?_⟩
  · refine s_2050_22 _ _ _ _ ?_
    refine s_2050_23 _ _ _ _ _ ?_
    refine ⟨51, rfl, ?_⟩
    refine ⟨rfl, ?_⟩
    refine ⟨by omega, ?_⟩
    intro s_8 e_9
    have hs_10 : xM z s_8 := by rw [e_9]; exact xw51_8 hs 0 _
    have q_11 : gp_I s_8 1 2 = 0 := by rw [e_9]; exact q0
    have q_12 : gp_I s_8 1 6 = 0 := by rw [e_9]; exact q1
    have q_13 : gp_I s_8 1 7 = 1 := by rw [e_9]; exact q2
    have q_14 : gp_I s_8 51 4 = 0 := by rw [e_9]; exact q3
    have q_15 : gp_I s_8 57 1 = 0 := by rw [e_9]; exact q5
    have q_16 : gp_I s_8 57 3 = 0 := by rw [e_9]; exact q6
    have q_17 : gp_I s_8 60 8 = 0 := by rw [e_9]; exact q7
    have q_18 : gp_R s_8 25 6 = none := by rw [e_9]; exact q8
    have q_19 : gp_R s_8 25 7 = none := by rw [e_9]; exact q9
    have q_20 : gp_R s_8 25 8 = none := by rw [e_9]; exact q10
    have q_21 : gp_R s_8 25 9 = none := by rw [e_9]; exact q11
    have q_22 : ∀ k, k < 8 → gp_R s_8 4 k = some 25 := by rw [e_9]; exact q12
    have q_23 : gp_R s_8 51 6 = some 55 := by rw [e_9]; exact q13
    have q_24 : gp_R s_8 51 7 = some 56 := by rw [e_9]; exact q14
    have q_25 : ∀ k, k < 3 → gp_R s_8 52 k = some 25 := by rw [e_9]; exact q15
    have q_26 : gp_R s_8 60 6 = some 64 := by rw [e_9]; exact q16
    have q_27 : gp_R s_8 60 7 = some 65 := by rw [e_9]; exact q17
    have q_28 : ∀ k, k < 3 → gp_R s_8 61 k = some 25 := by rw [e_9]; exact q18
    have q_29 : gp_us s_8 = 606895 := by rw [e_9]; exact q19
    have q_30 : gp_sz s_8 = 117 := by rw [e_9]; exact q20
    have q_31 : gp_I s_8 51 8 = 0 := by rw [e_9]; rfl
    refine ⟨51, rfl, ?_⟩
    refine ⟨rfl, ?_⟩
    try rw [show gp_R (gp_mk L s_8) 51 0 = some 52 from rfl]
    refine ⟨25, rfl, ?_⟩
    refine ⟨52, rfl, ?_⟩
    refine ⟨⟨rfl, by show 0 ≤ 0 ∧ 0 < 3; omega⟩, ?_⟩
    refine ⟨rfl, ?_⟩
    refine ⟨rfl, ?_⟩
    intro s_33 e_34
    have hs_35 : xM z s_33 := by rw [e_34]; exact xI.wR hs_10 _ _ _
    have q_36 : gp_I s_33 1 2 = 0 := by rw [e_34]; exact q_11
    have q_37 : gp_I s_33 1 6 = 0 := by rw [e_34]; exact q_12
    have q_38 : gp_I s_33 1 7 = 1 := by rw [e_34]; exact q_13
    have q_39 : gp_I s_33 51 4 = 0 := by rw [e_34]; exact q_14
    have q_40 : gp_I s_33 57 1 = 0 := by rw [e_34]; exact q_15
    have q_41 : gp_I s_33 57 3 = 0 := by rw [e_34]; exact q_16
    have q_42 : gp_I s_33 60 8 = 0 := by rw [e_34]; exact q_17
    have q_43 : gp_R s_33 25 6 = none := by rw [e_34]; exact q_18
    have q_44 : gp_R s_33 25 7 = none := by rw [e_34]; exact q_19
    have q_45 : gp_R s_33 25 8 = none := by rw [e_34]; exact q_20
    have q_46 : gp_R s_33 25 9 = none := by rw [e_34]; exact q_21
    have q_47 : ∀ k, k < 8 → gp_R s_33 4 k = some 25 := by rw [e_34]; exact q_22
    have q_48 : gp_R s_33 51 6 = some 55 := by rw [e_34]; exact q_23
    have q_49 : gp_R s_33 51 7 = some 56 := by rw [e_34]; exact q_24
    have q_50 : ∀ k, k < 3 → gp_R s_33 52 k = some 25 := by rw [e_34]; exact gz_starR q_25
    have q_51 : gp_R s_33 60 6 = some 64 := by rw [e_34]; exact q_26
    have q_52 : gp_R s_33 60 7 = some 65 := by rw [e_34]; exact q_27
    have q_53 : ∀ k, k < 3 → gp_R s_33 61 k = some 25 := by rw [e_34]; exact q_28
    have q_54 : gp_us s_33 = 606895 := by rw [e_34]; exact q_29
    have q_55 : gp_sz s_33 = 117 := by rw [e_34]; exact q_30
    have q_56 : gp_I s_33 51 8 = 0 := by rw [e_34]; exact q_31
    refine ⟨rfl, ?_⟩
    try rw [show gp_R (gp_mk L s_33) 51 1 = some 53 from rfl]
    refine ⟨rfl, ?_⟩
    refine zx2306_0 hs_35 q_43 q_44 q_45 q_46 (⟨_, rfl, ?_⟩)
    refine ⟨53, rfl, ?_⟩
    refine ⟨⟨rfl, by show 0 ≤ 0 ∧ 0 < 3; omega⟩, ?_⟩
    intro s_57 e_58
    have hs_59 : xM z s_57 := by rw [e_58]; exact xw53 hs_35 _ _ (by omega)
    have q_60 : gp_I s_57 1 2 = 0 := by rw [e_58]; exact q_36
    have q_61 : gp_I s_57 1 6 = 0 := by rw [e_58]; exact q_37
    have q_62 : gp_I s_57 1 7 = 1 := by rw [e_58]; exact q_38
    have q_63 : gp_I s_57 51 4 = 0 := by rw [e_58]; exact q_39
    have q_64 : gp_I s_57 57 1 = 0 := by rw [e_58]; exact q_40
    have q_65 : gp_I s_57 57 3 = 0 := by rw [e_58]; exact q_41
    have q_66 : gp_I s_57 60 8 = 0 := by rw [e_58]; exact q_42
    have q_67 : gp_R s_57 25 6 = none := by rw [e_58]; exact q_43
    have q_68 : gp_R s_57 25 7 = none := by rw [e_58]; exact q_44
    have q_69 : gp_R s_57 25 8 = none := by rw [e_58]; exact q_45
    have q_70 : gp_R s_57 25 9 = none := by rw [e_58]; exact q_46
    have q_71 : ∀ k, k < 8 → gp_R s_57 4 k = some 25 := by rw [e_58]; exact q_47
    have q_72 : gp_R s_57 51 6 = some 55 := by rw [e_58]; exact q_48
    have q_73 : gp_R s_57 51 7 = some 56 := by rw [e_58]; exact q_49
    have q_74 : ∀ k, k < 3 → gp_R s_57 52 k = some 25 := by rw [e_58]; exact q_50
    have q_75 : gp_R s_57 60 6 = some 64 := by rw [e_58]; exact q_51
    have q_76 : gp_R s_57 60 7 = some 65 := by rw [e_58]; exact q_52
    have q_77 : ∀ k, k < 3 → gp_R s_57 61 k = some 25 := by rw [e_58]; exact q_53
    have q_78 : gp_us s_57 = 606895 := by rw [e_58]; exact q_54
    have q_79 : gp_sz s_57 = 117 := by rw [e_58]; exact q_55
    have q_80 : gp_I s_57 51 8 = 0 := by rw [e_58]; exact q_56
    exact k s_57 hs_59 (by omega) (by omega) (by omega) (by omega) (by omega) (by omega) (by omega) (by omega) q_67 q_68 q_69 q_70 q_71 q_72 q_73 q_74 q_75 q_76 q_77 q_78 q_79
  · exfalso; omega
set_option maxRecDepth 100000 in
/-- Sum.stand [51, (0, 1), 25] -/
theorem zx2050_1 {z : gH} {L d : Nat} {K : Option gV → gH → Prop} {s : gH} (p0 : Int) (hs : xM z s) (h_p0 : 0 ≤ p0 ∧ p0 ≤ 1) (q0 : gp_I s 1 2 = 0) (q1 : gp_I s 1 6 = 0) (q2 : gp_I s 1 7 = 1) (q3 : 0 ≤ gp_I s 51 4 ∧ gp_I s 51 4 ≤ 1) (q4 : gp_I s 51 8 = 0) (q5 : gp_I s 57 1 = 0) (q6 : gp_I s 57 3 = 0) (q7 : gp_I s 60 8 = 0) (q8 : gp_R s 25 6 = none) (q9 : gp_R s 25 7 = none) (q10 : gp_R s 25 8 = none) (q11 : gp_R s 25 9 = none) (q12 : ∀ k, k < 8 → gp_R s 4 k = some 25) (q13 : gp_R s 51 6 = some 55) (q14 : gp_R s 51 7 = some 56) (q15 : ∀ k, k < 3 → gp_R s 52 k = some 25) (q16 : gp_R s 60 6 = some 64) (q17 : gp_R s 60 7 = some 65) (q18 : ∀ k, k < 3 → gp_R s 61 k = some 25) (q19 : gp_us s = 606895) (q20 : gp_sz s = 117) (k : ∀ (t : gH), xM z t → (gp_I t 1 2 = 0) → (gp_I t 1 6 = 0) → (gp_I t 1 7 = 1) → (0 ≤ gp_I t 51 4 ∧ gp_I t 51 4 ≤ 1) → (gp_I t 51 8 = 0) → (gp_I t 57 1 = 0) → (gp_I t 57 3 = 0) → (gp_I t 60 8 = 0) → (gp_R t 25 6 = none) → (gp_R t 25 7 = none) → (gp_R t 25 8 = none) → (gp_R t 25 9 = none) → (∀ k, k < 8 → gp_R t 4 k = some 25) → (gp_R t 51 6 = some 55) → (gp_R t 51 7 = some 56) → (∀ k, k < 3 → gp_R t 52 k = some 25) → (gp_R t 60 6 = some 64) → (gp_R t 60 7 = some 65) → (∀ k, k < 3 → gp_R t 61 k = some 25) → (gp_us t = 606895) → (gp_sz t = 117) → K none t) : gs_C L (d + 1) 2050 3 [gp_r (some 51), gp_i p0, gp_r (some 25)] s K := by
  refine s_2050_e _ _ _ ?_
  refine ⟨51, rfl, ?_⟩
  refine ⟨rfl, ?_⟩
  try rw [show gp_I s 51 8 = 0 from q4]
  refine ⟨fun h_1 => ?_, fun h_1 => ?_⟩
  · refine s_2050_22 _ _ _ _ ?_
    refine s_2050_23 _ _ _ _ _ ?_
    refine ⟨51, rfl, ?_⟩
    refine ⟨rfl, ?_⟩
    refine ⟨by omega, ?_⟩
    intro s_8 e_9
    have hs_10 : xM z s_8 := by rw [e_9]; exact xw51_8 hs 0 _
    have q_11 : gp_I s_8 1 2 = 0 := by rw [e_9]; exact q0
    have q_12 : gp_I s_8 1 6 = 0 := by rw [e_9]; exact q1
    have q_13 : gp_I s_8 1 7 = 1 := by rw [e_9]; exact q2
    have q_14 : 0 ≤ gp_I s_8 51 4 ∧ gp_I s_8 51 4 ≤ 1 := by rw [e_9]; exact q3
    have q_15 : gp_I s_8 57 1 = 0 := by rw [e_9]; exact q5
    have q_16 : gp_I s_8 57 3 = 0 := by rw [e_9]; exact q6
    have q_17 : gp_I s_8 60 8 = 0 := by rw [e_9]; exact q7
    have q_18 : gp_R s_8 25 6 = none := by rw [e_9]; exact q8
    have q_19 : gp_R s_8 25 7 = none := by rw [e_9]; exact q9
    have q_20 : gp_R s_8 25 8 = none := by rw [e_9]; exact q10
    have q_21 : gp_R s_8 25 9 = none := by rw [e_9]; exact q11
    have q_22 : ∀ k, k < 8 → gp_R s_8 4 k = some 25 := by rw [e_9]; exact q12
    have q_23 : gp_R s_8 51 6 = some 55 := by rw [e_9]; exact q13
    have q_24 : gp_R s_8 51 7 = some 56 := by rw [e_9]; exact q14
    have q_25 : ∀ k, k < 3 → gp_R s_8 52 k = some 25 := by rw [e_9]; exact q15
    have q_26 : gp_R s_8 60 6 = some 64 := by rw [e_9]; exact q16
    have q_27 : gp_R s_8 60 7 = some 65 := by rw [e_9]; exact q17
    have q_28 : ∀ k, k < 3 → gp_R s_8 61 k = some 25 := by rw [e_9]; exact q18
    have q_29 : gp_us s_8 = 606895 := by rw [e_9]; exact q19
    have q_30 : gp_sz s_8 = 117 := by rw [e_9]; exact q20
    have q_31 : gp_I s_8 51 8 = 0 := by rw [e_9]; rfl
    refine ⟨51, rfl, ?_⟩
    refine ⟨rfl, ?_⟩
    try rw [show gp_R (gp_mk L s_8) 51 0 = some 52 from rfl]
    refine ⟨25, rfl, ?_⟩
    refine ⟨52, rfl, ?_⟩
    refine ⟨⟨rfl, by show 0 ≤ p0 ∧ p0 < 3; omega⟩, ?_⟩
    refine ⟨rfl, ?_⟩
    refine ⟨rfl, ?_⟩
    intro s_33 e_34
    have hs_35 : xM z s_33 := by rw [e_34]; exact xI.wR hs_10 _ _ _
    have q_36 : gp_I s_33 1 2 = 0 := by rw [e_34]; exact q_11
    have q_37 : gp_I s_33 1 6 = 0 := by rw [e_34]; exact q_12
    have q_38 : gp_I s_33 1 7 = 1 := by rw [e_34]; exact q_13
    have q_39 : 0 ≤ gp_I s_33 51 4 ∧ gp_I s_33 51 4 ≤ 1 := by rw [e_34]; exact q_14
    have q_40 : gp_I s_33 57 1 = 0 := by rw [e_34]; exact q_15
    have q_41 : gp_I s_33 57 3 = 0 := by rw [e_34]; exact q_16
    have q_42 : gp_I s_33 60 8 = 0 := by rw [e_34]; exact q_17
    have q_43 : gp_R s_33 25 6 = none := by rw [e_34]; exact q_18
    have q_44 : gp_R s_33 25 7 = none := by rw [e_34]; exact q_19
    have q_45 : gp_R s_33 25 8 = none := by rw [e_34]; exact q_20
    have q_46 : gp_R s_33 25 9 = none := by rw [e_34]; exact q_21
    have q_47 : ∀ k, k < 8 → gp_R s_33 4 k = some 25 := by rw [e_34]; exact q_22
    have q_48 : gp_R s_33 51 6 = some 55 := by rw [e_34]; exact q_23
    have q_49 : gp_R s_33 51 7 = some 56 := by rw [e_34]; exact q_24
    have q_50 : ∀ k, k < 3 → gp_R s_33 52 k = some 25 := by rw [e_34]; exact gz_starR q_25
    have q_51 : gp_R s_33 60 6 = some 64 := by rw [e_34]; exact q_26
    have q_52 : gp_R s_33 60 7 = some 65 := by rw [e_34]; exact q_27
    have q_53 : ∀ k, k < 3 → gp_R s_33 61 k = some 25 := by rw [e_34]; exact q_28
    have q_54 : gp_us s_33 = 606895 := by rw [e_34]; exact q_29
    have q_55 : gp_sz s_33 = 117 := by rw [e_34]; exact q_30
    have q_56 : gp_I s_33 51 8 = 0 := by rw [e_34]; exact q_31
    refine ⟨rfl, ?_⟩
    try rw [show gp_R (gp_mk L s_33) 51 1 = some 53 from rfl]
    refine ⟨rfl, ?_⟩
    refine zx2306_0 hs_35 q_43 q_44 q_45 q_46 (⟨_, rfl, ?_⟩)
    refine ⟨53, rfl, ?_⟩
    refine ⟨⟨rfl, by show 0 ≤ p0 ∧ p0 < 3; omega⟩, ?_⟩
    intro s_57 e_58
    have hs_59 : xM z s_57 := by rw [e_58]; exact xw53 hs_35 _ _ (by omega)
    have q_60 : gp_I s_57 1 2 = 0 := by rw [e_58]; exact q_36
    have q_61 : gp_I s_57 1 6 = 0 := by rw [e_58]; exact q_37
    have q_62 : gp_I s_57 1 7 = 1 := by rw [e_58]; exact q_38
    have q_63 : 0 ≤ gp_I s_57 51 4 ∧ gp_I s_57 51 4 ≤ 1 := by rw [e_58]; exact q_39
    have q_64 : gp_I s_57 57 1 = 0 := by rw [e_58]; exact q_40
    have q_65 : gp_I s_57 57 3 = 0 := by rw [e_58]; exact q_41
    have q_66 : gp_I s_57 60 8 = 0 := by rw [e_58]; exact q_42
    have q_67 : gp_R s_57 25 6 = none := by rw [e_58]; exact q_43
    have q_68 : gp_R s_57 25 7 = none := by rw [e_58]; exact q_44
    have q_69 : gp_R s_57 25 8 = none := by rw [e_58]; exact q_45
    have q_70 : gp_R s_57 25 9 = none := by rw [e_58]; exact q_46
    have q_71 : ∀ k, k < 8 → gp_R s_57 4 k = some 25 := by rw [e_58]; exact q_47
    have q_72 : gp_R s_57 51 6 = some 55 := by rw [e_58]; exact q_48
    have q_73 : gp_R s_57 51 7 = some 56 := by rw [e_58]; exact q_49
    have q_74 : ∀ k, k < 3 → gp_R s_57 52 k = some 25 := by rw [e_58]; exact q_50
    have q_75 : gp_R s_57 60 6 = some 64 := by rw [e_58]; exact q_51
    have q_76 : gp_R s_57 60 7 = some 65 := by rw [e_58]; exact q_52
    have q_77 : ∀ k, k < 3 → gp_R s_57 61 k = some 25 := by rw [e_58]; exact q_53
    have q_78 : gp_us s_57 = 606895 := by rw [e_58]; exact q_54
    have q_79 : gp_sz s_57 = 117 := by rw [e_58]; exact q_55
    have q_80 : gp_I s_57 51 8 = 0 := by rw [e_58]; exact q_56
    exact k s_57 hs_59 (by omega) (by omega) (by omega) (by omega) (by omega) (by omega) (by omega) (by omega) q_67 q_68 q_69 q_70 q_71 q_72 q_73 q_74 q_75 q_76 q_77 q_78 q_79
  · exfalso; omega
set_option maxRecDepth 100000 in
/-- Sum.stand [51, (0, 2), 25] -/
theorem zx2050_2 {z : gH} {L d : Nat} {K : Option gV → gH → Prop} {s : gH} (p0 : Int) (hs : xM z s) (h_p0 : 0 ≤ p0 ∧ p0 ≤ 2) (q0 : gp_I s 1 2 = 0) (q1 : gp_I s 1 6 = 0) (q2 : gp_I s 1 7 = 1) (q3 : 0 ≤ gp_I s 51 4 ∧ gp_I s 51 4 ≤ 2) (q4 : gp_I s 51 8 = 0) (q5 : gp_I s 57 1 = 0) (q6 : gp_I s 57 3 = 0) (q7 : gp_I s 60 8 = 0) (q8 : gp_R s 25 6 = none) (q9 : gp_R s 25 7 = none) (q10 : gp_R s 25 8 = none) (q11 : gp_R s 25 9 = none) (q12 : ∀ k, k < 8 → gp_R s 4 k = some 25) (q13 : gp_R s 51 6 = some 55) (q14 : gp_R s 51 7 = some 56) (q15 : ∀ k, k < 3 → gp_R s 52 k = some 25) (q16 : gp_R s 60 6 = some 64) (q17 : gp_R s 60 7 = some 65) (q18 : ∀ k, k < 3 → gp_R s 61 k = some 25) (q19 : gp_us s = 606895) (q20 : gp_sz s = 117) (k : ∀ (t : gH), xM z t → (gp_I t 1 2 = 0) → (gp_I t 1 6 = 0) → (gp_I t 1 7 = 1) → (0 ≤ gp_I t 51 4 ∧ gp_I t 51 4 ≤ 2) → (gp_I t 51 8 = 0) → (gp_I t 57 1 = 0) → (gp_I t 57 3 = 0) → (gp_I t 60 8 = 0) → (gp_R t 25 6 = none) → (gp_R t 25 7 = none) → (gp_R t 25 8 = none) → (gp_R t 25 9 = none) → (∀ k, k < 8 → gp_R t 4 k = some 25) → (gp_R t 51 6 = some 55) → (gp_R t 51 7 = some 56) → (∀ k, k < 3 → gp_R t 52 k = some 25) → (gp_R t 60 6 = some 64) → (gp_R t 60 7 = some 65) → (∀ k, k < 3 → gp_R t 61 k = some 25) → (gp_us t = 606895) → (gp_sz t = 117) → K none t) : gs_C L (d + 1) 2050 3 [gp_r (some 51), gp_i p0, gp_r (some 25)] s K := by
  refine s_2050_e _ _ _ ?_
  refine ⟨51, rfl, ?_⟩
  refine ⟨rfl, ?_⟩
  try rw [show gp_I s 51 8 = 0 from q4]
  refine ⟨fun h_1 => ?_, fun h_1 => ?_⟩
  · refine s_2050_22 _ _ _ _ ?_
    refine s_2050_23 _ _ _ _ _ ?_
    refine ⟨51, rfl, ?_⟩
    refine ⟨rfl, ?_⟩
    refine ⟨by omega, ?_⟩
    intro s_8 e_9
    have hs_10 : xM z s_8 := by rw [e_9]; exact xw51_8 hs 0 _
    have q_11 : gp_I s_8 1 2 = 0 := by rw [e_9]; exact q0
    have q_12 : gp_I s_8 1 6 = 0 := by rw [e_9]; exact q1
    have q_13 : gp_I s_8 1 7 = 1 := by rw [e_9]; exact q2
    have q_14 : 0 ≤ gp_I s_8 51 4 ∧ gp_I s_8 51 4 ≤ 2 := by rw [e_9]; exact q3
    have q_15 : gp_I s_8 57 1 = 0 := by rw [e_9]; exact q5
    have q_16 : gp_I s_8 57 3 = 0 := by rw [e_9]; exact q6
    have q_17 : gp_I s_8 60 8 = 0 := by rw [e_9]; exact q7
    have q_18 : gp_R s_8 25 6 = none := by rw [e_9]; exact q8
    have q_19 : gp_R s_8 25 7 = none := by rw [e_9]; exact q9
    have q_20 : gp_R s_8 25 8 = none := by rw [e_9]; exact q10
    have q_21 : gp_R s_8 25 9 = none := by rw [e_9]; exact q11
    have q_22 : ∀ k, k < 8 → gp_R s_8 4 k = some 25 := by rw [e_9]; exact q12
    have q_23 : gp_R s_8 51 6 = some 55 := by rw [e_9]; exact q13
    have q_24 : gp_R s_8 51 7 = some 56 := by rw [e_9]; exact q14
    have q_25 : ∀ k, k < 3 → gp_R s_8 52 k = some 25 := by rw [e_9]; exact q15
    have q_26 : gp_R s_8 60 6 = some 64 := by rw [e_9]; exact q16
    have q_27 : gp_R s_8 60 7 = some 65 := by rw [e_9]; exact q17
    have q_28 : ∀ k, k < 3 → gp_R s_8 61 k = some 25 := by rw [e_9]; exact q18
    have q_29 : gp_us s_8 = 606895 := by rw [e_9]; exact q19
    have q_30 : gp_sz s_8 = 117 := by rw [e_9]; exact q20
    have q_31 : gp_I s_8 51 8 = 0 := by rw [e_9]; rfl
    refine ⟨51, rfl, ?_⟩
    refine ⟨rfl, ?_⟩
    try rw [show gp_R (gp_mk L s_8) 51 0 = some 52 from rfl]
    refine ⟨25, rfl, ?_⟩
    refine ⟨52, rfl, ?_⟩
    refine ⟨⟨rfl, by show 0 ≤ p0 ∧ p0 < 3; omega⟩, ?_⟩
    refine ⟨rfl, ?_⟩
    refine ⟨rfl, ?_⟩
    intro s_33 e_34
    have hs_35 : xM z s_33 := by rw [e_34]; exact xI.wR hs_10 _ _ _
    have q_36 : gp_I s_33 1 2 = 0 := by rw [e_34]; exact q_11
    have q_37 : gp_I s_33 1 6 = 0 := by rw [e_34]; exact q_12
    have q_38 : gp_I s_33 1 7 = 1 := by rw [e_34]; exact q_13
    have q_39 : 0 ≤ gp_I s_33 51 4 ∧ gp_I s_33 51 4 ≤ 2 := by rw [e_34]; exact q_14
    have q_40 : gp_I s_33 57 1 = 0 := by rw [e_34]; exact q_15
    have q_41 : gp_I s_33 57 3 = 0 := by rw [e_34]; exact q_16
    have q_42 : gp_I s_33 60 8 = 0 := by rw [e_34]; exact q_17
    have q_43 : gp_R s_33 25 6 = none := by rw [e_34]; exact q_18
    have q_44 : gp_R s_33 25 7 = none := by rw [e_34]; exact q_19
    have q_45 : gp_R s_33 25 8 = none := by rw [e_34]; exact q_20
    have q_46 : gp_R s_33 25 9 = none := by rw [e_34]; exact q_21
    have q_47 : ∀ k, k < 8 → gp_R s_33 4 k = some 25 := by rw [e_34]; exact q_22
    have q_48 : gp_R s_33 51 6 = some 55 := by rw [e_34]; exact q_23
    have q_49 : gp_R s_33 51 7 = some 56 := by rw [e_34]; exact q_24
    have q_50 : ∀ k, k < 3 → gp_R s_33 52 k = some 25 := by rw [e_34]; exact gz_starR q_25
    have q_51 : gp_R s_33 60 6 = some 64 := by rw [e_34]; exact q_26
    have q_52 : gp_R s_33 60 7 = some 65 := by rw [e_34]; exact q_27
    have q_53 : ∀ k, k < 3 → gp_R s_33 61 k = some 25 := by rw [e_34]; exact q_28
    have q_54 : gp_us s_33 = 606895 := by rw [e_34]; exact q_29
    have q_55 : gp_sz s_33 = 117 := by rw [e_34]; exact q_30
    have q_56 : gp_I s_33 51 8 = 0 := by rw [e_34]; exact q_31
    refine ⟨rfl, ?_⟩
    try rw [show gp_R (gp_mk L s_33) 51 1 = some 53 from rfl]
    refine ⟨rfl, ?_⟩
    refine zx2306_0 hs_35 q_43 q_44 q_45 q_46 (⟨_, rfl, ?_⟩)
    refine ⟨53, rfl, ?_⟩
    refine ⟨⟨rfl, by show 0 ≤ p0 ∧ p0 < 3; omega⟩, ?_⟩
    intro s_57 e_58
    have hs_59 : xM z s_57 := by rw [e_58]; exact xw53 hs_35 _ _ (by omega)
    have q_60 : gp_I s_57 1 2 = 0 := by rw [e_58]; exact q_36
    have q_61 : gp_I s_57 1 6 = 0 := by rw [e_58]; exact q_37
    have q_62 : gp_I s_57 1 7 = 1 := by rw [e_58]; exact q_38
    have q_63 : 0 ≤ gp_I s_57 51 4 ∧ gp_I s_57 51 4 ≤ 2 := by rw [e_58]; exact q_39
    have q_64 : gp_I s_57 57 1 = 0 := by rw [e_58]; exact q_40
    have q_65 : gp_I s_57 57 3 = 0 := by rw [e_58]; exact q_41
    have q_66 : gp_I s_57 60 8 = 0 := by rw [e_58]; exact q_42
    have q_67 : gp_R s_57 25 6 = none := by rw [e_58]; exact q_43
    have q_68 : gp_R s_57 25 7 = none := by rw [e_58]; exact q_44
    have q_69 : gp_R s_57 25 8 = none := by rw [e_58]; exact q_45
    have q_70 : gp_R s_57 25 9 = none := by rw [e_58]; exact q_46
    have q_71 : ∀ k, k < 8 → gp_R s_57 4 k = some 25 := by rw [e_58]; exact q_47
    have q_72 : gp_R s_57 51 6 = some 55 := by rw [e_58]; exact q_48
    have q_73 : gp_R s_57 51 7 = some 56 := by rw [e_58]; exact q_49
    have q_74 : ∀ k, k < 3 → gp_R s_57 52 k = some 25 := by rw [e_58]; exact q_50
    have q_75 : gp_R s_57 60 6 = some 64 := by rw [e_58]; exact q_51
    have q_76 : gp_R s_57 60 7 = some 65 := by rw [e_58]; exact q_52
    have q_77 : ∀ k, k < 3 → gp_R s_57 61 k = some 25 := by rw [e_58]; exact q_53
    have q_78 : gp_us s_57 = 606895 := by rw [e_58]; exact q_54
    have q_79 : gp_sz s_57 = 117 := by rw [e_58]; exact q_55
    have q_80 : gp_I s_57 51 8 = 0 := by rw [e_58]; exact q_56
    exact k s_57 hs_59 (by omega) (by omega) (by omega) (by omega) (by omega) (by omega) (by omega) (by omega) q_67 q_68 q_69 q_70 q_71 q_72 q_73 q_74 q_75 q_76 q_77 q_78 q_79
  · exfalso; omega
set_option maxRecDepth 100000 in
/-- Sum.stand [51, (1, 2), 25] -/
theorem zx2050_3 {z : gH} {L d : Nat} {K : Option gV → gH → Prop} {s : gH} (p0 : Int) (hs : xM z s) (h_p0 : 1 ≤ p0 ∧ p0 ≤ 2) (q0 : gp_I s 1 2 = 0) (q1 : gp_I s 1 6 = 0) (q2 : gp_I s 1 7 = 1) (q3 : 0 ≤ gp_I s 51 4 ∧ gp_I s 51 4 ≤ 2) (q4 : gp_I s 51 8 = 0) (q5 : gp_I s 57 1 = 0) (q6 : gp_I s 57 3 = 0) (q7 : gp_I s 60 8 = 0) (q8 : gp_R s 25 6 = none) (q9 : gp_R s 25 7 = none) (q10 : gp_R s 25 8 = none) (q11 : gp_R s 25 9 = none) (q12 : ∀ k, k < 8 → gp_R s 4 k = some 25) (q13 : gp_R s 51 6 = some 55) (q14 : gp_R s 51 7 = some 56) (q15 : ∀ k, k < 3 → gp_R s 52 k = some 25) (q16 : gp_R s 60 6 = some 64) (q17 : gp_R s 60 7 = some 65) (q18 : ∀ k, k < 3 → gp_R s 61 k = some 25) (q19 : gp_us s = 606895) (q20 : gp_sz s = 117) (k : ∀ (t : gH), xM z t → (gp_I t 1 2 = 0) → (gp_I t 1 6 = 0) → (gp_I t 1 7 = 1) → (0 ≤ gp_I t 51 4 ∧ gp_I t 51 4 ≤ 2) → (gp_I t 51 8 = 0) → (gp_I t 57 1 = 0) → (gp_I t 57 3 = 0) → (gp_I t 60 8 = 0) → (gp_R t 25 6 = none) → (gp_R t 25 7 = none) → (gp_R t 25 8 = none) → (gp_R t 25 9 = none) → (∀ k, k < 8 → gp_R t 4 k = some 25) → (gp_R t 51 6 = some 55) → (gp_R t 51 7 = some 56) → (∀ k, k < 3 → gp_R t 52 k = some 25) → (gp_R t 60 6 = some 64) → (gp_R t 60 7 = some 65) → (∀ k, k < 3 → gp_R t 61 k = some 25) → (gp_us t = 606895) → (gp_sz t = 117) → K none t) : gs_C L (d + 1) 2050 3 [gp_r (some 51), gp_i p0, gp_r (some 25)] s K := by
  refine s_2050_e _ _ _ ?_
  refine ⟨51, rfl, ?_⟩
  refine ⟨rfl, ?_⟩
  try rw [show gp_I s 51 8 = 0 from q4]
  refine ⟨fun h_1 => ?_, fun h_1 => ?_⟩
  · refine s_2050_22 _ _ _ _ ?_
    refine s_2050_23 _ _ _ _ _ ?_
    refine ⟨51, rfl, ?_⟩
    refine ⟨rfl, ?_⟩
    refine ⟨by omega, ?_⟩
    intro s_8 e_9
    have hs_10 : xM z s_8 := by rw [e_9]; exact xw51_8 hs 0 _
    have q_11 : gp_I s_8 1 2 = 0 := by rw [e_9]; exact q0
    have q_12 : gp_I s_8 1 6 = 0 := by rw [e_9]; exact q1
    have q_13 : gp_I s_8 1 7 = 1 := by rw [e_9]; exact q2
    have q_14 : 0 ≤ gp_I s_8 51 4 ∧ gp_I s_8 51 4 ≤ 2 := by rw [e_9]; exact q3
    have q_15 : gp_I s_8 57 1 = 0 := by rw [e_9]; exact q5
    have q_16 : gp_I s_8 57 3 = 0 := by rw [e_9]; exact q6
    have q_17 : gp_I s_8 60 8 = 0 := by rw [e_9]; exact q7
    have q_18 : gp_R s_8 25 6 = none := by rw [e_9]; exact q8
    have q_19 : gp_R s_8 25 7 = none := by rw [e_9]; exact q9
    have q_20 : gp_R s_8 25 8 = none := by rw [e_9]; exact q10
    have q_21 : gp_R s_8 25 9 = none := by rw [e_9]; exact q11
    have q_22 : ∀ k, k < 8 → gp_R s_8 4 k = some 25 := by rw [e_9]; exact q12
    have q_23 : gp_R s_8 51 6 = some 55 := by rw [e_9]; exact q13
    have q_24 : gp_R s_8 51 7 = some 56 := by rw [e_9]; exact q14
    have q_25 : ∀ k, k < 3 → gp_R s_8 52 k = some 25 := by rw [e_9]; exact q15
    have q_26 : gp_R s_8 60 6 = some 64 := by rw [e_9]; exact q16
    have q_27 : gp_R s_8 60 7 = some 65 := by rw [e_9]; exact q17
    have q_28 : ∀ k, k < 3 → gp_R s_8 61 k = some 25 := by rw [e_9]; exact q18
    have q_29 : gp_us s_8 = 606895 := by rw [e_9]; exact q19
    have q_30 : gp_sz s_8 = 117 := by rw [e_9]; exact q20
    have q_31 : gp_I s_8 51 8 = 0 := by rw [e_9]; rfl
    refine ⟨51, rfl, ?_⟩
    refine ⟨rfl, ?_⟩
    try rw [show gp_R (gp_mk L s_8) 51 0 = some 52 from rfl]
    refine ⟨25, rfl, ?_⟩
    refine ⟨52, rfl, ?_⟩
    refine ⟨⟨rfl, by show 0 ≤ p0 ∧ p0 < 3; omega⟩, ?_⟩
    refine ⟨rfl, ?_⟩
    refine ⟨rfl, ?_⟩
    intro s_33 e_34
    have hs_35 : xM z s_33 := by rw [e_34]; exact xI.wR hs_10 _ _ _
    have q_36 : gp_I s_33 1 2 = 0 := by rw [e_34]; exact q_11
    have q_37 : gp_I s_33 1 6 = 0 := by rw [e_34]; exact q_12
    have q_38 : gp_I s_33 1 7 = 1 := by rw [e_34]; exact q_13
    have q_39 : 0 ≤ gp_I s_33 51 4 ∧ gp_I s_33 51 4 ≤ 2 := by rw [e_34]; exact q_14
    have q_40 : gp_I s_33 57 1 = 0 := by rw [e_34]; exact q_15
    have q_41 : gp_I s_33 57 3 = 0 := by rw [e_34]; exact q_16
    have q_42 : gp_I s_33 60 8 = 0 := by rw [e_34]; exact q_17
    have q_43 : gp_R s_33 25 6 = none := by rw [e_34]; exact q_18
    have q_44 : gp_R s_33 25 7 = none := by rw [e_34]; exact q_19
    have q_45 : gp_R s_33 25 8 = none := by rw [e_34]; exact q_20
    have q_46 : gp_R s_33 25 9 = none := by rw [e_34]; exact q_21
    have q_47 : ∀ k, k < 8 → gp_R s_33 4 k = some 25 := by rw [e_34]; exact q_22
    have q_48 : gp_R s_33 51 6 = some 55 := by rw [e_34]; exact q_23
    have q_49 : gp_R s_33 51 7 = some 56 := by rw [e_34]; exact q_24
    have q_50 : ∀ k, k < 3 → gp_R s_33 52 k = some 25 := by rw [e_34]; exact gz_starR q_25
    have q_51 : gp_R s_33 60 6 = some 64 := by rw [e_34]; exact q_26
    have q_52 : gp_R s_33 60 7 = some 65 := by rw [e_34]; exact q_27
    have q_53 : ∀ k, k < 3 → gp_R s_33 61 k = some 25 := by rw [e_34]; exact q_28
    have q_54 : gp_us s_33 = 606895 := by rw [e_34]; exact q_29
    have q_55 : gp_sz s_33 = 117 := by rw [e_34]; exact q_30
    have q_56 : gp_I s_33 51 8 = 0 := by rw [e_34]; exact q_31
    refine ⟨rfl, ?_⟩
    try rw [show gp_R (gp_mk L s_33) 51 1 = some 53 from rfl]
    refine ⟨rfl, ?_⟩
    refine zx2306_0 hs_35 q_43 q_44 q_45 q_46 (⟨_, rfl, ?_⟩)
    refine ⟨53, rfl, ?_⟩
    refine ⟨⟨rfl, by show 0 ≤ p0 ∧ p0 < 3; omega⟩, ?_⟩
    intro s_57 e_58
    have hs_59 : xM z s_57 := by rw [e_58]; exact xw53 hs_35 _ _ (by omega)
    have q_60 : gp_I s_57 1 2 = 0 := by rw [e_58]; exact q_36
    have q_61 : gp_I s_57 1 6 = 0 := by rw [e_58]; exact q_37
    have q_62 : gp_I s_57 1 7 = 1 := by rw [e_58]; exact q_38
    have q_63 : 0 ≤ gp_I s_57 51 4 ∧ gp_I s_57 51 4 ≤ 2 := by rw [e_58]; exact q_39
    have q_64 : gp_I s_57 57 1 = 0 := by rw [e_58]; exact q_40
    have q_65 : gp_I s_57 57 3 = 0 := by rw [e_58]; exact q_41
    have q_66 : gp_I s_57 60 8 = 0 := by rw [e_58]; exact q_42
    have q_67 : gp_R s_57 25 6 = none := by rw [e_58]; exact q_43
    have q_68 : gp_R s_57 25 7 = none := by rw [e_58]; exact q_44
    have q_69 : gp_R s_57 25 8 = none := by rw [e_58]; exact q_45
    have q_70 : gp_R s_57 25 9 = none := by rw [e_58]; exact q_46
    have q_71 : ∀ k, k < 8 → gp_R s_57 4 k = some 25 := by rw [e_58]; exact q_47
    have q_72 : gp_R s_57 51 6 = some 55 := by rw [e_58]; exact q_48
    have q_73 : gp_R s_57 51 7 = some 56 := by rw [e_58]; exact q_49
    have q_74 : ∀ k, k < 3 → gp_R s_57 52 k = some 25 := by rw [e_58]; exact q_50
    have q_75 : gp_R s_57 60 6 = some 64 := by rw [e_58]; exact q_51
    have q_76 : gp_R s_57 60 7 = some 65 := by rw [e_58]; exact q_52
    have q_77 : ∀ k, k < 3 → gp_R s_57 61 k = some 25 := by rw [e_58]; exact q_53
    have q_78 : gp_us s_57 = 606895 := by rw [e_58]; exact q_54
    have q_79 : gp_sz s_57 = 117 := by rw [e_58]; exact q_55
    have q_80 : gp_I s_57 51 8 = 0 := by rw [e_58]; exact q_56
    exact k s_57 hs_59 (by omega) (by omega) (by omega) (by omega) (by omega) (by omega) (by omega) (by omega) q_67 q_68 q_69 q_70 q_71 q_72 q_73 q_74 q_75 q_76 q_77 q_78 q_79
  · exfalso; omega
set_option maxRecDepth 100000 in
/-- Sum.stand [51, (2, 2), 25] -/
theorem zx2050_4 {z : gH} {L d : Nat} {K : Option gV → gH → Prop} {s : gH}  (hs : xM z s)  (q0 : gp_I s 1 2 = 0) (q1 : gp_I s 1 6 = 0) (q2 : gp_I s 1 7 = 1) (q3 : 0 ≤ gp_I s 51 4 ∧ gp_I s 51 4 ≤ 2) (q4 : gp_I s 51 8 = 0) (q5 : gp_I s 57 1 = 0) (q6 : gp_I s 57 3 = 0) (q7 : gp_I s 60 8 = 0) (q8 : gp_R s 25 6 = none) (q9 : gp_R s 25 7 = none) (q10 : gp_R s 25 8 = none) (q11 : gp_R s 25 9 = none) (q12 : ∀ k, k < 8 → gp_R s 4 k = some 25) (q13 : gp_R s 51 6 = some 55) (q14 : gp_R s 51 7 = some 56) (q15 : ∀ k, k < 3 → gp_R s 52 k = some 25) (q16 : gp_R s 60 6 = some 64) (q17 : gp_R s 60 7 = some 65) (q18 : ∀ k, k < 3 → gp_R s 61 k = some 25) (q19 : gp_us s = 606895) (q20 : gp_sz s = 117) (k : ∀ (t : gH), xM z t → (gp_I t 1 2 = 0) → (gp_I t 1 6 = 0) → (gp_I t 1 7 = 1) → (0 ≤ gp_I t 51 4 ∧ gp_I t 51 4 ≤ 2) → (gp_I t 51 8 = 0) → (gp_I t 57 1 = 0) → (gp_I t 57 3 = 0) → (gp_I t 60 8 = 0) → (gp_R t 25 6 = none) → (gp_R t 25 7 = none) → (gp_R t 25 8 = none) → (gp_R t 25 9 = none) → (∀ k, k < 8 → gp_R t 4 k = some 25) → (gp_R t 51 6 = some 55) → (gp_R t 51 7 = some 56) → (∀ k, k < 3 → gp_R t 52 k = some 25) → (gp_R t 60 6 = some 64) → (gp_R t 60 7 = some 65) → (∀ k, k < 3 → gp_R t 61 k = some 25) → (gp_us t = 606895) → (gp_sz t = 117) → K none t) : gs_C L (d + 1) 2050 3 [gp_r (some 51), gp_i 2, gp_r (some 25)] s K := by
  refine s_2050_e _ _ _ ?_
  refine ⟨51, rfl, ?_⟩
  refine ⟨rfl, ?_⟩
  try rw [show gp_I s 51 8 = 0 from q4]
  refine ⟨fun h_1 => ?_, fun h_1 => ?_⟩
  · refine s_2050_22 _ _ _ _ ?_
    refine s_2050_23 _ _ _ _ _ ?_
    refine ⟨51, rfl, ?_⟩
    refine ⟨rfl, ?_⟩
    refine ⟨by omega, ?_⟩
    intro s_8 e_9
    have hs_10 : xM z s_8 := by rw [e_9]; exact xw51_8 hs 0 _
    have q_11 : gp_I s_8 1 2 = 0 := by rw [e_9]; exact q0
    have q_12 : gp_I s_8 1 6 = 0 := by rw [e_9]; exact q1
    have q_13 : gp_I s_8 1 7 = 1 := by rw [e_9]; exact q2
    have q_14 : 0 ≤ gp_I s_8 51 4 ∧ gp_I s_8 51 4 ≤ 2 := by rw [e_9]; exact q3
    have q_15 : gp_I s_8 57 1 = 0 := by rw [e_9]; exact q5
    have q_16 : gp_I s_8 57 3 = 0 := by rw [e_9]; exact q6
    have q_17 : gp_I s_8 60 8 = 0 := by rw [e_9]; exact q7
    have q_18 : gp_R s_8 25 6 = none := by rw [e_9]; exact q8
    have q_19 : gp_R s_8 25 7 = none := by rw [e_9]; exact q9
    have q_20 : gp_R s_8 25 8 = none := by rw [e_9]; exact q10
    have q_21 : gp_R s_8 25 9 = none := by rw [e_9]; exact q11
    have q_22 : ∀ k, k < 8 → gp_R s_8 4 k = some 25 := by rw [e_9]; exact q12
    have q_23 : gp_R s_8 51 6 = some 55 := by rw [e_9]; exact q13
    have q_24 : gp_R s_8 51 7 = some 56 := by rw [e_9]; exact q14
    have q_25 : ∀ k, k < 3 → gp_R s_8 52 k = some 25 := by rw [e_9]; exact q15
    have q_26 : gp_R s_8 60 6 = some 64 := by rw [e_9]; exact q16
    have q_27 : gp_R s_8 60 7 = some 65 := by rw [e_9]; exact q17
    have q_28 : ∀ k, k < 3 → gp_R s_8 61 k = some 25 := by rw [e_9]; exact q18
    have q_29 : gp_us s_8 = 606895 := by rw [e_9]; exact q19
    have q_30 : gp_sz s_8 = 117 := by rw [e_9]; exact q20
    have q_31 : gp_I s_8 51 8 = 0 := by rw [e_9]; rfl
    refine ⟨51, rfl, ?_⟩
    refine ⟨rfl, ?_⟩
    try rw [show gp_R (gp_mk L s_8) 51 0 = some 52 from rfl]
    refine ⟨25, rfl, ?_⟩
    refine ⟨52, rfl, ?_⟩
    refine ⟨⟨rfl, by show 0 ≤ 2 ∧ 2 < 3; omega⟩, ?_⟩
    refine ⟨rfl, ?_⟩
    refine ⟨rfl, ?_⟩
    intro s_33 e_34
    have hs_35 : xM z s_33 := by rw [e_34]; exact xI.wR hs_10 _ _ _
    have q_36 : gp_I s_33 1 2 = 0 := by rw [e_34]; exact q_11
    have q_37 : gp_I s_33 1 6 = 0 := by rw [e_34]; exact q_12
    have q_38 : gp_I s_33 1 7 = 1 := by rw [e_34]; exact q_13
    have q_39 : 0 ≤ gp_I s_33 51 4 ∧ gp_I s_33 51 4 ≤ 2 := by rw [e_34]; exact q_14
    have q_40 : gp_I s_33 57 1 = 0 := by rw [e_34]; exact q_15
    have q_41 : gp_I s_33 57 3 = 0 := by rw [e_34]; exact q_16
    have q_42 : gp_I s_33 60 8 = 0 := by rw [e_34]; exact q_17
    have q_43 : gp_R s_33 25 6 = none := by rw [e_34]; exact q_18
    have q_44 : gp_R s_33 25 7 = none := by rw [e_34]; exact q_19
    have q_45 : gp_R s_33 25 8 = none := by rw [e_34]; exact q_20
    have q_46 : gp_R s_33 25 9 = none := by rw [e_34]; exact q_21
    have q_47 : ∀ k, k < 8 → gp_R s_33 4 k = some 25 := by rw [e_34]; exact q_22
    have q_48 : gp_R s_33 51 6 = some 55 := by rw [e_34]; exact q_23
    have q_49 : gp_R s_33 51 7 = some 56 := by rw [e_34]; exact q_24
    have q_50 : ∀ k, k < 3 → gp_R s_33 52 k = some 25 := by rw [e_34]; exact gz_starR q_25
    have q_51 : gp_R s_33 60 6 = some 64 := by rw [e_34]; exact q_26
    have q_52 : gp_R s_33 60 7 = some 65 := by rw [e_34]; exact q_27
    have q_53 : ∀ k, k < 3 → gp_R s_33 61 k = some 25 := by rw [e_34]; exact q_28
    have q_54 : gp_us s_33 = 606895 := by rw [e_34]; exact q_29
    have q_55 : gp_sz s_33 = 117 := by rw [e_34]; exact q_30
    have q_56 : gp_I s_33 51 8 = 0 := by rw [e_34]; exact q_31
    refine ⟨rfl, ?_⟩
    try rw [show gp_R (gp_mk L s_33) 51 1 = some 53 from rfl]
    refine ⟨rfl, ?_⟩
    refine zx2306_0 hs_35 q_43 q_44 q_45 q_46 (⟨_, rfl, ?_⟩)
    refine ⟨53, rfl, ?_⟩
    refine ⟨⟨rfl, by show 0 ≤ 2 ∧ 2 < 3; omega⟩, ?_⟩
    intro s_57 e_58
    have hs_59 : xM z s_57 := by rw [e_58]; exact xw53 hs_35 _ _ (by omega)
    have q_60 : gp_I s_57 1 2 = 0 := by rw [e_58]; exact q_36
    have q_61 : gp_I s_57 1 6 = 0 := by rw [e_58]; exact q_37
    have q_62 : gp_I s_57 1 7 = 1 := by rw [e_58]; exact q_38
    have q_63 : 0 ≤ gp_I s_57 51 4 ∧ gp_I s_57 51 4 ≤ 2 := by rw [e_58]; exact q_39
    have q_64 : gp_I s_57 57 1 = 0 := by rw [e_58]; exact q_40
    have q_65 : gp_I s_57 57 3 = 0 := by rw [e_58]; exact q_41
    have q_66 : gp_I s_57 60 8 = 0 := by rw [e_58]; exact q_42
    have q_67 : gp_R s_57 25 6 = none := by rw [e_58]; exact q_43
    have q_68 : gp_R s_57 25 7 = none := by rw [e_58]; exact q_44
    have q_69 : gp_R s_57 25 8 = none := by rw [e_58]; exact q_45
    have q_70 : gp_R s_57 25 9 = none := by rw [e_58]; exact q_46
    have q_71 : ∀ k, k < 8 → gp_R s_57 4 k = some 25 := by rw [e_58]; exact q_47
    have q_72 : gp_R s_57 51 6 = some 55 := by rw [e_58]; exact q_48
    have q_73 : gp_R s_57 51 7 = some 56 := by rw [e_58]; exact q_49
    have q_74 : ∀ k, k < 3 → gp_R s_57 52 k = some 25 := by rw [e_58]; exact q_50
    have q_75 : gp_R s_57 60 6 = some 64 := by rw [e_58]; exact q_51
    have q_76 : gp_R s_57 60 7 = some 65 := by rw [e_58]; exact q_52
    have q_77 : ∀ k, k < 3 → gp_R s_57 61 k = some 25 := by rw [e_58]; exact q_53
    have q_78 : gp_us s_57 = 606895 := by rw [e_58]; exact q_54
    have q_79 : gp_sz s_57 = 117 := by rw [e_58]; exact q_55
    have q_80 : gp_I s_57 51 8 = 0 := by rw [e_58]; exact q_56
    exact k s_57 hs_59 (by omega) (by omega) (by omega) (by omega) (by omega) (by omega) (by omega) (by omega) q_67 q_68 q_69 q_70 q_71 q_72 q_73 q_74 q_75 q_76 q_77 q_78 q_79
  · exfalso; omega
set_option maxRecDepth 100000 in
/-- Sum.lay, the loop at 12 -/
theorem zx2049_0_l12_0 {z : gH} {L d : Nat} {K : Option gV → gH → Prop} (p0 : Int)  (k : ∀ (t : gH), xM z t → (gp_I t 1 2 = 0) → (gp_I t 1 6 = 0) → (gp_I t 1 7 = 1) → (0 ≤ gp_I t 51 4 ∧ gp_I t 51 4 ≤ 3) → (gp_I t 51 8 = 0) → (gp_I t 57 1 = 0) → (gp_I t 57 3 = 0) → (gp_I t 60 8 = 0) → (gp_R t 25 6 = none) → (gp_R t 25 7 = none) → (gp_R t 25 8 = none) → (gp_R t 25 9 = none) → (∀ k, k < 8 → gp_R t 4 k = some 25) → (gp_R t 51 6 = some 55) → (gp_R t 51 7 = some 56) → (∀ k, k < 3 → gp_R t 52 k = some 25) → (gp_R t 60 6 = some 64) → (gp_R t 60 7 = some 65) → (∀ k, k < 3 → gp_R t 61 k = some 25) → (gp_us t = 606895) → (gp_sz t = 117) → K none t)  : ∀ (n : Nat) (v0 : Option Nat) (v1 : Int) (v2 : Option Nat) (v3 : Int) (s : gH), xM z s → (9 - v3).toNat < n → (v0 = some 51) → (1 ≤ v1 ∧ v1 ≤ 255) → (v2 = some 4) → (0 ≤ v3 ∧ v3 ≤ 8) → (gp_I s 1 2 = 0) → (gp_I s 1 6 = 0) → (gp_I s 1 7 = 1) → (0 ≤ gp_I s 51 4 ∧ gp_I s 51 4 ≤ 3) → (gp_I s 51 8 = 0) → (gp_I s 57 1 = 0) → (gp_I s 57 3 = 0) → (gp_I s 60 8 = 0) → (gp_R s 25 6 = none) → (gp_R s 25 7 = none) → (gp_R s 25 8 = none) → (gp_R s 25 9 = none) → (∀ k, k < 8 → gp_R s 4 k = some 25) → (gp_R s 51 6 = some 55) → (gp_R s 51 7 = some 56) → (∀ k, k < 3 → gp_R s 52 k = some 25) → (gp_R s 60 6 = some 64) → (gp_R s 60 7 = some 65) → (∀ k, k < 3 → gp_R s 61 k = some 25) → (gp_us s = 606895) → (gp_sz s = 117) → gs_E L (d + 2) 2049 12 [gp_r v0, gp_i v1, gp_r v2, gp_i v3] [] s K := by
  intro n
  induction n with
  | zero => intro v0 v1 v2 v3 s hs hm i0 i1 i2 i3 i4 i5 i6 i7 i8 i9 i10 i11 i12 i13 i14 i15 i16 i17 i18 i19 i20 i21 i22 i23 i24; exact absurd hm (Nat.not_lt_zero _)
  | succ n ih =>
    intro v0 v1 v2 v3 s hs hm i0 i1 i2 i3 i4 i5 i6 i7 i8 i9 i10 i11 i12 i13 i14 i15 i16 i17 i18 i19 i20 i21 i22 i23 i24
    subst i0
    subst i2
    refine s_2049_12 _ _ _ _ ?_
    refine ⟨fun h_1 => ?_, fun h_1 => ?_⟩
    · refine ⟨51, rfl, ?_⟩
      refine ⟨rfl, ?_⟩
      refine ⟨fun h_2 => ?_, fun h_2 => ?_⟩
      · have q_4 : 0 ≤ gp_I s 51 4 ∧ gp_I s 51 4 ≤ 2 := by omega
        have q_3 : 0 ≤ gp_I s 51 4 ∧ gp_I s 51 4 ≤ 2 := q_4
        have w_5 := gz_and1 (gp_shr v1 v3)
        refine ⟨fun h_6 => ?_, fun h_6 => ?_⟩
        · have e_7 : gp_and (gp_shr v1 v3) 1 = 0 := by omega
          try rw [e_7]
          refine s_2049_65 _ _ _ _ ?_
          have w_10 := gz_w (v3 + 1)
          exact ih _ _ _ _ s hs (by omega) rfl (by omega) rfl (by omega) (by omega) (by omega) (by omega) (by omega) (by omega) (by omega) (by omega) (by omega) i12 i13 i14 i15 i16 i17 i18 i19 i20 i21 i22 i23 i24
        · have e_13 : gp_and (gp_shr v1 v3) 1 = 1 := by omega
          try rw [e_13]
          refine ⟨rfl, ?_⟩
          try rw [show gp_R (gp_mk L s) 51 3 = some 54 from rfl]
          refine ⟨rfl, ?_⟩
          refine ⟨54, rfl, ?_⟩
          refine ⟨⟨rfl, by show 0 ≤ gp_I s 51 4 ∧ gp_I s 51 4 < 3; omega⟩, ?_⟩
          intro s_14 e_15
          have hs_16 : xM z s_14 := by rw [e_15]; exact xw54 hs _ _ (by omega)
          have q_17 : gp_I s_14 1 2 = 0 := by rw [e_15]; exact i4
          have q_18 : gp_I s_14 1 6 = 0 := by rw [e_15]; exact i5
          have q_19 : gp_I s_14 1 7 = 1 := by rw [e_15]; exact i6
          have q_20 : 0 ≤ gp_I s_14 51 4 ∧ gp_I s_14 51 4 ≤ 2 := by rw [e_15]; exact q_3
          have q_21 : gp_I s_14 51 8 = 0 := by rw [e_15]; exact i8
          have q_22 : gp_I s_14 57 1 = 0 := by rw [e_15]; exact i9
          have q_23 : gp_I s_14 57 3 = 0 := by rw [e_15]; exact i10
          have q_24 : gp_I s_14 60 8 = 0 := by rw [e_15]; exact i11
          have q_25 : gp_R s_14 25 6 = none := by rw [e_15]; exact i12
          have q_26 : gp_R s_14 25 7 = none := by rw [e_15]; exact i13
          have q_27 : gp_R s_14 25 8 = none := by rw [e_15]; exact i14
          have q_28 : gp_R s_14 25 9 = none := by rw [e_15]; exact i15
          have q_29 : ∀ k, k < 8 → gp_R s_14 4 k = some 25 := by rw [e_15]; exact i16
          have q_30 : gp_R s_14 51 6 = some 55 := by rw [e_15]; exact i17
          have q_31 : gp_R s_14 51 7 = some 56 := by rw [e_15]; exact i18
          have q_32 : ∀ k, k < 3 → gp_R s_14 52 k = some 25 := by rw [e_15]; exact i19
          have q_33 : gp_R s_14 60 6 = some 64 := by rw [e_15]; exact i20
          have q_34 : gp_R s_14 60 7 = some 65 := by rw [e_15]; exact i21
          have q_35 : ∀ k, k < 3 → gp_R s_14 61 k = some 25 := by rw [e_15]; exact i22
          have q_36 : gp_us s_14 = 606895 := by rw [e_15]; exact i23
          have q_37 : gp_sz s_14 = 117 := by rw [e_15]; exact i24
          refine ⟨rfl, ?_⟩
          refine ⟨4, rfl, ?_⟩
          refine ⟨⟨rfl, by show 0 ≤ v3 ∧ v3 < 8; omega⟩, ?_⟩
          try rw [show gp_R (gp_mk L s_14) 4 v3.toNat = some 25 from (q_29 _ (by omega))]
          refine ⟨rfl, ?_⟩
          refine zx2050_2 _ hs_16 (by omega) (by omega) (by omega) (by omega) (by omega) (by omega) (by omega) (by omega) (by omega) q_25 q_26 q_27 q_28 q_29 q_30 q_31 q_32 q_33 q_34 q_35 q_36 q_37 (fun s_38 hs_39 q_40 q_41 q_42 q_43 q_44 q_45 q_46 q_47 q_48 q_49 q_50 q_51 q_52 q_53 q_54 q_55 q_56 q_57 q_58 q_59 q_60 => ⟨rfl, ?_⟩)
          refine ⟨rfl, ?_⟩
          have w_61 := gz_w ((gp_I s_38 51 4) + 1)
          refine ⟨rfl, ?_⟩
          intro s_62 e_63
          have hs_64 : xM z s_62 := by rw [e_63]; exact xw51_4 hs_39 0 _
          have q_65 : gp_I s_62 1 2 = 0 := by rw [e_63]; exact q_40
          have q_66 : gp_I s_62 1 6 = 0 := by rw [e_63]; exact q_41
          have q_67 : gp_I s_62 1 7 = 1 := by rw [e_63]; exact q_42
          have q_68 : gp_I s_62 51 8 = 0 := by rw [e_63]; exact q_44
          have q_69 : gp_I s_62 57 1 = 0 := by rw [e_63]; exact q_45
          have q_70 : gp_I s_62 57 3 = 0 := by rw [e_63]; exact q_46
          have q_71 : gp_I s_62 60 8 = 0 := by rw [e_63]; exact q_47
          have q_72 : gp_R s_62 25 6 = none := by rw [e_63]; exact q_48
          have q_73 : gp_R s_62 25 7 = none := by rw [e_63]; exact q_49
          have q_74 : gp_R s_62 25 8 = none := by rw [e_63]; exact q_50
          have q_75 : gp_R s_62 25 9 = none := by rw [e_63]; exact q_51
          have q_76 : ∀ k, k < 8 → gp_R s_62 4 k = some 25 := by rw [e_63]; exact q_52
          have q_77 : gp_R s_62 51 6 = some 55 := by rw [e_63]; exact q_53
          have q_78 : gp_R s_62 51 7 = some 56 := by rw [e_63]; exact q_54
          have q_79 : ∀ k, k < 3 → gp_R s_62 52 k = some 25 := by rw [e_63]; exact q_55
          have q_80 : gp_R s_62 60 6 = some 64 := by rw [e_63]; exact q_56
          have q_81 : gp_R s_62 60 7 = some 65 := by rw [e_63]; exact q_57
          have q_82 : ∀ k, k < 3 → gp_R s_62 61 k = some 25 := by rw [e_63]; exact q_58
          have q_83 : gp_us s_62 = 606895 := by rw [e_63]; exact q_59
          have q_84 : gp_sz s_62 = 117 := by rw [e_63]; exact q_60
          have q_85 : 1 ≤ gp_I s_62 51 4 ∧ gp_I s_62 51 4 ≤ 3 := by have x_86 : gp_I s_62 51 4 = gp_wr ((gp_I s_38 51 4) + 1) := (by rw [e_63]; rfl); omega
          refine s_2049_65 _ _ _ _ ?_
          have w_89 := gz_w (v3 + 1)
          exact ih _ _ _ _ s_62 hs_64 (by omega) rfl (by omega) rfl (by omega) (by omega) (by omega) (by omega) (by omega) (by omega) (by omega) (by omega) (by omega) q_72 q_73 q_74 q_75 q_76 q_77 q_78 q_79 q_80 q_81 q_82 q_83 q_84
      · have q_93 : gp_I s 51 4 = 3 := by omega
        have q_92 : gp_I s 51 4 = 3 := q_93
        have e_94 : gp_I s 51 4 = 3 := by omega
        try rw [e_94]
        refine s_2049_71 _ _ _ _ ?_
        refine ⟨51, rfl, ?_⟩
        refine ⟨rfl, ?_⟩
        try rw [show gp_I s 51 4 = 3 from q_92]
        refine s_2049_76 _ _ _ _ ?_
        refine ⟨fun h_99 => ?_, fun h_99 => ?_⟩
        · exfalso; omega
        · exact k s hs (by omega) (by omega) (by omega) (by omega) (by omega) (by omega) (by omega) (by omega) i12 i13 i14 i15 i16 i17 i18 i19 i20 i21 i22 i23 i24
    · have e_100 : v3 = 8 := by omega
      subst e_100
      refine s_2049_71 _ _ _ _ ?_
      refine ⟨51, rfl, ?_⟩
      refine ⟨rfl, ?_⟩
      refine s_2049_76 _ _ _ _ ?_
      refine ⟨fun h_105 => ?_, fun h_105 => ?_⟩
      · have q_107 : 0 ≤ gp_I s 51 4 ∧ gp_I s 51 4 ≤ 2 := by omega
        have q_106 : 0 ≤ gp_I s 51 4 ∧ gp_I s 51 4 ≤ 2 := q_107
        refine ⟨51, rfl, ?_⟩
        refine ⟨rfl, ?_⟩
        try rw [show gp_R (gp_mk L s) 51 5 = some 25 from rfl]
        refine ⟨rfl, ?_⟩
        refine zx2050_2 _ hs (by omega) (by omega) (by omega) (by omega) (by omega) (by omega) (by omega) (by omega) (by omega) i12 i13 i14 i15 i16 i17 i18 i19 i20 i21 i22 i23 i24 (fun s_108 hs_109 q_110 q_111 q_112 q_113 q_114 q_115 q_116 q_117 q_118 q_119 q_120 q_121 q_122 q_123 q_124 q_125 q_126 q_127 q_128 q_129 q_130 => ⟨rfl, ?_⟩)
        have w_131 := gz_w ((gp_I s 51 4) + 1)
        refine s_2049_76 _ _ _ _ ?_
        refine ⟨fun h_134 => ?_, fun h_134 => ?_⟩
        · refine ⟨51, rfl, ?_⟩
          refine ⟨rfl, ?_⟩
          try rw [show gp_R (gp_mk L s_108) 51 5 = some 25 from rfl]
          refine ⟨rfl, ?_⟩
          refine zx2050_3 _ hs_109 (by omega) (by omega) (by omega) (by omega) (by omega) (by omega) (by omega) (by omega) (by omega) q_118 q_119 q_120 q_121 q_122 q_123 q_124 q_125 q_126 q_127 q_128 q_129 q_130 (fun s_135 hs_136 q_137 q_138 q_139 q_140 q_141 q_142 q_143 q_144 q_145 q_146 q_147 q_148 q_149 q_150 q_151 q_152 q_153 q_154 q_155 q_156 q_157 => ⟨rfl, ?_⟩)
          have w_158 := gz_w ((gp_wr ((gp_I s 51 4) + 1)) + 1)
          refine s_2049_76 _ _ _ _ ?_
          refine ⟨fun h_161 => ?_, fun h_161 => ?_⟩
          · have e_162 : gp_wr ((gp_wr ((gp_I s 51 4) + 1)) + 1) = 2 := by omega
            try rw [e_162]
            refine ⟨51, rfl, ?_⟩
            refine ⟨rfl, ?_⟩
            try rw [show gp_R (gp_mk L s_135) 51 5 = some 25 from rfl]
            refine ⟨rfl, ?_⟩
            refine zx2050_4 hs_136 (by omega) (by omega) (by omega) (by omega) (by omega) (by omega) (by omega) (by omega) q_145 q_146 q_147 q_148 q_149 q_150 q_151 q_152 q_153 q_154 q_155 q_156 q_157 (fun s_163 hs_164 q_165 q_166 q_167 q_168 q_169 q_170 q_171 q_172 q_173 q_174 q_175 q_176 q_177 q_178 q_179 q_180 q_181 q_182 q_183 q_184 q_185 => ⟨rfl, ?_⟩)
            have w_186 := gz_w (2 + 1)
            have e_187 : gp_wr (2 + 1) = 3 := by omega
            try rw [e_187]
            refine s_2049_76 _ _ _ _ ?_
            refine ⟨fun h_190 => ?_, fun h_190 => ?_⟩
            · exfalso; omega
            · exact k s_163 hs_164 (by omega) (by omega) (by omega) (by omega) (by omega) (by omega) (by omega) (by omega) q_173 q_174 q_175 q_176 q_177 q_178 q_179 q_180 q_181 q_182 q_183 q_184 q_185
          · have e_191 : gp_wr ((gp_wr ((gp_I s 51 4) + 1)) + 1) = 3 := by omega
            try rw [e_191]
            exact k s_135 hs_136 (by omega) (by omega) (by omega) (by omega) (by omega) (by omega) (by omega) (by omega) q_145 q_146 q_147 q_148 q_149 q_150 q_151 q_152 q_153 q_154 q_155 q_156 q_157
        · have e_192 : gp_wr ((gp_I s 51 4) + 1) = 3 := by omega
          try rw [e_192]
          exact k s_108 hs_109 (by omega) (by omega) (by omega) (by omega) (by omega) (by omega) (by omega) (by omega) q_118 q_119 q_120 q_121 q_122 q_123 q_124 q_125 q_126 q_127 q_128 q_129 q_130
      · have q_194 : gp_I s 51 4 = 3 := by omega
        have q_193 : gp_I s 51 4 = 3 := q_194
        have e_195 : gp_I s 51 4 = 3 := by omega
        try rw [e_195]
        exact k s hs (by omega) (by omega) (by omega) (by omega) (by omega) (by omega) (by omega) (by omega) i12 i13 i14 i15 i16 i17 i18 i19 i20 i21 i22 i23 i24
set_option maxRecDepth 100000 in
/-- Sum.lay [51, (1, 255), 4] -/
theorem zx2049_0 {z : gH} {L d : Nat} {K : Option gV → gH → Prop} {s : gH} (p0 : Int) (hs : xM z s) (h_p0 : 1 ≤ p0 ∧ p0 ≤ 255) (q0 : gp_I s 1 2 = 0) (q1 : gp_I s 1 6 = 0) (q2 : gp_I s 1 7 = 1) (q3 : gp_I s 51 8 = 0) (q4 : gp_I s 57 1 = 0) (q5 : gp_I s 57 3 = 0) (q6 : gp_I s 60 8 = 0) (q7 : gp_R s 25 6 = none) (q8 : gp_R s 25 7 = none) (q9 : gp_R s 25 8 = none) (q10 : gp_R s 25 9 = none) (q11 : ∀ k, k < 8 → gp_R s 4 k = some 25) (q12 : gp_R s 51 6 = some 55) (q13 : gp_R s 51 7 = some 56) (q14 : ∀ k, k < 3 → gp_R s 52 k = some 25) (q15 : gp_R s 60 6 = some 64) (q16 : gp_R s 60 7 = some 65) (q17 : ∀ k, k < 3 → gp_R s 61 k = some 25) (q18 : gp_us s = 606895) (q19 : gp_sz s = 117) (k : ∀ (t : gH), xM z t → (gp_I t 1 2 = 0) → (gp_I t 1 6 = 0) → (gp_I t 1 7 = 1) → (0 ≤ gp_I t 51 4 ∧ gp_I t 51 4 ≤ 3) → (gp_I t 51 8 = 0) → (gp_I t 57 1 = 0) → (gp_I t 57 3 = 0) → (gp_I t 60 8 = 0) → (gp_R t 25 6 = none) → (gp_R t 25 7 = none) → (gp_R t 25 8 = none) → (gp_R t 25 9 = none) → (∀ k, k < 8 → gp_R t 4 k = some 25) → (gp_R t 51 6 = some 55) → (gp_R t 51 7 = some 56) → (∀ k, k < 3 → gp_R t 52 k = some 25) → (gp_R t 60 6 = some 64) → (gp_R t 60 7 = some 65) → (∀ k, k < 3 → gp_R t 61 k = some 25) → (gp_us t = 606895) → (gp_sz t = 117) → K none t) : gs_C L (d + 2) 2049 4 [gp_r (some 51), gp_i p0, gp_r (some 4)] s K := by
  refine s_2049_e _ _ _ ?_
  refine ⟨51, rfl, ?_⟩
  refine ⟨rfl, ?_⟩
  intro s_1 e_2
  have hs_3 : xM z s_1 := by rw [e_2]; exact xw51_2 hs 0 _
  have q_4 : gp_I s_1 1 2 = 0 := by rw [e_2]; exact q0
  have q_5 : gp_I s_1 1 6 = 0 := by rw [e_2]; exact q1
  have q_6 : gp_I s_1 1 7 = 1 := by rw [e_2]; exact q2
  have q_7 : gp_I s_1 51 8 = 0 := by rw [e_2]; exact q3
  have q_8 : gp_I s_1 57 1 = 0 := by rw [e_2]; exact q4
  have q_9 : gp_I s_1 57 3 = 0 := by rw [e_2]; exact q5
  have q_10 : gp_I s_1 60 8 = 0 := by rw [e_2]; exact q6
  have q_11 : gp_R s_1 25 6 = none := by rw [e_2]; exact q7
  have q_12 : gp_R s_1 25 7 = none := by rw [e_2]; exact q8
  have q_13 : gp_R s_1 25 8 = none := by rw [e_2]; exact q9
  have q_14 : gp_R s_1 25 9 = none := by rw [e_2]; exact q10
  have q_15 : ∀ k, k < 8 → gp_R s_1 4 k = some 25 := by rw [e_2]; exact q11
  have q_16 : gp_R s_1 51 6 = some 55 := by rw [e_2]; exact q12
  have q_17 : gp_R s_1 51 7 = some 56 := by rw [e_2]; exact q13
  have q_18 : ∀ k, k < 3 → gp_R s_1 52 k = some 25 := by rw [e_2]; exact q14
  have q_19 : gp_R s_1 60 6 = some 64 := by rw [e_2]; exact q15
  have q_20 : gp_R s_1 60 7 = some 65 := by rw [e_2]; exact q16
  have q_21 : ∀ k, k < 3 → gp_R s_1 61 k = some 25 := by rw [e_2]; exact q17
  have q_22 : gp_us s_1 = 606895 := by rw [e_2]; exact q18
  have q_23 : gp_sz s_1 = 117 := by rw [e_2]; exact q19
  refine ⟨rfl, ?_⟩
  intro s_24 e_25
  have hs_26 : xM z s_24 := by rw [e_25]; exact xw51_4 hs_3 0 _
  have q_27 : gp_I s_24 1 2 = 0 := by rw [e_25]; exact q_4
  have q_28 : gp_I s_24 1 6 = 0 := by rw [e_25]; exact q_5
  have q_29 : gp_I s_24 1 7 = 1 := by rw [e_25]; exact q_6
  have q_30 : gp_I s_24 51 8 = 0 := by rw [e_25]; exact q_7
  have q_31 : gp_I s_24 57 1 = 0 := by rw [e_25]; exact q_8
  have q_32 : gp_I s_24 57 3 = 0 := by rw [e_25]; exact q_9
  have q_33 : gp_I s_24 60 8 = 0 := by rw [e_25]; exact q_10
  have q_34 : gp_R s_24 25 6 = none := by rw [e_25]; exact q_11
  have q_35 : gp_R s_24 25 7 = none := by rw [e_25]; exact q_12
  have q_36 : gp_R s_24 25 8 = none := by rw [e_25]; exact q_13
  have q_37 : gp_R s_24 25 9 = none := by rw [e_25]; exact q_14
  have q_38 : ∀ k, k < 8 → gp_R s_24 4 k = some 25 := by rw [e_25]; exact q_15
  have q_39 : gp_R s_24 51 6 = some 55 := by rw [e_25]; exact q_16
  have q_40 : gp_R s_24 51 7 = some 56 := by rw [e_25]; exact q_17
  have q_41 : ∀ k, k < 3 → gp_R s_24 52 k = some 25 := by rw [e_25]; exact q_18
  have q_42 : gp_R s_24 60 6 = some 64 := by rw [e_25]; exact q_19
  have q_43 : gp_R s_24 60 7 = some 65 := by rw [e_25]; exact q_20
  have q_44 : ∀ k, k < 3 → gp_R s_24 61 k = some 25 := by rw [e_25]; exact q_21
  have q_45 : gp_us s_24 = 606895 := by rw [e_25]; exact q_22
  have q_46 : gp_sz s_24 = 117 := by rw [e_25]; exact q_23
  have q_47 : gp_I s_24 51 4 = 0 := by rw [e_25]; rfl
  exact zx2049_0_l12_0 p0 k _ _ _ _ _ s_24 hs_26 (Nat.lt_succ_self _) rfl (by omega) rfl (by omega) (by omega) (by omega) (by omega) (by omega) (by omega) (by omega) (by omega) (by omega) q_34 q_35 q_36 q_37 q_38 q_39 q_40 q_41 q_42 q_43 q_44 q_45 q_46
set_option maxRecDepth 100000 in
/-- Sum.fillPlace [51, (0, 0), (0, 0), (0, 0), (0, 0)] -/
theorem zx2063_0 {z : gH} {L d : Nat} {K : Option gV → gH → Prop} {s : gH}  (hs : xM z s)  (q0 : gp_I s 1 2 = 0) (q1 : gp_I s 1 6 = 0) (q2 : gp_I s 1 7 = 1) (q3 : 0 ≤ gp_I s 51 4 ∧ gp_I s 51 4 ≤ 3) (q4 : gp_I s 51 8 = 0) (q5 : gp_I s 55 0 = (-2147483648)) (q6 : gp_I s 56 0 = 2147483647) (q7 : gp_I s 57 1 = 0) (q8 : gp_I s 57 3 = 0) (q9 : gp_I s 60 8 = 0) (q10 : gp_R s 25 6 = none) (q11 : gp_R s 25 7 = none) (q12 : gp_R s 25 8 = none) (q13 : gp_R s 25 9 = none) (q14 : ∀ k, k < 8 → gp_R s 4 k = some 25) (q15 : gp_R s 51 6 = some 55) (q16 : gp_R s 51 7 = some 56) (q17 : ∀ k, k < 3 → gp_R s 52 k = some 25) (q18 : gp_R s 60 6 = some 64) (q19 : gp_R s 60 7 = some 65) (q20 : ∀ k, k < 3 → gp_R s 61 k = some 25) (q21 : gp_us s = 606895) (q22 : gp_sz s = 117) (k : ∀ (t : gH), xM z t → (gp_I t 1 2 = 0) → (gp_I t 1 6 = 0) → (gp_I t 1 7 = 1) → (0 ≤ gp_I t 51 4 ∧ gp_I t 51 4 ≤ 3) → (gp_I t 51 8 = 0) → (gp_I t 55 0 = 0) → (gp_I t 56 0 = 0) → (gp_I t 57 1 = 0) → (gp_I t 57 3 = 0) → (gp_I t 60 8 = 0) → (gp_R t 25 6 = none) → (gp_R t 25 7 = none) → (gp_R t 25 8 = none) → (gp_R t 25 9 = none) → (∀ k, k < 8 → gp_R t 4 k = some 25) → (gp_R t 51 6 = some 55) → (gp_R t 51 7 = some 56) → (∀ k, k < 3 → gp_R t 52 k = some 25) → (gp_R t 60 6 = some 64) → (gp_R t 60 7 = some 65) → (∀ k, k < 3 → gp_R t 61 k = some 25) → (gp_us t = 606895) → (gp_sz t = 117) → K none t) : gs_C L (d + 1) 2063 10 [gp_r (some 51), gp_i 0, gp_i 0, gp_i 0, gp_i 0] s K := by
  refine s_2063_e _ _ _ _ _ ?_
  refine ⟨51, rfl, ?_⟩
  refine ⟨rfl, ?_⟩
  try rw [show gp_R (gp_mk L s) 51 0 = some 52 from rfl]
  refine ⟨52, rfl, ?_⟩
  refine ⟨⟨rfl, by show 0 ≤ 2 ∧ 2 < 3; omega⟩, ?_⟩
  try rw [show gp_R (gp_mk L s) 52 2 = some 25 from (q17 _ (by omega))]
  refine ⟨rfl, ?_⟩
  try rw [show gp_R (gp_mk L s) 51 6 = some 55 from q15]
  have w_1 := gz_w (0 + 0)
  have e_2 : gp_wr (0 + 0) = 0 := by omega
  try rw [e_2]
  refine ⟨55, rfl, ?_⟩
  refine ⟨⟨rfl, by show 0 ≤ 0 ∧ 0 < 1; omega⟩, ?_⟩
  try rw [show gp_I s 55 (0 : Int).toNat = (-2147483648) from q5]
  refine ⟨25, rfl, ?_⟩
  refine ⟨rfl, ?_⟩
  try rw [show gp_R (gp_mk L s) 25 1 = some 26 from rfl]
  refine ⟨26, rfl, ?_⟩
  refine ⟨⟨rfl, by show 0 ≤ 0 ∧ 0 < 1; omega⟩, ?_⟩
  try rw [xr26 hs ((0 : Int).toNat)]
  refine s_2063_27 _ _ _ _ _ _ _ _ _ ?_
  have e_5 : gp_cmp (0#64) (0#64) = 0 := by decide
  try rw [e_5]
  refine ⟨fun h_6 => ?_, fun h_6 => ?_⟩
  · refine ⟨51, rfl, ?_⟩
    refine ⟨rfl, ?_⟩
    try rw [show gp_R (gp_mk L s) 51 7 = some 56 from q16]
    have w_7 := gz_w (0 + 0)
    have e_8 : gp_wr (0 + 0) = 0 := by omega
    try rw [e_8]
    refine ⟨56, rfl, ?_⟩
    refine ⟨⟨rfl, by show 0 ≤ 0 ∧ 0 < 1; omega⟩, ?_⟩
    try rw [show gp_I s 56 (0 : Int).toNat = 2147483647 from q6]
    refine ⟨25, rfl, ?_⟩
    refine ⟨rfl, ?_⟩
    try rw [show gp_R (gp_mk L s) 25 2 = some 27 from rfl]
    refine ⟨27, rfl, ?_⟩
    refine ⟨⟨rfl, by show 0 ≤ 0 ∧ 0 < 1; omega⟩, ?_⟩
    try rw [xr27 hs ((0 : Int).toNat)]
    refine s_2063_84 _ _ _ _ _ _ _ _ _ ?_
    have e_11 : gp_cmp (0#64) (0#64) = 0 := by decide
    try rw [e_11]
    refine ⟨fun h_12 => ?_, fun h_12 => ?_⟩
    · refine ⟨51, rfl, ?_⟩
      refine ⟨rfl, ?_⟩
      try rw [show gp_R (gp_mk L s) 51 6 = some 55 from q15]
      have w_13 := gz_w (0 + 0)
      have e_14 : gp_wr (0 + 0) = 0 := by omega
      try rw [e_14]
      refine ⟨fun h_15 => ?_, fun h_15 => ?_⟩
      · refine ⟨25, rfl, ?_⟩
        refine ⟨rfl, ?_⟩
        try rw [show gp_R (gp_mk L s) 25 3 = some 28 from rfl]
        refine ⟨28, rfl, ?_⟩
        refine ⟨⟨rfl, by show 0 ≤ 0 ∧ 0 < 1; omega⟩, ?_⟩
        have f_16 := xr28 hs ((0 : Int).toNat)
        have e_17 : gp_I s 28 (0 : Int).toNat = 0 := by omega
        try rw [e_17]
        have w_18 := gz_w (0 + 0)
        have e_19 : gp_wr (0 + 0) = 0 := by omega
        try rw [e_19]
        refine s_2063_150 _ _ _ _ _ _ _ _ _ _ _ _ ?_
        refine ⟨55, rfl, ?_⟩
        refine ⟨⟨rfl, by show 0 ≤ 0 ∧ 0 < 1; omega⟩, ?_⟩
        intro s_23 e_24
        have hs_25 : xM z s_23 := by rw [e_24]; exact xw55 hs _ _
        have q_26 : gp_I s_23 1 2 = 0 := by rw [e_24]; exact q0
        have q_27 : gp_I s_23 1 6 = 0 := by rw [e_24]; exact q1
        have q_28 : gp_I s_23 1 7 = 1 := by rw [e_24]; exact q2
        have q_29 : 0 ≤ gp_I s_23 51 4 ∧ gp_I s_23 51 4 ≤ 3 := by rw [e_24]; exact q3
        have q_30 : gp_I s_23 51 8 = 0 := by rw [e_24]; exact q4
        have q_31 : gp_I s_23 56 0 = 2147483647 := by rw [e_24]; exact q6
        have q_32 : gp_I s_23 57 1 = 0 := by rw [e_24]; exact q7
        have q_33 : gp_I s_23 57 3 = 0 := by rw [e_24]; exact q8
        have q_34 : gp_I s_23 60 8 = 0 := by rw [e_24]; exact q9
        have q_35 : gp_R s_23 25 6 = none := by rw [e_24]; exact q10
        have q_36 : gp_R s_23 25 7 = none := by rw [e_24]; exact q11
        have q_37 : gp_R s_23 25 8 = none := by rw [e_24]; exact q12
        have q_38 : gp_R s_23 25 9 = none := by rw [e_24]; exact q13
        have q_39 : ∀ k, k < 8 → gp_R s_23 4 k = some 25 := by rw [e_24]; exact q14
        have q_40 : gp_R s_23 51 6 = some 55 := by rw [e_24]; exact q15
        have q_41 : gp_R s_23 51 7 = some 56 := by rw [e_24]; exact q16
        have q_42 : ∀ k, k < 3 → gp_R s_23 52 k = some 25 := by rw [e_24]; exact q17
        have q_43 : gp_R s_23 60 6 = some 64 := by rw [e_24]; exact q18
        have q_44 : gp_R s_23 60 7 = some 65 := by rw [e_24]; exact q19
        have q_45 : ∀ k, k < 3 → gp_R s_23 61 k = some 25 := by rw [e_24]; exact q20
        have q_46 : gp_us s_23 = 606895 := by rw [e_24]; exact q21
        have q_47 : gp_sz s_23 = 117 := by rw [e_24]; exact q22
        have q_48 : gp_I s_23 55 0 = 0 := by rw [e_24]; rfl
        refine ⟨51, rfl, ?_⟩
        refine ⟨rfl, ?_⟩
        try rw [show gp_R (gp_mk L s_23) 51 7 = some 56 from q_41]
        have w_50 := gz_w (0 + 0)
        have e_51 : gp_wr (0 + 0) = 0 := by omega
        try rw [e_51]
        refine ⟨fun h_52 => ?_, fun h_52 => ?_⟩
        · refine ⟨25, rfl, ?_⟩
          refine ⟨rfl, ?_⟩
          try rw [show gp_R (gp_mk L s_23) 25 4 = some 29 from rfl]
          refine ⟨29, rfl, ?_⟩
          refine ⟨⟨rfl, by show 0 ≤ 0 ∧ 0 < 1; omega⟩, ?_⟩
          have f_53 := xr29 hs_25 ((0 : Int).toNat)
          have e_54 : gp_I s_23 29 (0 : Int).toNat = 0 := by omega
          try rw [e_54]
          have w_55 := gz_w (0 + 0)
          have e_56 : gp_wr (0 + 0) = 0 := by omega
          try rw [e_56]
          refine s_2063_180 _ _ _ _ _ _ _ _ _ _ _ _ ?_
          refine ⟨56, rfl, ?_⟩
          refine ⟨⟨rfl, by show 0 ≤ 0 ∧ 0 < 1; omega⟩, ?_⟩
          intro s_60 e_61
          have hs_62 : xM z s_60 := by rw [e_61]; exact xw56 hs_25 _ _
          have q_63 : gp_I s_60 1 2 = 0 := by rw [e_61]; exact q_26
          have q_64 : gp_I s_60 1 6 = 0 := by rw [e_61]; exact q_27
          have q_65 : gp_I s_60 1 7 = 1 := by rw [e_61]; exact q_28
          have q_66 : 0 ≤ gp_I s_60 51 4 ∧ gp_I s_60 51 4 ≤ 3 := by rw [e_61]; exact q_29
          have q_67 : gp_I s_60 51 8 = 0 := by rw [e_61]; exact q_30
          have q_68 : gp_I s_60 57 1 = 0 := by rw [e_61]; exact q_32
          have q_69 : gp_I s_60 57 3 = 0 := by rw [e_61]; exact q_33
          have q_70 : gp_I s_60 60 8 = 0 := by rw [e_61]; exact q_34
          have q_71 : gp_R s_60 25 6 = none := by rw [e_61]; exact q_35
          have q_72 : gp_R s_60 25 7 = none := by rw [e_61]; exact q_36
          have q_73 : gp_R s_60 25 8 = none := by rw [e_61]; exact q_37
          have q_74 : gp_R s_60 25 9 = none := by rw [e_61]; exact q_38
          have q_75 : ∀ k, k < 8 → gp_R s_60 4 k = some 25 := by rw [e_61]; exact q_39
          have q_76 : gp_R s_60 51 6 = some 55 := by rw [e_61]; exact q_40
          have q_77 : gp_R s_60 51 7 = some 56 := by rw [e_61]; exact q_41
          have q_78 : ∀ k, k < 3 → gp_R s_60 52 k = some 25 := by rw [e_61]; exact q_42
          have q_79 : gp_R s_60 60 6 = some 64 := by rw [e_61]; exact q_43
          have q_80 : gp_R s_60 60 7 = some 65 := by rw [e_61]; exact q_44
          have q_81 : ∀ k, k < 3 → gp_R s_60 61 k = some 25 := by rw [e_61]; exact q_45
          have q_82 : gp_us s_60 = 606895 := by rw [e_61]; exact q_46
          have q_83 : gp_sz s_60 = 117 := by rw [e_61]; exact q_47
          have q_84 : gp_I s_60 55 0 = 0 := by rw [e_61]; exact q_48
          have q_85 : gp_I s_60 56 0 = 0 := by rw [e_61]; rfl
          exact k s_60 hs_62 (by omega) (by omega) (by omega) (by omega) (by omega) (by omega) (by omega) (by omega) (by omega) (by omega) q_71 q_72 q_73 q_74 q_75 q_76 q_77 q_78 q_79 q_80 q_81 q_82 q_83
        · exfalso; omega
      · exfalso; omega
    · exfalso; omega
  · exfalso; omega
set_option maxRecDepth 100000 in
/-- Sum.fillRow [51, (0, 0), (0, 0)] -/
theorem zx2061_0 {z : gH} {L d : Nat} {K : Option gV → gH → Prop} {s : gH}  (hs : xM z s)  (q0 : gp_I s 1 2 = 0) (q1 : gp_I s 1 6 = 0) (q2 : gp_I s 1 7 = 1) (q3 : 0 ≤ gp_I s 51 4 ∧ gp_I s 51 4 ≤ 3) (q4 : gp_I s 51 8 = 0) (q5 : gp_I s 57 1 = 0) (q6 : gp_I s 57 3 = 0) (q7 : gp_I s 60 8 = 0) (q8 : gp_R s 25 6 = none) (q9 : gp_R s 25 7 = none) (q10 : gp_R s 25 8 = none) (q11 : gp_R s 25 9 = none) (q12 : ∀ k, k < 8 → gp_R s 4 k = some 25) (q13 : gp_R s 51 6 = some 55) (q14 : gp_R s 51 7 = some 56) (q15 : ∀ k, k < 3 → gp_R s 52 k = some 25) (q16 : gp_R s 60 6 = some 64) (q17 : gp_R s 60 7 = some 65) (q18 : ∀ k, k < 3 → gp_R s 61 k = some 25) (q19 : gp_us s = 606895) (q20 : gp_sz s = 117) (k : ∀ (t : gH), xM z t → (gp_I t 1 2 = 0) → (gp_I t 1 6 = 0) → (gp_I t 1 7 = 1) → (0 ≤ gp_I t 51 4 ∧ gp_I t 51 4 ≤ 3) → (gp_I t 51 8 = 0) → (gp_I t 55 0 = 0) → (gp_I t 56 0 = 0) → (gp_I t 57 1 = 0) → (gp_I t 57 3 = 0) → (gp_I t 60 8 = 0) → (gp_R t 25 6 = none) → (gp_R t 25 7 = none) → (gp_R t 25 8 = none) → (gp_R t 25 9 = none) → (∀ k, k < 8 → gp_R t 4 k = some 25) → (gp_R t 51 6 = some 55) → (gp_R t 51 7 = some 56) → (∀ k, k < 3 → gp_R t 52 k = some 25) → (gp_R t 60 6 = some 64) → (gp_R t 60 7 = some 65) → (∀ k, k < 3 → gp_R t 61 k = some 25) → (gp_us t = 606895) → (gp_sz t = 117) → K none t) : gs_C L (d + 2) 2061 9 [gp_r (some 51), gp_i 0, gp_i 0] s K := by
  refine s_2061_e _ _ _ ?_
  refine ⟨51, rfl, ?_⟩
  refine ⟨rfl, ?_⟩
  try rw [show gp_R (gp_mk L s) 51 0 = some 52 from rfl]
  refine ⟨52, rfl, ?_⟩
  refine ⟨⟨rfl, by show 0 ≤ 2 ∧ 2 < 3; omega⟩, ?_⟩
  try rw [show gp_R (gp_mk L s) 52 2 = some 25 from (q15 _ (by omega))]
  refine ⟨25, rfl, ?_⟩
  refine ⟨rfl, ?_⟩
  have f_1 := xr25_0 hs 0
  have e_2 : gp_I s 25 0 = 1 := by omega
  try rw [e_2]
  refine ⟨rfl, ?_⟩
  try rw [show gp_R (gp_mk L s) 51 0 = some 52 from rfl]
  refine ⟨52, rfl, ?_⟩
  refine ⟨⟨rfl, by show 0 ≤ 1 ∧ 1 < 3; omega⟩, ?_⟩
  try rw [show gp_R (gp_mk L s) 52 1 = some 25 from (q15 _ (by omega))]
  refine ⟨25, rfl, ?_⟩
  refine ⟨rfl, ?_⟩
  have f_3 := xr25_0 hs 0
  have e_4 : gp_I s 25 0 = 1 := by omega
  try rw [e_4]
  have w_5 := gz_w (0 * 1)
  have e_6 : gp_wr (0 * 1) = 0 := by omega
  try rw [e_6]
  have w_7 := gz_w (0 + 0)
  have e_8 : gp_wr (0 + 0) = 0 := by omega
  try rw [e_8]
  have w_9 := gz_w (0 * 1)
  have e_10 : gp_wr (0 * 1) = 0 := by omega
  try rw [e_10]
  refine s_2061_34 _ _ _ _ _ _ _ _ _ ?_
  refine ⟨fun h_12 => ?_, fun h_12 => ?_⟩
  · refine ⟨51, rfl, ?_⟩
    refine ⟨rfl, ?_⟩
    try rw [show gp_R (gp_mk L s) 51 6 = some 55 from q13]
    have w_13 := gz_w (0 + 0)
    have e_14 : gp_wr (0 + 0) = 0 := by omega
    try rw [e_14]
    refine ⟨55, rfl, ?_⟩
    refine ⟨⟨rfl, by show 0 ≤ 0 ∧ 0 < 1; omega⟩, ?_⟩
    intro s_15 e_16
    have hs_17 : xM z s_15 := by rw [e_16]; exact xw55 hs _ _
    have q_18 : gp_I s_15 1 2 = 0 := by rw [e_16]; exact q0
    have q_19 : gp_I s_15 1 6 = 0 := by rw [e_16]; exact q1
    have q_20 : gp_I s_15 1 7 = 1 := by rw [e_16]; exact q2
    have q_21 : 0 ≤ gp_I s_15 51 4 ∧ gp_I s_15 51 4 ≤ 3 := by rw [e_16]; exact q3
    have q_22 : gp_I s_15 51 8 = 0 := by rw [e_16]; exact q4
    have q_23 : gp_I s_15 57 1 = 0 := by rw [e_16]; exact q5
    have q_24 : gp_I s_15 57 3 = 0 := by rw [e_16]; exact q6
    have q_25 : gp_I s_15 60 8 = 0 := by rw [e_16]; exact q7
    have q_26 : gp_R s_15 25 6 = none := by rw [e_16]; exact q8
    have q_27 : gp_R s_15 25 7 = none := by rw [e_16]; exact q9
    have q_28 : gp_R s_15 25 8 = none := by rw [e_16]; exact q10
    have q_29 : gp_R s_15 25 9 = none := by rw [e_16]; exact q11
    have q_30 : ∀ k, k < 8 → gp_R s_15 4 k = some 25 := by rw [e_16]; exact q12
    have q_31 : gp_R s_15 51 6 = some 55 := by rw [e_16]; exact q13
    have q_32 : gp_R s_15 51 7 = some 56 := by rw [e_16]; exact q14
    have q_33 : ∀ k, k < 3 → gp_R s_15 52 k = some 25 := by rw [e_16]; exact q15
    have q_34 : gp_R s_15 60 6 = some 64 := by rw [e_16]; exact q16
    have q_35 : gp_R s_15 60 7 = some 65 := by rw [e_16]; exact q17
    have q_36 : ∀ k, k < 3 → gp_R s_15 61 k = some 25 := by rw [e_16]; exact q18
    have q_37 : gp_us s_15 = 606895 := by rw [e_16]; exact q19
    have q_38 : gp_sz s_15 = 117 := by rw [e_16]; exact q20
    have q_39 : gp_I s_15 55 0 = (-2147483648) := by rw [e_16]; rfl
    refine ⟨rfl, ?_⟩
    try rw [show gp_R (gp_mk L s_15) 51 7 = some 56 from q_32]
    have w_41 := gz_w (0 + 0)
    have e_42 : gp_wr (0 + 0) = 0 := by omega
    try rw [e_42]
    refine ⟨56, rfl, ?_⟩
    refine ⟨⟨rfl, by show 0 ≤ 0 ∧ 0 < 1; omega⟩, ?_⟩
    intro s_43 e_44
    have hs_45 : xM z s_43 := by rw [e_44]; exact xw56 hs_17 _ _
    have q_46 : gp_I s_43 1 2 = 0 := by rw [e_44]; exact q_18
    have q_47 : gp_I s_43 1 6 = 0 := by rw [e_44]; exact q_19
    have q_48 : gp_I s_43 1 7 = 1 := by rw [e_44]; exact q_20
    have q_49 : 0 ≤ gp_I s_43 51 4 ∧ gp_I s_43 51 4 ≤ 3 := by rw [e_44]; exact q_21
    have q_50 : gp_I s_43 51 8 = 0 := by rw [e_44]; exact q_22
    have q_51 : gp_I s_43 57 1 = 0 := by rw [e_44]; exact q_23
    have q_52 : gp_I s_43 57 3 = 0 := by rw [e_44]; exact q_24
    have q_53 : gp_I s_43 60 8 = 0 := by rw [e_44]; exact q_25
    have q_54 : gp_R s_43 25 6 = none := by rw [e_44]; exact q_26
    have q_55 : gp_R s_43 25 7 = none := by rw [e_44]; exact q_27
    have q_56 : gp_R s_43 25 8 = none := by rw [e_44]; exact q_28
    have q_57 : gp_R s_43 25 9 = none := by rw [e_44]; exact q_29
    have q_58 : ∀ k, k < 8 → gp_R s_43 4 k = some 25 := by rw [e_44]; exact q_30
    have q_59 : gp_R s_43 51 6 = some 55 := by rw [e_44]; exact q_31
    have q_60 : gp_R s_43 51 7 = some 56 := by rw [e_44]; exact q_32
    have q_61 : ∀ k, k < 3 → gp_R s_43 52 k = some 25 := by rw [e_44]; exact q_33
    have q_62 : gp_R s_43 60 6 = some 64 := by rw [e_44]; exact q_34
    have q_63 : gp_R s_43 60 7 = some 65 := by rw [e_44]; exact q_35
    have q_64 : ∀ k, k < 3 → gp_R s_43 61 k = some 25 := by rw [e_44]; exact q_36
    have q_65 : gp_us s_43 = 606895 := by rw [e_44]; exact q_37
    have q_66 : gp_sz s_43 = 117 := by rw [e_44]; exact q_38
    have q_67 : gp_I s_43 55 0 = (-2147483648) := by rw [e_44]; exact q_39
    have q_68 : gp_I s_43 56 0 = 2147483647 := by rw [e_44]; rfl
    have w_70 := gz_w (0 + 1)
    have e_71 : gp_wr (0 + 1) = 1 := by omega
    try rw [e_71]
    refine s_2061_34 _ _ _ _ _ _ _ _ _ ?_
    refine ⟨fun h_73 => ?_, fun h_73 => ?_⟩
    · exfalso; omega
    · refine s_2061_73 _ _ _ _ _ _ _ _ _ ?_
      refine ⟨fun h_75 => ?_, fun h_75 => ?_⟩
      · refine ⟨51, rfl, ?_⟩
        refine ⟨rfl, ?_⟩
        try rw [show gp_R (gp_mk L s_43) 51 0 = some 52 from rfl]
        refine ⟨52, rfl, ?_⟩
        refine ⟨⟨rfl, by show 0 ≤ 0 ∧ 0 < 3; omega⟩, ?_⟩
        try rw [show gp_R (gp_mk L s_43) 52 0 = some 25 from (q_61 _ (by omega))]
        refine ⟨25, rfl, ?_⟩
        refine ⟨rfl, ?_⟩
        refine zx2307_0 hs_45 q_54 q_55 q_56 q_57 (⟨_, rfl, ?_⟩)
        refine s_2061_93 _ _ _ _ _ _ _ _ ?_
        have e_77 : gp_cmp (0#64) (0#64) = 0 := by decide
        try rw [e_77]
        refine ⟨fun h_78 => ?_, fun h_78 => ?_⟩
        · refine ⟨51, rfl, ?_⟩
          refine ⟨rfl, ?_⟩
          try rw [show gp_R (gp_mk L s_43) 51 0 = some 52 from rfl]
          refine ⟨52, rfl, ?_⟩
          refine ⟨⟨rfl, by show 0 ≤ 1 ∧ 1 < 3; omega⟩, ?_⟩
          try rw [show gp_R (gp_mk L s_43) 52 1 = some 25 from (q_61 _ (by omega))]
          refine ⟨25, rfl, ?_⟩
          refine ⟨rfl, ?_⟩
          refine zx2307_0 hs_45 q_54 q_55 q_56 q_57 (⟨_, rfl, ?_⟩)
          refine s_2061_147 _ _ _ _ _ _ _ _ ?_
          have e_80 : gp_cmp (0#64) (0#64) = 0 := by decide
          try rw [e_80]
          refine ⟨fun h_81 => ?_, fun h_81 => ?_⟩
          · have w_82 := gz_w (0 + 1)
            have e_83 : gp_wr (0 + 1) = 1 := by omega
            try rw [e_83]
            refine s_2061_73 _ _ _ _ _ _ _ _ _ ?_
            refine ⟨fun h_85 => ?_, fun h_85 => ?_⟩
            · refine ⟨51, rfl, ?_⟩
              refine ⟨rfl, ?_⟩
              try rw [show gp_R (gp_mk L s_43) 51 0 = some 52 from rfl]
              refine ⟨52, rfl, ?_⟩
              refine ⟨⟨rfl, by show 0 ≤ 0 ∧ 0 < 3; omega⟩, ?_⟩
              try rw [show gp_R (gp_mk L s_43) 52 0 = some 25 from (q_61 _ (by omega))]
              refine ⟨25, rfl, ?_⟩
              refine ⟨rfl, ?_⟩
              refine zx2307_1 hs_45 q_54 q_55 q_56 q_57 (⟨_, rfl, ?_⟩)
              refine s_2061_93 _ _ _ _ _ _ _ _ ?_
              have e_87 : gp_cmp (0#64) (0#64) = 0 := by decide
              try rw [e_87]
              refine ⟨fun h_88 => ?_, fun h_88 => ?_⟩
              · refine ⟨51, rfl, ?_⟩
                refine ⟨rfl, ?_⟩
                try rw [show gp_R (gp_mk L s_43) 51 0 = some 52 from rfl]
                refine ⟨52, rfl, ?_⟩
                refine ⟨⟨rfl, by show 0 ≤ 1 ∧ 1 < 3; omega⟩, ?_⟩
                try rw [show gp_R (gp_mk L s_43) 52 1 = some 25 from (q_61 _ (by omega))]
                refine ⟨25, rfl, ?_⟩
                refine ⟨rfl, ?_⟩
                refine zx2307_1 hs_45 q_54 q_55 q_56 q_57 (⟨_, rfl, ?_⟩)
                refine s_2061_147 _ _ _ _ _ _ _ _ ?_
                have e_90 : gp_cmp (0#64) (0#64) = 0 := by decide
                try rw [e_90]
                refine ⟨fun h_91 => ?_, fun h_91 => ?_⟩
                · have w_92 := gz_w (1 + 1)
                  have e_93 : gp_wr (1 + 1) = 2 := by omega
                  try rw [e_93]
                  refine s_2061_73 _ _ _ _ _ _ _ _ _ ?_
                  refine ⟨fun h_95 => ?_, fun h_95 => ?_⟩
                  · exfalso; omega
                  · refine ⟨51, rfl, ?_⟩
                    refine ⟨rfl, ?_⟩
                    try rw [show gp_R (gp_mk L s_43) 51 0 = some 52 from rfl]
                    refine ⟨52, rfl, ?_⟩
                    refine ⟨⟨rfl, by show 0 ≤ 0 ∧ 0 < 3; omega⟩, ?_⟩
                    try rw [show gp_R (gp_mk L s_43) 52 0 = some 25 from (q_61 _ (by omega))]
                    refine ⟨25, rfl, ?_⟩
                    refine ⟨rfl, ?_⟩
                    try rw [show gp_R (gp_mk L s_43) 25 3 = some 28 from rfl]
                    refine ⟨28, rfl, ?_⟩
                    refine ⟨⟨rfl, by show 0 ≤ 0 ∧ 0 < 1; omega⟩, ?_⟩
                    have f_96 := xr28 hs_45 ((0 : Int).toNat)
                    have e_97 : gp_I s_43 28 (0 : Int).toNat = 0 := by omega
                    try rw [e_97]
                    refine ⟨rfl, ?_⟩
                    try rw [show gp_R (gp_mk L s_43) 51 0 = some 52 from rfl]
                    refine ⟨52, rfl, ?_⟩
                    refine ⟨⟨rfl, by show 0 ≤ 1 ∧ 1 < 3; omega⟩, ?_⟩
                    try rw [show gp_R (gp_mk L s_43) 52 1 = some 25 from (q_61 _ (by omega))]
                    refine ⟨25, rfl, ?_⟩
                    refine ⟨rfl, ?_⟩
                    try rw [show gp_R (gp_mk L s_43) 25 3 = some 28 from rfl]
                    refine ⟨28, rfl, ?_⟩
                    refine ⟨⟨rfl, by show 0 ≤ 0 ∧ 0 < 1; omega⟩, ?_⟩
                    have f_98 := xr28 hs_45 ((0 : Int).toNat)
                    have e_99 : gp_I s_43 28 (0 : Int).toNat = 0 := by omega
                    try rw [e_99]
                    have w_100 := gz_w (0 + 0)
                    have e_101 : gp_wr (0 + 0) = 0 := by omega
                    try rw [e_101]
                    refine ⟨rfl, ?_⟩
                    try rw [show gp_R (gp_mk L s_43) 51 0 = some 52 from rfl]
                    refine ⟨52, rfl, ?_⟩
                    refine ⟨⟨rfl, by show 0 ≤ 0 ∧ 0 < 3; omega⟩, ?_⟩
                    try rw [show gp_R (gp_mk L s_43) 52 0 = some 25 from (q_61 _ (by omega))]
                    refine ⟨25, rfl, ?_⟩
                    refine ⟨rfl, ?_⟩
                    try rw [show gp_R (gp_mk L s_43) 25 4 = some 29 from rfl]
                    refine ⟨29, rfl, ?_⟩
                    refine ⟨⟨rfl, by show 0 ≤ 0 ∧ 0 < 1; omega⟩, ?_⟩
                    have f_102 := xr29 hs_45 ((0 : Int).toNat)
                    have e_103 : gp_I s_43 29 (0 : Int).toNat = 0 := by omega
                    try rw [e_103]
                    refine ⟨rfl, ?_⟩
                    try rw [show gp_R (gp_mk L s_43) 51 0 = some 52 from rfl]
                    refine ⟨52, rfl, ?_⟩
                    refine ⟨⟨rfl, by show 0 ≤ 1 ∧ 1 < 3; omega⟩, ?_⟩
                    try rw [show gp_R (gp_mk L s_43) 52 1 = some 25 from (q_61 _ (by omega))]
                    refine ⟨25, rfl, ?_⟩
                    refine ⟨rfl, ?_⟩
                    try rw [show gp_R (gp_mk L s_43) 25 4 = some 29 from rfl]
                    refine ⟨29, rfl, ?_⟩
                    refine ⟨⟨rfl, by show 0 ≤ 0 ∧ 0 < 1; omega⟩, ?_⟩
                    have f_104 := xr29 hs_45 ((0 : Int).toNat)
                    have e_105 : gp_I s_43 29 (0 : Int).toNat = 0 := by omega
                    try rw [e_105]
                    have w_106 := gz_w (0 + 0)
                    have e_107 : gp_wr (0 + 0) = 0 := by omega
                    try rw [e_107]
                    refine s_2061_246 _ _ _ _ _ _ _ _ _ ?_
                    refine ⟨fun h_109 => ?_, fun h_109 => ?_⟩
                    · refine ⟨51, rfl, ?_⟩
                      refine ⟨rfl, ?_⟩
                      refine zx2063_0 hs_45 (by omega) (by omega) (by omega) (by omega) (by omega) (by omega) (by omega) (by omega) (by omega) (by omega) q_54 q_55 q_56 q_57 q_58 q_59 q_60 q_61 q_62 q_63 q_64 q_65 q_66 (fun s_110 hs_111 q_112 q_113 q_114 q_115 q_116 q_117 q_118 q_119 q_120 q_121 q_122 q_123 q_124 q_125 q_126 q_127 q_128 q_129 q_130 q_131 q_132 q_133 q_134 => ⟨rfl, ?_⟩)
                      have w_135 := gz_w (0 + 1)
                      have e_136 : gp_wr (0 + 1) = 1 := by omega
                      try rw [e_136]
                      refine s_2061_246 _ _ _ _ _ _ _ _ _ ?_
                      refine ⟨fun h_138 => ?_, fun h_138 => ?_⟩
                      · exfalso; omega
                      · exact k s_110 hs_111 (by omega) (by omega) (by omega) (by omega) (by omega) (by omega) (by omega) (by omega) (by omega) (by omega) q_122 q_123 q_124 q_125 q_126 q_127 q_128 q_129 q_130 q_131 q_132 q_133 q_134
                    · exfalso; omega
                · exfalso; omega
              · exfalso; omega
            · exfalso; omega
          · exfalso; omega
        · exfalso; omega
      · exfalso; omega
  · exfalso; omega
set_option maxRecDepth 100000 in
/-- Sum.fill [51] -/
theorem zx2060_0 {z : gH} {L d : Nat} {K : Option gV → gH → Prop} {s : gH}  (hs : xM z s)  (q0 : gp_I s 1 2 = 0) (q1 : gp_I s 1 6 = 0) (q2 : gp_I s 1 7 = 1) (q3 : 0 ≤ gp_I s 51 4 ∧ gp_I s 51 4 ≤ 3) (q4 : gp_I s 51 8 = 0) (q5 : gp_I s 57 1 = 0) (q6 : gp_I s 57 3 = 0) (q7 : gp_I s 60 8 = 0) (q8 : gp_R s 25 6 = none) (q9 : gp_R s 25 7 = none) (q10 : gp_R s 25 8 = none) (q11 : gp_R s 25 9 = none) (q12 : ∀ k, k < 8 → gp_R s 4 k = some 25) (q13 : gp_R s 51 6 = some 55) (q14 : gp_R s 51 7 = some 56) (q15 : ∀ k, k < 3 → gp_R s 52 k = some 25) (q16 : gp_R s 60 6 = some 64) (q17 : gp_R s 60 7 = some 65) (q18 : ∀ k, k < 3 → gp_R s 61 k = some 25) (q19 : gp_us s = 606895) (q20 : gp_sz s = 117) (k : ∀ (t : gH), xM z t → (gp_I t 1 2 = 0) → (gp_I t 1 6 = 0) → (gp_I t 1 7 = 1) → (0 ≤ gp_I t 51 4 ∧ gp_I t 51 4 ≤ 3) → (gp_I t 51 8 = 1) → (gp_I t 55 0 = 0) → (gp_I t 56 0 = 0) → (gp_I t 57 1 = 0) → (gp_I t 57 3 = 0) → (gp_I t 60 8 = 0) → (gp_R t 25 6 = none) → (gp_R t 25 7 = none) → (gp_R t 25 8 = none) → (gp_R t 25 9 = none) → (∀ k, k < 8 → gp_R t 4 k = some 25) → (gp_R t 51 6 = some 55) → (gp_R t 51 7 = some 56) → (∀ k, k < 3 → gp_R t 52 k = some 25) → (gp_R t 60 6 = some 64) → (gp_R t 60 7 = some 65) → (∀ k, k < 3 → gp_R t 61 k = some 25) → (gp_us t = 606895) → (gp_sz t = 117) → K none t) : gs_C L (d + 3) 2060 4 [gp_r (some 51)] s K := by
  refine s_2060_e _ ?_
  refine ⟨51, rfl, ?_⟩
  refine ⟨rfl, ?_⟩
  try rw [show gp_I s 51 8 = 0 from q4]
  refine ⟨fun h_1 => ?_, fun h_1 => ?_⟩
  · refine ⟨rfl, ?_⟩
    try rw [show gp_R (gp_mk L s) 51 0 = some 52 from rfl]
    refine ⟨52, rfl, ?_⟩
    refine ⟨⟨rfl, by show 0 ≤ 0 ∧ 0 < 3; omega⟩, ?_⟩
    try rw [show gp_R (gp_mk L s) 52 0 = some 25 from (q15 _ (by omega))]
    refine ⟨25, rfl, ?_⟩
    refine ⟨rfl, ?_⟩
    have f_2 := xr25_0 hs 0
    have e_3 : gp_I s 25 0 = 1 := by omega
    try rw [e_3]
    refine ⟨rfl, ?_⟩
    try rw [show gp_R (gp_mk L s) 51 0 = some 52 from rfl]
    refine ⟨52, rfl, ?_⟩
    refine ⟨⟨rfl, by show 0 ≤ 1 ∧ 1 < 3; omega⟩, ?_⟩
    try rw [show gp_R (gp_mk L s) 52 1 = some 25 from (q15 _ (by omega))]
    refine ⟨25, rfl, ?_⟩
    refine ⟨rfl, ?_⟩
    have f_4 := xr25_0 hs 0
    have e_5 : gp_I s 25 0 = 1 := by omega
    try rw [e_5]
    have w_6 := gz_w (1 * 1)
    have e_7 : gp_wr (1 * 1) = 1 := by omega
    try rw [e_7]
    refine ⟨rfl, ?_⟩
    try rw [show gp_R (gp_mk L s) 51 0 = some 52 from rfl]
    refine ⟨52, rfl, ?_⟩
    refine ⟨⟨rfl, by show 0 ≤ 2 ∧ 2 < 3; omega⟩, ?_⟩
    try rw [show gp_R (gp_mk L s) 52 2 = some 25 from (q15 _ (by omega))]
    refine ⟨25, rfl, ?_⟩
    refine ⟨rfl, ?_⟩
    have f_8 := xr25_0 hs 0
    have e_9 : gp_I s 25 0 = 1 := by omega
    try rw [e_9]
    have w_10 := gz_w (1 * 1)
    have e_11 : gp_wr (1 * 1) = 1 := by omega
    try rw [e_11]
    refine ⟨rfl, ?_⟩
    try rw [show gp_R (gp_mk L s) 51 6 = some 55 from q13]
    refine ⟨55, rfl, ?_⟩
    refine ⟨⟨⟨by show 100 ≤ 100; omega, by show 100 ≤ 105; omega⟩, by show ((1 : Nat) : Int) < 2147483648; omega⟩, ?_⟩
    try rw [show ((gp_sh (gp_mk L s) 55).2 : Int) = 1 from rfl]
    refine ⟨fun h_12 => ?_, fun h_12 => ?_⟩
    · exfalso; omega
    · refine s_2060_78 _ _ _ _ ?_
      refine s_2060_80 _ _ _ _ ?_
      refine ⟨51, rfl, ?_⟩
      refine ⟨rfl, ?_⟩
      try rw [show gp_R (gp_mk L s) 51 0 = some 52 from rfl]
      refine ⟨52, rfl, ?_⟩
      refine ⟨⟨rfl, by show 0 ≤ 0 ∧ 0 < 3; omega⟩, ?_⟩
      try rw [show gp_R (gp_mk L s) 52 0 = some 25 from (q15 _ (by omega))]
      refine ⟨25, rfl, ?_⟩
      refine ⟨rfl, ?_⟩
      have f_15 := xr25_0 hs 0
      have e_16 : gp_I s 25 0 = 1 := by omega
      try rw [e_16]
      refine ⟨fun h_17 => ?_, fun h_17 => ?_⟩
      · refine s_2060_95 _ _ _ _ ?_
        refine ⟨51, rfl, ?_⟩
        refine ⟨rfl, ?_⟩
        try rw [show gp_R (gp_mk L s) 51 0 = some 52 from rfl]
        refine ⟨52, rfl, ?_⟩
        refine ⟨⟨rfl, by show 0 ≤ 1 ∧ 1 < 3; omega⟩, ?_⟩
        try rw [show gp_R (gp_mk L s) 52 1 = some 25 from (q15 _ (by omega))]
        refine ⟨25, rfl, ?_⟩
        refine ⟨rfl, ?_⟩
        have f_19 := xr25_0 hs 0
        have e_20 : gp_I s 25 0 = 1 := by omega
        try rw [e_20]
        refine ⟨fun h_21 => ?_, fun h_21 => ?_⟩
        · refine ⟨rfl, ?_⟩
          refine zx2061_0 hs (by omega) (by omega) (by omega) (by omega) (by omega) (by omega) (by omega) (by omega) q8 q9 q10 q11 q12 q13 q14 q15 q16 q17 q18 q19 q20 (fun s_22 hs_23 q_24 q_25 q_26 q_27 q_28 q_29 q_30 q_31 q_32 q_33 q_34 q_35 q_36 q_37 q_38 q_39 q_40 q_41 q_42 q_43 q_44 q_45 q_46 => ⟨rfl, ?_⟩)
          have w_47 := gz_w (0 + 1)
          have e_48 : gp_wr (0 + 1) = 1 := by omega
          try rw [e_48]
          refine s_2060_95 _ _ _ _ ?_
          refine ⟨51, rfl, ?_⟩
          refine ⟨rfl, ?_⟩
          try rw [show gp_R (gp_mk L s_22) 51 0 = some 52 from rfl]
          refine ⟨52, rfl, ?_⟩
          refine ⟨⟨rfl, by show 0 ≤ 1 ∧ 1 < 3; omega⟩, ?_⟩
          try rw [show gp_R (gp_mk L s_22) 52 1 = some 25 from (q_41 _ (by omega))]
          refine ⟨25, rfl, ?_⟩
          refine ⟨rfl, ?_⟩
          have f_50 := xr25_0 hs_23 0
          have e_51 : gp_I s_22 25 0 = 1 := by omega
          try rw [e_51]
          refine ⟨fun h_52 => ?_, fun h_52 => ?_⟩
          · exfalso; omega
          · have w_53 := gz_w (0 + 1)
            have e_54 : gp_wr (0 + 1) = 1 := by omega
            try rw [e_54]
            refine s_2060_80 _ _ _ _ ?_
            refine ⟨51, rfl, ?_⟩
            refine ⟨rfl, ?_⟩
            try rw [show gp_R (gp_mk L s_22) 51 0 = some 52 from rfl]
            refine ⟨52, rfl, ?_⟩
            refine ⟨⟨rfl, by show 0 ≤ 0 ∧ 0 < 3; omega⟩, ?_⟩
            try rw [show gp_R (gp_mk L s_22) 52 0 = some 25 from (q_41 _ (by omega))]
            refine ⟨25, rfl, ?_⟩
            refine ⟨rfl, ?_⟩
            have f_56 := xr25_0 hs_23 0
            have e_57 : gp_I s_22 25 0 = 1 := by omega
            try rw [e_57]
            refine ⟨fun h_58 => ?_, fun h_58 => ?_⟩
            · exfalso; omega
            · refine ⟨rfl, ?_⟩
              intro s_59 e_60
              have hs_61 : xM z s_59 := by rw [e_60]; exact xw51_8 hs_23 0 _
              have q_62 : gp_I s_59 1 2 = 0 := by rw [e_60]; exact q_24
              have q_63 : gp_I s_59 1 6 = 0 := by rw [e_60]; exact q_25
              have q_64 : gp_I s_59 1 7 = 1 := by rw [e_60]; exact q_26
              have q_65 : 0 ≤ gp_I s_59 51 4 ∧ gp_I s_59 51 4 ≤ 3 := by rw [e_60]; exact q_27
              have q_66 : gp_I s_59 55 0 = 0 := by rw [e_60]; exact q_29
              have q_67 : gp_I s_59 56 0 = 0 := by rw [e_60]; exact q_30
              have q_68 : gp_I s_59 57 1 = 0 := by rw [e_60]; exact q_31
              have q_69 : gp_I s_59 57 3 = 0 := by rw [e_60]; exact q_32
              have q_70 : gp_I s_59 60 8 = 0 := by rw [e_60]; exact q_33
              have q_71 : gp_R s_59 25 6 = none := by rw [e_60]; exact q_34
              have q_72 : gp_R s_59 25 7 = none := by rw [e_60]; exact q_35
              have q_73 : gp_R s_59 25 8 = none := by rw [e_60]; exact q_36
              have q_74 : gp_R s_59 25 9 = none := by rw [e_60]; exact q_37
              have q_75 : ∀ k, k < 8 → gp_R s_59 4 k = some 25 := by rw [e_60]; exact q_38
              have q_76 : gp_R s_59 51 6 = some 55 := by rw [e_60]; exact q_39
              have q_77 : gp_R s_59 51 7 = some 56 := by rw [e_60]; exact q_40
              have q_78 : ∀ k, k < 3 → gp_R s_59 52 k = some 25 := by rw [e_60]; exact q_41
              have q_79 : gp_R s_59 60 6 = some 64 := by rw [e_60]; exact q_42
              have q_80 : gp_R s_59 60 7 = some 65 := by rw [e_60]; exact q_43
              have q_81 : ∀ k, k < 3 → gp_R s_59 61 k = some 25 := by rw [e_60]; exact q_44
              have q_82 : gp_us s_59 = 606895 := by rw [e_60]; exact q_45
              have q_83 : gp_sz s_59 = 117 := by rw [e_60]; exact q_46
              have q_84 : gp_I s_59 51 8 = 1 := by rw [e_60]; rfl
              exact k s_59 hs_61 (by omega) (by omega) (by omega) (by omega) (by omega) (by omega) (by omega) (by omega) (by omega) (by omega) q_71 q_72 q_73 q_74 q_75 q_76 q_77 q_78 q_79 q_80 q_81 q_82 q_83
        · exfalso; omega
      · exfalso; omega
  · exfalso; omega
set_option maxRecDepth 100000 in
/-- Sum.place [51] -/
theorem zx2059_0 {z : gH} {L d : Nat} {K : Option gV → gH → Prop} {s : gH}  (hs : xM z s)  (q0 : 0 ≤ gp_I s 51 4 ∧ gp_I s 51 4 ≤ 3) (q1 : gp_I s 51 8 = 1) (q2 : gp_I s 60 8 = 0) (q3 : gp_R s 25 6 = none) (q4 : gp_R s 25 7 = none) (q5 : gp_R s 25 8 = none) (q6 : gp_R s 25 9 = none) (q7 : gp_R s 51 6 = some 55) (q8 : gp_R s 51 7 = some 56) (q9 : ∀ k, k < 3 → gp_R s 52 k = some 25) (q10 : gp_R s 60 6 = some 64) (q11 : gp_R s 60 7 = some 65) (q12 : ∀ k, k < 3 → gp_R s 61 k = some 25) (k : K (some (gp_i 0)) s) : gs_C L d 2059 1 [gp_r (some 51)] s K := by
  refine s_2059_e _ ?_
  refine ⟨51, rfl, ?_⟩
  refine ⟨rfl, ?_⟩
  try rw [show gp_R (gp_mk L s) 51 1 = some 53 from rfl]
  refine ⟨53, rfl, ?_⟩
  refine ⟨⟨rfl, by show 0 ≤ 0 ∧ 0 < 3; omega⟩, ?_⟩
  have f_1 := xr53 hs 0
  have e_2 : gp_I s 53 0 = 0 := by omega
  try rw [e_2]
  refine ⟨rfl, ?_⟩
  try rw [show gp_R (gp_mk L s) 51 0 = some 52 from rfl]
  refine ⟨52, rfl, ?_⟩
  refine ⟨⟨rfl, by show 0 ≤ 1 ∧ 1 < 3; omega⟩, ?_⟩
  try rw [show gp_R (gp_mk L s) 52 1 = some 25 from (q9 _ (by omega))]
  refine ⟨25, rfl, ?_⟩
  refine ⟨rfl, ?_⟩
  have f_3 := xr25_0 hs 0
  have e_4 : gp_I s 25 0 = 1 := by omega
  try rw [e_4]
  have w_5 := gz_w (0 * 1)
  have e_6 : gp_wr (0 * 1) = 0 := by omega
  try rw [e_6]
  refine ⟨rfl, ?_⟩
  try rw [show gp_R (gp_mk L s) 51 1 = some 53 from rfl]
  refine ⟨53, rfl, ?_⟩
  refine ⟨⟨rfl, by show 0 ≤ 1 ∧ 1 < 3; omega⟩, ?_⟩
  have f_7 := xr53 hs 1
  have e_8 : gp_I s 53 1 = 0 := by omega
  try rw [e_8]
  have w_9 := gz_w (0 + 0)
  have e_10 : gp_wr (0 + 0) = 0 := by omega
  try rw [e_10]
  refine ⟨rfl, ?_⟩
  try rw [show gp_R (gp_mk L s) 51 0 = some 52 from rfl]
  refine ⟨52, rfl, ?_⟩
  refine ⟨⟨rfl, by show 0 ≤ 2 ∧ 2 < 3; omega⟩, ?_⟩
  try rw [show gp_R (gp_mk L s) 52 2 = some 25 from (q9 _ (by omega))]
  refine ⟨25, rfl, ?_⟩
  refine ⟨rfl, ?_⟩
  have f_11 := xr25_0 hs 0
  have e_12 : gp_I s 25 0 = 1 := by omega
  try rw [e_12]
  have w_13 := gz_w (0 * 1)
  have e_14 : gp_wr (0 * 1) = 0 := by omega
  try rw [e_14]
  refine ⟨rfl, ?_⟩
  try rw [show gp_R (gp_mk L s) 51 1 = some 53 from rfl]
  refine ⟨53, rfl, ?_⟩
  refine ⟨⟨rfl, by show 0 ≤ 2 ∧ 2 < 3; omega⟩, ?_⟩
  have f_15 := xr53 hs 2
  have e_16 : gp_I s 53 2 = 0 := by omega
  try rw [e_16]
  have w_17 := gz_w (0 + 0)
  have e_18 : gp_wr (0 + 0) = 0 := by omega
  try rw [e_18]
  exact k
set_option maxRecDepth 100000 in
/-- Sum.worth [51, (0, 0)] -/
theorem zx2056_0 {z : gH} {L d : Nat} {K : Option gV → gH → Prop} {s : gH}  (hs : xM z s)  (q0 : gp_I s 1 2 = 0) (q1 : gp_I s 1 6 = 0) (q2 : gp_I s 1 7 = 1) (q3 : 0 ≤ gp_I s 51 4 ∧ gp_I s 51 4 ≤ 3) (q4 : gp_I s 51 8 = 0) (q5 : gp_I s 57 1 = 0) (q6 : gp_I s 57 3 = 0) (q7 : gp_I s 60 8 = 0) (q8 : gp_R s 25 6 = none) (q9 : gp_R s 25 7 = none) (q10 : gp_R s 25 8 = none) (q11 : gp_R s 25 9 = none) (q12 : ∀ k, k < 8 → gp_R s 4 k = some 25) (q13 : gp_R s 51 6 = some 55) (q14 : gp_R s 51 7 = some 56) (q15 : ∀ k, k < 3 → gp_R s 52 k = some 25) (q16 : gp_R s 60 6 = some 64) (q17 : gp_R s 60 7 = some 65) (q18 : ∀ k, k < 3 → gp_R s 61 k = some 25) (q19 : gp_us s = 606895) (q20 : gp_sz s = 117) (k : ∀ (t : gH), xM z t → (gp_I t 1 2 = 0) → (gp_I t 1 6 = 0) → (gp_I t 1 7 = 1) → (0 ≤ gp_I t 51 4 ∧ gp_I t 51 4 ≤ 3) → (gp_I t 51 8 = 1) → (gp_I t 55 0 = 0) → (gp_I t 56 0 = 0) → (gp_I t 57 1 = 0) → (gp_I t 57 3 = 0) → (gp_I t 60 8 = 0) → (gp_R t 25 6 = none) → (gp_R t 25 7 = none) → (gp_R t 25 8 = none) → (gp_R t 25 9 = none) → (∀ k, k < 8 → gp_R t 4 k = some 25) → (gp_R t 51 6 = some 55) → (gp_R t 51 7 = some 56) → (∀ k, k < 3 → gp_R t 52 k = some 25) → (gp_R t 60 6 = some 64) → (gp_R t 60 7 = some 65) → (∀ k, k < 3 → gp_R t 61 k = some 25) → (gp_us t = 606895) → (gp_sz t = 117) → K (some (gp_i 0)) t) : gs_C L (d + 4) 2056 2 [gp_r (some 51), gp_i 0] s K := by
  refine s_2056_e _ _ ?_
  refine ⟨51, rfl, ?_⟩
  refine ⟨rfl, ?_⟩
  refine zx2060_0 hs (by omega) (by omega) (by omega) (by omega) (by omega) (by omega) (by omega) (by omega) q8 q9 q10 q11 q12 q13 q14 q15 q16 q17 q18 q19 q20 (fun s_1 hs_2 q_3 q_4 q_5 q_6 q_7 q_8 q_9 q_10 q_11 q_12 q_13 q_14 q_15 q_16 q_17 q_18 q_19 q_20 q_21 q_22 q_23 q_24 q_25 => ⟨rfl, ?_⟩)
  refine ⟨fun h_26 => ?_, fun h_26 => ?_⟩
  · refine ⟨rfl, ?_⟩
    try rw [show gp_R (gp_mk L s_1) 51 6 = some 55 from q_18]
    refine ⟨rfl, ?_⟩
    refine zx2059_0 hs_2 (by omega) (by omega) (by omega) q_13 q_14 q_15 q_16 q_18 q_19 q_20 q_21 q_22 q_23 (⟨_, rfl, ?_⟩)
    refine ⟨55, rfl, ?_⟩
    refine ⟨⟨rfl, by show 0 ≤ 0 ∧ 0 < 1; omega⟩, ?_⟩
    try rw [show gp_I s_1 55 (0 : Int).toNat = 0 from q_8]
    refine s_2056_29 _ _ _ ?_
    exact k s_1 hs_2 (by omega) (by omega) (by omega) (by omega) (by omega) (by omega) (by omega) (by omega) (by omega) (by omega) q_13 q_14 q_15 q_16 q_17 q_18 q_19 q_20 q_21 q_22 q_23 q_24 q_25
  · exfalso; omega
set_option maxRecDepth 100000 in
/-- GatheredPoints.score [(1, 255, 'S3'), (0, 0)] -/
theorem zx2832_5 {z : gH} {L d : Nat} {K : Option gV → gH → Prop} {s : gH} (p0 : Int) (hs : xM z s) (h_p0 : 1 ≤ p0 ∧ p0 ≤ 255) (g_p0 : gm_cnt (BitVec.ofInt 64 p0) 64 ≤ 3) (q0 : gp_I s 1 2 = 0) (q1 : gp_I s 1 6 = 0) (q2 : gp_I s 1 7 = 1) (q3 : gp_I s 51 8 = 0) (q4 : gp_I s 57 1 = 0) (q5 : gp_I s 57 3 = 0) (q6 : gp_I s 60 8 = 0) (q7 : gp_R s 25 6 = none) (q8 : gp_R s 25 7 = none) (q9 : gp_R s 25 8 = none) (q10 : gp_R s 25 9 = none) (q11 : ∀ k, k < 8 → gp_R s 4 k = some 25) (q12 : gp_R s 51 6 = some 55) (q13 : gp_R s 51 7 = some 56) (q14 : ∀ k, k < 3 → gp_R s 52 k = some 25) (q15 : gp_R s 60 6 = some 64) (q16 : gp_R s 60 7 = some 65) (q17 : ∀ k, k < 3 → gp_R s 61 k = some 25) (q18 : gp_us s = 606895) (q19 : gp_sz s = 117) (k : ∀ (t : gH), xM z t → (gp_I t 1 2 = 0) → (gp_I t 1 6 = 0) → (gp_I t 1 7 = 1) → (0 ≤ gp_I t 51 4 ∧ gp_I t 51 4 ≤ 3) → (gp_I t 51 8 = 1) → (gp_I t 55 0 = 0) → (gp_I t 56 0 = 0) → (gp_I t 57 1 = 0) → (gp_I t 57 3 = 0) → (gp_I t 60 8 = 0) → (gp_R t 25 6 = none) → (gp_R t 25 7 = none) → (gp_R t 25 8 = none) → (gp_R t 25 9 = none) → (∀ k, k < 8 → gp_R t 4 k = some 25) → (gp_R t 51 6 = some 55) → (gp_R t 51 7 = some 56) → (∀ k, k < 3 → gp_R t 52 k = some 25) → (gp_R t 60 6 = some 64) → (gp_R t 60 7 = some 65) → (∀ k, k < 3 → gp_R t 61 k = some 25) → (gp_us t = 606895) → (gp_sz t = 117) → K (some (gp_i 0)) t) : gs_C L (d + 5) 2832 3 [gp_r (some 1), gp_i p0, gp_i 0] s K := by
  refine s_2832_e _ _ ?_
  refine zx_noSet3 _ hs (by omega) g_p0 (⟨_, rfl, ?_⟩)
  refine ⟨fun h_1 => ?_, fun h_1 => ?_⟩
  · refine zx2857_2 hs (by omega) (by omega) (by omega) (by omega) (by omega) (by omega) q7 q8 q9 q10 q11 q12 q13 (⟨_, rfl, ?_⟩)
    refine ⟨fun h_2 => ?_, fun h_2 => ?_⟩
    · refine zx2049_0 _ hs (by omega) (by omega) (by omega) (by omega) (by omega) (by omega) (by omega) (by omega) q7 q8 q9 q10 q11 q12 q13 q14 q15 q16 q17 q18 q19 (fun s_3 hs_4 q_5 q_6 q_7 q_8 q_9 q_10 q_11 q_12 q_13 q_14 q_15 q_16 q_17 q_18 q_19 q_20 q_21 q_22 q_23 q_24 q_25 => ⟨rfl, ?_⟩)
      refine zx2056_0 hs_4 (by omega) (by omega) (by omega) (by omega) (by omega) (by omega) (by omega) (by omega) q_13 q_14 q_15 q_16 q_17 q_18 q_19 q_20 q_21 q_22 q_23 q_24 q_25 (fun s_26 hs_27 q_28 q_29 q_30 q_31 q_32 q_33 q_34 q_35 q_36 q_37 q_38 q_39 q_40 q_41 q_42 q_43 q_44 q_45 q_46 q_47 q_48 q_49 q_50 => ⟨_, rfl, ?_⟩)
      exact k s_26 hs_27 (by omega) (by omega) (by omega) (by omega) (by omega) (by omega) (by omega) (by omega) (by omega) (by omega) q_38 q_39 q_40 q_41 q_42 q_43 q_44 q_45 q_46 q_47 q_48 q_49 q_50
    · exfalso; omega
  · exfalso; omega
set_option maxRecDepth 100000 in
/-- Sum.worth [51, (1, 1)] -/
theorem zx2056_1 {z : gH} {L d : Nat} {K : Option gV → gH → Prop} {s : gH}  (hs : xM z s)  (q0 : gp_I s 1 2 = 0) (q1 : gp_I s 1 6 = 0) (q2 : gp_I s 1 7 = 1) (q3 : 0 ≤ gp_I s 51 4 ∧ gp_I s 51 4 ≤ 3) (q4 : gp_I s 51 8 = 0) (q5 : gp_I s 57 1 = 0) (q6 : gp_I s 57 3 = 0) (q7 : gp_I s 60 8 = 0) (q8 : gp_R s 25 6 = none) (q9 : gp_R s 25 7 = none) (q10 : gp_R s 25 8 = none) (q11 : gp_R s 25 9 = none) (q12 : ∀ k, k < 8 → gp_R s 4 k = some 25) (q13 : gp_R s 51 6 = some 55) (q14 : gp_R s 51 7 = some 56) (q15 : ∀ k, k < 3 → gp_R s 52 k = some 25) (q16 : gp_R s 60 6 = some 64) (q17 : gp_R s 60 7 = some 65) (q18 : ∀ k, k < 3 → gp_R s 61 k = some 25) (q19 : gp_us s = 606895) (q20 : gp_sz s = 117) (k : ∀ (t : gH), xM z t → (gp_I t 1 2 = 0) → (gp_I t 1 6 = 0) → (gp_I t 1 7 = 1) → (0 ≤ gp_I t 51 4 ∧ gp_I t 51 4 ≤ 3) → (gp_I t 51 8 = 1) → (gp_I t 55 0 = 0) → (gp_I t 56 0 = 0) → (gp_I t 57 1 = 0) → (gp_I t 57 3 = 0) → (gp_I t 60 8 = 0) → (gp_R t 25 6 = none) → (gp_R t 25 7 = none) → (gp_R t 25 8 = none) → (gp_R t 25 9 = none) → (∀ k, k < 8 → gp_R t 4 k = some 25) → (gp_R t 51 6 = some 55) → (gp_R t 51 7 = some 56) → (∀ k, k < 3 → gp_R t 52 k = some 25) → (gp_R t 60 6 = some 64) → (gp_R t 60 7 = some 65) → (∀ k, k < 3 → gp_R t 61 k = some 25) → (gp_us t = 606895) → (gp_sz t = 117) → K (some (gp_i 0)) t) : gs_C L (d + 4) 2056 2 [gp_r (some 51), gp_i 1] s K := by
  refine s_2056_e _ _ ?_
  refine ⟨51, rfl, ?_⟩
  refine ⟨rfl, ?_⟩
  refine zx2060_0 hs (by omega) (by omega) (by omega) (by omega) (by omega) (by omega) (by omega) (by omega) q8 q9 q10 q11 q12 q13 q14 q15 q16 q17 q18 q19 q20 (fun s_1 hs_2 q_3 q_4 q_5 q_6 q_7 q_8 q_9 q_10 q_11 q_12 q_13 q_14 q_15 q_16 q_17 q_18 q_19 q_20 q_21 q_22 q_23 q_24 q_25 => ⟨rfl, ?_⟩)
  refine ⟨fun h_26 => ?_, fun h_26 => ?_⟩
  · exfalso; omega
  · refine ⟨rfl, ?_⟩
    try rw [show gp_R (gp_mk L s_1) 51 7 = some 56 from q_19]
    refine ⟨rfl, ?_⟩
    refine zx2059_0 hs_2 (by omega) (by omega) (by omega) q_13 q_14 q_15 q_16 q_18 q_19 q_20 q_21 q_22 q_23 (⟨_, rfl, ?_⟩)
    refine ⟨56, rfl, ?_⟩
    refine ⟨⟨rfl, by show 0 ≤ 0 ∧ 0 < 1; omega⟩, ?_⟩
    try rw [show gp_I s_1 56 (0 : Int).toNat = 0 from q_9]
    refine s_2056_29 _ _ _ ?_
    exact k s_1 hs_2 (by omega) (by omega) (by omega) (by omega) (by omega) (by omega) (by omega) (by omega) (by omega) (by omega) q_13 q_14 q_15 q_16 q_17 q_18 q_19 q_20 q_21 q_22 q_23 q_24 q_25
set_option maxRecDepth 100000 in
/-- GatheredPoints.score [(1, 255, 'S3'), (1, 1)] -/
theorem zx2832_6 {z : gH} {L d : Nat} {K : Option gV → gH → Prop} {s : gH} (p0 : Int) (hs : xM z s) (h_p0 : 1 ≤ p0 ∧ p0 ≤ 255) (g_p0 : gm_cnt (BitVec.ofInt 64 p0) 64 ≤ 3) (q0 : gp_I s 1 2 = 0) (q1 : gp_I s 1 6 = 0) (q2 : gp_I s 1 7 = 1) (q3 : gp_I s 51 8 = 0) (q4 : gp_I s 57 1 = 0) (q5 : gp_I s 57 3 = 0) (q6 : gp_I s 60 8 = 0) (q7 : gp_R s 25 6 = none) (q8 : gp_R s 25 7 = none) (q9 : gp_R s 25 8 = none) (q10 : gp_R s 25 9 = none) (q11 : ∀ k, k < 8 → gp_R s 4 k = some 25) (q12 : gp_R s 51 6 = some 55) (q13 : gp_R s 51 7 = some 56) (q14 : ∀ k, k < 3 → gp_R s 52 k = some 25) (q15 : gp_R s 60 6 = some 64) (q16 : gp_R s 60 7 = some 65) (q17 : ∀ k, k < 3 → gp_R s 61 k = some 25) (q18 : gp_us s = 606895) (q19 : gp_sz s = 117) (k : ∀ (t : gH), xM z t → (gp_I t 1 2 = 0) → (gp_I t 1 6 = 0) → (gp_I t 1 7 = 1) → (0 ≤ gp_I t 51 4 ∧ gp_I t 51 4 ≤ 3) → (gp_I t 51 8 = 1) → (gp_I t 55 0 = 0) → (gp_I t 56 0 = 0) → (gp_I t 57 1 = 0) → (gp_I t 57 3 = 0) → (gp_I t 60 8 = 0) → (gp_R t 25 6 = none) → (gp_R t 25 7 = none) → (gp_R t 25 8 = none) → (gp_R t 25 9 = none) → (∀ k, k < 8 → gp_R t 4 k = some 25) → (gp_R t 51 6 = some 55) → (gp_R t 51 7 = some 56) → (∀ k, k < 3 → gp_R t 52 k = some 25) → (gp_R t 60 6 = some 64) → (gp_R t 60 7 = some 65) → (∀ k, k < 3 → gp_R t 61 k = some 25) → (gp_us t = 606895) → (gp_sz t = 117) → K (some (gp_i 0)) t) : gs_C L (d + 5) 2832 3 [gp_r (some 1), gp_i p0, gp_i 1] s K := by
  refine s_2832_e _ _ ?_
  refine zx_noSet3 _ hs (by omega) g_p0 (⟨_, rfl, ?_⟩)
  refine ⟨fun h_1 => ?_, fun h_1 => ?_⟩
  · refine zx2857_3 hs (by omega) (by omega) (by omega) (by omega) (by omega) (by omega) q7 q8 q9 q10 q11 q12 q13 (⟨_, rfl, ?_⟩)
    refine ⟨fun h_2 => ?_, fun h_2 => ?_⟩
    · refine zx2049_0 _ hs (by omega) (by omega) (by omega) (by omega) (by omega) (by omega) (by omega) (by omega) q7 q8 q9 q10 q11 q12 q13 q14 q15 q16 q17 q18 q19 (fun s_3 hs_4 q_5 q_6 q_7 q_8 q_9 q_10 q_11 q_12 q_13 q_14 q_15 q_16 q_17 q_18 q_19 q_20 q_21 q_22 q_23 q_24 q_25 => ⟨rfl, ?_⟩)
      refine zx2056_1 hs_4 (by omega) (by omega) (by omega) (by omega) (by omega) (by omega) (by omega) (by omega) q_13 q_14 q_15 q_16 q_17 q_18 q_19 q_20 q_21 q_22 q_23 q_24 q_25 (fun s_26 hs_27 q_28 q_29 q_30 q_31 q_32 q_33 q_34 q_35 q_36 q_37 q_38 q_39 q_40 q_41 q_42 q_43 q_44 q_45 q_46 q_47 q_48 q_49 q_50 => ⟨_, rfl, ?_⟩)
      exact k s_26 hs_27 (by omega) (by omega) (by omega) (by omega) (by omega) (by omega) (by omega) (by omega) (by omega) (by omega) q_38 q_39 q_40 q_41 q_42 q_43 q_44 q_45 q_46 q_47 q_48 q_49 q_50
    · exfalso; omega
  · exfalso; omega
set_option maxRecDepth 100000 in
/-- GatheredPoints.best [(-2147483648, 0), (-2147483648, 2147483647)] -/
theorem zx2833_0 {z : gH} {L d : Nat} {K : Option gV → gH → Prop} {s : gH} (p0 : Int) (p1 : Int) (hs : xM z s) (h_p0 : (-2147483648) ≤ p0 ∧ p0 ≤ 0) (h_p1 : (-2147483648) ≤ p1 ∧ p1 ≤ 2147483647) (q0 : gp_I s 1 2 = 0) (q1 : gp_I s 1 6 = 0) (q2 : gp_I s 1 7 = 1) (q3 : gp_I s 51 8 = 0) (q4 : gp_I s 57 1 = 0) (q5 : gp_I s 57 3 = 0) (q6 : gp_I s 60 8 = 0) (q7 : gp_R s 25 6 = none) (q8 : gp_R s 25 7 = none) (q9 : gp_R s 25 8 = none) (q10 : gp_R s 25 9 = none) (q11 : ∀ k, k < 8 → gp_R s 4 k = some 25) (q12 : gp_R s 51 6 = some 55) (q13 : gp_R s 51 7 = some 56) (q14 : ∀ k, k < 3 → gp_R s 52 k = some 25) (q15 : gp_R s 60 6 = some 64) (q16 : gp_R s 60 7 = some 65) (q17 : ∀ k, k < 3 → gp_R s 61 k = some 25) (q18 : gp_us s = 606895) (q19 : gp_sz s = 117) (k : ∀ (t : gH), xM z t → (gp_I t 1 2 = 0) → (gp_I t 1 6 = 0) → (gp_I t 1 7 = 1) → ((-2147483648) ≤ gp_I t 2 1 ∧ gp_I t 2 1 ≤ 2147483647) → (gp_I t 51 8 = 0) → (gp_I t 57 1 = 0) → (gp_I t 57 3 = 0) → (gp_I t 60 8 = 0) → (gp_R t 25 6 = none) → (gp_R t 25 7 = none) → (gp_R t 25 8 = none) → (gp_R t 25 9 = none) → (∀ k, k < 8 → gp_R t 4 k = some 25) → (gp_R t 51 6 = some 55) → (gp_R t 51 7 = some 56) → (∀ k, k < 3 → gp_R t 52 k = some 25) → (gp_R t 60 6 = some 64) → (gp_R t 60 7 = some 65) → (∀ k, k < 3 → gp_R t 61 k = some 25) → (gp_us t = 606895) → (gp_sz t = 117) → K (some (gp_i (-1000000001))) t) : gs_C L (d + 2) 2833 4 [gp_r (some 1), gp_i p0, gp_i p1] s K := by
  refine s_2833_e _ _ ?_
  refine zx2858_0 _ hs (by omega) (⟨_, rfl, ?_⟩)
  refine ⟨fun h_1 => ?_, fun h_1 => ?_⟩
  · exfalso; omega
  · refine s_2833_14 _ _ _ ?_
    refine zx2855_10 hs (by omega) (by omega) (by omega) (by omega) (by omega) (by omega) (by omega) q7 q8 q9 q10 q11 q12 q13 q14 q15 q16 q17 q18 q19 (fun s_2 hs_3 q_4 q_5 q_6 q_7 q_8 q_9 q_10 q_11 q_12 q_13 q_14 q_15 q_16 q_17 q_18 q_19 q_20 q_21 q_22 q_23 q_24 => ⟨_, rfl, ?_⟩)
    exact k s_2 hs_3 (by omega) (by omega) (by omega) (by omega) (by omega) (by omega) (by omega) (by omega) q_12 q_13 q_14 q_15 q_16 q_17 q_18 q_19 q_20 q_21 q_22 q_23 q_24
set_option maxRecDepth 100000 in
/-- GatheredPoints.best [(256, 2147483647), (-2147483648, 2147483647)] -/
theorem zx2833_1 {z : gH} {L d : Nat} {K : Option gV → gH → Prop} {s : gH} (p0 : Int) (p1 : Int) (hs : xM z s) (h_p0 : 256 ≤ p0 ∧ p0 ≤ 2147483647) (h_p1 : (-2147483648) ≤ p1 ∧ p1 ≤ 2147483647) (q0 : gp_I s 1 2 = 0) (q1 : gp_I s 1 6 = 0) (q2 : gp_I s 1 7 = 1) (q3 : gp_I s 51 8 = 0) (q4 : gp_I s 57 1 = 0) (q5 : gp_I s 57 3 = 0) (q6 : gp_I s 60 8 = 0) (q7 : gp_R s 25 6 = none) (q8 : gp_R s 25 7 = none) (q9 : gp_R s 25 8 = none) (q10 : gp_R s 25 9 = none) (q11 : ∀ k, k < 8 → gp_R s 4 k = some 25) (q12 : gp_R s 51 6 = some 55) (q13 : gp_R s 51 7 = some 56) (q14 : ∀ k, k < 3 → gp_R s 52 k = some 25) (q15 : gp_R s 60 6 = some 64) (q16 : gp_R s 60 7 = some 65) (q17 : ∀ k, k < 3 → gp_R s 61 k = some 25) (q18 : gp_us s = 606895) (q19 : gp_sz s = 117) (k : ∀ (t : gH), xM z t → (gp_I t 1 2 = 0) → (gp_I t 1 6 = 0) → (gp_I t 1 7 = 1) → ((-2147483648) ≤ gp_I t 2 1 ∧ gp_I t 2 1 ≤ 2147483647) → (gp_I t 51 8 = 0) → (gp_I t 57 1 = 0) → (gp_I t 57 3 = 0) → (gp_I t 60 8 = 0) → (gp_R t 25 6 = none) → (gp_R t 25 7 = none) → (gp_R t 25 8 = none) → (gp_R t 25 9 = none) → (∀ k, k < 8 → gp_R t 4 k = some 25) → (gp_R t 51 6 = some 55) → (gp_R t 51 7 = some 56) → (∀ k, k < 3 → gp_R t 52 k = some 25) → (gp_R t 60 6 = some 64) → (gp_R t 60 7 = some 65) → (∀ k, k < 3 → gp_R t 61 k = some 25) → (gp_us t = 606895) → (gp_sz t = 117) → K (some (gp_i (-1000000001))) t) : gs_C L (d + 2) 2833 4 [gp_r (some 1), gp_i p0, gp_i p1] s K := by
  refine s_2833_e _ _ ?_
  refine zx2858_1 _ hs (by omega) (⟨_, rfl, ?_⟩)
  refine ⟨fun h_1 => ?_, fun h_1 => ?_⟩
  · exfalso; omega
  · refine s_2833_14 _ _ _ ?_
    refine zx2855_10 hs (by omega) (by omega) (by omega) (by omega) (by omega) (by omega) (by omega) q7 q8 q9 q10 q11 q12 q13 q14 q15 q16 q17 q18 q19 (fun s_2 hs_3 q_4 q_5 q_6 q_7 q_8 q_9 q_10 q_11 q_12 q_13 q_14 q_15 q_16 q_17 q_18 q_19 q_20 q_21 q_22 q_23 q_24 => ⟨_, rfl, ?_⟩)
    exact k s_2 hs_3 (by omega) (by omega) (by omega) (by omega) (by omega) (by omega) (by omega) (by omega) q_12 q_13 q_14 q_15 q_16 q_17 q_18 q_19 q_20 q_21 q_22 q_23 q_24
set_option maxRecDepth 100000 in
/-- GatheredPoints.best [(1, 255, 'S4'), (-2147483648, 2147483647)] -/
theorem zx2833_2 {z : gH} {L d : Nat} {K : Option gV → gH → Prop} {s : gH} (p0 : Int) (p1 : Int) (hs : xM z s) (h_p0 : 1 ≤ p0 ∧ p0 ≤ 255) (h_p1 : (-2147483648) ≤ p1 ∧ p1 ≤ 2147483647) (g_p0 : gm_cnt (BitVec.ofInt 64 p0) 64 > 3) (q0 : gp_I s 1 2 = 0) (q1 : gp_I s 1 6 = 0) (q2 : gp_I s 1 7 = 1) (q3 : gp_I s 51 8 = 0) (q4 : gp_I s 57 1 = 0) (q5 : gp_I s 57 3 = 0) (q6 : gp_I s 60 8 = 0) (q7 : gp_R s 25 6 = none) (q8 : gp_R s 25 7 = none) (q9 : gp_R s 25 8 = none) (q10 : gp_R s 25 9 = none) (q11 : ∀ k, k < 8 → gp_R s 4 k = some 25) (q12 : gp_R s 51 6 = some 55) (q13 : gp_R s 51 7 = some 56) (q14 : ∀ k, k < 3 → gp_R s 52 k = some 25) (q15 : gp_R s 60 6 = some 64) (q16 : gp_R s 60 7 = some 65) (q17 : ∀ k, k < 3 → gp_R s 61 k = some 25) (q18 : gp_us s = 606895) (q19 : gp_sz s = 117) (k : ∀ (t : gH), xM z t → (gp_I t 1 2 = 0) → (gp_I t 1 6 = 0) → (gp_I t 1 7 = 1) → ((-2147483648) ≤ gp_I t 2 1 ∧ gp_I t 2 1 ≤ 2147483647) → (gp_I t 51 8 = 0) → (gp_I t 57 1 = 0) → (gp_I t 57 3 = 0) → (gp_I t 60 8 = 0) → (gp_R t 25 6 = none) → (gp_R t 25 7 = none) → (gp_R t 25 8 = none) → (gp_R t 25 9 = none) → (∀ k, k < 8 → gp_R t 4 k = some 25) → (gp_R t 51 6 = some 55) → (gp_R t 51 7 = some 56) → (∀ k, k < 3 → gp_R t 52 k = some 25) → (gp_R t 60 6 = some 64) → (gp_R t 60 7 = some 65) → (∀ k, k < 3 → gp_R t 61 k = some 25) → (gp_us t = 606895) → (gp_sz t = 117) → K (some (gp_i (-1000000001))) t) : gs_C L (d + 2) 2833 4 [gp_r (some 1), gp_i p0, gp_i p1] s K := by
  refine s_2833_e _ _ ?_
  refine zx_noSet4 _ hs (by omega) g_p0 (⟨_, rfl, ?_⟩)
  refine ⟨fun h_1 => ?_, fun h_1 => ?_⟩
  · exfalso; omega
  · refine s_2833_14 _ _ _ ?_
    refine zx2855_10 hs (by omega) (by omega) (by omega) (by omega) (by omega) (by omega) (by omega) q7 q8 q9 q10 q11 q12 q13 q14 q15 q16 q17 q18 q19 (fun s_2 hs_3 q_4 q_5 q_6 q_7 q_8 q_9 q_10 q_11 q_12 q_13 q_14 q_15 q_16 q_17 q_18 q_19 q_20 q_21 q_22 q_23 q_24 => ⟨_, rfl, ?_⟩)
    exact k s_2 hs_3 (by omega) (by omega) (by omega) (by omega) (by omega) (by omega) (by omega) (by omega) q_12 q_13 q_14 q_15 q_16 q_17 q_18 q_19 q_20 q_21 q_22 q_23 q_24
set_option maxRecDepth 100000 in
/-- GatheredPoints.best [(1, 255, 'S3'), (-2147483648, -1)] -/
theorem zx2833_3 {z : gH} {L d : Nat} {K : Option gV → gH → Prop} {s : gH} (p0 : Int) (p1 : Int) (hs : xM z s) (h_p0 : 1 ≤ p0 ∧ p0 ≤ 255) (h_p1 : (-2147483648) ≤ p1 ∧ p1 ≤ (-1)) (g_p0 : gm_cnt (BitVec.ofInt 64 p0) 64 ≤ 3) (q0 : gp_I s 1 2 = 0) (q1 : gp_I s 1 6 = 0) (q2 : gp_I s 1 7 = 1) (q3 : gp_I s 51 8 = 0) (q4 : gp_I s 57 1 = 0) (q5 : gp_I s 57 3 = 0) (q6 : gp_I s 60 8 = 0) (q7 : gp_R s 25 6 = none) (q8 : gp_R s 25 7 = none) (q9 : gp_R s 25 8 = none) (q10 : gp_R s 25 9 = none) (q11 : ∀ k, k < 8 → gp_R s 4 k = some 25) (q12 : gp_R s 51 6 = some 55) (q13 : gp_R s 51 7 = some 56) (q14 : ∀ k, k < 3 → gp_R s 52 k = some 25) (q15 : gp_R s 60 6 = some 64) (q16 : gp_R s 60 7 = some 65) (q17 : ∀ k, k < 3 → gp_R s 61 k = some 25) (q18 : gp_us s = 606895) (q19 : gp_sz s = 117) (k : ∀ (t : gH), xM z t → (gp_I t 1 2 = 0) → (gp_I t 1 6 = 0) → (gp_I t 1 7 = 1) → ((-2147483648) ≤ gp_I t 2 1 ∧ gp_I t 2 1 ≤ 2147483647) → (gp_I t 51 8 = 0) → (gp_I t 57 1 = 0) → (gp_I t 57 3 = 0) → (gp_I t 60 8 = 0) → (gp_R t 25 6 = none) → (gp_R t 25 7 = none) → (gp_R t 25 8 = none) → (gp_R t 25 9 = none) → (∀ k, k < 8 → gp_R t 4 k = some 25) → (gp_R t 51 6 = some 55) → (gp_R t 51 7 = some 56) → (∀ k, k < 3 → gp_R t 52 k = some 25) → (gp_R t 60 6 = some 64) → (gp_R t 60 7 = some 65) → (∀ k, k < 3 → gp_R t 61 k = some 25) → (gp_us t = 606895) → (gp_sz t = 117) → K (some (gp_i (-1000000001))) t) : gs_C L (d + 2) 2833 4 [gp_r (some 1), gp_i p0, gp_i p1] s K := by
  refine s_2833_e _ _ ?_
  refine zx_noSet3 _ hs (by omega) g_p0 (⟨_, rfl, ?_⟩)
  refine ⟨fun h_1 => ?_, fun h_1 => ?_⟩
  · refine zx2857_0 _ hs (by omega) (by omega) (by omega) (by omega) (by omega) (by omega) (by omega) q7 q8 q9 q10 q11 q12 q13 (⟨_, rfl, ?_⟩)
    refine ⟨fun h_2 => ?_, fun h_2 => ?_⟩
    · exfalso; omega
    · refine s_2833_14 _ _ _ ?_
      refine zx2855_10 hs (by omega) (by omega) (by omega) (by omega) (by omega) (by omega) (by omega) q7 q8 q9 q10 q11 q12 q13 q14 q15 q16 q17 q18 q19 (fun s_3 hs_4 q_5 q_6 q_7 q_8 q_9 q_10 q_11 q_12 q_13 q_14 q_15 q_16 q_17 q_18 q_19 q_20 q_21 q_22 q_23 q_24 q_25 => ⟨_, rfl, ?_⟩)
      exact k s_3 hs_4 (by omega) (by omega) (by omega) (by omega) (by omega) (by omega) (by omega) (by omega) q_13 q_14 q_15 q_16 q_17 q_18 q_19 q_20 q_21 q_22 q_23 q_24 q_25
  · exfalso; omega
set_option maxRecDepth 100000 in
/-- GatheredPoints.best [(1, 255, 'S3'), (2, 2147483647)] -/
theorem zx2833_4 {z : gH} {L d : Nat} {K : Option gV → gH → Prop} {s : gH} (p0 : Int) (p1 : Int) (hs : xM z s) (h_p0 : 1 ≤ p0 ∧ p0 ≤ 255) (h_p1 : 2 ≤ p1 ∧ p1 ≤ 2147483647) (g_p0 : gm_cnt (BitVec.ofInt 64 p0) 64 ≤ 3) (q0 : gp_I s 1 2 = 0) (q1 : gp_I s 1 6 = 0) (q2 : gp_I s 1 7 = 1) (q3 : gp_I s 51 8 = 0) (q4 : gp_I s 57 1 = 0) (q5 : gp_I s 57 3 = 0) (q6 : gp_I s 60 8 = 0) (q7 : gp_R s 25 6 = none) (q8 : gp_R s 25 7 = none) (q9 : gp_R s 25 8 = none) (q10 : gp_R s 25 9 = none) (q11 : ∀ k, k < 8 → gp_R s 4 k = some 25) (q12 : gp_R s 51 6 = some 55) (q13 : gp_R s 51 7 = some 56) (q14 : ∀ k, k < 3 → gp_R s 52 k = some 25) (q15 : gp_R s 60 6 = some 64) (q16 : gp_R s 60 7 = some 65) (q17 : ∀ k, k < 3 → gp_R s 61 k = some 25) (q18 : gp_us s = 606895) (q19 : gp_sz s = 117) (k : ∀ (t : gH), xM z t → (gp_I t 1 2 = 0) → (gp_I t 1 6 = 0) → (gp_I t 1 7 = 1) → ((-2147483648) ≤ gp_I t 2 1 ∧ gp_I t 2 1 ≤ 2147483647) → (gp_I t 51 8 = 0) → (gp_I t 57 1 = 0) → (gp_I t 57 3 = 0) → (gp_I t 60 8 = 0) → (gp_R t 25 6 = none) → (gp_R t 25 7 = none) → (gp_R t 25 8 = none) → (gp_R t 25 9 = none) → (∀ k, k < 8 → gp_R t 4 k = some 25) → (gp_R t 51 6 = some 55) → (gp_R t 51 7 = some 56) → (∀ k, k < 3 → gp_R t 52 k = some 25) → (gp_R t 60 6 = some 64) → (gp_R t 60 7 = some 65) → (∀ k, k < 3 → gp_R t 61 k = some 25) → (gp_us t = 606895) → (gp_sz t = 117) → K (some (gp_i (-1000000001))) t) : gs_C L (d + 2) 2833 4 [gp_r (some 1), gp_i p0, gp_i p1] s K := by
  refine s_2833_e _ _ ?_
  refine zx_noSet3 _ hs (by omega) g_p0 (⟨_, rfl, ?_⟩)
  refine ⟨fun h_1 => ?_, fun h_1 => ?_⟩
  · refine zx2857_1 _ hs (by omega) (by omega) (by omega) (by omega) (by omega) (by omega) (by omega) q7 q8 q9 q10 q11 q12 q13 (⟨_, rfl, ?_⟩)
    refine ⟨fun h_2 => ?_, fun h_2 => ?_⟩
    · exfalso; omega
    · refine s_2833_14 _ _ _ ?_
      refine zx2855_10 hs (by omega) (by omega) (by omega) (by omega) (by omega) (by omega) (by omega) q7 q8 q9 q10 q11 q12 q13 q14 q15 q16 q17 q18 q19 (fun s_3 hs_4 q_5 q_6 q_7 q_8 q_9 q_10 q_11 q_12 q_13 q_14 q_15 q_16 q_17 q_18 q_19 q_20 q_21 q_22 q_23 q_24 q_25 => ⟨_, rfl, ?_⟩)
      exact k s_3 hs_4 (by omega) (by omega) (by omega) (by omega) (by omega) (by omega) (by omega) (by omega) q_13 q_14 q_15 q_16 q_17 q_18 q_19 q_20 q_21 q_22 q_23 q_24 q_25
  · exfalso; omega
set_option maxRecDepth 100000 in
/-- Sum.bestMove [51, (0, 0)] -/
theorem zx2057_0 {z : gH} {L d : Nat} {K : Option gV → gH → Prop} {s : gH}  (hs : xM z s)  (q0 : gp_I s 1 2 = 0) (q1 : gp_I s 1 6 = 0) (q2 : gp_I s 1 7 = 1) (q3 : 0 ≤ gp_I s 51 4 ∧ gp_I s 51 4 ≤ 3) (q4 : gp_I s 51 8 = 0) (q5 : gp_I s 57 1 = 0) (q6 : gp_I s 57 3 = 0) (q7 : gp_I s 60 8 = 0) (q8 : gp_R s 25 6 = none) (q9 : gp_R s 25 7 = none) (q10 : gp_R s 25 8 = none) (q11 : gp_R s 25 9 = none) (q12 : ∀ k, k < 8 → gp_R s 4 k = some 25) (q13 : gp_R s 51 6 = some 55) (q14 : gp_R s 51 7 = some 56) (q15 : ∀ k, k < 3 → gp_R s 52 k = some 25) (q16 : gp_R s 60 6 = some 64) (q17 : gp_R s 60 7 = some 65) (q18 : ∀ k, k < 3 → gp_R s 61 k = some 25) (q19 : gp_us s = 606895) (q20 : gp_sz s = 117) (k : ∀ (t : gH), xM z t → (gp_I t 1 2 = 0) → (gp_I t 1 6 = 0) → (gp_I t 1 7 = 1) → (0 ≤ gp_I t 51 4 ∧ gp_I t 51 4 ≤ 3) → (gp_I t 51 8 = 1) → (gp_I t 55 0 = 0) → (gp_I t 56 0 = 0) → (gp_I t 57 1 = 0) → (gp_I t 57 3 = 0) → (gp_I t 60 8 = 0) → (gp_R t 25 6 = none) → (gp_R t 25 7 = none) → (gp_R t 25 8 = none) → (gp_R t 25 9 = none) → (∀ k, k < 8 → gp_R t 4 k = some 25) → (gp_R t 51 6 = some 55) → (gp_R t 51 7 = some 56) → (∀ k, k < 3 → gp_R t 52 k = some 25) → (gp_R t 60 6 = some 64) → (gp_R t 60 7 = some 65) → (∀ k, k < 3 → gp_R t 61 k = some 25) → (gp_us t = 606895) → (gp_sz t = 117) → K (some (gp_i (-1))) t) : gs_C L (d + 4) 2057 10 [gp_r (some 51), gp_i 0] s K := by
  refine s_2057_e _ _ ?_
  refine ⟨51, rfl, ?_⟩
  refine ⟨rfl, ?_⟩
  refine zx2060_0 hs (by omega) (by omega) (by omega) (by omega) (by omega) (by omega) (by omega) (by omega) q8 q9 q10 q11 q12 q13 q14 q15 q16 q17 q18 q19 q20 (fun s_1 hs_2 q_3 q_4 q_5 q_6 q_7 q_8 q_9 q_10 q_11 q_12 q_13 q_14 q_15 q_16 q_17 q_18 q_19 q_20 q_21 q_22 q_23 q_24 q_25 => ⟨rfl, ?_⟩)
  refine s_2057_11 _ _ _ _ _ _ _ _ _ _ ?_
  refine ⟨51, rfl, ?_⟩
  refine ⟨rfl, ?_⟩
  refine ⟨fun h_27 => ?_, fun h_27 => ?_⟩
  · have q_29 : 1 ≤ gp_I s_1 51 4 ∧ gp_I s_1 51 4 ≤ 3 := by omega
    have q_28 : 1 ≤ gp_I s_1 51 4 ∧ gp_I s_1 51 4 ≤ 3 := q_29
    refine ⟨rfl, ?_⟩
    try rw [show gp_R (gp_mk L s_1) 51 1 = some 53 from rfl]
    refine ⟨53, rfl, ?_⟩
    refine ⟨⟨rfl, by show 0 ≤ 0 ∧ 0 < 3; omega⟩, ?_⟩
    have f_30 := xr53 hs_2 ((0 : Int).toNat)
    have e_31 : gp_I s_1 53 (0 : Int).toNat = 0 := by omega
    try rw [e_31]
    refine ⟨rfl, ?_⟩
    try rw [show gp_R (gp_mk L s_1) 51 0 = some 52 from rfl]
    refine ⟨52, rfl, ?_⟩
    refine ⟨⟨rfl, by show 0 ≤ 0 ∧ 0 < 3; omega⟩, ?_⟩
    try rw [show gp_R (gp_mk L s_1) 52 (0 : Int).toNat = some 25 from (q_20 _ (by omega))]
    refine ⟨25, rfl, ?_⟩
    refine ⟨rfl, ?_⟩
    refine zx2307_0 hs_2 q_13 q_14 q_15 q_16 (⟨_, rfl, ?_⟩)
    refine s_2057_47 _ _ _ _ _ _ _ _ _ ?_
    have e_33 : gp_cmp (0#64) (0#64) = 0 := by decide
    try rw [e_33]
    refine ⟨fun h_34 => ?_, fun h_34 => ?_⟩
    · refine ⟨51, rfl, ?_⟩
      refine ⟨rfl, ?_⟩
      try rw [show gp_R (gp_mk L s_1) 51 1 = some 53 from rfl]
      refine ⟨53, rfl, ?_⟩
      refine ⟨⟨rfl, by show 0 ≤ 0 ∧ 0 < 3; omega⟩, ?_⟩
      intro s_35 e_36
      have hs_37 : xM z s_35 := by rw [e_36]; exact xw53 hs_2 _ _ (by omega)
      have q_38 : gp_I s_35 1 2 = 0 := by rw [e_36]; exact q_3
      have q_39 : gp_I s_35 1 6 = 0 := by rw [e_36]; exact q_4
      have q_40 : gp_I s_35 1 7 = 1 := by rw [e_36]; exact q_5
      have q_41 : 1 ≤ gp_I s_35 51 4 ∧ gp_I s_35 51 4 ≤ 3 := by rw [e_36]; exact q_28
      have q_42 : gp_I s_35 51 8 = 1 := by rw [e_36]; exact q_7
      have q_43 : gp_I s_35 55 0 = 0 := by rw [e_36]; exact q_8
      have q_44 : gp_I s_35 56 0 = 0 := by rw [e_36]; exact q_9
      have q_45 : gp_I s_35 57 1 = 0 := by rw [e_36]; exact q_10
      have q_46 : gp_I s_35 57 3 = 0 := by rw [e_36]; exact q_11
      have q_47 : gp_I s_35 60 8 = 0 := by rw [e_36]; exact q_12
      have q_48 : gp_R s_35 25 6 = none := by rw [e_36]; exact q_13
      have q_49 : gp_R s_35 25 7 = none := by rw [e_36]; exact q_14
      have q_50 : gp_R s_35 25 8 = none := by rw [e_36]; exact q_15
      have q_51 : gp_R s_35 25 9 = none := by rw [e_36]; exact q_16
      have q_52 : ∀ k, k < 8 → gp_R s_35 4 k = some 25 := by rw [e_36]; exact q_17
      have q_53 : gp_R s_35 51 6 = some 55 := by rw [e_36]; exact q_18
      have q_54 : gp_R s_35 51 7 = some 56 := by rw [e_36]; exact q_19
      have q_55 : ∀ k, k < 3 → gp_R s_35 52 k = some 25 := by rw [e_36]; exact q_20
      have q_56 : gp_R s_35 60 6 = some 64 := by rw [e_36]; exact q_21
      have q_57 : gp_R s_35 60 7 = some 65 := by rw [e_36]; exact q_22
      have q_58 : ∀ k, k < 3 → gp_R s_35 61 k = some 25 := by rw [e_36]; exact q_23
      have q_59 : gp_us s_35 = 606895 := by rw [e_36]; exact q_24
      have q_60 : gp_sz s_35 = 117 := by rw [e_36]; exact q_25
      have w_61 := gz_w (0 + 1)
      have e_62 : gp_wr (0 + 1) = 1 := by omega
      try rw [e_62]
      refine s_2057_11 _ _ _ _ _ _ _ _ _ _ ?_
      refine ⟨51, rfl, ?_⟩
      refine ⟨rfl, ?_⟩
      refine ⟨fun h_64 => ?_, fun h_64 => ?_⟩
      · have q_66 : 2 ≤ gp_I s_35 51 4 ∧ gp_I s_35 51 4 ≤ 3 := by omega
        have q_65 : 2 ≤ gp_I s_35 51 4 ∧ gp_I s_35 51 4 ≤ 3 := q_66
        refine ⟨rfl, ?_⟩
        try rw [show gp_R (gp_mk L s_35) 51 1 = some 53 from rfl]
        refine ⟨53, rfl, ?_⟩
        refine ⟨⟨rfl, by show 0 ≤ 1 ∧ 1 < 3; omega⟩, ?_⟩
        have f_67 := xr53 hs_37 ((1 : Int).toNat)
        have e_68 : gp_I s_35 53 (1 : Int).toNat = 0 := by omega
        try rw [e_68]
        refine ⟨rfl, ?_⟩
        try rw [show gp_R (gp_mk L s_35) 51 0 = some 52 from rfl]
        refine ⟨52, rfl, ?_⟩
        refine ⟨⟨rfl, by show 0 ≤ 1 ∧ 1 < 3; omega⟩, ?_⟩
        try rw [show gp_R (gp_mk L s_35) 52 (1 : Int).toNat = some 25 from (q_55 _ (by omega))]
        refine ⟨25, rfl, ?_⟩
        refine ⟨rfl, ?_⟩
        refine zx2307_0 hs_37 q_48 q_49 q_50 q_51 (⟨_, rfl, ?_⟩)
        refine s_2057_47 _ _ _ _ _ _ _ _ _ ?_
        have e_70 : gp_cmp (0#64) (0#64) = 0 := by decide
        try rw [e_70]
        refine ⟨fun h_71 => ?_, fun h_71 => ?_⟩
        · refine ⟨51, rfl, ?_⟩
          refine ⟨rfl, ?_⟩
          try rw [show gp_R (gp_mk L s_35) 51 1 = some 53 from rfl]
          refine ⟨53, rfl, ?_⟩
          refine ⟨⟨rfl, by show 0 ≤ 1 ∧ 1 < 3; omega⟩, ?_⟩
          intro s_72 e_73
          have hs_74 : xM z s_72 := by rw [e_73]; exact xw53 hs_37 _ _ (by omega)
          have q_75 : gp_I s_72 1 2 = 0 := by rw [e_73]; exact q_38
          have q_76 : gp_I s_72 1 6 = 0 := by rw [e_73]; exact q_39
          have q_77 : gp_I s_72 1 7 = 1 := by rw [e_73]; exact q_40
          have q_78 : 2 ≤ gp_I s_72 51 4 ∧ gp_I s_72 51 4 ≤ 3 := by rw [e_73]; exact q_65
          have q_79 : gp_I s_72 51 8 = 1 := by rw [e_73]; exact q_42
          have q_80 : gp_I s_72 55 0 = 0 := by rw [e_73]; exact q_43
          have q_81 : gp_I s_72 56 0 = 0 := by rw [e_73]; exact q_44
          have q_82 : gp_I s_72 57 1 = 0 := by rw [e_73]; exact q_45
          have q_83 : gp_I s_72 57 3 = 0 := by rw [e_73]; exact q_46
          have q_84 : gp_I s_72 60 8 = 0 := by rw [e_73]; exact q_47
          have q_85 : gp_R s_72 25 6 = none := by rw [e_73]; exact q_48
          have q_86 : gp_R s_72 25 7 = none := by rw [e_73]; exact q_49
          have q_87 : gp_R s_72 25 8 = none := by rw [e_73]; exact q_50
          have q_88 : gp_R s_72 25 9 = none := by rw [e_73]; exact q_51
          have q_89 : ∀ k, k < 8 → gp_R s_72 4 k = some 25 := by rw [e_73]; exact q_52
          have q_90 : gp_R s_72 51 6 = some 55 := by rw [e_73]; exact q_53
          have q_91 : gp_R s_72 51 7 = some 56 := by rw [e_73]; exact q_54
          have q_92 : ∀ k, k < 3 → gp_R s_72 52 k = some 25 := by rw [e_73]; exact q_55
          have q_93 : gp_R s_72 60 6 = some 64 := by rw [e_73]; exact q_56
          have q_94 : gp_R s_72 60 7 = some 65 := by rw [e_73]; exact q_57
          have q_95 : ∀ k, k < 3 → gp_R s_72 61 k = some 25 := by rw [e_73]; exact q_58
          have q_96 : gp_us s_72 = 606895 := by rw [e_73]; exact q_59
          have q_97 : gp_sz s_72 = 117 := by rw [e_73]; exact q_60
          have w_98 := gz_w (1 + 1)
          have e_99 : gp_wr (1 + 1) = 2 := by omega
          try rw [e_99]
          refine s_2057_11 _ _ _ _ _ _ _ _ _ _ ?_
          refine ⟨51, rfl, ?_⟩
          refine ⟨rfl, ?_⟩
          refine ⟨fun h_101 => ?_, fun h_101 => ?_⟩
          · have q_103 : gp_I s_72 51 4 = 3 := by omega
            have q_102 : gp_I s_72 51 4 = 3 := q_103
            have e_104 : gp_I s_72 51 4 = 3 := by omega
            try rw [e_104]
            refine ⟨rfl, ?_⟩
            try rw [show gp_R (gp_mk L s_72) 51 1 = some 53 from rfl]
            refine ⟨53, rfl, ?_⟩
            refine ⟨⟨rfl, by show 0 ≤ 2 ∧ 2 < 3; omega⟩, ?_⟩
            have f_105 := xr53 hs_74 ((2 : Int).toNat)
            have e_106 : gp_I s_72 53 (2 : Int).toNat = 0 := by omega
            try rw [e_106]
            refine ⟨rfl, ?_⟩
            try rw [show gp_R (gp_mk L s_72) 51 0 = some 52 from rfl]
            refine ⟨52, rfl, ?_⟩
            refine ⟨⟨rfl, by show 0 ≤ 2 ∧ 2 < 3; omega⟩, ?_⟩
            try rw [show gp_R (gp_mk L s_72) 52 (2 : Int).toNat = some 25 from (q_92 _ (by omega))]
            refine ⟨25, rfl, ?_⟩
            refine ⟨rfl, ?_⟩
            refine zx2307_0 hs_74 q_85 q_86 q_87 q_88 (⟨_, rfl, ?_⟩)
            refine s_2057_47 _ _ _ _ _ _ _ _ _ ?_
            have e_108 : gp_cmp (0#64) (0#64) = 0 := by decide
            try rw [e_108]
            refine ⟨fun h_109 => ?_, fun h_109 => ?_⟩
            · refine ⟨51, rfl, ?_⟩
              refine ⟨rfl, ?_⟩
              try rw [show gp_R (gp_mk L s_72) 51 1 = some 53 from rfl]
              refine ⟨53, rfl, ?_⟩
              refine ⟨⟨rfl, by show 0 ≤ 2 ∧ 2 < 3; omega⟩, ?_⟩
              intro s_110 e_111
              have hs_112 : xM z s_110 := by rw [e_111]; exact xw53 hs_74 _ _ (by omega)
              have q_113 : gp_I s_110 1 2 = 0 := by rw [e_111]; exact q_75
              have q_114 : gp_I s_110 1 6 = 0 := by rw [e_111]; exact q_76
              have q_115 : gp_I s_110 1 7 = 1 := by rw [e_111]; exact q_77
              have q_116 : gp_I s_110 51 4 = 3 := by rw [e_111]; exact q_102
              have q_117 : gp_I s_110 51 8 = 1 := by rw [e_111]; exact q_79
              have q_118 : gp_I s_110 55 0 = 0 := by rw [e_111]; exact q_80
              have q_119 : gp_I s_110 56 0 = 0 := by rw [e_111]; exact q_81
              have q_120 : gp_I s_110 57 1 = 0 := by rw [e_111]; exact q_82
              have q_121 : gp_I s_110 57 3 = 0 := by rw [e_111]; exact q_83
              have q_122 : gp_I s_110 60 8 = 0 := by rw [e_111]; exact q_84
              have q_123 : gp_R s_110 25 6 = none := by rw [e_111]; exact q_85
              have q_124 : gp_R s_110 25 7 = none := by rw [e_111]; exact q_86
              have q_125 : gp_R s_110 25 8 = none := by rw [e_111]; exact q_87
              have q_126 : gp_R s_110 25 9 = none := by rw [e_111]; exact q_88
              have q_127 : ∀ k, k < 8 → gp_R s_110 4 k = some 25 := by rw [e_111]; exact q_89
              have q_128 : gp_R s_110 51 6 = some 55 := by rw [e_111]; exact q_90
              have q_129 : gp_R s_110 51 7 = some 56 := by rw [e_111]; exact q_91
              have q_130 : ∀ k, k < 3 → gp_R s_110 52 k = some 25 := by rw [e_111]; exact q_92
              have q_131 : gp_R s_110 60 6 = some 64 := by rw [e_111]; exact q_93
              have q_132 : gp_R s_110 60 7 = some 65 := by rw [e_111]; exact q_94
              have q_133 : ∀ k, k < 3 → gp_R s_110 61 k = some 25 := by rw [e_111]; exact q_95
              have q_134 : gp_us s_110 = 606895 := by rw [e_111]; exact q_96
              have q_135 : gp_sz s_110 = 117 := by rw [e_111]; exact q_97
              have w_136 := gz_w (2 + 1)
              have e_137 : gp_wr (2 + 1) = 3 := by omega
              try rw [e_137]
              refine s_2057_11 _ _ _ _ _ _ _ _ _ _ ?_
              refine ⟨51, rfl, ?_⟩
              refine ⟨rfl, ?_⟩
              try rw [show gp_I s_110 51 4 = 3 from q_116]
              refine ⟨fun h_139 => ?_, fun h_139 => ?_⟩
              · exfalso; omega
              · exact k s_110 hs_112 (by omega) (by omega) (by omega) (by omega) (by omega) (by omega) (by omega) (by omega) (by omega) (by omega) q_123 q_124 q_125 q_126 q_127 q_128 q_129 q_130 q_131 q_132 q_133 q_134 q_135
            · exfalso; omega
          · have q_141 : gp_I s_72 51 4 = 2 := by omega
            have q_140 : gp_I s_72 51 4 = 2 := q_141
            have e_142 : gp_I s_72 51 4 = 2 := by omega
            try rw [e_142]
            exact k s_72 hs_74 (by omega) (by omega) (by omega) (by omega) (by omega) (by omega) (by omega) (by omega) (by omega) (by omega) q_85 q_86 q_87 q_88 q_89 q_90 q_91 q_92 q_93 q_94 q_95 q_96 q_97
        · exfalso; omega
      · have q_144 : gp_I s_35 51 4 = 1 := by omega
        have q_143 : gp_I s_35 51 4 = 1 := q_144
        have e_145 : gp_I s_35 51 4 = 1 := by omega
        try rw [e_145]
        exact k s_35 hs_37 (by omega) (by omega) (by omega) (by omega) (by omega) (by omega) (by omega) (by omega) (by omega) (by omega) q_48 q_49 q_50 q_51 q_52 q_53 q_54 q_55 q_56 q_57 q_58 q_59 q_60
    · exfalso; omega
  · have q_147 : gp_I s_1 51 4 = 0 := by omega
    have q_146 : gp_I s_1 51 4 = 0 := q_147
    have e_148 : gp_I s_1 51 4 = 0 := by omega
    try rw [e_148]
    exact k s_1 hs_2 (by omega) (by omega) (by omega) (by omega) (by omega) (by omega) (by omega) (by omega) (by omega) (by omega) q_13 q_14 q_15 q_16 q_17 q_18 q_19 q_20 q_21 q_22 q_23 q_24 q_25
set_option maxRecDepth 100000 in
/-- GatheredPoints.refused [(2, 2)] -/
theorem zx2855_19 {z : gH} {L d : Nat} {K : Option gV → gH → Prop} {s : gH}  (hs : xM z s)  (q0 : gp_I s 1 2 = 0) (q1 : gp_I s 1 6 = 0) (q2 : gp_I s 1 7 = 1) (q3 : 0 ≤ gp_I s 51 4 ∧ gp_I s 51 4 ≤ 3) (q4 : gp_I s 51 8 = 1) (q5 : gp_I s 55 0 = 0) (q6 : gp_I s 56 0 = 0) (q7 : gp_I s 57 1 = 0) (q8 : gp_I s 57 3 = 0) (q9 : gp_I s 60 8 = 0) (q10 : gp_R s 25 6 = none) (q11 : gp_R s 25 7 = none) (q12 : gp_R s 25 8 = none) (q13 : gp_R s 25 9 = none) (q14 : ∀ k, k < 8 → gp_R s 4 k = some 25) (q15 : gp_R s 51 6 = some 55) (q16 : gp_R s 51 7 = some 56) (q17 : ∀ k, k < 3 → gp_R s 52 k = some 25) (q18 : gp_R s 60 6 = some 64) (q19 : gp_R s 60 7 = some 65) (q20 : ∀ k, k < 3 → gp_R s 61 k = some 25) (q21 : gp_us s = 606895) (q22 : gp_sz s = 117) (k : ∀ (t : gH), xM z t → (gp_I t 1 2 = 0) → (gp_I t 1 6 = 0) → (gp_I t 1 7 = 1) → ((-2147483648) ≤ gp_I t 2 2 ∧ gp_I t 2 2 ≤ 2147483647) → (0 ≤ gp_I t 51 4 ∧ gp_I t 51 4 ≤ 3) → (gp_I t 51 8 = 1) → (gp_I t 55 0 = 0) → (gp_I t 56 0 = 0) → (gp_I t 57 1 = 0) → (gp_I t 57 3 = 0) → (gp_I t 60 8 = 0) → (gp_R t 25 6 = none) → (gp_R t 25 7 = none) → (gp_R t 25 8 = none) → (gp_R t 25 9 = none) → (∀ k, k < 8 → gp_R t 4 k = some 25) → (gp_R t 51 6 = some 55) → (gp_R t 51 7 = some 56) → (∀ k, k < 3 → gp_R t 52 k = some 25) → (gp_R t 60 6 = some 64) → (gp_R t 60 7 = some 65) → (∀ k, k < 3 → gp_R t 61 k = some 25) → (gp_us t = 606895) → (gp_sz t = 117) → K (some (gp_i (-1000000002))) t) : gs_C L d 2855 2 [gp_r (some 1), gp_i 2] s K := by
  refine s_2855_e _ ?_
  refine ⟨by omega, ?_⟩
  have w_1 := gz_w ((gp_I s 2 (2 : Int).toNat) + 1)
  refine ⟨by omega, ?_⟩
  intro s_2 e_3
  have hs_4 : xM z s_2 := by rw [e_3]; exact xw2 hs _ _
  have q_5 : gp_I s_2 1 2 = 0 := by rw [e_3]; exact q0
  have q_6 : gp_I s_2 1 6 = 0 := by rw [e_3]; exact q1
  have q_7 : gp_I s_2 1 7 = 1 := by rw [e_3]; exact q2
  have q_8 : 0 ≤ gp_I s_2 51 4 ∧ gp_I s_2 51 4 ≤ 3 := by rw [e_3]; exact q3
  have q_9 : gp_I s_2 51 8 = 1 := by rw [e_3]; exact q4
  have q_10 : gp_I s_2 55 0 = 0 := by rw [e_3]; exact q5
  have q_11 : gp_I s_2 56 0 = 0 := by rw [e_3]; exact q6
  have q_12 : gp_I s_2 57 1 = 0 := by rw [e_3]; exact q7
  have q_13 : gp_I s_2 57 3 = 0 := by rw [e_3]; exact q8
  have q_14 : gp_I s_2 60 8 = 0 := by rw [e_3]; exact q9
  have q_15 : gp_R s_2 25 6 = none := by rw [e_3]; exact q10
  have q_16 : gp_R s_2 25 7 = none := by rw [e_3]; exact q11
  have q_17 : gp_R s_2 25 8 = none := by rw [e_3]; exact q12
  have q_18 : gp_R s_2 25 9 = none := by rw [e_3]; exact q13
  have q_19 : ∀ k, k < 8 → gp_R s_2 4 k = some 25 := by rw [e_3]; exact q14
  have q_20 : gp_R s_2 51 6 = some 55 := by rw [e_3]; exact q15
  have q_21 : gp_R s_2 51 7 = some 56 := by rw [e_3]; exact q16
  have q_22 : ∀ k, k < 3 → gp_R s_2 52 k = some 25 := by rw [e_3]; exact q17
  have q_23 : gp_R s_2 60 6 = some 64 := by rw [e_3]; exact q18
  have q_24 : gp_R s_2 60 7 = some 65 := by rw [e_3]; exact q19
  have q_25 : ∀ k, k < 3 → gp_R s_2 61 k = some 25 := by rw [e_3]; exact q20
  have q_26 : gp_us s_2 = 606895 := by rw [e_3]; exact q21
  have q_27 : gp_sz s_2 = 117 := by rw [e_3]; exact q22
  have q_28 : (-2147483648) ≤ gp_I s_2 2 2 ∧ gp_I s_2 2 2 ≤ 2147483647 := by have x_29 : gp_I s_2 2 2 = gp_wr ((gp_I s 2 (2 : Int).toNat) + 1) := (by rw [e_3]; rfl); omega
  have w_30 := gz_w ((-1000000000) - 2)
  have e_31 : gp_wr ((-1000000000) - 2) = (-1000000002) := by omega
  try rw [e_31]
  exact k s_2 hs_4 (by omega) (by omega) (by omega) (by omega) (by omega) (by omega) (by omega) (by omega) (by omega) (by omega) (by omega) q_15 q_16 q_17 q_18 q_19 q_20 q_21 q_22 q_23 q_24 q_25 q_26 q_27
set_option maxRecDepth 100000 in
/-- GatheredPoints.best [(1, 255, 'S3'), (0, 0)] -/
theorem zx2833_5 {z : gH} {L d : Nat} {K : Option gV → gH → Prop} {s : gH} (p0 : Int) (hs : xM z s) (h_p0 : 1 ≤ p0 ∧ p0 ≤ 255) (g_p0 : gm_cnt (BitVec.ofInt 64 p0) 64 ≤ 3) (q0 : gp_I s 1 2 = 0) (q1 : gp_I s 1 6 = 0) (q2 : gp_I s 1 7 = 1) (q3 : gp_I s 51 8 = 0) (q4 : gp_I s 57 1 = 0) (q5 : gp_I s 57 3 = 0) (q6 : gp_I s 60 8 = 0) (q7 : gp_R s 25 6 = none) (q8 : gp_R s 25 7 = none) (q9 : gp_R s 25 8 = none) (q10 : gp_R s 25 9 = none) (q11 : ∀ k, k < 8 → gp_R s 4 k = some 25) (q12 : gp_R s 51 6 = some 55) (q13 : gp_R s 51 7 = some 56) (q14 : ∀ k, k < 3 → gp_R s 52 k = some 25) (q15 : gp_R s 60 6 = some 64) (q16 : gp_R s 60 7 = some 65) (q17 : ∀ k, k < 3 → gp_R s 61 k = some 25) (q18 : gp_us s = 606895) (q19 : gp_sz s = 117) (k : ∀ (t : gH), xM z t → (gp_I t 1 2 = 0) → (gp_I t 1 6 = 0) → (gp_I t 1 7 = 1) → ((-2147483648) ≤ gp_I t 2 2 ∧ gp_I t 2 2 ≤ 2147483647) → (0 ≤ gp_I t 51 4 ∧ gp_I t 51 4 ≤ 3) → (gp_I t 51 8 = 1) → (gp_I t 55 0 = 0) → (gp_I t 56 0 = 0) → (gp_I t 57 1 = 0) → (gp_I t 57 3 = 0) → (gp_I t 60 8 = 0) → (gp_R t 25 6 = none) → (gp_R t 25 7 = none) → (gp_R t 25 8 = none) → (gp_R t 25 9 = none) → (∀ k, k < 8 → gp_R t 4 k = some 25) → (gp_R t 51 6 = some 55) → (gp_R t 51 7 = some 56) → (∀ k, k < 3 → gp_R t 52 k = some 25) → (gp_R t 60 6 = some 64) → (gp_R t 60 7 = some 65) → (∀ k, k < 3 → gp_R t 61 k = some 25) → (gp_us t = 606895) → (gp_sz t = 117) → K (some (gp_i (-1000000002))) t) : gs_C L (d + 5) 2833 4 [gp_r (some 1), gp_i p0, gp_i 0] s K := by
  refine s_2833_e _ _ ?_
  refine zx_noSet3 _ hs (by omega) g_p0 (⟨_, rfl, ?_⟩)
  refine ⟨fun h_1 => ?_, fun h_1 => ?_⟩
  · refine zx2857_2 hs (by omega) (by omega) (by omega) (by omega) (by omega) (by omega) q7 q8 q9 q10 q11 q12 q13 (⟨_, rfl, ?_⟩)
    refine ⟨fun h_2 => ?_, fun h_2 => ?_⟩
    · refine zx2049_0 _ hs (by omega) (by omega) (by omega) (by omega) (by omega) (by omega) (by omega) (by omega) q7 q8 q9 q10 q11 q12 q13 q14 q15 q16 q17 q18 q19 (fun s_3 hs_4 q_5 q_6 q_7 q_8 q_9 q_10 q_11 q_12 q_13 q_14 q_15 q_16 q_17 q_18 q_19 q_20 q_21 q_22 q_23 q_24 q_25 => ⟨rfl, ?_⟩)
      refine zx2057_0 hs_4 (by omega) (by omega) (by omega) (by omega) (by omega) (by omega) (by omega) (by omega) q_13 q_14 q_15 q_16 q_17 q_18 q_19 q_20 q_21 q_22 q_23 q_24 q_25 (fun s_26 hs_27 q_28 q_29 q_30 q_31 q_32 q_33 q_34 q_35 q_36 q_37 q_38 q_39 q_40 q_41 q_42 q_43 q_44 q_45 q_46 q_47 q_48 q_49 q_50 => ⟨_, rfl, ?_⟩)
      refine ⟨fun h_51 => ?_, fun h_51 => ?_⟩
      · refine zx2855_19 hs_27 (by omega) (by omega) (by omega) (by omega) (by omega) (by omega) (by omega) (by omega) (by omega) (by omega) q_38 q_39 q_40 q_41 q_42 q_43 q_44 q_45 q_46 q_47 q_48 q_49 q_50 (fun s_52 hs_53 q_54 q_55 q_56 q_57 q_58 q_59 q_60 q_61 q_62 q_63 q_64 q_65 q_66 q_67 q_68 q_69 q_70 q_71 q_72 q_73 q_74 q_75 q_76 q_77 => ⟨_, rfl, ?_⟩)
        refine s_2833_61 _ _ _ _ ?_
        exact k s_52 hs_53 (by omega) (by omega) (by omega) (by omega) (by omega) (by omega) (by omega) (by omega) (by omega) (by omega) (by omega) q_65 q_66 q_67 q_68 q_69 q_70 q_71 q_72 q_73 q_74 q_75 q_76 q_77
      · exfalso; omega
    · exfalso; omega
  · exfalso; omega
set_option maxRecDepth 100000 in
/-- Sum.bestMove [51, (1, 1)] -/
theorem zx2057_1 {z : gH} {L d : Nat} {K : Option gV → gH → Prop} {s : gH}  (hs : xM z s)  (q0 : gp_I s 1 2 = 0) (q1 : gp_I s 1 6 = 0) (q2 : gp_I s 1 7 = 1) (q3 : 0 ≤ gp_I s 51 4 ∧ gp_I s 51 4 ≤ 3) (q4 : gp_I s 51 8 = 0) (q5 : gp_I s 57 1 = 0) (q6 : gp_I s 57 3 = 0) (q7 : gp_I s 60 8 = 0) (q8 : gp_R s 25 6 = none) (q9 : gp_R s 25 7 = none) (q10 : gp_R s 25 8 = none) (q11 : gp_R s 25 9 = none) (q12 : ∀ k, k < 8 → gp_R s 4 k = some 25) (q13 : gp_R s 51 6 = some 55) (q14 : gp_R s 51 7 = some 56) (q15 : ∀ k, k < 3 → gp_R s 52 k = some 25) (q16 : gp_R s 60 6 = some 64) (q17 : gp_R s 60 7 = some 65) (q18 : ∀ k, k < 3 → gp_R s 61 k = some 25) (q19 : gp_us s = 606895) (q20 : gp_sz s = 117) (k : ∀ (t : gH), xM z t → (gp_I t 1 2 = 0) → (gp_I t 1 6 = 0) → (gp_I t 1 7 = 1) → (0 ≤ gp_I t 51 4 ∧ gp_I t 51 4 ≤ 3) → (gp_I t 51 8 = 1) → (gp_I t 55 0 = 0) → (gp_I t 56 0 = 0) → (gp_I t 57 1 = 0) → (gp_I t 57 3 = 0) → (gp_I t 60 8 = 0) → (gp_R t 25 6 = none) → (gp_R t 25 7 = none) → (gp_R t 25 8 = none) → (gp_R t 25 9 = none) → (∀ k, k < 8 → gp_R t 4 k = some 25) → (gp_R t 51 6 = some 55) → (gp_R t 51 7 = some 56) → (∀ k, k < 3 → gp_R t 52 k = some 25) → (gp_R t 60 6 = some 64) → (gp_R t 60 7 = some 65) → (∀ k, k < 3 → gp_R t 61 k = some 25) → (gp_us t = 606895) → (gp_sz t = 117) → K (some (gp_i (-1))) t) : gs_C L (d + 4) 2057 10 [gp_r (some 51), gp_i 1] s K := by
  refine s_2057_e _ _ ?_
  refine ⟨51, rfl, ?_⟩
  refine ⟨rfl, ?_⟩
  refine zx2060_0 hs (by omega) (by omega) (by omega) (by omega) (by omega) (by omega) (by omega) (by omega) q8 q9 q10 q11 q12 q13 q14 q15 q16 q17 q18 q19 q20 (fun s_1 hs_2 q_3 q_4 q_5 q_6 q_7 q_8 q_9 q_10 q_11 q_12 q_13 q_14 q_15 q_16 q_17 q_18 q_19 q_20 q_21 q_22 q_23 q_24 q_25 => ⟨rfl, ?_⟩)
  refine s_2057_11 _ _ _ _ _ _ _ _ _ _ ?_
  refine ⟨51, rfl, ?_⟩
  refine ⟨rfl, ?_⟩
  refine ⟨fun h_27 => ?_, fun h_27 => ?_⟩
  · have q_29 : 1 ≤ gp_I s_1 51 4 ∧ gp_I s_1 51 4 ≤ 3 := by omega
    have q_28 : 1 ≤ gp_I s_1 51 4 ∧ gp_I s_1 51 4 ≤ 3 := q_29
    refine ⟨rfl, ?_⟩
    try rw [show gp_R (gp_mk L s_1) 51 1 = some 53 from rfl]
    refine ⟨53, rfl, ?_⟩
    refine ⟨⟨rfl, by show 0 ≤ 0 ∧ 0 < 3; omega⟩, ?_⟩
    have f_30 := xr53 hs_2 ((0 : Int).toNat)
    have e_31 : gp_I s_1 53 (0 : Int).toNat = 0 := by omega
    try rw [e_31]
    refine ⟨rfl, ?_⟩
    try rw [show gp_R (gp_mk L s_1) 51 0 = some 52 from rfl]
    refine ⟨52, rfl, ?_⟩
    refine ⟨⟨rfl, by show 0 ≤ 0 ∧ 0 < 3; omega⟩, ?_⟩
    try rw [show gp_R (gp_mk L s_1) 52 (0 : Int).toNat = some 25 from (q_20 _ (by omega))]
    refine ⟨25, rfl, ?_⟩
    refine ⟨rfl, ?_⟩
    refine zx2307_1 hs_2 q_13 q_14 q_15 q_16 (⟨_, rfl, ?_⟩)
    refine s_2057_47 _ _ _ _ _ _ _ _ _ ?_
    have e_33 : gp_cmp (0#64) (0#64) = 0 := by decide
    try rw [e_33]
    refine ⟨fun h_34 => ?_, fun h_34 => ?_⟩
    · refine ⟨51, rfl, ?_⟩
      refine ⟨rfl, ?_⟩
      try rw [show gp_R (gp_mk L s_1) 51 1 = some 53 from rfl]
      refine ⟨53, rfl, ?_⟩
      refine ⟨⟨rfl, by show 0 ≤ 0 ∧ 0 < 3; omega⟩, ?_⟩
      intro s_35 e_36
      have hs_37 : xM z s_35 := by rw [e_36]; exact xw53 hs_2 _ _ (by omega)
      have q_38 : gp_I s_35 1 2 = 0 := by rw [e_36]; exact q_3
      have q_39 : gp_I s_35 1 6 = 0 := by rw [e_36]; exact q_4
      have q_40 : gp_I s_35 1 7 = 1 := by rw [e_36]; exact q_5
      have q_41 : 1 ≤ gp_I s_35 51 4 ∧ gp_I s_35 51 4 ≤ 3 := by rw [e_36]; exact q_28
      have q_42 : gp_I s_35 51 8 = 1 := by rw [e_36]; exact q_7
      have q_43 : gp_I s_35 55 0 = 0 := by rw [e_36]; exact q_8
      have q_44 : gp_I s_35 56 0 = 0 := by rw [e_36]; exact q_9
      have q_45 : gp_I s_35 57 1 = 0 := by rw [e_36]; exact q_10
      have q_46 : gp_I s_35 57 3 = 0 := by rw [e_36]; exact q_11
      have q_47 : gp_I s_35 60 8 = 0 := by rw [e_36]; exact q_12
      have q_48 : gp_R s_35 25 6 = none := by rw [e_36]; exact q_13
      have q_49 : gp_R s_35 25 7 = none := by rw [e_36]; exact q_14
      have q_50 : gp_R s_35 25 8 = none := by rw [e_36]; exact q_15
      have q_51 : gp_R s_35 25 9 = none := by rw [e_36]; exact q_16
      have q_52 : ∀ k, k < 8 → gp_R s_35 4 k = some 25 := by rw [e_36]; exact q_17
      have q_53 : gp_R s_35 51 6 = some 55 := by rw [e_36]; exact q_18
      have q_54 : gp_R s_35 51 7 = some 56 := by rw [e_36]; exact q_19
      have q_55 : ∀ k, k < 3 → gp_R s_35 52 k = some 25 := by rw [e_36]; exact q_20
      have q_56 : gp_R s_35 60 6 = some 64 := by rw [e_36]; exact q_21
      have q_57 : gp_R s_35 60 7 = some 65 := by rw [e_36]; exact q_22
      have q_58 : ∀ k, k < 3 → gp_R s_35 61 k = some 25 := by rw [e_36]; exact q_23
      have q_59 : gp_us s_35 = 606895 := by rw [e_36]; exact q_24
      have q_60 : gp_sz s_35 = 117 := by rw [e_36]; exact q_25
      have w_61 := gz_w (0 + 1)
      have e_62 : gp_wr (0 + 1) = 1 := by omega
      try rw [e_62]
      refine s_2057_11 _ _ _ _ _ _ _ _ _ _ ?_
      refine ⟨51, rfl, ?_⟩
      refine ⟨rfl, ?_⟩
      refine ⟨fun h_64 => ?_, fun h_64 => ?_⟩
      · have q_66 : 2 ≤ gp_I s_35 51 4 ∧ gp_I s_35 51 4 ≤ 3 := by omega
        have q_65 : 2 ≤ gp_I s_35 51 4 ∧ gp_I s_35 51 4 ≤ 3 := q_66
        refine ⟨rfl, ?_⟩
        try rw [show gp_R (gp_mk L s_35) 51 1 = some 53 from rfl]
        refine ⟨53, rfl, ?_⟩
        refine ⟨⟨rfl, by show 0 ≤ 1 ∧ 1 < 3; omega⟩, ?_⟩
        have f_67 := xr53 hs_37 ((1 : Int).toNat)
        have e_68 : gp_I s_35 53 (1 : Int).toNat = 0 := by omega
        try rw [e_68]
        refine ⟨rfl, ?_⟩
        try rw [show gp_R (gp_mk L s_35) 51 0 = some 52 from rfl]
        refine ⟨52, rfl, ?_⟩
        refine ⟨⟨rfl, by show 0 ≤ 1 ∧ 1 < 3; omega⟩, ?_⟩
        try rw [show gp_R (gp_mk L s_35) 52 (1 : Int).toNat = some 25 from (q_55 _ (by omega))]
        refine ⟨25, rfl, ?_⟩
        refine ⟨rfl, ?_⟩
        refine zx2307_1 hs_37 q_48 q_49 q_50 q_51 (⟨_, rfl, ?_⟩)
        refine s_2057_47 _ _ _ _ _ _ _ _ _ ?_
        have e_70 : gp_cmp (0#64) (0#64) = 0 := by decide
        try rw [e_70]
        refine ⟨fun h_71 => ?_, fun h_71 => ?_⟩
        · refine ⟨51, rfl, ?_⟩
          refine ⟨rfl, ?_⟩
          try rw [show gp_R (gp_mk L s_35) 51 1 = some 53 from rfl]
          refine ⟨53, rfl, ?_⟩
          refine ⟨⟨rfl, by show 0 ≤ 1 ∧ 1 < 3; omega⟩, ?_⟩
          intro s_72 e_73
          have hs_74 : xM z s_72 := by rw [e_73]; exact xw53 hs_37 _ _ (by omega)
          have q_75 : gp_I s_72 1 2 = 0 := by rw [e_73]; exact q_38
          have q_76 : gp_I s_72 1 6 = 0 := by rw [e_73]; exact q_39
          have q_77 : gp_I s_72 1 7 = 1 := by rw [e_73]; exact q_40
          have q_78 : 2 ≤ gp_I s_72 51 4 ∧ gp_I s_72 51 4 ≤ 3 := by rw [e_73]; exact q_65
          have q_79 : gp_I s_72 51 8 = 1 := by rw [e_73]; exact q_42
          have q_80 : gp_I s_72 55 0 = 0 := by rw [e_73]; exact q_43
          have q_81 : gp_I s_72 56 0 = 0 := by rw [e_73]; exact q_44
          have q_82 : gp_I s_72 57 1 = 0 := by rw [e_73]; exact q_45
          have q_83 : gp_I s_72 57 3 = 0 := by rw [e_73]; exact q_46
          have q_84 : gp_I s_72 60 8 = 0 := by rw [e_73]; exact q_47
          have q_85 : gp_R s_72 25 6 = none := by rw [e_73]; exact q_48
          have q_86 : gp_R s_72 25 7 = none := by rw [e_73]; exact q_49
          have q_87 : gp_R s_72 25 8 = none := by rw [e_73]; exact q_50
          have q_88 : gp_R s_72 25 9 = none := by rw [e_73]; exact q_51
          have q_89 : ∀ k, k < 8 → gp_R s_72 4 k = some 25 := by rw [e_73]; exact q_52
          have q_90 : gp_R s_72 51 6 = some 55 := by rw [e_73]; exact q_53
          have q_91 : gp_R s_72 51 7 = some 56 := by rw [e_73]; exact q_54
          have q_92 : ∀ k, k < 3 → gp_R s_72 52 k = some 25 := by rw [e_73]; exact q_55
          have q_93 : gp_R s_72 60 6 = some 64 := by rw [e_73]; exact q_56
          have q_94 : gp_R s_72 60 7 = some 65 := by rw [e_73]; exact q_57
          have q_95 : ∀ k, k < 3 → gp_R s_72 61 k = some 25 := by rw [e_73]; exact q_58
          have q_96 : gp_us s_72 = 606895 := by rw [e_73]; exact q_59
          have q_97 : gp_sz s_72 = 117 := by rw [e_73]; exact q_60
          have w_98 := gz_w (1 + 1)
          have e_99 : gp_wr (1 + 1) = 2 := by omega
          try rw [e_99]
          refine s_2057_11 _ _ _ _ _ _ _ _ _ _ ?_
          refine ⟨51, rfl, ?_⟩
          refine ⟨rfl, ?_⟩
          refine ⟨fun h_101 => ?_, fun h_101 => ?_⟩
          · have q_103 : gp_I s_72 51 4 = 3 := by omega
            have q_102 : gp_I s_72 51 4 = 3 := q_103
            have e_104 : gp_I s_72 51 4 = 3 := by omega
            try rw [e_104]
            refine ⟨rfl, ?_⟩
            try rw [show gp_R (gp_mk L s_72) 51 1 = some 53 from rfl]
            refine ⟨53, rfl, ?_⟩
            refine ⟨⟨rfl, by show 0 ≤ 2 ∧ 2 < 3; omega⟩, ?_⟩
            have f_105 := xr53 hs_74 ((2 : Int).toNat)
            have e_106 : gp_I s_72 53 (2 : Int).toNat = 0 := by omega
            try rw [e_106]
            refine ⟨rfl, ?_⟩
            try rw [show gp_R (gp_mk L s_72) 51 0 = some 52 from rfl]
            refine ⟨52, rfl, ?_⟩
            refine ⟨⟨rfl, by show 0 ≤ 2 ∧ 2 < 3; omega⟩, ?_⟩
            try rw [show gp_R (gp_mk L s_72) 52 (2 : Int).toNat = some 25 from (q_92 _ (by omega))]
            refine ⟨25, rfl, ?_⟩
            refine ⟨rfl, ?_⟩
            refine zx2307_1 hs_74 q_85 q_86 q_87 q_88 (⟨_, rfl, ?_⟩)
            refine s_2057_47 _ _ _ _ _ _ _ _ _ ?_
            have e_108 : gp_cmp (0#64) (0#64) = 0 := by decide
            try rw [e_108]
            refine ⟨fun h_109 => ?_, fun h_109 => ?_⟩
            · refine ⟨51, rfl, ?_⟩
              refine ⟨rfl, ?_⟩
              try rw [show gp_R (gp_mk L s_72) 51 1 = some 53 from rfl]
              refine ⟨53, rfl, ?_⟩
              refine ⟨⟨rfl, by show 0 ≤ 2 ∧ 2 < 3; omega⟩, ?_⟩
              intro s_110 e_111
              have hs_112 : xM z s_110 := by rw [e_111]; exact xw53 hs_74 _ _ (by omega)
              have q_113 : gp_I s_110 1 2 = 0 := by rw [e_111]; exact q_75
              have q_114 : gp_I s_110 1 6 = 0 := by rw [e_111]; exact q_76
              have q_115 : gp_I s_110 1 7 = 1 := by rw [e_111]; exact q_77
              have q_116 : gp_I s_110 51 4 = 3 := by rw [e_111]; exact q_102
              have q_117 : gp_I s_110 51 8 = 1 := by rw [e_111]; exact q_79
              have q_118 : gp_I s_110 55 0 = 0 := by rw [e_111]; exact q_80
              have q_119 : gp_I s_110 56 0 = 0 := by rw [e_111]; exact q_81
              have q_120 : gp_I s_110 57 1 = 0 := by rw [e_111]; exact q_82
              have q_121 : gp_I s_110 57 3 = 0 := by rw [e_111]; exact q_83
              have q_122 : gp_I s_110 60 8 = 0 := by rw [e_111]; exact q_84
              have q_123 : gp_R s_110 25 6 = none := by rw [e_111]; exact q_85
              have q_124 : gp_R s_110 25 7 = none := by rw [e_111]; exact q_86
              have q_125 : gp_R s_110 25 8 = none := by rw [e_111]; exact q_87
              have q_126 : gp_R s_110 25 9 = none := by rw [e_111]; exact q_88
              have q_127 : ∀ k, k < 8 → gp_R s_110 4 k = some 25 := by rw [e_111]; exact q_89
              have q_128 : gp_R s_110 51 6 = some 55 := by rw [e_111]; exact q_90
              have q_129 : gp_R s_110 51 7 = some 56 := by rw [e_111]; exact q_91
              have q_130 : ∀ k, k < 3 → gp_R s_110 52 k = some 25 := by rw [e_111]; exact q_92
              have q_131 : gp_R s_110 60 6 = some 64 := by rw [e_111]; exact q_93
              have q_132 : gp_R s_110 60 7 = some 65 := by rw [e_111]; exact q_94
              have q_133 : ∀ k, k < 3 → gp_R s_110 61 k = some 25 := by rw [e_111]; exact q_95
              have q_134 : gp_us s_110 = 606895 := by rw [e_111]; exact q_96
              have q_135 : gp_sz s_110 = 117 := by rw [e_111]; exact q_97
              have w_136 := gz_w (2 + 1)
              have e_137 : gp_wr (2 + 1) = 3 := by omega
              try rw [e_137]
              refine s_2057_11 _ _ _ _ _ _ _ _ _ _ ?_
              refine ⟨51, rfl, ?_⟩
              refine ⟨rfl, ?_⟩
              try rw [show gp_I s_110 51 4 = 3 from q_116]
              refine ⟨fun h_139 => ?_, fun h_139 => ?_⟩
              · exfalso; omega
              · exact k s_110 hs_112 (by omega) (by omega) (by omega) (by omega) (by omega) (by omega) (by omega) (by omega) (by omega) (by omega) q_123 q_124 q_125 q_126 q_127 q_128 q_129 q_130 q_131 q_132 q_133 q_134 q_135
            · exfalso; omega
          · have q_141 : gp_I s_72 51 4 = 2 := by omega
            have q_140 : gp_I s_72 51 4 = 2 := q_141
            have e_142 : gp_I s_72 51 4 = 2 := by omega
            try rw [e_142]
            exact k s_72 hs_74 (by omega) (by omega) (by omega) (by omega) (by omega) (by omega) (by omega) (by omega) (by omega) (by omega) q_85 q_86 q_87 q_88 q_89 q_90 q_91 q_92 q_93 q_94 q_95 q_96 q_97
        · exfalso; omega
      · have q_144 : gp_I s_35 51 4 = 1 := by omega
        have q_143 : gp_I s_35 51 4 = 1 := q_144
        have e_145 : gp_I s_35 51 4 = 1 := by omega
        try rw [e_145]
        exact k s_35 hs_37 (by omega) (by omega) (by omega) (by omega) (by omega) (by omega) (by omega) (by omega) (by omega) (by omega) q_48 q_49 q_50 q_51 q_52 q_53 q_54 q_55 q_56 q_57 q_58 q_59 q_60
    · exfalso; omega
  · have q_147 : gp_I s_1 51 4 = 0 := by omega
    have q_146 : gp_I s_1 51 4 = 0 := q_147
    have e_148 : gp_I s_1 51 4 = 0 := by omega
    try rw [e_148]
    exact k s_1 hs_2 (by omega) (by omega) (by omega) (by omega) (by omega) (by omega) (by omega) (by omega) (by omega) (by omega) q_13 q_14 q_15 q_16 q_17 q_18 q_19 q_20 q_21 q_22 q_23 q_24 q_25
set_option maxRecDepth 100000 in
/-- GatheredPoints.best [(1, 255, 'S3'), (1, 1)] -/
theorem zx2833_6 {z : gH} {L d : Nat} {K : Option gV → gH → Prop} {s : gH} (p0 : Int) (hs : xM z s) (h_p0 : 1 ≤ p0 ∧ p0 ≤ 255) (g_p0 : gm_cnt (BitVec.ofInt 64 p0) 64 ≤ 3) (q0 : gp_I s 1 2 = 0) (q1 : gp_I s 1 6 = 0) (q2 : gp_I s 1 7 = 1) (q3 : gp_I s 51 8 = 0) (q4 : gp_I s 57 1 = 0) (q5 : gp_I s 57 3 = 0) (q6 : gp_I s 60 8 = 0) (q7 : gp_R s 25 6 = none) (q8 : gp_R s 25 7 = none) (q9 : gp_R s 25 8 = none) (q10 : gp_R s 25 9 = none) (q11 : ∀ k, k < 8 → gp_R s 4 k = some 25) (q12 : gp_R s 51 6 = some 55) (q13 : gp_R s 51 7 = some 56) (q14 : ∀ k, k < 3 → gp_R s 52 k = some 25) (q15 : gp_R s 60 6 = some 64) (q16 : gp_R s 60 7 = some 65) (q17 : ∀ k, k < 3 → gp_R s 61 k = some 25) (q18 : gp_us s = 606895) (q19 : gp_sz s = 117) (k : ∀ (t : gH), xM z t → (gp_I t 1 2 = 0) → (gp_I t 1 6 = 0) → (gp_I t 1 7 = 1) → ((-2147483648) ≤ gp_I t 2 2 ∧ gp_I t 2 2 ≤ 2147483647) → (0 ≤ gp_I t 51 4 ∧ gp_I t 51 4 ≤ 3) → (gp_I t 51 8 = 1) → (gp_I t 55 0 = 0) → (gp_I t 56 0 = 0) → (gp_I t 57 1 = 0) → (gp_I t 57 3 = 0) → (gp_I t 60 8 = 0) → (gp_R t 25 6 = none) → (gp_R t 25 7 = none) → (gp_R t 25 8 = none) → (gp_R t 25 9 = none) → (∀ k, k < 8 → gp_R t 4 k = some 25) → (gp_R t 51 6 = some 55) → (gp_R t 51 7 = some 56) → (∀ k, k < 3 → gp_R t 52 k = some 25) → (gp_R t 60 6 = some 64) → (gp_R t 60 7 = some 65) → (∀ k, k < 3 → gp_R t 61 k = some 25) → (gp_us t = 606895) → (gp_sz t = 117) → K (some (gp_i (-1000000002))) t) : gs_C L (d + 5) 2833 4 [gp_r (some 1), gp_i p0, gp_i 1] s K := by
  refine s_2833_e _ _ ?_
  refine zx_noSet3 _ hs (by omega) g_p0 (⟨_, rfl, ?_⟩)
  refine ⟨fun h_1 => ?_, fun h_1 => ?_⟩
  · refine zx2857_3 hs (by omega) (by omega) (by omega) (by omega) (by omega) (by omega) q7 q8 q9 q10 q11 q12 q13 (⟨_, rfl, ?_⟩)
    refine ⟨fun h_2 => ?_, fun h_2 => ?_⟩
    · refine zx2049_0 _ hs (by omega) (by omega) (by omega) (by omega) (by omega) (by omega) (by omega) (by omega) q7 q8 q9 q10 q11 q12 q13 q14 q15 q16 q17 q18 q19 (fun s_3 hs_4 q_5 q_6 q_7 q_8 q_9 q_10 q_11 q_12 q_13 q_14 q_15 q_16 q_17 q_18 q_19 q_20 q_21 q_22 q_23 q_24 q_25 => ⟨rfl, ?_⟩)
      refine zx2057_1 hs_4 (by omega) (by omega) (by omega) (by omega) (by omega) (by omega) (by omega) (by omega) q_13 q_14 q_15 q_16 q_17 q_18 q_19 q_20 q_21 q_22 q_23 q_24 q_25 (fun s_26 hs_27 q_28 q_29 q_30 q_31 q_32 q_33 q_34 q_35 q_36 q_37 q_38 q_39 q_40 q_41 q_42 q_43 q_44 q_45 q_46 q_47 q_48 q_49 q_50 => ⟨_, rfl, ?_⟩)
      refine ⟨fun h_51 => ?_, fun h_51 => ?_⟩
      · refine zx2855_19 hs_27 (by omega) (by omega) (by omega) (by omega) (by omega) (by omega) (by omega) (by omega) (by omega) (by omega) q_38 q_39 q_40 q_41 q_42 q_43 q_44 q_45 q_46 q_47 q_48 q_49 q_50 (fun s_52 hs_53 q_54 q_55 q_56 q_57 q_58 q_59 q_60 q_61 q_62 q_63 q_64 q_65 q_66 q_67 q_68 q_69 q_70 q_71 q_72 q_73 q_74 q_75 q_76 q_77 => ⟨_, rfl, ?_⟩)
        refine s_2833_61 _ _ _ _ ?_
        exact k s_52 hs_53 (by omega) (by omega) (by omega) (by omega) (by omega) (by omega) (by omega) (by omega) (by omega) (by omega) (by omega) q_65 q_66 q_67 q_68 q_69 q_70 q_71 q_72 q_73 q_74 q_75 q_76 q_77
      · exfalso; omega
    · exfalso; omega
  · exfalso; omega
set_option maxRecDepth 100000 in
/-- GatheredPoints.begin [(-2147483648, 0), (-2147483648, 2147483647)] -/
theorem zx2834_0 {z : gH} {L d : Nat} {K : Option gV → gH → Prop} {s : gH} (p0 : Int) (p1 : Int) (hs : xM z s) (h_p0 : (-2147483648) ≤ p0 ∧ p0 ≤ 0) (h_p1 : (-2147483648) ≤ p1 ∧ p1 ≤ 2147483647) (q0 : gp_I s 1 2 = 0) (q1 : gp_I s 1 6 = 0) (q2 : gp_I s 1 7 = 1) (q3 : gp_I s 51 8 = 0) (q4 : gp_I s 57 1 = 0) (q5 : gp_I s 57 3 = 0) (q6 : gp_I s 60 8 = 0) (q7 : gp_R s 25 6 = none) (q8 : gp_R s 25 7 = none) (q9 : gp_R s 25 8 = none) (q10 : gp_R s 25 9 = none) (q11 : ∀ k, k < 8 → gp_R s 4 k = some 25) (q12 : gp_R s 51 6 = some 55) (q13 : gp_R s 51 7 = some 56) (q14 : ∀ k, k < 3 → gp_R s 52 k = some 25) (q15 : gp_R s 60 6 = some 64) (q16 : gp_R s 60 7 = some 65) (q17 : ∀ k, k < 3 → gp_R s 61 k = some 25) (q18 : gp_us s = 606895) (q19 : gp_sz s = 117) (k : ∀ (t : gH), xM z t → (gp_I t 1 2 = 0) → (gp_I t 1 6 = 0) → (gp_I t 1 7 = 1) → ((-2147483648) ≤ gp_I t 2 1 ∧ gp_I t 2 1 ≤ 2147483647) → (gp_I t 51 8 = 0) → (gp_I t 57 1 = 0) → (gp_I t 57 3 = 0) → (gp_I t 60 8 = 0) → (gp_R t 25 6 = none) → (gp_R t 25 7 = none) → (gp_R t 25 8 = none) → (gp_R t 25 9 = none) → (∀ k, k < 8 → gp_R t 4 k = some 25) → (gp_R t 51 6 = some 55) → (gp_R t 51 7 = some 56) → (∀ k, k < 3 → gp_R t 52 k = some 25) → (gp_R t 60 6 = some 64) → (gp_R t 60 7 = some 65) → (∀ k, k < 3 → gp_R t 61 k = some 25) → (gp_us t = 606895) → (gp_sz t = 117) → K (some (gp_i (-1000000001))) t) : gs_C L (d + 2) 2834 3 [gp_r (some 1), gp_i p0, gp_i p1] s K := by
  refine s_2834_e _ _ ?_
  refine zx2858_0 _ hs (by omega) (⟨_, rfl, ?_⟩)
  refine ⟨fun h_1 => ?_, fun h_1 => ?_⟩
  · exfalso; omega
  · refine s_2834_14 _ _ ?_
    refine zx2855_10 hs (by omega) (by omega) (by omega) (by omega) (by omega) (by omega) (by omega) q7 q8 q9 q10 q11 q12 q13 q14 q15 q16 q17 q18 q19 (fun s_2 hs_3 q_4 q_5 q_6 q_7 q_8 q_9 q_10 q_11 q_12 q_13 q_14 q_15 q_16 q_17 q_18 q_19 q_20 q_21 q_22 q_23 q_24 => ⟨_, rfl, ?_⟩)
    exact k s_2 hs_3 (by omega) (by omega) (by omega) (by omega) (by omega) (by omega) (by omega) (by omega) q_12 q_13 q_14 q_15 q_16 q_17 q_18 q_19 q_20 q_21 q_22 q_23 q_24
set_option maxRecDepth 100000 in
/-- GatheredPoints.begin [(256, 2147483647), (-2147483648, 2147483647)] -/
theorem zx2834_1 {z : gH} {L d : Nat} {K : Option gV → gH → Prop} {s : gH} (p0 : Int) (p1 : Int) (hs : xM z s) (h_p0 : 256 ≤ p0 ∧ p0 ≤ 2147483647) (h_p1 : (-2147483648) ≤ p1 ∧ p1 ≤ 2147483647) (q0 : gp_I s 1 2 = 0) (q1 : gp_I s 1 6 = 0) (q2 : gp_I s 1 7 = 1) (q3 : gp_I s 51 8 = 0) (q4 : gp_I s 57 1 = 0) (q5 : gp_I s 57 3 = 0) (q6 : gp_I s 60 8 = 0) (q7 : gp_R s 25 6 = none) (q8 : gp_R s 25 7 = none) (q9 : gp_R s 25 8 = none) (q10 : gp_R s 25 9 = none) (q11 : ∀ k, k < 8 → gp_R s 4 k = some 25) (q12 : gp_R s 51 6 = some 55) (q13 : gp_R s 51 7 = some 56) (q14 : ∀ k, k < 3 → gp_R s 52 k = some 25) (q15 : gp_R s 60 6 = some 64) (q16 : gp_R s 60 7 = some 65) (q17 : ∀ k, k < 3 → gp_R s 61 k = some 25) (q18 : gp_us s = 606895) (q19 : gp_sz s = 117) (k : ∀ (t : gH), xM z t → (gp_I t 1 2 = 0) → (gp_I t 1 6 = 0) → (gp_I t 1 7 = 1) → ((-2147483648) ≤ gp_I t 2 1 ∧ gp_I t 2 1 ≤ 2147483647) → (gp_I t 51 8 = 0) → (gp_I t 57 1 = 0) → (gp_I t 57 3 = 0) → (gp_I t 60 8 = 0) → (gp_R t 25 6 = none) → (gp_R t 25 7 = none) → (gp_R t 25 8 = none) → (gp_R t 25 9 = none) → (∀ k, k < 8 → gp_R t 4 k = some 25) → (gp_R t 51 6 = some 55) → (gp_R t 51 7 = some 56) → (∀ k, k < 3 → gp_R t 52 k = some 25) → (gp_R t 60 6 = some 64) → (gp_R t 60 7 = some 65) → (∀ k, k < 3 → gp_R t 61 k = some 25) → (gp_us t = 606895) → (gp_sz t = 117) → K (some (gp_i (-1000000001))) t) : gs_C L (d + 2) 2834 3 [gp_r (some 1), gp_i p0, gp_i p1] s K := by
  refine s_2834_e _ _ ?_
  refine zx2858_1 _ hs (by omega) (⟨_, rfl, ?_⟩)
  refine ⟨fun h_1 => ?_, fun h_1 => ?_⟩
  · exfalso; omega
  · refine s_2834_14 _ _ ?_
    refine zx2855_10 hs (by omega) (by omega) (by omega) (by omega) (by omega) (by omega) (by omega) q7 q8 q9 q10 q11 q12 q13 q14 q15 q16 q17 q18 q19 (fun s_2 hs_3 q_4 q_5 q_6 q_7 q_8 q_9 q_10 q_11 q_12 q_13 q_14 q_15 q_16 q_17 q_18 q_19 q_20 q_21 q_22 q_23 q_24 => ⟨_, rfl, ?_⟩)
    exact k s_2 hs_3 (by omega) (by omega) (by omega) (by omega) (by omega) (by omega) (by omega) (by omega) q_12 q_13 q_14 q_15 q_16 q_17 q_18 q_19 q_20 q_21 q_22 q_23 q_24
set_option maxRecDepth 100000 in
/-- GatheredPoints.begin [(1, 255, 'S4'), (-2147483648, 2147483647)] -/
theorem zx2834_2 {z : gH} {L d : Nat} {K : Option gV → gH → Prop} {s : gH} (p0 : Int) (p1 : Int) (hs : xM z s) (h_p0 : 1 ≤ p0 ∧ p0 ≤ 255) (h_p1 : (-2147483648) ≤ p1 ∧ p1 ≤ 2147483647) (g_p0 : gm_cnt (BitVec.ofInt 64 p0) 64 > 3) (q0 : gp_I s 1 2 = 0) (q1 : gp_I s 1 6 = 0) (q2 : gp_I s 1 7 = 1) (q3 : gp_I s 51 8 = 0) (q4 : gp_I s 57 1 = 0) (q5 : gp_I s 57 3 = 0) (q6 : gp_I s 60 8 = 0) (q7 : gp_R s 25 6 = none) (q8 : gp_R s 25 7 = none) (q9 : gp_R s 25 8 = none) (q10 : gp_R s 25 9 = none) (q11 : ∀ k, k < 8 → gp_R s 4 k = some 25) (q12 : gp_R s 51 6 = some 55) (q13 : gp_R s 51 7 = some 56) (q14 : ∀ k, k < 3 → gp_R s 52 k = some 25) (q15 : gp_R s 60 6 = some 64) (q16 : gp_R s 60 7 = some 65) (q17 : ∀ k, k < 3 → gp_R s 61 k = some 25) (q18 : gp_us s = 606895) (q19 : gp_sz s = 117) (k : ∀ (t : gH), xM z t → (gp_I t 1 2 = 0) → (gp_I t 1 6 = 0) → (gp_I t 1 7 = 1) → ((-2147483648) ≤ gp_I t 2 1 ∧ gp_I t 2 1 ≤ 2147483647) → (gp_I t 51 8 = 0) → (gp_I t 57 1 = 0) → (gp_I t 57 3 = 0) → (gp_I t 60 8 = 0) → (gp_R t 25 6 = none) → (gp_R t 25 7 = none) → (gp_R t 25 8 = none) → (gp_R t 25 9 = none) → (∀ k, k < 8 → gp_R t 4 k = some 25) → (gp_R t 51 6 = some 55) → (gp_R t 51 7 = some 56) → (∀ k, k < 3 → gp_R t 52 k = some 25) → (gp_R t 60 6 = some 64) → (gp_R t 60 7 = some 65) → (∀ k, k < 3 → gp_R t 61 k = some 25) → (gp_us t = 606895) → (gp_sz t = 117) → K (some (gp_i (-1000000001))) t) : gs_C L (d + 2) 2834 3 [gp_r (some 1), gp_i p0, gp_i p1] s K := by
  refine s_2834_e _ _ ?_
  refine zx_noSet4 _ hs (by omega) g_p0 (⟨_, rfl, ?_⟩)
  refine ⟨fun h_1 => ?_, fun h_1 => ?_⟩
  · exfalso; omega
  · refine s_2834_14 _ _ ?_
    refine zx2855_10 hs (by omega) (by omega) (by omega) (by omega) (by omega) (by omega) (by omega) q7 q8 q9 q10 q11 q12 q13 q14 q15 q16 q17 q18 q19 (fun s_2 hs_3 q_4 q_5 q_6 q_7 q_8 q_9 q_10 q_11 q_12 q_13 q_14 q_15 q_16 q_17 q_18 q_19 q_20 q_21 q_22 q_23 q_24 => ⟨_, rfl, ?_⟩)
    exact k s_2 hs_3 (by omega) (by omega) (by omega) (by omega) (by omega) (by omega) (by omega) (by omega) q_12 q_13 q_14 q_15 q_16 q_17 q_18 q_19 q_20 q_21 q_22 q_23 q_24
set_option maxRecDepth 100000 in
/-- GatheredPoints.begin [(1, 255, 'S3'), (-2147483648, -1)] -/
theorem zx2834_3 {z : gH} {L d : Nat} {K : Option gV → gH → Prop} {s : gH} (p0 : Int) (p1 : Int) (hs : xM z s) (h_p0 : 1 ≤ p0 ∧ p0 ≤ 255) (h_p1 : (-2147483648) ≤ p1 ∧ p1 ≤ (-1)) (g_p0 : gm_cnt (BitVec.ofInt 64 p0) 64 ≤ 3) (q0 : gp_I s 1 2 = 0) (q1 : gp_I s 1 6 = 0) (q2 : gp_I s 1 7 = 1) (q3 : gp_I s 51 8 = 0) (q4 : gp_I s 57 1 = 0) (q5 : gp_I s 57 3 = 0) (q6 : gp_I s 60 8 = 0) (q7 : gp_R s 25 6 = none) (q8 : gp_R s 25 7 = none) (q9 : gp_R s 25 8 = none) (q10 : gp_R s 25 9 = none) (q11 : ∀ k, k < 8 → gp_R s 4 k = some 25) (q12 : gp_R s 51 6 = some 55) (q13 : gp_R s 51 7 = some 56) (q14 : ∀ k, k < 3 → gp_R s 52 k = some 25) (q15 : gp_R s 60 6 = some 64) (q16 : gp_R s 60 7 = some 65) (q17 : ∀ k, k < 3 → gp_R s 61 k = some 25) (q18 : gp_us s = 606895) (q19 : gp_sz s = 117) (k : ∀ (t : gH), xM z t → (gp_I t 1 2 = 0) → (gp_I t 1 6 = 0) → (gp_I t 1 7 = 1) → ((-2147483648) ≤ gp_I t 2 1 ∧ gp_I t 2 1 ≤ 2147483647) → (gp_I t 51 8 = 0) → (gp_I t 57 1 = 0) → (gp_I t 57 3 = 0) → (gp_I t 60 8 = 0) → (gp_R t 25 6 = none) → (gp_R t 25 7 = none) → (gp_R t 25 8 = none) → (gp_R t 25 9 = none) → (∀ k, k < 8 → gp_R t 4 k = some 25) → (gp_R t 51 6 = some 55) → (gp_R t 51 7 = some 56) → (∀ k, k < 3 → gp_R t 52 k = some 25) → (gp_R t 60 6 = some 64) → (gp_R t 60 7 = some 65) → (∀ k, k < 3 → gp_R t 61 k = some 25) → (gp_us t = 606895) → (gp_sz t = 117) → K (some (gp_i (-1000000001))) t) : gs_C L (d + 2) 2834 3 [gp_r (some 1), gp_i p0, gp_i p1] s K := by
  refine s_2834_e _ _ ?_
  refine zx_noSet3 _ hs (by omega) g_p0 (⟨_, rfl, ?_⟩)
  refine ⟨fun h_1 => ?_, fun h_1 => ?_⟩
  · refine zx2857_0 _ hs (by omega) (by omega) (by omega) (by omega) (by omega) (by omega) (by omega) q7 q8 q9 q10 q11 q12 q13 (⟨_, rfl, ?_⟩)
    refine ⟨fun h_2 => ?_, fun h_2 => ?_⟩
    · exfalso; omega
    · refine s_2834_14 _ _ ?_
      refine zx2855_10 hs (by omega) (by omega) (by omega) (by omega) (by omega) (by omega) (by omega) q7 q8 q9 q10 q11 q12 q13 q14 q15 q16 q17 q18 q19 (fun s_3 hs_4 q_5 q_6 q_7 q_8 q_9 q_10 q_11 q_12 q_13 q_14 q_15 q_16 q_17 q_18 q_19 q_20 q_21 q_22 q_23 q_24 q_25 => ⟨_, rfl, ?_⟩)
      exact k s_3 hs_4 (by omega) (by omega) (by omega) (by omega) (by omega) (by omega) (by omega) (by omega) q_13 q_14 q_15 q_16 q_17 q_18 q_19 q_20 q_21 q_22 q_23 q_24 q_25
  · exfalso; omega
set_option maxRecDepth 100000 in
/-- GatheredPoints.begin [(1, 255, 'S3'), (2, 2147483647)] -/
theorem zx2834_4 {z : gH} {L d : Nat} {K : Option gV → gH → Prop} {s : gH} (p0 : Int) (p1 : Int) (hs : xM z s) (h_p0 : 1 ≤ p0 ∧ p0 ≤ 255) (h_p1 : 2 ≤ p1 ∧ p1 ≤ 2147483647) (g_p0 : gm_cnt (BitVec.ofInt 64 p0) 64 ≤ 3) (q0 : gp_I s 1 2 = 0) (q1 : gp_I s 1 6 = 0) (q2 : gp_I s 1 7 = 1) (q3 : gp_I s 51 8 = 0) (q4 : gp_I s 57 1 = 0) (q5 : gp_I s 57 3 = 0) (q6 : gp_I s 60 8 = 0) (q7 : gp_R s 25 6 = none) (q8 : gp_R s 25 7 = none) (q9 : gp_R s 25 8 = none) (q10 : gp_R s 25 9 = none) (q11 : ∀ k, k < 8 → gp_R s 4 k = some 25) (q12 : gp_R s 51 6 = some 55) (q13 : gp_R s 51 7 = some 56) (q14 : ∀ k, k < 3 → gp_R s 52 k = some 25) (q15 : gp_R s 60 6 = some 64) (q16 : gp_R s 60 7 = some 65) (q17 : ∀ k, k < 3 → gp_R s 61 k = some 25) (q18 : gp_us s = 606895) (q19 : gp_sz s = 117) (k : ∀ (t : gH), xM z t → (gp_I t 1 2 = 0) → (gp_I t 1 6 = 0) → (gp_I t 1 7 = 1) → ((-2147483648) ≤ gp_I t 2 1 ∧ gp_I t 2 1 ≤ 2147483647) → (gp_I t 51 8 = 0) → (gp_I t 57 1 = 0) → (gp_I t 57 3 = 0) → (gp_I t 60 8 = 0) → (gp_R t 25 6 = none) → (gp_R t 25 7 = none) → (gp_R t 25 8 = none) → (gp_R t 25 9 = none) → (∀ k, k < 8 → gp_R t 4 k = some 25) → (gp_R t 51 6 = some 55) → (gp_R t 51 7 = some 56) → (∀ k, k < 3 → gp_R t 52 k = some 25) → (gp_R t 60 6 = some 64) → (gp_R t 60 7 = some 65) → (∀ k, k < 3 → gp_R t 61 k = some 25) → (gp_us t = 606895) → (gp_sz t = 117) → K (some (gp_i (-1000000001))) t) : gs_C L (d + 2) 2834 3 [gp_r (some 1), gp_i p0, gp_i p1] s K := by
  refine s_2834_e _ _ ?_
  refine zx_noSet3 _ hs (by omega) g_p0 (⟨_, rfl, ?_⟩)
  refine ⟨fun h_1 => ?_, fun h_1 => ?_⟩
  · refine zx2857_1 _ hs (by omega) (by omega) (by omega) (by omega) (by omega) (by omega) (by omega) q7 q8 q9 q10 q11 q12 q13 (⟨_, rfl, ?_⟩)
    refine ⟨fun h_2 => ?_, fun h_2 => ?_⟩
    · exfalso; omega
    · refine s_2834_14 _ _ ?_
      refine zx2855_10 hs (by omega) (by omega) (by omega) (by omega) (by omega) (by omega) (by omega) q7 q8 q9 q10 q11 q12 q13 q14 q15 q16 q17 q18 q19 (fun s_3 hs_4 q_5 q_6 q_7 q_8 q_9 q_10 q_11 q_12 q_13 q_14 q_15 q_16 q_17 q_18 q_19 q_20 q_21 q_22 q_23 q_24 q_25 => ⟨_, rfl, ?_⟩)
      exact k s_3 hs_4 (by omega) (by omega) (by omega) (by omega) (by omega) (by omega) (by omega) (by omega) q_13 q_14 q_15 q_16 q_17 q_18 q_19 q_20 q_21 q_22 q_23 q_24 q_25
  · exfalso; omega
set_option maxRecDepth 100000 in
/-- Sum.stand [60, (0, 0), 25] -/
theorem zx2050_5 {z : gH} {L d : Nat} {K : Option gV → gH → Prop} {s : gH}  (hs : xM z s)  (q0 : gp_I s 1 2 = 0) (q1 : gp_I s 1 6 = 0) (q2 : gp_I s 1 7 = 1) (q3 : gp_I s 51 8 = 0) (q4 : gp_I s 57 1 = 0) (q5 : gp_I s 57 3 = 0) (q6 : gp_I s 60 4 = 0) (q7 : gp_I s 60 8 = 0) (q8 : gp_R s 25 6 = none) (q9 : gp_R s 25 7 = none) (q10 : gp_R s 25 8 = none) (q11 : gp_R s 25 9 = none) (q12 : ∀ k, k < 8 → gp_R s 4 k = some 25) (q13 : gp_R s 51 6 = some 55) (q14 : gp_R s 51 7 = some 56) (q15 : ∀ k, k < 3 → gp_R s 52 k = some 25) (q16 : gp_R s 60 6 = some 64) (q17 : gp_R s 60 7 = some 65) (q18 : ∀ k, k < 3 → gp_R s 61 k = some 25) (q19 : gp_us s = 606895) (q20 : gp_sz s = 117) (k : ∀ (t : gH), xM z t → (gp_I t 1 2 = 0) → (gp_I t 1 6 = 0) → (gp_I t 1 7 = 1) → (gp_I t 51 8 = 0) → (gp_I t 57 1 = 0) → (gp_I t 57 3 = 0) → (gp_I t 60 4 = 0) → (gp_I t 60 8 = 0) → (gp_R t 25 6 = none) → (gp_R t 25 7 = none) → (gp_R t 25 8 = none) → (gp_R t 25 9 = none) → (∀ k, k < 8 → gp_R t 4 k = some 25) → (gp_R t 51 6 = some 55) → (gp_R t 51 7 = some 56) → (∀ k, k < 3 → gp_R t 52 k = some 25) → (gp_R t 60 6 = some 64) → (gp_R t 60 7 = some 65) → (∀ k, k < 3 → gp_R t 61 k = some 25) → (gp_us t = 606895) → (gp_sz t = 117) → K none t) : gs_C L (d + 1) 2050 3 [gp_r (some 60), gp_i 0, gp_r (some 25)] s K := by
  refine s_2050_e _ _ _ ?_
  refine ⟨60, rfl, ?_⟩
  refine ⟨rfl, ?_⟩
  try rw [show gp_I s 60 8 = 0 from q7]
  refine ⟨fun h_1 => ?_, fun h_1 => ?_⟩
  · refine s_2050_22 _ _ _ _ ?_
    refine s_2050_23 _ _ _ _ _ ?_
    refine ⟨60, rfl, ?_⟩
    refine ⟨rfl, ?_⟩
    refine ⟨by omega, ?_⟩
    intro s_8 e_9
    have hs_10 : xM z s_8 := by rw [e_9]; exact xw60_8 hs 0 _
    have q_11 : gp_I s_8 1 2 = 0 := by rw [e_9]; exact q0
    have q_12 : gp_I s_8 1 6 = 0 := by rw [e_9]; exact q1
    have q_13 : gp_I s_8 1 7 = 1 := by rw [e_9]; exact q2
    have q_14 : gp_I s_8 51 8 = 0 := by rw [e_9]; exact q3
    have q_15 : gp_I s_8 57 1 = 0 := by rw [e_9]; exact q4
    have q_16 : gp_I s_8 57 3 = 0 := by rw [e_9]; exact q5
    have q_17 : gp_I s_8 60 4 = 0 := by rw [e_9]; exact q6
    have q_18 : gp_R s_8 25 6 = none := by rw [e_9]; exact q8
    have q_19 : gp_R s_8 25 7 = none := by rw [e_9]; exact q9
    have q_20 : gp_R s_8 25 8 = none := by rw [e_9]; exact q10
    have q_21 : gp_R s_8 25 9 = none := by rw [e_9]; exact q11
    have q_22 : ∀ k, k < 8 → gp_R s_8 4 k = some 25 := by rw [e_9]; exact q12
    have q_23 : gp_R s_8 51 6 = some 55 := by rw [e_9]; exact q13
    have q_24 : gp_R s_8 51 7 = some 56 := by rw [e_9]; exact q14
    have q_25 : ∀ k, k < 3 → gp_R s_8 52 k = some 25 := by rw [e_9]; exact q15
    have q_26 : gp_R s_8 60 6 = some 64 := by rw [e_9]; exact q16
    have q_27 : gp_R s_8 60 7 = some 65 := by rw [e_9]; exact q17
    have q_28 : ∀ k, k < 3 → gp_R s_8 61 k = some 25 := by rw [e_9]; exact q18
    have q_29 : gp_us s_8 = 606895 := by rw [e_9]; exact q19
    have q_30 : gp_sz s_8 = 117 := by rw [e_9]; exact q20
    have q_31 : gp_I s_8 60 8 = 0 := by rw [e_9]; rfl
    refine ⟨60, rfl, ?_⟩
    refine ⟨rfl, ?_⟩
    try rw [show gp_R (gp_mk L s_8) 60 0 = some 61 from rfl]
    refine ⟨25, rfl, ?_⟩
    refine ⟨61, rfl, ?_⟩
    refine ⟨⟨rfl, by show 0 ≤ 0 ∧ 0 < 3; omega⟩, ?_⟩
    refine ⟨rfl, ?_⟩
    refine ⟨rfl, ?_⟩
    intro s_33 e_34
    have hs_35 : xM z s_33 := by rw [e_34]; exact xI.wR hs_10 _ _ _
    have q_36 : gp_I s_33 1 2 = 0 := by rw [e_34]; exact q_11
    have q_37 : gp_I s_33 1 6 = 0 := by rw [e_34]; exact q_12
    have q_38 : gp_I s_33 1 7 = 1 := by rw [e_34]; exact q_13
    have q_39 : gp_I s_33 51 8 = 0 := by rw [e_34]; exact q_14
    have q_40 : gp_I s_33 57 1 = 0 := by rw [e_34]; exact q_15
    have q_41 : gp_I s_33 57 3 = 0 := by rw [e_34]; exact q_16
    have q_42 : gp_I s_33 60 4 = 0 := by rw [e_34]; exact q_17
    have q_43 : gp_R s_33 25 6 = none := by rw [e_34]; exact q_18
    have q_44 : gp_R s_33 25 7 = none := by rw [e_34]; exact q_19
    have q_45 : gp_R s_33 25 8 = none := by rw [e_34]; exact q_20
    have q_46 : gp_R s_33 25 9 = none := by rw [e_34]; exact q_21
    have q_47 : ∀ k, k < 8 → gp_R s_33 4 k = some 25 := by rw [e_34]; exact q_22
    have q_48 : gp_R s_33 51 6 = some 55 := by rw [e_34]; exact q_23
    have q_49 : gp_R s_33 51 7 = some 56 := by rw [e_34]; exact q_24
    have q_50 : ∀ k, k < 3 → gp_R s_33 52 k = some 25 := by rw [e_34]; exact q_25
    have q_51 : gp_R s_33 60 6 = some 64 := by rw [e_34]; exact q_26
    have q_52 : gp_R s_33 60 7 = some 65 := by rw [e_34]; exact q_27
    have q_53 : ∀ k, k < 3 → gp_R s_33 61 k = some 25 := by rw [e_34]; exact gz_starR q_28
    have q_54 : gp_us s_33 = 606895 := by rw [e_34]; exact q_29
    have q_55 : gp_sz s_33 = 117 := by rw [e_34]; exact q_30
    have q_56 : gp_I s_33 60 8 = 0 := by rw [e_34]; exact q_31
    refine ⟨rfl, ?_⟩
    try rw [show gp_R (gp_mk L s_33) 60 1 = some 62 from rfl]
    refine ⟨rfl, ?_⟩
    refine zx2306_0 hs_35 q_43 q_44 q_45 q_46 (⟨_, rfl, ?_⟩)
    refine ⟨62, rfl, ?_⟩
    refine ⟨⟨rfl, by show 0 ≤ 0 ∧ 0 < 3; omega⟩, ?_⟩
    intro s_57 e_58
    have hs_59 : xM z s_57 := by rw [e_58]; exact xw62 hs_35 _ _ (by omega)
    have q_60 : gp_I s_57 1 2 = 0 := by rw [e_58]; exact q_36
    have q_61 : gp_I s_57 1 6 = 0 := by rw [e_58]; exact q_37
    have q_62 : gp_I s_57 1 7 = 1 := by rw [e_58]; exact q_38
    have q_63 : gp_I s_57 51 8 = 0 := by rw [e_58]; exact q_39
    have q_64 : gp_I s_57 57 1 = 0 := by rw [e_58]; exact q_40
    have q_65 : gp_I s_57 57 3 = 0 := by rw [e_58]; exact q_41
    have q_66 : gp_I s_57 60 4 = 0 := by rw [e_58]; exact q_42
    have q_67 : gp_R s_57 25 6 = none := by rw [e_58]; exact q_43
    have q_68 : gp_R s_57 25 7 = none := by rw [e_58]; exact q_44
    have q_69 : gp_R s_57 25 8 = none := by rw [e_58]; exact q_45
    have q_70 : gp_R s_57 25 9 = none := by rw [e_58]; exact q_46
    have q_71 : ∀ k, k < 8 → gp_R s_57 4 k = some 25 := by rw [e_58]; exact q_47
    have q_72 : gp_R s_57 51 6 = some 55 := by rw [e_58]; exact q_48
    have q_73 : gp_R s_57 51 7 = some 56 := by rw [e_58]; exact q_49
    have q_74 : ∀ k, k < 3 → gp_R s_57 52 k = some 25 := by rw [e_58]; exact q_50
    have q_75 : gp_R s_57 60 6 = some 64 := by rw [e_58]; exact q_51
    have q_76 : gp_R s_57 60 7 = some 65 := by rw [e_58]; exact q_52
    have q_77 : ∀ k, k < 3 → gp_R s_57 61 k = some 25 := by rw [e_58]; exact q_53
    have q_78 : gp_us s_57 = 606895 := by rw [e_58]; exact q_54
    have q_79 : gp_sz s_57 = 117 := by rw [e_58]; exact q_55
    have q_80 : gp_I s_57 60 8 = 0 := by rw [e_58]; exact q_56
    exact k s_57 hs_59 (by omega) (by omega) (by omega) (by omega) (by omega) (by omega) (by omega) (by omega) q_67 q_68 q_69 q_70 q_71 q_72 q_73 q_74 q_75 q_76 q_77 q_78 q_79
  · exfalso; omega
set_option maxRecDepth 100000 in
/-- Sum.stand [60, (0, 1), 25] -/
theorem zx2050_6 {z : gH} {L d : Nat} {K : Option gV → gH → Prop} {s : gH} (p0 : Int) (hs : xM z s) (h_p0 : 0 ≤ p0 ∧ p0 ≤ 1) (q0 : gp_I s 1 2 = 0) (q1 : gp_I s 1 6 = 0) (q2 : gp_I s 1 7 = 1) (q3 : gp_I s 51 8 = 0) (q4 : gp_I s 57 1 = 0) (q5 : gp_I s 57 3 = 0) (q6 : 0 ≤ gp_I s 60 4 ∧ gp_I s 60 4 ≤ 1) (q7 : gp_I s 60 8 = 0) (q8 : gp_R s 25 6 = none) (q9 : gp_R s 25 7 = none) (q10 : gp_R s 25 8 = none) (q11 : gp_R s 25 9 = none) (q12 : ∀ k, k < 8 → gp_R s 4 k = some 25) (q13 : gp_R s 51 6 = some 55) (q14 : gp_R s 51 7 = some 56) (q15 : ∀ k, k < 3 → gp_R s 52 k = some 25) (q16 : gp_R s 60 6 = some 64) (q17 : gp_R s 60 7 = some 65) (q18 : ∀ k, k < 3 → gp_R s 61 k = some 25) (q19 : gp_us s = 606895) (q20 : gp_sz s = 117) (k : ∀ (t : gH), xM z t → (gp_I t 1 2 = 0) → (gp_I t 1 6 = 0) → (gp_I t 1 7 = 1) → (gp_I t 51 8 = 0) → (gp_I t 57 1 = 0) → (gp_I t 57 3 = 0) → (0 ≤ gp_I t 60 4 ∧ gp_I t 60 4 ≤ 1) → (gp_I t 60 8 = 0) → (gp_R t 25 6 = none) → (gp_R t 25 7 = none) → (gp_R t 25 8 = none) → (gp_R t 25 9 = none) → (∀ k, k < 8 → gp_R t 4 k = some 25) → (gp_R t 51 6 = some 55) → (gp_R t 51 7 = some 56) → (∀ k, k < 3 → gp_R t 52 k = some 25) → (gp_R t 60 6 = some 64) → (gp_R t 60 7 = some 65) → (∀ k, k < 3 → gp_R t 61 k = some 25) → (gp_us t = 606895) → (gp_sz t = 117) → K none t) : gs_C L (d + 1) 2050 3 [gp_r (some 60), gp_i p0, gp_r (some 25)] s K := by
  refine s_2050_e _ _ _ ?_
  refine ⟨60, rfl, ?_⟩
  refine ⟨rfl, ?_⟩
  try rw [show gp_I s 60 8 = 0 from q7]
  refine ⟨fun h_1 => ?_, fun h_1 => ?_⟩
  · refine s_2050_22 _ _ _ _ ?_
    refine s_2050_23 _ _ _ _ _ ?_
    refine ⟨60, rfl, ?_⟩
    refine ⟨rfl, ?_⟩
    refine ⟨by omega, ?_⟩
    intro s_8 e_9
    have hs_10 : xM z s_8 := by rw [e_9]; exact xw60_8 hs 0 _
    have q_11 : gp_I s_8 1 2 = 0 := by rw [e_9]; exact q0
    have q_12 : gp_I s_8 1 6 = 0 := by rw [e_9]; exact q1
    have q_13 : gp_I s_8 1 7 = 1 := by rw [e_9]; exact q2
    have q_14 : gp_I s_8 51 8 = 0 := by rw [e_9]; exact q3
    have q_15 : gp_I s_8 57 1 = 0 := by rw [e_9]; exact q4
    have q_16 : gp_I s_8 57 3 = 0 := by rw [e_9]; exact q5
    have q_17 : 0 ≤ gp_I s_8 60 4 ∧ gp_I s_8 60 4 ≤ 1 := by rw [e_9]; exact q6
    have q_18 : gp_R s_8 25 6 = none := by rw [e_9]; exact q8
    have q_19 : gp_R s_8 25 7 = none := by rw [e_9]; exact q9
    have q_20 : gp_R s_8 25 8 = none := by rw [e_9]; exact q10
    have q_21 : gp_R s_8 25 9 = none := by rw [e_9]; exact q11
    have q_22 : ∀ k, k < 8 → gp_R s_8 4 k = some 25 := by rw [e_9]; exact q12
    have q_23 : gp_R s_8 51 6 = some 55 := by rw [e_9]; exact q13
    have q_24 : gp_R s_8 51 7 = some 56 := by rw [e_9]; exact q14
    have q_25 : ∀ k, k < 3 → gp_R s_8 52 k = some 25 := by rw [e_9]; exact q15
    have q_26 : gp_R s_8 60 6 = some 64 := by rw [e_9]; exact q16
    have q_27 : gp_R s_8 60 7 = some 65 := by rw [e_9]; exact q17
    have q_28 : ∀ k, k < 3 → gp_R s_8 61 k = some 25 := by rw [e_9]; exact q18
    have q_29 : gp_us s_8 = 606895 := by rw [e_9]; exact q19
    have q_30 : gp_sz s_8 = 117 := by rw [e_9]; exact q20
    have q_31 : gp_I s_8 60 8 = 0 := by rw [e_9]; rfl
    refine ⟨60, rfl, ?_⟩
    refine ⟨rfl, ?_⟩
    try rw [show gp_R (gp_mk L s_8) 60 0 = some 61 from rfl]
    refine ⟨25, rfl, ?_⟩
    refine ⟨61, rfl, ?_⟩
    refine ⟨⟨rfl, by show 0 ≤ p0 ∧ p0 < 3; omega⟩, ?_⟩
    refine ⟨rfl, ?_⟩
    refine ⟨rfl, ?_⟩
    intro s_33 e_34
    have hs_35 : xM z s_33 := by rw [e_34]; exact xI.wR hs_10 _ _ _
    have q_36 : gp_I s_33 1 2 = 0 := by rw [e_34]; exact q_11
    have q_37 : gp_I s_33 1 6 = 0 := by rw [e_34]; exact q_12
    have q_38 : gp_I s_33 1 7 = 1 := by rw [e_34]; exact q_13
    have q_39 : gp_I s_33 51 8 = 0 := by rw [e_34]; exact q_14
    have q_40 : gp_I s_33 57 1 = 0 := by rw [e_34]; exact q_15
    have q_41 : gp_I s_33 57 3 = 0 := by rw [e_34]; exact q_16
    have q_42 : 0 ≤ gp_I s_33 60 4 ∧ gp_I s_33 60 4 ≤ 1 := by rw [e_34]; exact q_17
    have q_43 : gp_R s_33 25 6 = none := by rw [e_34]; exact q_18
    have q_44 : gp_R s_33 25 7 = none := by rw [e_34]; exact q_19
    have q_45 : gp_R s_33 25 8 = none := by rw [e_34]; exact q_20
    have q_46 : gp_R s_33 25 9 = none := by rw [e_34]; exact q_21
    have q_47 : ∀ k, k < 8 → gp_R s_33 4 k = some 25 := by rw [e_34]; exact q_22
    have q_48 : gp_R s_33 51 6 = some 55 := by rw [e_34]; exact q_23
    have q_49 : gp_R s_33 51 7 = some 56 := by rw [e_34]; exact q_24
    have q_50 : ∀ k, k < 3 → gp_R s_33 52 k = some 25 := by rw [e_34]; exact q_25
    have q_51 : gp_R s_33 60 6 = some 64 := by rw [e_34]; exact q_26
    have q_52 : gp_R s_33 60 7 = some 65 := by rw [e_34]; exact q_27
    have q_53 : ∀ k, k < 3 → gp_R s_33 61 k = some 25 := by rw [e_34]; exact gz_starR q_28
    have q_54 : gp_us s_33 = 606895 := by rw [e_34]; exact q_29
    have q_55 : gp_sz s_33 = 117 := by rw [e_34]; exact q_30
    have q_56 : gp_I s_33 60 8 = 0 := by rw [e_34]; exact q_31
    refine ⟨rfl, ?_⟩
    try rw [show gp_R (gp_mk L s_33) 60 1 = some 62 from rfl]
    refine ⟨rfl, ?_⟩
    refine zx2306_0 hs_35 q_43 q_44 q_45 q_46 (⟨_, rfl, ?_⟩)
    refine ⟨62, rfl, ?_⟩
    refine ⟨⟨rfl, by show 0 ≤ p0 ∧ p0 < 3; omega⟩, ?_⟩
    intro s_57 e_58
    have hs_59 : xM z s_57 := by rw [e_58]; exact xw62 hs_35 _ _ (by omega)
    have q_60 : gp_I s_57 1 2 = 0 := by rw [e_58]; exact q_36
    have q_61 : gp_I s_57 1 6 = 0 := by rw [e_58]; exact q_37
    have q_62 : gp_I s_57 1 7 = 1 := by rw [e_58]; exact q_38
    have q_63 : gp_I s_57 51 8 = 0 := by rw [e_58]; exact q_39
    have q_64 : gp_I s_57 57 1 = 0 := by rw [e_58]; exact q_40
    have q_65 : gp_I s_57 57 3 = 0 := by rw [e_58]; exact q_41
    have q_66 : 0 ≤ gp_I s_57 60 4 ∧ gp_I s_57 60 4 ≤ 1 := by rw [e_58]; exact q_42
    have q_67 : gp_R s_57 25 6 = none := by rw [e_58]; exact q_43
    have q_68 : gp_R s_57 25 7 = none := by rw [e_58]; exact q_44
    have q_69 : gp_R s_57 25 8 = none := by rw [e_58]; exact q_45
    have q_70 : gp_R s_57 25 9 = none := by rw [e_58]; exact q_46
    have q_71 : ∀ k, k < 8 → gp_R s_57 4 k = some 25 := by rw [e_58]; exact q_47
    have q_72 : gp_R s_57 51 6 = some 55 := by rw [e_58]; exact q_48
    have q_73 : gp_R s_57 51 7 = some 56 := by rw [e_58]; exact q_49
    have q_74 : ∀ k, k < 3 → gp_R s_57 52 k = some 25 := by rw [e_58]; exact q_50
    have q_75 : gp_R s_57 60 6 = some 64 := by rw [e_58]; exact q_51
    have q_76 : gp_R s_57 60 7 = some 65 := by rw [e_58]; exact q_52
    have q_77 : ∀ k, k < 3 → gp_R s_57 61 k = some 25 := by rw [e_58]; exact q_53
    have q_78 : gp_us s_57 = 606895 := by rw [e_58]; exact q_54
    have q_79 : gp_sz s_57 = 117 := by rw [e_58]; exact q_55
    have q_80 : gp_I s_57 60 8 = 0 := by rw [e_58]; exact q_56
    exact k s_57 hs_59 (by omega) (by omega) (by omega) (by omega) (by omega) (by omega) (by omega) (by omega) q_67 q_68 q_69 q_70 q_71 q_72 q_73 q_74 q_75 q_76 q_77 q_78 q_79
  · exfalso; omega
set_option maxRecDepth 100000 in
/-- Sum.stand [60, (0, 2), 25] -/
theorem zx2050_7 {z : gH} {L d : Nat} {K : Option gV → gH → Prop} {s : gH} (p0 : Int) (hs : xM z s) (h_p0 : 0 ≤ p0 ∧ p0 ≤ 2) (q0 : gp_I s 1 2 = 0) (q1 : gp_I s 1 6 = 0) (q2 : gp_I s 1 7 = 1) (q3 : gp_I s 51 8 = 0) (q4 : gp_I s 57 1 = 0) (q5 : gp_I s 57 3 = 0) (q6 : 0 ≤ gp_I s 60 4 ∧ gp_I s 60 4 ≤ 2) (q7 : gp_I s 60 8 = 0) (q8 : gp_R s 25 6 = none) (q9 : gp_R s 25 7 = none) (q10 : gp_R s 25 8 = none) (q11 : gp_R s 25 9 = none) (q12 : ∀ k, k < 8 → gp_R s 4 k = some 25) (q13 : gp_R s 51 6 = some 55) (q14 : gp_R s 51 7 = some 56) (q15 : ∀ k, k < 3 → gp_R s 52 k = some 25) (q16 : gp_R s 60 6 = some 64) (q17 : gp_R s 60 7 = some 65) (q18 : ∀ k, k < 3 → gp_R s 61 k = some 25) (q19 : gp_us s = 606895) (q20 : gp_sz s = 117) (k : ∀ (t : gH), xM z t → (gp_I t 1 2 = 0) → (gp_I t 1 6 = 0) → (gp_I t 1 7 = 1) → (gp_I t 51 8 = 0) → (gp_I t 57 1 = 0) → (gp_I t 57 3 = 0) → (0 ≤ gp_I t 60 4 ∧ gp_I t 60 4 ≤ 2) → (gp_I t 60 8 = 0) → (gp_R t 25 6 = none) → (gp_R t 25 7 = none) → (gp_R t 25 8 = none) → (gp_R t 25 9 = none) → (∀ k, k < 8 → gp_R t 4 k = some 25) → (gp_R t 51 6 = some 55) → (gp_R t 51 7 = some 56) → (∀ k, k < 3 → gp_R t 52 k = some 25) → (gp_R t 60 6 = some 64) → (gp_R t 60 7 = some 65) → (∀ k, k < 3 → gp_R t 61 k = some 25) → (gp_us t = 606895) → (gp_sz t = 117) → K none t) : gs_C L (d + 1) 2050 3 [gp_r (some 60), gp_i p0, gp_r (some 25)] s K := by
  refine s_2050_e _ _ _ ?_
  refine ⟨60, rfl, ?_⟩
  refine ⟨rfl, ?_⟩
  try rw [show gp_I s 60 8 = 0 from q7]
  refine ⟨fun h_1 => ?_, fun h_1 => ?_⟩
  · refine s_2050_22 _ _ _ _ ?_
    refine s_2050_23 _ _ _ _ _ ?_
    refine ⟨60, rfl, ?_⟩
    refine ⟨rfl, ?_⟩
    refine ⟨by omega, ?_⟩
    intro s_8 e_9
    have hs_10 : xM z s_8 := by rw [e_9]; exact xw60_8 hs 0 _
    have q_11 : gp_I s_8 1 2 = 0 := by rw [e_9]; exact q0
    have q_12 : gp_I s_8 1 6 = 0 := by rw [e_9]; exact q1
    have q_13 : gp_I s_8 1 7 = 1 := by rw [e_9]; exact q2
    have q_14 : gp_I s_8 51 8 = 0 := by rw [e_9]; exact q3
    have q_15 : gp_I s_8 57 1 = 0 := by rw [e_9]; exact q4
    have q_16 : gp_I s_8 57 3 = 0 := by rw [e_9]; exact q5
    have q_17 : 0 ≤ gp_I s_8 60 4 ∧ gp_I s_8 60 4 ≤ 2 := by rw [e_9]; exact q6
    have q_18 : gp_R s_8 25 6 = none := by rw [e_9]; exact q8
    have q_19 : gp_R s_8 25 7 = none := by rw [e_9]; exact q9
    have q_20 : gp_R s_8 25 8 = none := by rw [e_9]; exact q10
    have q_21 : gp_R s_8 25 9 = none := by rw [e_9]; exact q11
    have q_22 : ∀ k, k < 8 → gp_R s_8 4 k = some 25 := by rw [e_9]; exact q12
    have q_23 : gp_R s_8 51 6 = some 55 := by rw [e_9]; exact q13
    have q_24 : gp_R s_8 51 7 = some 56 := by rw [e_9]; exact q14
    have q_25 : ∀ k, k < 3 → gp_R s_8 52 k = some 25 := by rw [e_9]; exact q15
    have q_26 : gp_R s_8 60 6 = some 64 := by rw [e_9]; exact q16
    have q_27 : gp_R s_8 60 7 = some 65 := by rw [e_9]; exact q17
    have q_28 : ∀ k, k < 3 → gp_R s_8 61 k = some 25 := by rw [e_9]; exact q18
    have q_29 : gp_us s_8 = 606895 := by rw [e_9]; exact q19
    have q_30 : gp_sz s_8 = 117 := by rw [e_9]; exact q20
    have q_31 : gp_I s_8 60 8 = 0 := by rw [e_9]; rfl
    refine ⟨60, rfl, ?_⟩
    refine ⟨rfl, ?_⟩
    try rw [show gp_R (gp_mk L s_8) 60 0 = some 61 from rfl]
    refine ⟨25, rfl, ?_⟩
    refine ⟨61, rfl, ?_⟩
    refine ⟨⟨rfl, by show 0 ≤ p0 ∧ p0 < 3; omega⟩, ?_⟩
    refine ⟨rfl, ?_⟩
    refine ⟨rfl, ?_⟩
    intro s_33 e_34
    have hs_35 : xM z s_33 := by rw [e_34]; exact xI.wR hs_10 _ _ _
    have q_36 : gp_I s_33 1 2 = 0 := by rw [e_34]; exact q_11
    have q_37 : gp_I s_33 1 6 = 0 := by rw [e_34]; exact q_12
    have q_38 : gp_I s_33 1 7 = 1 := by rw [e_34]; exact q_13
    have q_39 : gp_I s_33 51 8 = 0 := by rw [e_34]; exact q_14
    have q_40 : gp_I s_33 57 1 = 0 := by rw [e_34]; exact q_15
    have q_41 : gp_I s_33 57 3 = 0 := by rw [e_34]; exact q_16
    have q_42 : 0 ≤ gp_I s_33 60 4 ∧ gp_I s_33 60 4 ≤ 2 := by rw [e_34]; exact q_17
    have q_43 : gp_R s_33 25 6 = none := by rw [e_34]; exact q_18
    have q_44 : gp_R s_33 25 7 = none := by rw [e_34]; exact q_19
    have q_45 : gp_R s_33 25 8 = none := by rw [e_34]; exact q_20
    have q_46 : gp_R s_33 25 9 = none := by rw [e_34]; exact q_21
    have q_47 : ∀ k, k < 8 → gp_R s_33 4 k = some 25 := by rw [e_34]; exact q_22
    have q_48 : gp_R s_33 51 6 = some 55 := by rw [e_34]; exact q_23
    have q_49 : gp_R s_33 51 7 = some 56 := by rw [e_34]; exact q_24
    have q_50 : ∀ k, k < 3 → gp_R s_33 52 k = some 25 := by rw [e_34]; exact q_25
    have q_51 : gp_R s_33 60 6 = some 64 := by rw [e_34]; exact q_26
    have q_52 : gp_R s_33 60 7 = some 65 := by rw [e_34]; exact q_27
    have q_53 : ∀ k, k < 3 → gp_R s_33 61 k = some 25 := by rw [e_34]; exact gz_starR q_28
    have q_54 : gp_us s_33 = 606895 := by rw [e_34]; exact q_29
    have q_55 : gp_sz s_33 = 117 := by rw [e_34]; exact q_30
    have q_56 : gp_I s_33 60 8 = 0 := by rw [e_34]; exact q_31
    refine ⟨rfl, ?_⟩
    try rw [show gp_R (gp_mk L s_33) 60 1 = some 62 from rfl]
    refine ⟨rfl, ?_⟩
    refine zx2306_0 hs_35 q_43 q_44 q_45 q_46 (⟨_, rfl, ?_⟩)
    refine ⟨62, rfl, ?_⟩
    refine ⟨⟨rfl, by show 0 ≤ p0 ∧ p0 < 3; omega⟩, ?_⟩
    intro s_57 e_58
    have hs_59 : xM z s_57 := by rw [e_58]; exact xw62 hs_35 _ _ (by omega)
    have q_60 : gp_I s_57 1 2 = 0 := by rw [e_58]; exact q_36
    have q_61 : gp_I s_57 1 6 = 0 := by rw [e_58]; exact q_37
    have q_62 : gp_I s_57 1 7 = 1 := by rw [e_58]; exact q_38
    have q_63 : gp_I s_57 51 8 = 0 := by rw [e_58]; exact q_39
    have q_64 : gp_I s_57 57 1 = 0 := by rw [e_58]; exact q_40
    have q_65 : gp_I s_57 57 3 = 0 := by rw [e_58]; exact q_41
    have q_66 : 0 ≤ gp_I s_57 60 4 ∧ gp_I s_57 60 4 ≤ 2 := by rw [e_58]; exact q_42
    have q_67 : gp_R s_57 25 6 = none := by rw [e_58]; exact q_43
    have q_68 : gp_R s_57 25 7 = none := by rw [e_58]; exact q_44
    have q_69 : gp_R s_57 25 8 = none := by rw [e_58]; exact q_45
    have q_70 : gp_R s_57 25 9 = none := by rw [e_58]; exact q_46
    have q_71 : ∀ k, k < 8 → gp_R s_57 4 k = some 25 := by rw [e_58]; exact q_47
    have q_72 : gp_R s_57 51 6 = some 55 := by rw [e_58]; exact q_48
    have q_73 : gp_R s_57 51 7 = some 56 := by rw [e_58]; exact q_49
    have q_74 : ∀ k, k < 3 → gp_R s_57 52 k = some 25 := by rw [e_58]; exact q_50
    have q_75 : gp_R s_57 60 6 = some 64 := by rw [e_58]; exact q_51
    have q_76 : gp_R s_57 60 7 = some 65 := by rw [e_58]; exact q_52
    have q_77 : ∀ k, k < 3 → gp_R s_57 61 k = some 25 := by rw [e_58]; exact q_53
    have q_78 : gp_us s_57 = 606895 := by rw [e_58]; exact q_54
    have q_79 : gp_sz s_57 = 117 := by rw [e_58]; exact q_55
    have q_80 : gp_I s_57 60 8 = 0 := by rw [e_58]; exact q_56
    exact k s_57 hs_59 (by omega) (by omega) (by omega) (by omega) (by omega) (by omega) (by omega) (by omega) q_67 q_68 q_69 q_70 q_71 q_72 q_73 q_74 q_75 q_76 q_77 q_78 q_79
  · exfalso; omega
set_option maxRecDepth 100000 in
/-- Sum.stand [60, (1, 2), 25] -/
theorem zx2050_8 {z : gH} {L d : Nat} {K : Option gV → gH → Prop} {s : gH} (p0 : Int) (hs : xM z s) (h_p0 : 1 ≤ p0 ∧ p0 ≤ 2) (q0 : gp_I s 1 2 = 0) (q1 : gp_I s 1 6 = 0) (q2 : gp_I s 1 7 = 1) (q3 : gp_I s 51 8 = 0) (q4 : gp_I s 57 1 = 0) (q5 : gp_I s 57 3 = 0) (q6 : 0 ≤ gp_I s 60 4 ∧ gp_I s 60 4 ≤ 2) (q7 : gp_I s 60 8 = 0) (q8 : gp_R s 25 6 = none) (q9 : gp_R s 25 7 = none) (q10 : gp_R s 25 8 = none) (q11 : gp_R s 25 9 = none) (q12 : ∀ k, k < 8 → gp_R s 4 k = some 25) (q13 : gp_R s 51 6 = some 55) (q14 : gp_R s 51 7 = some 56) (q15 : ∀ k, k < 3 → gp_R s 52 k = some 25) (q16 : gp_R s 60 6 = some 64) (q17 : gp_R s 60 7 = some 65) (q18 : ∀ k, k < 3 → gp_R s 61 k = some 25) (q19 : gp_us s = 606895) (q20 : gp_sz s = 117) (k : ∀ (t : gH), xM z t → (gp_I t 1 2 = 0) → (gp_I t 1 6 = 0) → (gp_I t 1 7 = 1) → (gp_I t 51 8 = 0) → (gp_I t 57 1 = 0) → (gp_I t 57 3 = 0) → (0 ≤ gp_I t 60 4 ∧ gp_I t 60 4 ≤ 2) → (gp_I t 60 8 = 0) → (gp_R t 25 6 = none) → (gp_R t 25 7 = none) → (gp_R t 25 8 = none) → (gp_R t 25 9 = none) → (∀ k, k < 8 → gp_R t 4 k = some 25) → (gp_R t 51 6 = some 55) → (gp_R t 51 7 = some 56) → (∀ k, k < 3 → gp_R t 52 k = some 25) → (gp_R t 60 6 = some 64) → (gp_R t 60 7 = some 65) → (∀ k, k < 3 → gp_R t 61 k = some 25) → (gp_us t = 606895) → (gp_sz t = 117) → K none t) : gs_C L (d + 1) 2050 3 [gp_r (some 60), gp_i p0, gp_r (some 25)] s K := by
  refine s_2050_e _ _ _ ?_
  refine ⟨60, rfl, ?_⟩
  refine ⟨rfl, ?_⟩
  try rw [show gp_I s 60 8 = 0 from q7]
  refine ⟨fun h_1 => ?_, fun h_1 => ?_⟩
  · refine s_2050_22 _ _ _ _ ?_
    refine s_2050_23 _ _ _ _ _ ?_
    refine ⟨60, rfl, ?_⟩
    refine ⟨rfl, ?_⟩
    refine ⟨by omega, ?_⟩
    intro s_8 e_9
    have hs_10 : xM z s_8 := by rw [e_9]; exact xw60_8 hs 0 _
    have q_11 : gp_I s_8 1 2 = 0 := by rw [e_9]; exact q0
    have q_12 : gp_I s_8 1 6 = 0 := by rw [e_9]; exact q1
    have q_13 : gp_I s_8 1 7 = 1 := by rw [e_9]; exact q2
    have q_14 : gp_I s_8 51 8 = 0 := by rw [e_9]; exact q3
    have q_15 : gp_I s_8 57 1 = 0 := by rw [e_9]; exact q4
    have q_16 : gp_I s_8 57 3 = 0 := by rw [e_9]; exact q5
    have q_17 : 0 ≤ gp_I s_8 60 4 ∧ gp_I s_8 60 4 ≤ 2 := by rw [e_9]; exact q6
    have q_18 : gp_R s_8 25 6 = none := by rw [e_9]; exact q8
    have q_19 : gp_R s_8 25 7 = none := by rw [e_9]; exact q9
    have q_20 : gp_R s_8 25 8 = none := by rw [e_9]; exact q10
    have q_21 : gp_R s_8 25 9 = none := by rw [e_9]; exact q11
    have q_22 : ∀ k, k < 8 → gp_R s_8 4 k = some 25 := by rw [e_9]; exact q12
    have q_23 : gp_R s_8 51 6 = some 55 := by rw [e_9]; exact q13
    have q_24 : gp_R s_8 51 7 = some 56 := by rw [e_9]; exact q14
    have q_25 : ∀ k, k < 3 → gp_R s_8 52 k = some 25 := by rw [e_9]; exact q15
    have q_26 : gp_R s_8 60 6 = some 64 := by rw [e_9]; exact q16
    have q_27 : gp_R s_8 60 7 = some 65 := by rw [e_9]; exact q17
    have q_28 : ∀ k, k < 3 → gp_R s_8 61 k = some 25 := by rw [e_9]; exact q18
    have q_29 : gp_us s_8 = 606895 := by rw [e_9]; exact q19
    have q_30 : gp_sz s_8 = 117 := by rw [e_9]; exact q20
    have q_31 : gp_I s_8 60 8 = 0 := by rw [e_9]; rfl
    refine ⟨60, rfl, ?_⟩
    refine ⟨rfl, ?_⟩
    try rw [show gp_R (gp_mk L s_8) 60 0 = some 61 from rfl]
    refine ⟨25, rfl, ?_⟩
    refine ⟨61, rfl, ?_⟩
    refine ⟨⟨rfl, by show 0 ≤ p0 ∧ p0 < 3; omega⟩, ?_⟩
    refine ⟨rfl, ?_⟩
    refine ⟨rfl, ?_⟩
    intro s_33 e_34
    have hs_35 : xM z s_33 := by rw [e_34]; exact xI.wR hs_10 _ _ _
    have q_36 : gp_I s_33 1 2 = 0 := by rw [e_34]; exact q_11
    have q_37 : gp_I s_33 1 6 = 0 := by rw [e_34]; exact q_12
    have q_38 : gp_I s_33 1 7 = 1 := by rw [e_34]; exact q_13
    have q_39 : gp_I s_33 51 8 = 0 := by rw [e_34]; exact q_14
    have q_40 : gp_I s_33 57 1 = 0 := by rw [e_34]; exact q_15
    have q_41 : gp_I s_33 57 3 = 0 := by rw [e_34]; exact q_16
    have q_42 : 0 ≤ gp_I s_33 60 4 ∧ gp_I s_33 60 4 ≤ 2 := by rw [e_34]; exact q_17
    have q_43 : gp_R s_33 25 6 = none := by rw [e_34]; exact q_18
    have q_44 : gp_R s_33 25 7 = none := by rw [e_34]; exact q_19
    have q_45 : gp_R s_33 25 8 = none := by rw [e_34]; exact q_20
    have q_46 : gp_R s_33 25 9 = none := by rw [e_34]; exact q_21
    have q_47 : ∀ k, k < 8 → gp_R s_33 4 k = some 25 := by rw [e_34]; exact q_22
    have q_48 : gp_R s_33 51 6 = some 55 := by rw [e_34]; exact q_23
    have q_49 : gp_R s_33 51 7 = some 56 := by rw [e_34]; exact q_24
    have q_50 : ∀ k, k < 3 → gp_R s_33 52 k = some 25 := by rw [e_34]; exact q_25
    have q_51 : gp_R s_33 60 6 = some 64 := by rw [e_34]; exact q_26
    have q_52 : gp_R s_33 60 7 = some 65 := by rw [e_34]; exact q_27
    have q_53 : ∀ k, k < 3 → gp_R s_33 61 k = some 25 := by rw [e_34]; exact gz_starR q_28
    have q_54 : gp_us s_33 = 606895 := by rw [e_34]; exact q_29
    have q_55 : gp_sz s_33 = 117 := by rw [e_34]; exact q_30
    have q_56 : gp_I s_33 60 8 = 0 := by rw [e_34]; exact q_31
    refine ⟨rfl, ?_⟩
    try rw [show gp_R (gp_mk L s_33) 60 1 = some 62 from rfl]
    refine ⟨rfl, ?_⟩
    refine zx2306_0 hs_35 q_43 q_44 q_45 q_46 (⟨_, rfl, ?_⟩)
    refine ⟨62, rfl, ?_⟩
    refine ⟨⟨rfl, by show 0 ≤ p0 ∧ p0 < 3; omega⟩, ?_⟩
    intro s_57 e_58
    have hs_59 : xM z s_57 := by rw [e_58]; exact xw62 hs_35 _ _ (by omega)
    have q_60 : gp_I s_57 1 2 = 0 := by rw [e_58]; exact q_36
    have q_61 : gp_I s_57 1 6 = 0 := by rw [e_58]; exact q_37
    have q_62 : gp_I s_57 1 7 = 1 := by rw [e_58]; exact q_38
    have q_63 : gp_I s_57 51 8 = 0 := by rw [e_58]; exact q_39
    have q_64 : gp_I s_57 57 1 = 0 := by rw [e_58]; exact q_40
    have q_65 : gp_I s_57 57 3 = 0 := by rw [e_58]; exact q_41
    have q_66 : 0 ≤ gp_I s_57 60 4 ∧ gp_I s_57 60 4 ≤ 2 := by rw [e_58]; exact q_42
    have q_67 : gp_R s_57 25 6 = none := by rw [e_58]; exact q_43
    have q_68 : gp_R s_57 25 7 = none := by rw [e_58]; exact q_44
    have q_69 : gp_R s_57 25 8 = none := by rw [e_58]; exact q_45
    have q_70 : gp_R s_57 25 9 = none := by rw [e_58]; exact q_46
    have q_71 : ∀ k, k < 8 → gp_R s_57 4 k = some 25 := by rw [e_58]; exact q_47
    have q_72 : gp_R s_57 51 6 = some 55 := by rw [e_58]; exact q_48
    have q_73 : gp_R s_57 51 7 = some 56 := by rw [e_58]; exact q_49
    have q_74 : ∀ k, k < 3 → gp_R s_57 52 k = some 25 := by rw [e_58]; exact q_50
    have q_75 : gp_R s_57 60 6 = some 64 := by rw [e_58]; exact q_51
    have q_76 : gp_R s_57 60 7 = some 65 := by rw [e_58]; exact q_52
    have q_77 : ∀ k, k < 3 → gp_R s_57 61 k = some 25 := by rw [e_58]; exact q_53
    have q_78 : gp_us s_57 = 606895 := by rw [e_58]; exact q_54
    have q_79 : gp_sz s_57 = 117 := by rw [e_58]; exact q_55
    have q_80 : gp_I s_57 60 8 = 0 := by rw [e_58]; exact q_56
    exact k s_57 hs_59 (by omega) (by omega) (by omega) (by omega) (by omega) (by omega) (by omega) (by omega) q_67 q_68 q_69 q_70 q_71 q_72 q_73 q_74 q_75 q_76 q_77 q_78 q_79
  · exfalso; omega
set_option maxRecDepth 100000 in
/-- Sum.stand [60, (2, 2), 25] -/
theorem zx2050_9 {z : gH} {L d : Nat} {K : Option gV → gH → Prop} {s : gH}  (hs : xM z s)  (q0 : gp_I s 1 2 = 0) (q1 : gp_I s 1 6 = 0) (q2 : gp_I s 1 7 = 1) (q3 : gp_I s 51 8 = 0) (q4 : gp_I s 57 1 = 0) (q5 : gp_I s 57 3 = 0) (q6 : 0 ≤ gp_I s 60 4 ∧ gp_I s 60 4 ≤ 2) (q7 : gp_I s 60 8 = 0) (q8 : gp_R s 25 6 = none) (q9 : gp_R s 25 7 = none) (q10 : gp_R s 25 8 = none) (q11 : gp_R s 25 9 = none) (q12 : ∀ k, k < 8 → gp_R s 4 k = some 25) (q13 : gp_R s 51 6 = some 55) (q14 : gp_R s 51 7 = some 56) (q15 : ∀ k, k < 3 → gp_R s 52 k = some 25) (q16 : gp_R s 60 6 = some 64) (q17 : gp_R s 60 7 = some 65) (q18 : ∀ k, k < 3 → gp_R s 61 k = some 25) (q19 : gp_us s = 606895) (q20 : gp_sz s = 117) (k : ∀ (t : gH), xM z t → (gp_I t 1 2 = 0) → (gp_I t 1 6 = 0) → (gp_I t 1 7 = 1) → (gp_I t 51 8 = 0) → (gp_I t 57 1 = 0) → (gp_I t 57 3 = 0) → (0 ≤ gp_I t 60 4 ∧ gp_I t 60 4 ≤ 2) → (gp_I t 60 8 = 0) → (gp_R t 25 6 = none) → (gp_R t 25 7 = none) → (gp_R t 25 8 = none) → (gp_R t 25 9 = none) → (∀ k, k < 8 → gp_R t 4 k = some 25) → (gp_R t 51 6 = some 55) → (gp_R t 51 7 = some 56) → (∀ k, k < 3 → gp_R t 52 k = some 25) → (gp_R t 60 6 = some 64) → (gp_R t 60 7 = some 65) → (∀ k, k < 3 → gp_R t 61 k = some 25) → (gp_us t = 606895) → (gp_sz t = 117) → K none t) : gs_C L (d + 1) 2050 3 [gp_r (some 60), gp_i 2, gp_r (some 25)] s K := by
  refine s_2050_e _ _ _ ?_
  refine ⟨60, rfl, ?_⟩
  refine ⟨rfl, ?_⟩
  try rw [show gp_I s 60 8 = 0 from q7]
  refine ⟨fun h_1 => ?_, fun h_1 => ?_⟩
  · refine s_2050_22 _ _ _ _ ?_
    refine s_2050_23 _ _ _ _ _ ?_
    refine ⟨60, rfl, ?_⟩
    refine ⟨rfl, ?_⟩
    refine ⟨by omega, ?_⟩
    intro s_8 e_9
    have hs_10 : xM z s_8 := by rw [e_9]; exact xw60_8 hs 0 _
    have q_11 : gp_I s_8 1 2 = 0 := by rw [e_9]; exact q0
    have q_12 : gp_I s_8 1 6 = 0 := by rw [e_9]; exact q1
    have q_13 : gp_I s_8 1 7 = 1 := by rw [e_9]; exact q2
    have q_14 : gp_I s_8 51 8 = 0 := by rw [e_9]; exact q3
    have q_15 : gp_I s_8 57 1 = 0 := by rw [e_9]; exact q4
    have q_16 : gp_I s_8 57 3 = 0 := by rw [e_9]; exact q5
    have q_17 : 0 ≤ gp_I s_8 60 4 ∧ gp_I s_8 60 4 ≤ 2 := by rw [e_9]; exact q6
    have q_18 : gp_R s_8 25 6 = none := by rw [e_9]; exact q8
    have q_19 : gp_R s_8 25 7 = none := by rw [e_9]; exact q9
    have q_20 : gp_R s_8 25 8 = none := by rw [e_9]; exact q10
    have q_21 : gp_R s_8 25 9 = none := by rw [e_9]; exact q11
    have q_22 : ∀ k, k < 8 → gp_R s_8 4 k = some 25 := by rw [e_9]; exact q12
    have q_23 : gp_R s_8 51 6 = some 55 := by rw [e_9]; exact q13
    have q_24 : gp_R s_8 51 7 = some 56 := by rw [e_9]; exact q14
    have q_25 : ∀ k, k < 3 → gp_R s_8 52 k = some 25 := by rw [e_9]; exact q15
    have q_26 : gp_R s_8 60 6 = some 64 := by rw [e_9]; exact q16
    have q_27 : gp_R s_8 60 7 = some 65 := by rw [e_9]; exact q17
    have q_28 : ∀ k, k < 3 → gp_R s_8 61 k = some 25 := by rw [e_9]; exact q18
    have q_29 : gp_us s_8 = 606895 := by rw [e_9]; exact q19
    have q_30 : gp_sz s_8 = 117 := by rw [e_9]; exact q20
    have q_31 : gp_I s_8 60 8 = 0 := by rw [e_9]; rfl
    refine ⟨60, rfl, ?_⟩
    refine ⟨rfl, ?_⟩
    try rw [show gp_R (gp_mk L s_8) 60 0 = some 61 from rfl]
    refine ⟨25, rfl, ?_⟩
    refine ⟨61, rfl, ?_⟩
    refine ⟨⟨rfl, by show 0 ≤ 2 ∧ 2 < 3; omega⟩, ?_⟩
    refine ⟨rfl, ?_⟩
    refine ⟨rfl, ?_⟩
    intro s_33 e_34
    have hs_35 : xM z s_33 := by rw [e_34]; exact xI.wR hs_10 _ _ _
    have q_36 : gp_I s_33 1 2 = 0 := by rw [e_34]; exact q_11
    have q_37 : gp_I s_33 1 6 = 0 := by rw [e_34]; exact q_12
    have q_38 : gp_I s_33 1 7 = 1 := by rw [e_34]; exact q_13
    have q_39 : gp_I s_33 51 8 = 0 := by rw [e_34]; exact q_14
    have q_40 : gp_I s_33 57 1 = 0 := by rw [e_34]; exact q_15
    have q_41 : gp_I s_33 57 3 = 0 := by rw [e_34]; exact q_16
    have q_42 : 0 ≤ gp_I s_33 60 4 ∧ gp_I s_33 60 4 ≤ 2 := by rw [e_34]; exact q_17
    have q_43 : gp_R s_33 25 6 = none := by rw [e_34]; exact q_18
    have q_44 : gp_R s_33 25 7 = none := by rw [e_34]; exact q_19
    have q_45 : gp_R s_33 25 8 = none := by rw [e_34]; exact q_20
    have q_46 : gp_R s_33 25 9 = none := by rw [e_34]; exact q_21
    have q_47 : ∀ k, k < 8 → gp_R s_33 4 k = some 25 := by rw [e_34]; exact q_22
    have q_48 : gp_R s_33 51 6 = some 55 := by rw [e_34]; exact q_23
    have q_49 : gp_R s_33 51 7 = some 56 := by rw [e_34]; exact q_24
    have q_50 : ∀ k, k < 3 → gp_R s_33 52 k = some 25 := by rw [e_34]; exact q_25
    have q_51 : gp_R s_33 60 6 = some 64 := by rw [e_34]; exact q_26
    have q_52 : gp_R s_33 60 7 = some 65 := by rw [e_34]; exact q_27
    have q_53 : ∀ k, k < 3 → gp_R s_33 61 k = some 25 := by rw [e_34]; exact gz_starR q_28
    have q_54 : gp_us s_33 = 606895 := by rw [e_34]; exact q_29
    have q_55 : gp_sz s_33 = 117 := by rw [e_34]; exact q_30
    have q_56 : gp_I s_33 60 8 = 0 := by rw [e_34]; exact q_31
    refine ⟨rfl, ?_⟩
    try rw [show gp_R (gp_mk L s_33) 60 1 = some 62 from rfl]
    refine ⟨rfl, ?_⟩
    refine zx2306_0 hs_35 q_43 q_44 q_45 q_46 (⟨_, rfl, ?_⟩)
    refine ⟨62, rfl, ?_⟩
    refine ⟨⟨rfl, by show 0 ≤ 2 ∧ 2 < 3; omega⟩, ?_⟩
    intro s_57 e_58
    have hs_59 : xM z s_57 := by rw [e_58]; exact xw62 hs_35 _ _ (by omega)
    have q_60 : gp_I s_57 1 2 = 0 := by rw [e_58]; exact q_36
    have q_61 : gp_I s_57 1 6 = 0 := by rw [e_58]; exact q_37
    have q_62 : gp_I s_57 1 7 = 1 := by rw [e_58]; exact q_38
    have q_63 : gp_I s_57 51 8 = 0 := by rw [e_58]; exact q_39
    have q_64 : gp_I s_57 57 1 = 0 := by rw [e_58]; exact q_40
    have q_65 : gp_I s_57 57 3 = 0 := by rw [e_58]; exact q_41
    have q_66 : 0 ≤ gp_I s_57 60 4 ∧ gp_I s_57 60 4 ≤ 2 := by rw [e_58]; exact q_42
    have q_67 : gp_R s_57 25 6 = none := by rw [e_58]; exact q_43
    have q_68 : gp_R s_57 25 7 = none := by rw [e_58]; exact q_44
    have q_69 : gp_R s_57 25 8 = none := by rw [e_58]; exact q_45
    have q_70 : gp_R s_57 25 9 = none := by rw [e_58]; exact q_46
    have q_71 : ∀ k, k < 8 → gp_R s_57 4 k = some 25 := by rw [e_58]; exact q_47
    have q_72 : gp_R s_57 51 6 = some 55 := by rw [e_58]; exact q_48
    have q_73 : gp_R s_57 51 7 = some 56 := by rw [e_58]; exact q_49
    have q_74 : ∀ k, k < 3 → gp_R s_57 52 k = some 25 := by rw [e_58]; exact q_50
    have q_75 : gp_R s_57 60 6 = some 64 := by rw [e_58]; exact q_51
    have q_76 : gp_R s_57 60 7 = some 65 := by rw [e_58]; exact q_52
    have q_77 : ∀ k, k < 3 → gp_R s_57 61 k = some 25 := by rw [e_58]; exact q_53
    have q_78 : gp_us s_57 = 606895 := by rw [e_58]; exact q_54
    have q_79 : gp_sz s_57 = 117 := by rw [e_58]; exact q_55
    have q_80 : gp_I s_57 60 8 = 0 := by rw [e_58]; exact q_56
    exact k s_57 hs_59 (by omega) (by omega) (by omega) (by omega) (by omega) (by omega) (by omega) (by omega) q_67 q_68 q_69 q_70 q_71 q_72 q_73 q_74 q_75 q_76 q_77 q_78 q_79
  · exfalso; omega
set_option maxRecDepth 100000 in
/-- Sum.lay, the loop at 12 -/
theorem zx2049_1_l12_0 {z : gH} {L d : Nat} {K : Option gV → gH → Prop} (p0 : Int)  (k : ∀ (t : gH), xM z t → (gp_I t 1 2 = 0) → (gp_I t 1 6 = 0) → (gp_I t 1 7 = 1) → (gp_I t 51 8 = 0) → (gp_I t 57 1 = 0) → (gp_I t 57 3 = 0) → (0 ≤ gp_I t 60 4 ∧ gp_I t 60 4 ≤ 3) → (gp_I t 60 8 = 0) → (gp_R t 25 6 = none) → (gp_R t 25 7 = none) → (gp_R t 25 8 = none) → (gp_R t 25 9 = none) → (∀ k, k < 8 → gp_R t 4 k = some 25) → (gp_R t 51 6 = some 55) → (gp_R t 51 7 = some 56) → (∀ k, k < 3 → gp_R t 52 k = some 25) → (gp_R t 60 6 = some 64) → (gp_R t 60 7 = some 65) → (∀ k, k < 3 → gp_R t 61 k = some 25) → (gp_us t = 606895) → (gp_sz t = 117) → K none t)  : ∀ (n : Nat) (v0 : Option Nat) (v1 : Int) (v2 : Option Nat) (v3 : Int) (s : gH), xM z s → (9 - v3).toNat < n → (v0 = some 60) → (1 ≤ v1 ∧ v1 ≤ 255) → (v2 = some 4) → (0 ≤ v3 ∧ v3 ≤ 8) → (gp_I s 1 2 = 0) → (gp_I s 1 6 = 0) → (gp_I s 1 7 = 1) → (gp_I s 51 8 = 0) → (gp_I s 57 1 = 0) → (gp_I s 57 3 = 0) → (0 ≤ gp_I s 60 4 ∧ gp_I s 60 4 ≤ 3) → (gp_I s 60 8 = 0) → (gp_R s 25 6 = none) → (gp_R s 25 7 = none) → (gp_R s 25 8 = none) → (gp_R s 25 9 = none) → (∀ k, k < 8 → gp_R s 4 k = some 25) → (gp_R s 51 6 = some 55) → (gp_R s 51 7 = some 56) → (∀ k, k < 3 → gp_R s 52 k = some 25) → (gp_R s 60 6 = some 64) → (gp_R s 60 7 = some 65) → (∀ k, k < 3 → gp_R s 61 k = some 25) → (gp_us s = 606895) → (gp_sz s = 117) → gs_E L (d + 2) 2049 12 [gp_r v0, gp_i v1, gp_r v2, gp_i v3] [] s K := by
  intro n
  induction n with
  | zero => intro v0 v1 v2 v3 s hs hm i0 i1 i2 i3 i4 i5 i6 i7 i8 i9 i10 i11 i12 i13 i14 i15 i16 i17 i18 i19 i20 i21 i22 i23 i24; exact absurd hm (Nat.not_lt_zero _)
  | succ n ih =>
    intro v0 v1 v2 v3 s hs hm i0 i1 i2 i3 i4 i5 i6 i7 i8 i9 i10 i11 i12 i13 i14 i15 i16 i17 i18 i19 i20 i21 i22 i23 i24
    subst i0
    subst i2
    refine s_2049_12 _ _ _ _ ?_
    refine ⟨fun h_1 => ?_, fun h_1 => ?_⟩
    · refine ⟨60, rfl, ?_⟩
      refine ⟨rfl, ?_⟩
      refine ⟨fun h_2 => ?_, fun h_2 => ?_⟩
      · have q_4 : 0 ≤ gp_I s 60 4 ∧ gp_I s 60 4 ≤ 2 := by omega
        have q_3 : 0 ≤ gp_I s 60 4 ∧ gp_I s 60 4 ≤ 2 := q_4
        have w_5 := gz_and1 (gp_shr v1 v3)
        refine ⟨fun h_6 => ?_, fun h_6 => ?_⟩
        · have e_7 : gp_and (gp_shr v1 v3) 1 = 0 := by omega
          try rw [e_7]
          refine s_2049_65 _ _ _ _ ?_
          have w_10 := gz_w (v3 + 1)
          exact ih _ _ _ _ s hs (by omega) rfl (by omega) rfl (by omega) (by omega) (by omega) (by omega) (by omega) (by omega) (by omega) (by omega) (by omega) i12 i13 i14 i15 i16 i17 i18 i19 i20 i21 i22 i23 i24
        · have e_13 : gp_and (gp_shr v1 v3) 1 = 1 := by omega
          try rw [e_13]
          refine ⟨rfl, ?_⟩
          try rw [show gp_R (gp_mk L s) 60 3 = some 63 from rfl]
          refine ⟨rfl, ?_⟩
          refine ⟨63, rfl, ?_⟩
          refine ⟨⟨rfl, by show 0 ≤ gp_I s 60 4 ∧ gp_I s 60 4 < 3; omega⟩, ?_⟩
          intro s_14 e_15
          have hs_16 : xM z s_14 := by rw [e_15]; exact xw63 hs _ _ (by omega)
          have q_17 : gp_I s_14 1 2 = 0 := by rw [e_15]; exact i4
          have q_18 : gp_I s_14 1 6 = 0 := by rw [e_15]; exact i5
          have q_19 : gp_I s_14 1 7 = 1 := by rw [e_15]; exact i6
          have q_20 : gp_I s_14 51 8 = 0 := by rw [e_15]; exact i7
          have q_21 : gp_I s_14 57 1 = 0 := by rw [e_15]; exact i8
          have q_22 : gp_I s_14 57 3 = 0 := by rw [e_15]; exact i9
          have q_23 : 0 ≤ gp_I s_14 60 4 ∧ gp_I s_14 60 4 ≤ 2 := by rw [e_15]; exact q_3
          have q_24 : gp_I s_14 60 8 = 0 := by rw [e_15]; exact i11
          have q_25 : gp_R s_14 25 6 = none := by rw [e_15]; exact i12
          have q_26 : gp_R s_14 25 7 = none := by rw [e_15]; exact i13
          have q_27 : gp_R s_14 25 8 = none := by rw [e_15]; exact i14
          have q_28 : gp_R s_14 25 9 = none := by rw [e_15]; exact i15
          have q_29 : ∀ k, k < 8 → gp_R s_14 4 k = some 25 := by rw [e_15]; exact i16
          have q_30 : gp_R s_14 51 6 = some 55 := by rw [e_15]; exact i17
          have q_31 : gp_R s_14 51 7 = some 56 := by rw [e_15]; exact i18
          have q_32 : ∀ k, k < 3 → gp_R s_14 52 k = some 25 := by rw [e_15]; exact i19
          have q_33 : gp_R s_14 60 6 = some 64 := by rw [e_15]; exact i20
          have q_34 : gp_R s_14 60 7 = some 65 := by rw [e_15]; exact i21
          have q_35 : ∀ k, k < 3 → gp_R s_14 61 k = some 25 := by rw [e_15]; exact i22
          have q_36 : gp_us s_14 = 606895 := by rw [e_15]; exact i23
          have q_37 : gp_sz s_14 = 117 := by rw [e_15]; exact i24
          refine ⟨rfl, ?_⟩
          refine ⟨4, rfl, ?_⟩
          refine ⟨⟨rfl, by show 0 ≤ v3 ∧ v3 < 8; omega⟩, ?_⟩
          try rw [show gp_R (gp_mk L s_14) 4 v3.toNat = some 25 from (q_29 _ (by omega))]
          refine ⟨rfl, ?_⟩
          refine zx2050_7 _ hs_16 (by omega) (by omega) (by omega) (by omega) (by omega) (by omega) (by omega) (by omega) (by omega) q_25 q_26 q_27 q_28 q_29 q_30 q_31 q_32 q_33 q_34 q_35 q_36 q_37 (fun s_38 hs_39 q_40 q_41 q_42 q_43 q_44 q_45 q_46 q_47 q_48 q_49 q_50 q_51 q_52 q_53 q_54 q_55 q_56 q_57 q_58 q_59 q_60 => ⟨rfl, ?_⟩)
          refine ⟨rfl, ?_⟩
          have w_61 := gz_w ((gp_I s_38 60 4) + 1)
          refine ⟨rfl, ?_⟩
          intro s_62 e_63
          have hs_64 : xM z s_62 := by rw [e_63]; exact xw60_4 hs_39 0 _
          have q_65 : gp_I s_62 1 2 = 0 := by rw [e_63]; exact q_40
          have q_66 : gp_I s_62 1 6 = 0 := by rw [e_63]; exact q_41
          have q_67 : gp_I s_62 1 7 = 1 := by rw [e_63]; exact q_42
          have q_68 : gp_I s_62 51 8 = 0 := by rw [e_63]; exact q_43
          have q_69 : gp_I s_62 57 1 = 0 := by rw [e_63]; exact q_44
          have q_70 : gp_I s_62 57 3 = 0 := by rw [e_63]; exact q_45
          have q_71 : gp_I s_62 60 8 = 0 := by rw [e_63]; exact q_47
          have q_72 : gp_R s_62 25 6 = none := by rw [e_63]; exact q_48
          have q_73 : gp_R s_62 25 7 = none := by rw [e_63]; exact q_49
          have q_74 : gp_R s_62 25 8 = none := by rw [e_63]; exact q_50
          have q_75 : gp_R s_62 25 9 = none := by rw [e_63]; exact q_51
          have q_76 : ∀ k, k < 8 → gp_R s_62 4 k = some 25 := by rw [e_63]; exact q_52
          have q_77 : gp_R s_62 51 6 = some 55 := by rw [e_63]; exact q_53
          have q_78 : gp_R s_62 51 7 = some 56 := by rw [e_63]; exact q_54
          have q_79 : ∀ k, k < 3 → gp_R s_62 52 k = some 25 := by rw [e_63]; exact q_55
          have q_80 : gp_R s_62 60 6 = some 64 := by rw [e_63]; exact q_56
          have q_81 : gp_R s_62 60 7 = some 65 := by rw [e_63]; exact q_57
          have q_82 : ∀ k, k < 3 → gp_R s_62 61 k = some 25 := by rw [e_63]; exact q_58
          have q_83 : gp_us s_62 = 606895 := by rw [e_63]; exact q_59
          have q_84 : gp_sz s_62 = 117 := by rw [e_63]; exact q_60
          have q_85 : 1 ≤ gp_I s_62 60 4 ∧ gp_I s_62 60 4 ≤ 3 := by have x_86 : gp_I s_62 60 4 = gp_wr ((gp_I s_38 60 4) + 1) := (by rw [e_63]; rfl); omega
          refine s_2049_65 _ _ _ _ ?_
          have w_89 := gz_w (v3 + 1)
          exact ih _ _ _ _ s_62 hs_64 (by omega) rfl (by omega) rfl (by omega) (by omega) (by omega) (by omega) (by omega) (by omega) (by omega) (by omega) (by omega) q_72 q_73 q_74 q_75 q_76 q_77 q_78 q_79 q_80 q_81 q_82 q_83 q_84
      · have q_93 : gp_I s 60 4 = 3 := by omega
        have q_92 : gp_I s 60 4 = 3 := q_93
        have e_94 : gp_I s 60 4 = 3 := by omega
        try rw [e_94]
        refine s_2049_71 _ _ _ _ ?_
        refine ⟨60, rfl, ?_⟩
        refine ⟨rfl, ?_⟩
        try rw [show gp_I s 60 4 = 3 from q_92]
        refine s_2049_76 _ _ _ _ ?_
        refine ⟨fun h_99 => ?_, fun h_99 => ?_⟩
        · exfalso; omega
        · exact k s hs (by omega) (by omega) (by omega) (by omega) (by omega) (by omega) (by omega) (by omega) i12 i13 i14 i15 i16 i17 i18 i19 i20 i21 i22 i23 i24
    · have e_100 : v3 = 8 := by omega
      subst e_100
      refine s_2049_71 _ _ _ _ ?_
      refine ⟨60, rfl, ?_⟩
      refine ⟨rfl, ?_⟩
      refine s_2049_76 _ _ _ _ ?_
      refine ⟨fun h_105 => ?_, fun h_105 => ?_⟩
      · have q_107 : 0 ≤ gp_I s 60 4 ∧ gp_I s 60 4 ≤ 2 := by omega
        have q_106 : 0 ≤ gp_I s 60 4 ∧ gp_I s 60 4 ≤ 2 := q_107
        refine ⟨60, rfl, ?_⟩
        refine ⟨rfl, ?_⟩
        try rw [show gp_R (gp_mk L s) 60 5 = some 25 from rfl]
        refine ⟨rfl, ?_⟩
        refine zx2050_7 _ hs (by omega) (by omega) (by omega) (by omega) (by omega) (by omega) (by omega) (by omega) (by omega) i12 i13 i14 i15 i16 i17 i18 i19 i20 i21 i22 i23 i24 (fun s_108 hs_109 q_110 q_111 q_112 q_113 q_114 q_115 q_116 q_117 q_118 q_119 q_120 q_121 q_122 q_123 q_124 q_125 q_126 q_127 q_128 q_129 q_130 => ⟨rfl, ?_⟩)
        have w_131 := gz_w ((gp_I s 60 4) + 1)
        refine s_2049_76 _ _ _ _ ?_
        refine ⟨fun h_134 => ?_, fun h_134 => ?_⟩
        · refine ⟨60, rfl, ?_⟩
          refine ⟨rfl, ?_⟩
          try rw [show gp_R (gp_mk L s_108) 60 5 = some 25 from rfl]
          refine ⟨rfl, ?_⟩
          refine zx2050_8 _ hs_109 (by omega) (by omega) (by omega) (by omega) (by omega) (by omega) (by omega) (by omega) (by omega) q_118 q_119 q_120 q_121 q_122 q_123 q_124 q_125 q_126 q_127 q_128 q_129 q_130 (fun s_135 hs_136 q_137 q_138 q_139 q_140 q_141 q_142 q_143 q_144 q_145 q_146 q_147 q_148 q_149 q_150 q_151 q_152 q_153 q_154 q_155 q_156 q_157 => ⟨rfl, ?_⟩)
          have w_158 := gz_w ((gp_wr ((gp_I s 60 4) + 1)) + 1)
          refine s_2049_76 _ _ _ _ ?_
          refine ⟨fun h_161 => ?_, fun h_161 => ?_⟩
          · have e_162 : gp_wr ((gp_wr ((gp_I s 60 4) + 1)) + 1) = 2 := by omega
            try rw [e_162]
            refine ⟨60, rfl, ?_⟩
            refine ⟨rfl, ?_⟩
            try rw [show gp_R (gp_mk L s_135) 60 5 = some 25 from rfl]
            refine ⟨rfl, ?_⟩
            refine zx2050_9 hs_136 (by omega) (by omega) (by omega) (by omega) (by omega) (by omega) (by omega) (by omega) q_145 q_146 q_147 q_148 q_149 q_150 q_151 q_152 q_153 q_154 q_155 q_156 q_157 (fun s_163 hs_164 q_165 q_166 q_167 q_168 q_169 q_170 q_171 q_172 q_173 q_174 q_175 q_176 q_177 q_178 q_179 q_180 q_181 q_182 q_183 q_184 q_185 => ⟨rfl, ?_⟩)
            have w_186 := gz_w (2 + 1)
            have e_187 : gp_wr (2 + 1) = 3 := by omega
            try rw [e_187]
            refine s_2049_76 _ _ _ _ ?_
            refine ⟨fun h_190 => ?_, fun h_190 => ?_⟩
            · exfalso; omega
            · exact k s_163 hs_164 (by omega) (by omega) (by omega) (by omega) (by omega) (by omega) (by omega) (by omega) q_173 q_174 q_175 q_176 q_177 q_178 q_179 q_180 q_181 q_182 q_183 q_184 q_185
          · have e_191 : gp_wr ((gp_wr ((gp_I s 60 4) + 1)) + 1) = 3 := by omega
            try rw [e_191]
            exact k s_135 hs_136 (by omega) (by omega) (by omega) (by omega) (by omega) (by omega) (by omega) (by omega) q_145 q_146 q_147 q_148 q_149 q_150 q_151 q_152 q_153 q_154 q_155 q_156 q_157
        · have e_192 : gp_wr ((gp_I s 60 4) + 1) = 3 := by omega
          try rw [e_192]
          exact k s_108 hs_109 (by omega) (by omega) (by omega) (by omega) (by omega) (by omega) (by omega) (by omega) q_118 q_119 q_120 q_121 q_122 q_123 q_124 q_125 q_126 q_127 q_128 q_129 q_130
      · have q_194 : gp_I s 60 4 = 3 := by omega
        have q_193 : gp_I s 60 4 = 3 := q_194
        have e_195 : gp_I s 60 4 = 3 := by omega
        try rw [e_195]
        exact k s hs (by omega) (by omega) (by omega) (by omega) (by omega) (by omega) (by omega) (by omega) i12 i13 i14 i15 i16 i17 i18 i19 i20 i21 i22 i23 i24
set_option maxRecDepth 100000 in
/-- Sum.lay [60, (1, 255), 4] -/
theorem zx2049_1 {z : gH} {L d : Nat} {K : Option gV → gH → Prop} {s : gH} (p0 : Int) (hs : xM z s) (h_p0 : 1 ≤ p0 ∧ p0 ≤ 255) (q0 : gp_I s 1 2 = 0) (q1 : gp_I s 1 6 = 0) (q2 : gp_I s 1 7 = 1) (q3 : gp_I s 51 8 = 0) (q4 : gp_I s 57 1 = 0) (q5 : gp_I s 57 3 = 0) (q6 : gp_I s 60 8 = 0) (q7 : gp_R s 25 6 = none) (q8 : gp_R s 25 7 = none) (q9 : gp_R s 25 8 = none) (q10 : gp_R s 25 9 = none) (q11 : ∀ k, k < 8 → gp_R s 4 k = some 25) (q12 : gp_R s 51 6 = some 55) (q13 : gp_R s 51 7 = some 56) (q14 : ∀ k, k < 3 → gp_R s 52 k = some 25) (q15 : gp_R s 60 6 = some 64) (q16 : gp_R s 60 7 = some 65) (q17 : ∀ k, k < 3 → gp_R s 61 k = some 25) (q18 : gp_us s = 606895) (q19 : gp_sz s = 117) (k : ∀ (t : gH), xM z t → (gp_I t 1 2 = 0) → (gp_I t 1 6 = 0) → (gp_I t 1 7 = 1) → (gp_I t 51 8 = 0) → (gp_I t 57 1 = 0) → (gp_I t 57 3 = 0) → (0 ≤ gp_I t 60 4 ∧ gp_I t 60 4 ≤ 3) → (gp_I t 60 8 = 0) → (gp_R t 25 6 = none) → (gp_R t 25 7 = none) → (gp_R t 25 8 = none) → (gp_R t 25 9 = none) → (∀ k, k < 8 → gp_R t 4 k = some 25) → (gp_R t 51 6 = some 55) → (gp_R t 51 7 = some 56) → (∀ k, k < 3 → gp_R t 52 k = some 25) → (gp_R t 60 6 = some 64) → (gp_R t 60 7 = some 65) → (∀ k, k < 3 → gp_R t 61 k = some 25) → (gp_us t = 606895) → (gp_sz t = 117) → K none t) : gs_C L (d + 2) 2049 4 [gp_r (some 60), gp_i p0, gp_r (some 4)] s K := by
  refine s_2049_e _ _ _ ?_
  refine ⟨60, rfl, ?_⟩
  refine ⟨rfl, ?_⟩
  intro s_1 e_2
  have hs_3 : xM z s_1 := by rw [e_2]; exact xw60_2 hs 0 _
  have q_4 : gp_I s_1 1 2 = 0 := by rw [e_2]; exact q0
  have q_5 : gp_I s_1 1 6 = 0 := by rw [e_2]; exact q1
  have q_6 : gp_I s_1 1 7 = 1 := by rw [e_2]; exact q2
  have q_7 : gp_I s_1 51 8 = 0 := by rw [e_2]; exact q3
  have q_8 : gp_I s_1 57 1 = 0 := by rw [e_2]; exact q4
  have q_9 : gp_I s_1 57 3 = 0 := by rw [e_2]; exact q5
  have q_10 : gp_I s_1 60 8 = 0 := by rw [e_2]; exact q6
  have q_11 : gp_R s_1 25 6 = none := by rw [e_2]; exact q7
  have q_12 : gp_R s_1 25 7 = none := by rw [e_2]; exact q8
  have q_13 : gp_R s_1 25 8 = none := by rw [e_2]; exact q9
  have q_14 : gp_R s_1 25 9 = none := by rw [e_2]; exact q10
  have q_15 : ∀ k, k < 8 → gp_R s_1 4 k = some 25 := by rw [e_2]; exact q11
  have q_16 : gp_R s_1 51 6 = some 55 := by rw [e_2]; exact q12
  have q_17 : gp_R s_1 51 7 = some 56 := by rw [e_2]; exact q13
  have q_18 : ∀ k, k < 3 → gp_R s_1 52 k = some 25 := by rw [e_2]; exact q14
  have q_19 : gp_R s_1 60 6 = some 64 := by rw [e_2]; exact q15
  have q_20 : gp_R s_1 60 7 = some 65 := by rw [e_2]; exact q16
  have q_21 : ∀ k, k < 3 → gp_R s_1 61 k = some 25 := by rw [e_2]; exact q17
  have q_22 : gp_us s_1 = 606895 := by rw [e_2]; exact q18
  have q_23 : gp_sz s_1 = 117 := by rw [e_2]; exact q19
  refine ⟨rfl, ?_⟩
  intro s_24 e_25
  have hs_26 : xM z s_24 := by rw [e_25]; exact xw60_4 hs_3 0 _
  have q_27 : gp_I s_24 1 2 = 0 := by rw [e_25]; exact q_4
  have q_28 : gp_I s_24 1 6 = 0 := by rw [e_25]; exact q_5
  have q_29 : gp_I s_24 1 7 = 1 := by rw [e_25]; exact q_6
  have q_30 : gp_I s_24 51 8 = 0 := by rw [e_25]; exact q_7
  have q_31 : gp_I s_24 57 1 = 0 := by rw [e_25]; exact q_8
  have q_32 : gp_I s_24 57 3 = 0 := by rw [e_25]; exact q_9
  have q_33 : gp_I s_24 60 8 = 0 := by rw [e_25]; exact q_10
  have q_34 : gp_R s_24 25 6 = none := by rw [e_25]; exact q_11
  have q_35 : gp_R s_24 25 7 = none := by rw [e_25]; exact q_12
  have q_36 : gp_R s_24 25 8 = none := by rw [e_25]; exact q_13
  have q_37 : gp_R s_24 25 9 = none := by rw [e_25]; exact q_14
  have q_38 : ∀ k, k < 8 → gp_R s_24 4 k = some 25 := by rw [e_25]; exact q_15
  have q_39 : gp_R s_24 51 6 = some 55 := by rw [e_25]; exact q_16
  have q_40 : gp_R s_24 51 7 = some 56 := by rw [e_25]; exact q_17
  have q_41 : ∀ k, k < 3 → gp_R s_24 52 k = some 25 := by rw [e_25]; exact q_18
  have q_42 : gp_R s_24 60 6 = some 64 := by rw [e_25]; exact q_19
  have q_43 : gp_R s_24 60 7 = some 65 := by rw [e_25]; exact q_20
  have q_44 : ∀ k, k < 3 → gp_R s_24 61 k = some 25 := by rw [e_25]; exact q_21
  have q_45 : gp_us s_24 = 606895 := by rw [e_25]; exact q_22
  have q_46 : gp_sz s_24 = 117 := by rw [e_25]; exact q_23
  have q_47 : gp_I s_24 60 4 = 0 := by rw [e_25]; rfl
  exact zx2049_1_l12_0 p0 k _ _ _ _ _ s_24 hs_26 (Nat.lt_succ_self _) rfl (by omega) rfl (by omega) (by omega) (by omega) (by omega) (by omega) (by omega) (by omega) (by omega) (by omega) q_34 q_35 q_36 q_37 q_38 q_39 q_40 q_41 q_42 q_43 q_44 q_45 q_46
set_option maxRecDepth 100000 in
/-- Match.start [(1, 255), (0, 0), 4] -/
theorem zx513_0 {z : gH} {L d : Nat} {K : Option gV → gH → Prop} {s : gH} (p0 : Int) (hs : xM z s) (h_p0 : 1 ≤ p0 ∧ p0 ≤ 255) (q0 : gp_I s 1 2 = 0) (q1 : gp_I s 1 6 = 0) (q2 : gp_I s 1 7 = 1) (q3 : gp_I s 51 8 = 0) (q4 : gp_I s 57 1 = 0) (q5 : gp_I s 57 3 = 0) (q6 : gp_I s 60 8 = 0) (q7 : gp_R s 25 6 = none) (q8 : gp_R s 25 7 = none) (q9 : gp_R s 25 8 = none) (q10 : gp_R s 25 9 = none) (q11 : ∀ k, k < 8 → gp_R s 4 k = some 25) (q12 : gp_R s 51 6 = some 55) (q13 : gp_R s 51 7 = some 56) (q14 : ∀ k, k < 3 → gp_R s 52 k = some 25) (q15 : gp_R s 60 6 = some 64) (q16 : gp_R s 60 7 = some 65) (q17 : ∀ k, k < 3 → gp_R s 61 k = some 25) (q18 : gp_us s = 606895) (q19 : gp_sz s = 117) (k : ∀ (t : gH), xM z t → (gp_I t 1 2 = 0) → (gp_I t 1 6 = 0) → (gp_I t 1 7 = 1) → (gp_I t 51 8 = 0) → (gp_I t 57 1 = 1) → (gp_I t 57 3 = 0) → (0 ≤ gp_I t 60 4 ∧ gp_I t 60 4 ≤ 3) → (gp_I t 60 8 = 0) → (gp_R t 25 6 = none) → (gp_R t 25 7 = none) → (gp_R t 25 8 = none) → (gp_R t 25 9 = none) → (∀ k, k < 8 → gp_R t 4 k = some 25) → (gp_R t 51 6 = some 55) → (gp_R t 51 7 = some 56) → (∀ k, k < 3 → gp_R t 52 k = some 25) → (gp_R t 60 6 = some 64) → (gp_R t 60 7 = some 65) → (∀ k, k < 3 → gp_R t 61 k = some 25) → (gp_us t = 606895) → (gp_sz t = 117) → K none t) : gs_C L (d + 3) 513 4 [gp_r (some 57), gp_i p0, gp_i 0, gp_r (some 4)] s K := by
  refine s_513_e _ _ _ ?_
  refine zx2049_1 _ hs (by omega) (by omega) (by omega) (by omega) (by omega) (by omega) (by omega) (by omega) q7 q8 q9 q10 q11 q12 q13 q14 q15 q16 q17 q18 q19 (fun s_1 hs_2 q_3 q_4 q_5 q_6 q_7 q_8 q_9 q_10 q_11 q_12 q_13 q_14 q_15 q_16 q_17 q_18 q_19 q_20 q_21 q_22 q_23 => ⟨rfl, ?_⟩)
  intro s_24 e_25
  have hs_26 : xM z s_24 := by rw [e_25]; exact xw57_1 hs_2 0 _
  have q_27 : gp_I s_24 1 2 = 0 := by rw [e_25]; exact q_3
  have q_28 : gp_I s_24 1 6 = 0 := by rw [e_25]; exact q_4
  have q_29 : gp_I s_24 1 7 = 1 := by rw [e_25]; exact q_5
  have q_30 : gp_I s_24 51 8 = 0 := by rw [e_25]; exact q_6
  have q_31 : gp_I s_24 57 3 = 0 := by rw [e_25]; exact q_8
  have q_32 : 0 ≤ gp_I s_24 60 4 ∧ gp_I s_24 60 4 ≤ 3 := by rw [e_25]; exact q_9
  have q_33 : gp_I s_24 60 8 = 0 := by rw [e_25]; exact q_10
  have q_34 : gp_R s_24 25 6 = none := by rw [e_25]; exact q_11
  have q_35 : gp_R s_24 25 7 = none := by rw [e_25]; exact q_12
  have q_36 : gp_R s_24 25 8 = none := by rw [e_25]; exact q_13
  have q_37 : gp_R s_24 25 9 = none := by rw [e_25]; exact q_14
  have q_38 : ∀ k, k < 8 → gp_R s_24 4 k = some 25 := by rw [e_25]; exact q_15
  have q_39 : gp_R s_24 51 6 = some 55 := by rw [e_25]; exact q_16
  have q_40 : gp_R s_24 51 7 = some 56 := by rw [e_25]; exact q_17
  have q_41 : ∀ k, k < 3 → gp_R s_24 52 k = some 25 := by rw [e_25]; exact q_18
  have q_42 : gp_R s_24 60 6 = some 64 := by rw [e_25]; exact q_19
  have q_43 : gp_R s_24 60 7 = some 65 := by rw [e_25]; exact q_20
  have q_44 : ∀ k, k < 3 → gp_R s_24 61 k = some 25 := by rw [e_25]; exact q_21
  have q_45 : gp_us s_24 = 606895 := by rw [e_25]; exact q_22
  have q_46 : gp_sz s_24 = 117 := by rw [e_25]; exact q_23
  have q_47 : gp_I s_24 57 1 = 1 := by rw [e_25]; rfl
  intro s_49 e_50
  have hs_51 : xM z s_49 := by rw [e_50]; exact xw57_2 hs_26 0 _ (by omega)
  have q_52 : gp_I s_49 1 2 = 0 := by rw [e_50]; exact q_27
  have q_53 : gp_I s_49 1 6 = 0 := by rw [e_50]; exact q_28
  have q_54 : gp_I s_49 1 7 = 1 := by rw [e_50]; exact q_29
  have q_55 : gp_I s_49 51 8 = 0 := by rw [e_50]; exact q_30
  have q_56 : gp_I s_49 57 3 = 0 := by rw [e_50]; exact q_31
  have q_57 : 0 ≤ gp_I s_49 60 4 ∧ gp_I s_49 60 4 ≤ 3 := by rw [e_50]; exact q_32
  have q_58 : gp_I s_49 60 8 = 0 := by rw [e_50]; exact q_33
  have q_59 : gp_R s_49 25 6 = none := by rw [e_50]; exact q_34
  have q_60 : gp_R s_49 25 7 = none := by rw [e_50]; exact q_35
  have q_61 : gp_R s_49 25 8 = none := by rw [e_50]; exact q_36
  have q_62 : gp_R s_49 25 9 = none := by rw [e_50]; exact q_37
  have q_63 : ∀ k, k < 8 → gp_R s_49 4 k = some 25 := by rw [e_50]; exact q_38
  have q_64 : gp_R s_49 51 6 = some 55 := by rw [e_50]; exact q_39
  have q_65 : gp_R s_49 51 7 = some 56 := by rw [e_50]; exact q_40
  have q_66 : ∀ k, k < 3 → gp_R s_49 52 k = some 25 := by rw [e_50]; exact q_41
  have q_67 : gp_R s_49 60 6 = some 64 := by rw [e_50]; exact q_42
  have q_68 : gp_R s_49 60 7 = some 65 := by rw [e_50]; exact q_43
  have q_69 : ∀ k, k < 3 → gp_R s_49 61 k = some 25 := by rw [e_50]; exact q_44
  have q_70 : gp_us s_49 = 606895 := by rw [e_50]; exact q_45
  have q_71 : gp_sz s_49 = 117 := by rw [e_50]; exact q_46
  have q_72 : gp_I s_49 57 1 = 1 := by rw [e_50]; exact q_47
  intro s_73 e_74
  have hs_75 : xM z s_73 := by rw [e_74]; exact xw57_3 hs_51 0 _
  have q_76 : gp_I s_73 1 2 = 0 := by rw [e_74]; exact q_52
  have q_77 : gp_I s_73 1 6 = 0 := by rw [e_74]; exact q_53
  have q_78 : gp_I s_73 1 7 = 1 := by rw [e_74]; exact q_54
  have q_79 : gp_I s_73 51 8 = 0 := by rw [e_74]; exact q_55
  have q_80 : 0 ≤ gp_I s_73 60 4 ∧ gp_I s_73 60 4 ≤ 3 := by rw [e_74]; exact q_57
  have q_81 : gp_I s_73 60 8 = 0 := by rw [e_74]; exact q_58
  have q_82 : gp_R s_73 25 6 = none := by rw [e_74]; exact q_59
  have q_83 : gp_R s_73 25 7 = none := by rw [e_74]; exact q_60
  have q_84 : gp_R s_73 25 8 = none := by rw [e_74]; exact q_61
  have q_85 : gp_R s_73 25 9 = none := by rw [e_74]; exact q_62
  have q_86 : ∀ k, k < 8 → gp_R s_73 4 k = some 25 := by rw [e_74]; exact q_63
  have q_87 : gp_R s_73 51 6 = some 55 := by rw [e_74]; exact q_64
  have q_88 : gp_R s_73 51 7 = some 56 := by rw [e_74]; exact q_65
  have q_89 : ∀ k, k < 3 → gp_R s_73 52 k = some 25 := by rw [e_74]; exact q_66
  have q_90 : gp_R s_73 60 6 = some 64 := by rw [e_74]; exact q_67
  have q_91 : gp_R s_73 60 7 = some 65 := by rw [e_74]; exact q_68
  have q_92 : ∀ k, k < 3 → gp_R s_73 61 k = some 25 := by rw [e_74]; exact q_69
  have q_93 : gp_us s_73 = 606895 := by rw [e_74]; exact q_70
  have q_94 : gp_sz s_73 = 117 := by rw [e_74]; exact q_71
  have q_95 : gp_I s_73 57 1 = 1 := by rw [e_74]; exact q_72
  have q_96 : gp_I s_73 57 3 = 0 := by rw [e_74]; rfl
  exact k s_73 hs_75 (by omega) (by omega) (by omega) (by omega) (by omega) (by omega) (by omega) (by omega) q_82 q_83 q_84 q_85 q_86 q_87 q_88 q_89 q_90 q_91 q_92 q_93 q_94
set_option maxRecDepth 100000 in
/-- Table.options [25, (0, 0), (0, 1)] -/
theorem zx2307_4 {z : gH} {L d : Nat} {K : Option gV → gH → Prop} {s : gH} (p1 : Int) (hs : xM z s) (h_p1 : 0 ≤ p1 ∧ p1 ≤ 1) (q0 : gp_R s 25 6 = none) (q1 : gp_R s 25 7 = none) (q2 : gp_R s 25 8 = none) (q3 : gp_R s 25 9 = none) (k : K (some (gp_l (0#64))) s) : gs_C L d 2307 3 [gp_r (some 25), gp_i 0, gp_i p1] s K := by
  refine s_2307_e _ _ _ ?_
  refine ⟨fun h_1 => ?_, fun h_1 => ?_⟩
  · have e_2 : p1 = 0 := by omega
    subst e_2
    refine ⟨25, rfl, ?_⟩
    refine ⟨rfl, ?_⟩
    try rw [show gp_R (gp_mk L s) 25 1 = some 26 from rfl]
    refine ⟨26, rfl, ?_⟩
    refine ⟨⟨rfl, by show 0 ≤ 0 ∧ 0 < 1; omega⟩, ?_⟩
    try rw [xr26 hs ((0 : Int).toNat)]
    refine s_2307_19 _ _ _ _ ?_
    exact k
  · have e_4 : p1 = 1 := by omega
    subst e_4
    refine ⟨25, rfl, ?_⟩
    refine ⟨rfl, ?_⟩
    try rw [show gp_R (gp_mk L s) 25 2 = some 27 from rfl]
    refine ⟨27, rfl, ?_⟩
    refine ⟨⟨rfl, by show 0 ≤ 0 ∧ 0 < 1; omega⟩, ?_⟩
    try rw [xr27 hs ((0 : Int).toNat)]
    refine s_2307_19 _ _ _ _ ?_
    exact k
set_option maxRecDepth 100000 in
/-- Sum.choices [60, (0, 0), (0, 1)] -/
theorem zx2053_0 {z : gH} {L d : Nat} {K : Option gV → gH → Prop} {s : gH} (p1 : Int) (hs : xM z s) (h_p1 : 0 ≤ p1 ∧ p1 ≤ 1) (q0 : gp_I s 51 8 = 0) (q1 : 1 ≤ gp_I s 60 4 ∧ gp_I s 60 4 ≤ 3) (q2 : gp_I s 60 8 = 0) (q3 : gp_R s 25 6 = none) (q4 : gp_R s 25 7 = none) (q5 : gp_R s 25 8 = none) (q6 : gp_R s 25 9 = none) (q7 : gp_R s 51 6 = some 55) (q8 : gp_R s 51 7 = some 56) (q9 : ∀ k, k < 3 → gp_R s 52 k = some 25) (q10 : gp_R s 60 6 = some 64) (q11 : gp_R s 60 7 = some 65) (q12 : ∀ k, k < 3 → gp_R s 61 k = some 25) (k : K (some (gp_i 0)) s) : gs_C L (d + 1) 2053 3 [gp_r (some 60), gp_i 0, gp_i p1] s K := by
  refine s_2053_e _ _ _ ?_
  refine ⟨60, rfl, ?_⟩
  refine ⟨rfl, ?_⟩
  try rw [show gp_R (gp_mk L s) 60 0 = some 61 from rfl]
  refine ⟨61, rfl, ?_⟩
  refine ⟨⟨rfl, by show 0 ≤ 0 ∧ 0 < 3; omega⟩, ?_⟩
  try rw [show gp_R (gp_mk L s) 61 (0 : Int).toNat = some 25 from (q12 _ (by omega))]
  refine ⟨rfl, ?_⟩
  try rw [show gp_R (gp_mk L s) 60 1 = some 62 from rfl]
  refine ⟨62, rfl, ?_⟩
  refine ⟨⟨rfl, by show 0 ≤ 0 ∧ 0 < 3; omega⟩, ?_⟩
  have f_1 := xr62 hs ((0 : Int).toNat)
  have e_2 : gp_I s 62 (0 : Int).toNat = 0 := by omega
  try rw [e_2]
  refine ⟨25, rfl, ?_⟩
  refine ⟨rfl, ?_⟩
  refine zx2307_4 _ hs (by omega) q3 q4 q5 q6 (⟨_, rfl, ?_⟩)
  refine zx3585_1 hs q3 q4 q5 q6 (⟨_, rfl, ?_⟩)
  exact k
set_option maxRecDepth 100000 in
/-- Sum.choices [60, (1, 1), (0, 1)] -/
theorem zx2053_1 {z : gH} {L d : Nat} {K : Option gV → gH → Prop} {s : gH} (p1 : Int) (hs : xM z s) (h_p1 : 0 ≤ p1 ∧ p1 ≤ 1) (q0 : gp_I s 51 8 = 0) (q1 : 2 ≤ gp_I s 60 4 ∧ gp_I s 60 4 ≤ 3) (q2 : gp_I s 60 8 = 0) (q3 : gp_R s 25 6 = none) (q4 : gp_R s 25 7 = none) (q5 : gp_R s 25 8 = none) (q6 : gp_R s 25 9 = none) (q7 : gp_R s 51 6 = some 55) (q8 : gp_R s 51 7 = some 56) (q9 : ∀ k, k < 3 → gp_R s 52 k = some 25) (q10 : gp_R s 60 6 = some 64) (q11 : gp_R s 60 7 = some 65) (q12 : ∀ k, k < 3 → gp_R s 61 k = some 25) (k : K (some (gp_i 0)) s) : gs_C L (d + 1) 2053 3 [gp_r (some 60), gp_i 1, gp_i p1] s K := by
  refine s_2053_e _ _ _ ?_
  refine ⟨60, rfl, ?_⟩
  refine ⟨rfl, ?_⟩
  try rw [show gp_R (gp_mk L s) 60 0 = some 61 from rfl]
  refine ⟨61, rfl, ?_⟩
  refine ⟨⟨rfl, by show 0 ≤ 1 ∧ 1 < 3; omega⟩, ?_⟩
  try rw [show gp_R (gp_mk L s) 61 (1 : Int).toNat = some 25 from (q12 _ (by omega))]
  refine ⟨rfl, ?_⟩
  try rw [show gp_R (gp_mk L s) 60 1 = some 62 from rfl]
  refine ⟨62, rfl, ?_⟩
  refine ⟨⟨rfl, by show 0 ≤ 1 ∧ 1 < 3; omega⟩, ?_⟩
  have f_1 := xr62 hs ((1 : Int).toNat)
  have e_2 : gp_I s 62 (1 : Int).toNat = 0 := by omega
  try rw [e_2]
  refine ⟨25, rfl, ?_⟩
  refine ⟨rfl, ?_⟩
  refine zx2307_4 _ hs (by omega) q3 q4 q5 q6 (⟨_, rfl, ?_⟩)
  refine zx3585_1 hs q3 q4 q5 q6 (⟨_, rfl, ?_⟩)
  exact k
set_option maxRecDepth 100000 in
/-- Sum.choices [60, (2, 2), (0, 1)] -/
theorem zx2053_2 {z : gH} {L d : Nat} {K : Option gV → gH → Prop} {s : gH} (p1 : Int) (hs : xM z s) (h_p1 : 0 ≤ p1 ∧ p1 ≤ 1) (q0 : gp_I s 51 8 = 0) (q1 : gp_I s 60 4 = 3) (q2 : gp_I s 60 8 = 0) (q3 : gp_R s 25 6 = none) (q4 : gp_R s 25 7 = none) (q5 : gp_R s 25 8 = none) (q6 : gp_R s 25 9 = none) (q7 : gp_R s 51 6 = some 55) (q8 : gp_R s 51 7 = some 56) (q9 : ∀ k, k < 3 → gp_R s 52 k = some 25) (q10 : gp_R s 60 6 = some 64) (q11 : gp_R s 60 7 = some 65) (q12 : ∀ k, k < 3 → gp_R s 61 k = some 25) (k : K (some (gp_i 0)) s) : gs_C L (d + 1) 2053 3 [gp_r (some 60), gp_i 2, gp_i p1] s K := by
  refine s_2053_e _ _ _ ?_
  refine ⟨60, rfl, ?_⟩
  refine ⟨rfl, ?_⟩
  try rw [show gp_R (gp_mk L s) 60 0 = some 61 from rfl]
  refine ⟨61, rfl, ?_⟩
  refine ⟨⟨rfl, by show 0 ≤ 2 ∧ 2 < 3; omega⟩, ?_⟩
  try rw [show gp_R (gp_mk L s) 61 (2 : Int).toNat = some 25 from (q12 _ (by omega))]
  refine ⟨rfl, ?_⟩
  try rw [show gp_R (gp_mk L s) 60 1 = some 62 from rfl]
  refine ⟨62, rfl, ?_⟩
  refine ⟨⟨rfl, by show 0 ≤ 2 ∧ 2 < 3; omega⟩, ?_⟩
  have f_1 := xr62 hs ((2 : Int).toNat)
  have e_2 : gp_I s 62 (2 : Int).toNat = 0 := by omega
  try rw [e_2]
  refine ⟨25, rfl, ?_⟩
  refine ⟨rfl, ?_⟩
  refine zx2307_4 _ hs (by omega) q3 q4 q5 q6 (⟨_, rfl, ?_⟩)
  refine zx3585_1 hs q3 q4 q5 q6 (⟨_, rfl, ?_⟩)
  exact k
set_option maxRecDepth 100000 in
/-- Sum.allChoices [60, (0, 1)] -/
theorem zx2054_0 {z : gH} {L d : Nat} {K : Option gV → gH → Prop} {s : gH} (p0 : Int) (hs : xM z s) (h_p0 : 0 ≤ p0 ∧ p0 ≤ 1) (q0 : gp_I s 51 8 = 0) (q1 : 0 ≤ gp_I s 60 4 ∧ gp_I s 60 4 ≤ 3) (q2 : gp_I s 60 8 = 0) (q3 : gp_R s 25 6 = none) (q4 : gp_R s 25 7 = none) (q5 : gp_R s 25 8 = none) (q6 : gp_R s 25 9 = none) (q7 : gp_R s 51 6 = some 55) (q8 : gp_R s 51 7 = some 56) (q9 : ∀ k, k < 3 → gp_R s 52 k = some 25) (q10 : gp_R s 60 6 = some 64) (q11 : gp_R s 60 7 = some 65) (q12 : ∀ k, k < 3 → gp_R s 61 k = some 25) (k : K (some (gp_i 0)) s) : gs_C L (d + 2) 2054 4 [gp_r (some 60), gp_i p0] s K := by
  refine s_2054_e _ _ ?_
  refine s_2054_4 _ _ _ _ ?_
  refine ⟨60, rfl, ?_⟩
  refine ⟨rfl, ?_⟩
  refine ⟨fun h_2 => ?_, fun h_2 => ?_⟩
  · have q_4 : 1 ≤ gp_I s 60 4 ∧ gp_I s 60 4 ≤ 3 := by omega
    have q_3 : 1 ≤ gp_I s 60 4 ∧ gp_I s 60 4 ≤ 3 := q_4
    refine ⟨rfl, ?_⟩
    refine zx2053_0 _ hs (by omega) (by omega) (by omega) (by omega) q3 q4 q5 q6 q7 q8 q9 q10 q11 q12 (⟨_, rfl, ?_⟩)
    have w_5 := gz_w (0 + 0)
    have e_6 : gp_wr (0 + 0) = 0 := by omega
    try rw [e_6]
    have w_7 := gz_w (0 + 1)
    have e_8 : gp_wr (0 + 1) = 1 := by omega
    try rw [e_8]
    refine s_2054_4 _ _ _ _ ?_
    refine ⟨60, rfl, ?_⟩
    refine ⟨rfl, ?_⟩
    refine ⟨fun h_10 => ?_, fun h_10 => ?_⟩
    · have q_12 : 2 ≤ gp_I s 60 4 ∧ gp_I s 60 4 ≤ 3 := by omega
      have q_11 : 2 ≤ gp_I s 60 4 ∧ gp_I s 60 4 ≤ 3 := q_12
      refine ⟨rfl, ?_⟩
      refine zx2053_1 _ hs (by omega) (by omega) (by omega) (by omega) q3 q4 q5 q6 q7 q8 q9 q10 q11 q12 (⟨_, rfl, ?_⟩)
      have w_13 := gz_w (0 + 0)
      have e_14 : gp_wr (0 + 0) = 0 := by omega
      try rw [e_14]
      have w_15 := gz_w (1 + 1)
      have e_16 : gp_wr (1 + 1) = 2 := by omega
      try rw [e_16]
      refine s_2054_4 _ _ _ _ ?_
      refine ⟨60, rfl, ?_⟩
      refine ⟨rfl, ?_⟩
      refine ⟨fun h_18 => ?_, fun h_18 => ?_⟩
      · have q_20 : gp_I s 60 4 = 3 := by omega
        have q_19 : gp_I s 60 4 = 3 := q_20
        have e_21 : gp_I s 60 4 = 3 := by omega
        try rw [e_21]
        refine ⟨rfl, ?_⟩
        refine zx2053_2 _ hs (by omega) (by omega) (by omega) (by omega) q3 q4 q5 q6 q7 q8 q9 q10 q11 q12 (⟨_, rfl, ?_⟩)
        have w_22 := gz_w (0 + 0)
        have e_23 : gp_wr (0 + 0) = 0 := by omega
        try rw [e_23]
        have w_24 := gz_w (2 + 1)
        have e_25 : gp_wr (2 + 1) = 3 := by omega
        try rw [e_25]
        refine s_2054_4 _ _ _ _ ?_
        refine ⟨60, rfl, ?_⟩
        refine ⟨rfl, ?_⟩
        try rw [show gp_I s 60 4 = 3 from q_19]
        refine ⟨fun h_27 => ?_, fun h_27 => ?_⟩
        · exfalso; omega
        · exact k
      · have q_29 : gp_I s 60 4 = 2 := by omega
        have q_28 : gp_I s 60 4 = 2 := q_29
        have e_30 : gp_I s 60 4 = 2 := by omega
        try rw [e_30]
        exact k
    · have q_32 : gp_I s 60 4 = 1 := by omega
      have q_31 : gp_I s 60 4 = 1 := q_32
      have e_33 : gp_I s 60 4 = 1 := by omega
      try rw [e_33]
      exact k
  · have q_35 : gp_I s 60 4 = 0 := by omega
    have q_34 : gp_I s 60 4 = 0 := q_35
    have e_36 : gp_I s 60 4 = 0 := by omega
    try rw [e_36]
    exact k
set_option maxRecDepth 100000 in
/-- Match.over [] -/
theorem zx514_0 {z : gH} {L d : Nat} {K : Option gV → gH → Prop} {s : gH}  (hs : xM z s)  (q0 : gp_I s 51 8 = 0) (q1 : gp_I s 57 1 = 1) (q2 : gp_I s 57 3 = 0) (q3 : 0 ≤ gp_I s 60 4 ∧ gp_I s 60 4 ≤ 3) (q4 : gp_I s 60 8 = 0) (q5 : gp_R s 25 6 = none) (q6 : gp_R s 25 7 = none) (q7 : gp_R s 25 8 = none) (q8 : gp_R s 25 9 = none) (q9 : gp_R s 51 6 = some 55) (q10 : gp_R s 51 7 = some 56) (q11 : ∀ k, k < 3 → gp_R s 52 k = some 25) (q12 : gp_R s 60 6 = some 64) (q13 : gp_R s 60 7 = some 65) (q14 : ∀ k, k < 3 → gp_R s 61 k = some 25) (k : K (some (gp_i 1)) s) : gs_C L (d + 3) 514 1 [gp_r (some 57)] s K := by
  refine s_514_e ?_
  have f_1 := xr57_2 hs 2
  refine zx2054_0 _ hs (by omega) (by omega) (by omega) (by omega) q5 q6 q7 q8 q9 q10 q11 q12 q13 q14 (⟨_, rfl, ?_⟩)
  refine ⟨fun h_2 => ?_, fun h_2 => ?_⟩
  · refine s_514_19 _ ?_
    refine ⟨by omega, ?_⟩
    exact k
  · exfalso; omega
set_option maxRecDepth 100000 in
/-- GatheredPoints.begin [(1, 255, 'S3'), (0, 0)] -/
theorem zx2834_5 {z : gH} {L d : Nat} {K : Option gV → gH → Prop} {s : gH} (p0 : Int) (hs : xM z s) (h_p0 : 1 ≤ p0 ∧ p0 ≤ 255) (g_p0 : gm_cnt (BitVec.ofInt 64 p0) 64 ≤ 3) (q0 : gp_I s 1 2 = 0) (q1 : gp_I s 1 6 = 0) (q2 : gp_I s 1 7 = 1) (q3 : gp_I s 51 8 = 0) (q4 : gp_I s 57 1 = 0) (q5 : gp_I s 57 3 = 0) (q6 : gp_I s 60 8 = 0) (q7 : gp_R s 25 6 = none) (q8 : gp_R s 25 7 = none) (q9 : gp_R s 25 8 = none) (q10 : gp_R s 25 9 = none) (q11 : ∀ k, k < 8 → gp_R s 4 k = some 25) (q12 : gp_R s 51 6 = some 55) (q13 : gp_R s 51 7 = some 56) (q14 : ∀ k, k < 3 → gp_R s 52 k = some 25) (q15 : gp_R s 60 6 = some 64) (q16 : gp_R s 60 7 = some 65) (q17 : ∀ k, k < 3 → gp_R s 61 k = some 25) (q18 : gp_us s = 606895) (q19 : gp_sz s = 117) (k : ∀ (t : gH), xM z t → (gp_I t 1 2 = 0) → (gp_I t 1 6 = 0) → (gp_I t 1 7 = 1) → (gp_I t 51 8 = 0) → (gp_I t 57 1 = 1) → (gp_I t 57 3 = 0) → (0 ≤ gp_I t 60 4 ∧ gp_I t 60 4 ≤ 3) → (gp_I t 60 8 = 0) → (gp_R t 25 6 = none) → (gp_R t 25 7 = none) → (gp_R t 25 8 = none) → (gp_R t 25 9 = none) → (∀ k, k < 8 → gp_R t 4 k = some 25) → (gp_R t 51 6 = some 55) → (gp_R t 51 7 = some 56) → (∀ k, k < 3 → gp_R t 52 k = some 25) → (gp_R t 60 6 = some 64) → (gp_R t 60 7 = some 65) → (∀ k, k < 3 → gp_R t 61 k = some 25) → (gp_us t = 606895) → (gp_sz t = 117) → K (some (gp_i 1)) t) : gs_C L (d + 4) 2834 3 [gp_r (some 1), gp_i p0, gp_i 0] s K := by
  refine s_2834_e _ _ ?_
  refine zx_noSet3 _ hs (by omega) g_p0 (⟨_, rfl, ?_⟩)
  refine ⟨fun h_1 => ?_, fun h_1 => ?_⟩
  · refine zx2857_2 hs (by omega) (by omega) (by omega) (by omega) (by omega) (by omega) q7 q8 q9 q10 q11 q12 q13 (⟨_, rfl, ?_⟩)
    refine ⟨fun h_2 => ?_, fun h_2 => ?_⟩
    · refine zx513_0 _ hs (by omega) (by omega) (by omega) (by omega) (by omega) (by omega) (by omega) (by omega) q7 q8 q9 q10 q11 q12 q13 q14 q15 q16 q17 q18 q19 (fun s_3 hs_4 q_5 q_6 q_7 q_8 q_9 q_10 q_11 q_12 q_13 q_14 q_15 q_16 q_17 q_18 q_19 q_20 q_21 q_22 q_23 q_24 q_25 => ⟨rfl, ?_⟩)
      refine zx514_0 hs_4 (by omega) (by omega) (by omega) (by omega) (by omega) q_13 q_14 q_15 q_16 q_18 q_19 q_20 q_21 q_22 q_23 (⟨_, rfl, ?_⟩)
      refine ⟨fun h_26 => ?_, fun h_26 => ?_⟩
      · exfalso; omega
      · refine s_2834_48 _ _ _ ?_
        exact k s_3 hs_4 (by omega) (by omega) (by omega) (by omega) (by omega) (by omega) (by omega) (by omega) q_13 q_14 q_15 q_16 q_17 q_18 q_19 q_20 q_21 q_22 q_23 q_24 q_25
    · exfalso; omega
  · exfalso; omega
