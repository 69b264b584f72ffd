set_option maxRecDepth 100000 in
/-- GatheredPoints.refused [(1, 1)] -/
theorem zx2855_0 {z : gH} {L d : Nat} {K : Option gV → gH → Prop} {s : gH}  (hs : xM z s)  (q0 : gp_I s 1 2 = 0) (q1 : gp_I s 1 6 = 0) (q2 : gp_I s 1 7 = 1) (q3 : gp_I s 51 8 = 0) (q4 : gp_I s 57 1 = 0) (q5 : gp_I s 57 3 = 0) (q6 : ∀ k, k < 8 → gp_R s 4 k = some 25) (q7 : gp_R s 51 6 = some 55) (q8 : gp_R s 51 7 = some 56) (q9 : gp_us s = 606895) (q10 : gp_sz s = 117) (k : ∀ (t : gH), xM z t → (gp_I t 1 2 = 0) → (gp_I t 1 6 = 0) → (gp_I t 1 7 = 1) → ((-2147483648) ≤ gp_I t 2 1 ∧ gp_I t 2 1 ≤ 2147483647) → (gp_I t 51 8 = 0) → (gp_I t 57 1 = 0) → (gp_I t 57 3 = 0) → (∀ k, k < 8 → gp_R t 4 k = some 25) → (gp_R t 51 6 = some 55) → (gp_R t 51 7 = some 56) → (gp_us t = 606895) → (gp_sz t = 117) → K (some (gp_i (-1000000001))) t) : gs_C L d 2855 2 [gp_r (some 1), gp_i 1] s K := by
  refine s_2855_e _ ?_
  refine ⟨by omega, ?_⟩
  have w_1 := gz_w ((gp_I s 2 (1 : Int).toNat) + 1)
  refine ⟨by omega, ?_⟩
  intro s_2 e_3
  have hs_4 : xM z s_2 := by rw [e_3]; exact xw2 hs _ _
  have q_5 : gp_I s_2 1 2 = 0 := by rw [e_3]; exact q0
  have q_6 : gp_I s_2 1 6 = 0 := by rw [e_3]; exact q1
  have q_7 : gp_I s_2 1 7 = 1 := by rw [e_3]; exact q2
  have q_8 : gp_I s_2 51 8 = 0 := by rw [e_3]; exact q3
  have q_9 : gp_I s_2 57 1 = 0 := by rw [e_3]; exact q4
  have q_10 : gp_I s_2 57 3 = 0 := by rw [e_3]; exact q5
  have q_11 : ∀ k, k < 8 → gp_R s_2 4 k = some 25 := by rw [e_3]; exact q6
  have q_12 : gp_R s_2 51 6 = some 55 := by rw [e_3]; exact q7
  have q_13 : gp_R s_2 51 7 = some 56 := by rw [e_3]; exact q8
  have q_14 : gp_us s_2 = 606895 := by rw [e_3]; exact q9
  have q_15 : gp_sz s_2 = 117 := by rw [e_3]; exact q10
  have q_16 : (-2147483648) ≤ gp_I s_2 2 1 ∧ gp_I s_2 2 1 ≤ 2147483647 := by have x_17 : gp_I s_2 2 1 = gp_wr ((gp_I s 2 (1 : Int).toNat) + 1) := (by rw [e_3]; rfl); omega
  have w_18 := gz_w ((-1000000000) - 1)
  have e_19 : gp_wr ((-1000000000) - 1) = (-1000000001) := by omega
  try rw [e_19]
  exact k s_2 hs_4 (by omega) (by omega) (by omega) (by omega) (by omega) (by omega) (by omega) q_11 q_12 q_13 q_14 q_15
set_option maxRecDepth 100000 in
/-- GatheredPoints.feed [None, (-2147483648, 0)] -/
theorem zx2817_0 {z : gH} {L d : Nat} {K : Option gV → gH → Prop} {s : gH} (p0 : BitVec 64) (p1 : Int) (hs : xM z s) (h_p1 : (-2147483648) ≤ p1 ∧ p1 ≤ 0) (q0 : gp_I s 1 2 = 0) (q1 : gp_I s 1 6 = 0) (q2 : gp_I s 1 7 = 1) (q3 : gp_I s 51 8 = 0) (q4 : gp_I s 57 1 = 0) (q5 : gp_I s 57 3 = 0) (q6 : ∀ k, k < 8 → gp_R s 4 k = some 25) (q7 : gp_R s 51 6 = some 55) (q8 : gp_R s 51 7 = some 56) (q9 : gp_us s = 606895) (q10 : gp_sz s = 117) (k : ∀ (t : gH), xM z t → (gp_I t 1 2 = 0) → (gp_I t 1 6 = 0) → (gp_I t 1 7 = 1) → ((-2147483648) ≤ gp_I t 2 1 ∧ gp_I t 2 1 ≤ 2147483647) → (gp_I t 51 8 = 0) → (gp_I t 57 1 = 0) → (gp_I t 57 3 = 0) → (∀ k, k < 8 → gp_R t 4 k = some 25) → (gp_R t 51 6 = some 55) → (gp_R t 51 7 = some 56) → (gp_us t = 606895) → (gp_sz t = 117) → K (some (gp_i (-1000000001))) t) : gs_C L (d + 1) 2817 5 [gp_r (some 1), gp_l p0, gp_i p1] s K := by
  refine s_2817_e _ _ ?_
  refine ⟨fun h_1 => ?_, fun h_1 => ?_⟩
  · refine s_2817_11 _ _ _ ?_
    refine zx2855_0 hs (by omega) (by omega) (by omega) (by omega) (by omega) (by omega) q6 q7 q8 q9 q10 (fun s_2 hs_3 q_4 q_5 q_6 q_7 q_8 q_9 q_10 q_11 q_12 q_13 q_14 q_15 => ⟨_, rfl, ?_⟩)
    exact k s_2 hs_3 (by omega) (by omega) (by omega) (by omega) (by omega) (by omega) (by omega) q_11 q_12 q_13 q_14 q_15
  · exfalso; omega
set_option maxRecDepth 100000 in
/-- GatheredPoints.feed [None, (1, 1)] -/
theorem zx2817_1 {z : gH} {L d : Nat} {K : Option gV → gH → Prop} {s : gH} (p0 : BitVec 64) (hs : xM z s)  (q0 : gp_I s 1 2 = 0) (q1 : gp_I s 1 6 = 0) (q2 : gp_I s 1 7 = 1) (q3 : gp_I s 51 8 = 0) (q4 : gp_I s 57 1 = 0) (q5 : gp_I s 57 3 = 0) (q6 : ∀ k, k < 8 → gp_R s 4 k = some 25) (q7 : gp_R s 51 6 = some 55) (q8 : gp_R s 51 7 = some 56) (q9 : gp_us s = 606895) (q10 : gp_sz s = 117) (k : ∀ (t : gH), xM z t → (gp_I t 1 2 = 1) → (gp_I t 1 6 = 0) → (gp_I t 1 7 = 1) → (gp_I t 51 8 = 0) → (gp_I t 57 1 = 0) → (gp_I t 57 3 = 0) → (∀ k, k < 8 → gp_R t 4 k = some 25) → (gp_R t 51 6 = some 55) → (gp_R t 51 7 = some 56) → (gp_us t = 606895) → (gp_sz t = 117) → K (some (gp_i 1)) t) : gs_C L (d + 1) 2817 5 [gp_r (some 1), gp_l p0, gp_i 1] s K := by
  refine s_2817_e _ _ ?_
  refine ⟨fun h_1 => ?_, fun h_1 => ?_⟩
  · exfalso; omega
  · refine ⟨fun h_2 => ?_, fun h_2 => ?_⟩
    · exfalso; omega
    · try rw [show gp_I s 1 2 = 0 from q0]
      have w_3 := gz_w (0 + 1)
      have e_4 : gp_wr (0 + 1) = 1 := by omega
      try rw [e_4]
      refine ⟨fun h_5 => ?_, fun h_5 => ?_⟩
      · exfalso; omega
      · refine s_2817_37 _ _ _ ?_
        refine ⟨fun h_6 => ?_, fun h_6 => ?_⟩
        · try rw [show gp_I s 1 2 = 0 from q0]
          have w_7 := gz_w (0 + 0)
          have e_8 : gp_wr (0 + 0) = 0 := by omega
          try rw [e_8]
          have w_9 := gz_w (8 * 0)
          have e_10 : gp_wr (8 * 0) = 0 := by omega
          try rw [e_10]
          have w_11 := gz_b (gp_wr (p0 >>> ((0 : Int) % 64).toNat).toInt)
          refine ⟨by omega, ?_⟩
          intro s_12 e_13
          have hs_14 : xM z s_12 := by rw [e_13]; exact xw3 hs _ _
          have q_15 : gp_I s_12 1 2 = 0 := by rw [e_13]; exact q0
          have q_16 : gp_I s_12 1 6 = 0 := by rw [e_13]; exact q1
          have q_17 : gp_I s_12 1 7 = 1 := by rw [e_13]; exact q2
          have q_18 : gp_I s_12 51 8 = 0 := by rw [e_13]; exact q3
          have q_19 : gp_I s_12 57 1 = 0 := by rw [e_13]; exact q4
          have q_20 : gp_I s_12 57 3 = 0 := by rw [e_13]; exact q5
          have q_21 : ∀ k, k < 8 → gp_R s_12 4 k = some 25 := by rw [e_13]; exact q6
          have q_22 : gp_R s_12 51 6 = some 55 := by rw [e_13]; exact q7
          have q_23 : gp_R s_12 51 7 = some 56 := by rw [e_13]; exact q8
          have q_24 : gp_us s_12 = 606895 := by rw [e_13]; exact q9
          have q_25 : gp_sz s_12 = 117 := by rw [e_13]; exact q10
          have w_26 := gz_w (0 + 1)
          have e_27 : gp_wr (0 + 1) = 1 := by omega
          try rw [e_27]
          refine s_2817_37 _ _ _ ?_
          refine ⟨fun h_28 => ?_, fun h_28 => ?_⟩
          · exfalso; omega
          · try rw [show gp_I s_12 1 2 = 0 from q_15]
            have w_29 := gz_w (0 + 1)
            have e_30 : gp_wr (0 + 1) = 1 := by omega
            try rw [e_30]
            intro s_31 e_32
            have hs_33 : xM z s_31 := by rw [e_32]; exact xw1_2 hs_14 0 _
            have q_34 : gp_I s_31 1 6 = 0 := by rw [e_32]; exact q_16
            have q_35 : gp_I s_31 1 7 = 1 := by rw [e_32]; exact q_17
            have q_36 : gp_I s_31 51 8 = 0 := by rw [e_32]; exact q_18
            have q_37 : gp_I s_31 57 1 = 0 := by rw [e_32]; exact q_19
            have q_38 : gp_I s_31 57 3 = 0 := by rw [e_32]; exact q_20
            have q_39 : ∀ k, k < 8 → gp_R s_31 4 k = some 25 := by rw [e_32]; exact q_21
            have q_40 : gp_R s_31 51 6 = some 55 := by rw [e_32]; exact q_22
            have q_41 : gp_R s_31 51 7 = some 56 := by rw [e_32]; exact q_23
            have q_42 : gp_us s_31 = 606895 := by rw [e_32]; exact q_24
            have q_43 : gp_sz s_31 = 117 := by rw [e_32]; exact q_25
            have q_44 : gp_I s_31 1 2 = 1 := by rw [e_32]; rfl
            try rw [show gp_I s_31 1 2 = 1 from q_44]
            exact k s_31 hs_33 (by omega) (by omega) (by omega) (by omega) (by omega) (by omega) q_39 q_40 q_41 q_42 q_43
        · exfalso; omega
set_option maxRecDepth 100000 in
/-- GatheredPoints.feed [None, (2, 2)] -/
theorem zx2817_2 {z : gH} {L d : Nat} {K : Option gV → gH → Prop} {s : gH} (p0 : BitVec 64) (hs : xM z s)  (q0 : gp_I s 1 2 = 0) (q1 : gp_I s 1 6 = 0) (q2 : gp_I s 1 7 = 1) (q3 : gp_I s 51 8 = 0) (q4 : gp_I s 57 1 = 0) (q5 : gp_I s 57 3 = 0) (q6 : ∀ k, k < 8 → gp_R s 4 k = some 25) (q7 : gp_R s 51 6 = some 55) (q8 : gp_R s 51 7 = some 56) (q9 : gp_us s = 606895) (q10 : gp_sz s = 117) (k : ∀ (t : gH), xM z t → (gp_I t 1 2 = 2) → (gp_I t 1 6 = 0) → (gp_I t 1 7 = 1) → (gp_I t 51 8 = 0) → (gp_I t 57 1 = 0) → (gp_I t 57 3 = 0) → (∀ k, k < 8 → gp_R t 4 k = some 25) → (gp_R t 51 6 = some 55) → (gp_R t 51 7 = some 56) → (gp_us t = 606895) → (gp_sz t = 117) → K (some (gp_i 2)) t) : gs_C L (d + 1) 2817 5 [gp_r (some 1), gp_l p0, gp_i 2] s K := by
  refine s_2817_e _ _ ?_
  refine ⟨fun h_1 => ?_, fun h_1 => ?_⟩
  · exfalso; omega
  · refine ⟨fun h_2 => ?_, fun h_2 => ?_⟩
    · exfalso; omega
    · try rw [show gp_I s 1 2 = 0 from q0]
      have w_3 := gz_w (0 + 2)
      have e_4 : gp_wr (0 + 2) = 2 := by omega
      try rw [e_4]
      refine ⟨fun h_5 => ?_, fun h_5 => ?_⟩
      · exfalso; omega
      · refine s_2817_37 _ _ _ ?_
        refine ⟨fun h_6 => ?_, fun h_6 => ?_⟩
        · try rw [show gp_I s 1 2 = 0 from q0]
          have w_7 := gz_w (0 + 0)
          have e_8 : gp_wr (0 + 0) = 0 := by omega
          try rw [e_8]
          have w_9 := gz_w (8 * 0)
          have e_10 : gp_wr (8 * 0) = 0 := by omega
          try rw [e_10]
          have w_11 := gz_b (gp_wr (p0 >>> ((0 : Int) % 64).toNat).toInt)
          refine ⟨by omega, ?_⟩
          intro s_12 e_13
          have hs_14 : xM z s_12 := by rw [e_13]; exact xw3 hs _ _
          have q_15 : gp_I s_12 1 2 = 0 := by rw [e_13]; exact q0
          have q_16 : gp_I s_12 1 6 = 0 := by rw [e_13]; exact q1
          have q_17 : gp_I s_12 1 7 = 1 := by rw [e_13]; exact q2
          have q_18 : gp_I s_12 51 8 = 0 := by rw [e_13]; exact q3
          have q_19 : gp_I s_12 57 1 = 0 := by rw [e_13]; exact q4
          have q_20 : gp_I s_12 57 3 = 0 := by rw [e_13]; exact q5
          have q_21 : ∀ k, k < 8 → gp_R s_12 4 k = some 25 := by rw [e_13]; exact q6
          have q_22 : gp_R s_12 51 6 = some 55 := by rw [e_13]; exact q7
          have q_23 : gp_R s_12 51 7 = some 56 := by rw [e_13]; exact q8
          have q_24 : gp_us s_12 = 606895 := by rw [e_13]; exact q9
          have q_25 : gp_sz s_12 = 117 := by rw [e_13]; exact q10
          have w_26 := gz_w (0 + 1)
          have e_27 : gp_wr (0 + 1) = 1 := by omega
          try rw [e_27]
          refine s_2817_37 _ _ _ ?_
          refine ⟨fun h_28 => ?_, fun h_28 => ?_⟩
          · try rw [show gp_I s_12 1 2 = 0 from q_15]
            have w_29 := gz_w (0 + 1)
            have e_30 : gp_wr (0 + 1) = 1 := by omega
            try rw [e_30]
            have w_31 := gz_w (8 * 1)
            have e_32 : gp_wr (8 * 1) = 8 := by omega
            try rw [e_32]
            have w_33 := gz_b (gp_wr (p0 >>> ((8 : Int) % 64).toNat).toInt)
            refine ⟨by omega, ?_⟩
            intro s_34 e_35
            have hs_36 : xM z s_34 := by rw [e_35]; exact xw3 hs_14 _ _
            have q_37 : gp_I s_34 1 2 = 0 := by rw [e_35]; exact q_15
            have q_38 : gp_I s_34 1 6 = 0 := by rw [e_35]; exact q_16
            have q_39 : gp_I s_34 1 7 = 1 := by rw [e_35]; exact q_17
            have q_40 : gp_I s_34 51 8 = 0 := by rw [e_35]; exact q_18
            have q_41 : gp_I s_34 57 1 = 0 := by rw [e_35]; exact q_19
            have q_42 : gp_I s_34 57 3 = 0 := by rw [e_35]; exact q_20
            have q_43 : ∀ k, k < 8 → gp_R s_34 4 k = some 25 := by rw [e_35]; exact q_21
            have q_44 : gp_R s_34 51 6 = some 55 := by rw [e_35]; exact q_22
            have q_45 : gp_R s_34 51 7 = some 56 := by rw [e_35]; exact q_23
            have q_46 : gp_us s_34 = 606895 := by rw [e_35]; exact q_24
            have q_47 : gp_sz s_34 = 117 := by rw [e_35]; exact q_25
            have w_48 := gz_w (1 + 1)
            have e_49 : gp_wr (1 + 1) = 2 := by omega
            try rw [e_49]
            refine s_2817_37 _ _ _ ?_
            refine ⟨fun h_50 => ?_, fun h_50 => ?_⟩
            · exfalso; omega
            · try rw [show gp_I s_34 1 2 = 0 from q_37]
              have w_51 := gz_w (0 + 2)
              have e_52 : gp_wr (0 + 2) = 2 := by omega
              try rw [e_52]
              intro s_53 e_54
              have hs_55 : xM z s_53 := by rw [e_54]; exact xw1_2 hs_36 0 _
              have q_56 : gp_I s_53 1 6 = 0 := by rw [e_54]; exact q_38
              have q_57 : gp_I s_53 1 7 = 1 := by rw [e_54]; exact q_39
              have q_58 : gp_I s_53 51 8 = 0 := by rw [e_54]; exact q_40
              have q_59 : gp_I s_53 57 1 = 0 := by rw [e_54]; exact q_41
              have q_60 : gp_I s_53 57 3 = 0 := by rw [e_54]; exact q_42
              have q_61 : ∀ k, k < 8 → gp_R s_53 4 k = some 25 := by rw [e_54]; exact q_43
              have q_62 : gp_R s_53 51 6 = some 55 := by rw [e_54]; exact q_44
              have q_63 : gp_R s_53 51 7 = some 56 := by rw [e_54]; exact q_45
              have q_64 : gp_us s_53 = 606895 := by rw [e_54]; exact q_46
              have q_65 : gp_sz s_53 = 117 := by rw [e_54]; exact q_47
              have q_66 : gp_I s_53 1 2 = 2 := by rw [e_54]; rfl
              try rw [show gp_I s_53 1 2 = 2 from q_66]
              exact k s_53 hs_55 (by omega) (by omega) (by omega) (by omega) (by omega) (by omega) q_61 q_62 q_63 q_64 q_65
          · exfalso; omega
        · exfalso; omega
set_option maxRecDepth 100000 in
/-- GatheredPoints.feed [None, (3, 3)] -/
theorem zx2817_3 {z : gH} {L d : Nat} {K : Option gV → gH → Prop} {s : gH} (p0 : BitVec 64) (hs : xM z s)  (q0 : gp_I s 1 2 = 0) (q1 : gp_I s 1 6 = 0) (q2 : gp_I s 1 7 = 1) (q3 : gp_I s 51 8 = 0) (q4 : gp_I s 57 1 = 0) (q5 : gp_I s 57 3 = 0) (q6 : ∀ k, k < 8 → gp_R s 4 k = some 25) (q7 : gp_R s 51 6 = some 55) (q8 : gp_R s 51 7 = some 56) (q9 : gp_us s = 606895) (q10 : gp_sz s = 117) (k : ∀ (t : gH), xM z t → (gp_I t 1 2 = 3) → (gp_I t 1 6 = 0) → (gp_I t 1 7 = 1) → (gp_I t 51 8 = 0) → (gp_I t 57 1 = 0) → (gp_I t 57 3 = 0) → (∀ k, k < 8 → gp_R t 4 k = some 25) → (gp_R t 51 6 = some 55) → (gp_R t 51 7 = some 56) → (gp_us t = 606895) → (gp_sz t = 117) → K (some (gp_i 3)) t) : gs_C L (d + 1) 2817 5 [gp_r (some 1), gp_l p0, gp_i 3] s K := by
  refine s_2817_e _ _ ?_
  refine ⟨fun h_1 => ?_, fun h_1 => ?_⟩
  · exfalso; omega
  · refine ⟨fun h_2 => ?_, fun h_2 => ?_⟩
    · exfalso; omega
    · try rw [show gp_I s 1 2 = 0 from q0]
      have w_3 := gz_w (0 + 3)
      have e_4 : gp_wr (0 + 3) = 3 := by omega
      try rw [e_4]
      refine ⟨fun h_5 => ?_, fun h_5 => ?_⟩
      · exfalso; omega
      · refine s_2817_37 _ _ _ ?_
        refine ⟨fun h_6 => ?_, fun h_6 => ?_⟩
        · try rw [show gp_I s 1 2 = 0 from q0]
          have w_7 := gz_w (0 + 0)
          have e_8 : gp_wr (0 + 0) = 0 := by omega
          try rw [e_8]
          have w_9 := gz_w (8 * 0)
          have e_10 : gp_wr (8 * 0) = 0 := by omega
          try rw [e_10]
          have w_11 := gz_b (gp_wr (p0 >>> ((0 : Int) % 64).toNat).toInt)
          refine ⟨by omega, ?_⟩
          intro s_12 e_13
          have hs_14 : xM z s_12 := by rw [e_13]; exact xw3 hs _ _
          have q_15 : gp_I s_12 1 2 = 0 := by rw [e_13]; exact q0
          have q_16 : gp_I s_12 1 6 = 0 := by rw [e_13]; exact q1
          have q_17 : gp_I s_12 1 7 = 1 := by rw [e_13]; exact q2
          have q_18 : gp_I s_12 51 8 = 0 := by rw [e_13]; exact q3
          have q_19 : gp_I s_12 57 1 = 0 := by rw [e_13]; exact q4
          have q_20 : gp_I s_12 57 3 = 0 := by rw [e_13]; exact q5
          have q_21 : ∀ k, k < 8 → gp_R s_12 4 k = some 25 := by rw [e_13]; exact q6
          have q_22 : gp_R s_12 51 6 = some 55 := by rw [e_13]; exact q7
          have q_23 : gp_R s_12 51 7 = some 56 := by rw [e_13]; exact q8
          have q_24 : gp_us s_12 = 606895 := by rw [e_13]; exact q9
          have q_25 : gp_sz s_12 = 117 := by rw [e_13]; exact q10
          have w_26 := gz_w (0 + 1)
          have e_27 : gp_wr (0 + 1) = 1 := by omega
          try rw [e_27]
          refine s_2817_37 _ _ _ ?_
          refine ⟨fun h_28 => ?_, fun h_28 => ?_⟩
          · try rw [show gp_I s_12 1 2 = 0 from q_15]
            have w_29 := gz_w (0 + 1)
            have e_30 : gp_wr (0 + 1) = 1 := by omega
            try rw [e_30]
            have w_31 := gz_w (8 * 1)
            have e_32 : gp_wr (8 * 1) = 8 := by omega
            try rw [e_32]
            have w_33 := gz_b (gp_wr (p0 >>> ((8 : Int) % 64).toNat).toInt)
            refine ⟨by omega, ?_⟩
            intro s_34 e_35
            have hs_36 : xM z s_34 := by rw [e_35]; exact xw3 hs_14 _ _
            have q_37 : gp_I s_34 1 2 = 0 := by rw [e_35]; exact q_15
            have q_38 : gp_I s_34 1 6 = 0 := by rw [e_35]; exact q_16
            have q_39 : gp_I s_34 1 7 = 1 := by rw [e_35]; exact q_17
            have q_40 : gp_I s_34 51 8 = 0 := by rw [e_35]; exact q_18
            have q_41 : gp_I s_34 57 1 = 0 := by rw [e_35]; exact q_19
            have q_42 : gp_I s_34 57 3 = 0 := by rw [e_35]; exact q_20
            have q_43 : ∀ k, k < 8 → gp_R s_34 4 k = some 25 := by rw [e_35]; exact q_21
            have q_44 : gp_R s_34 51 6 = some 55 := by rw [e_35]; exact q_22
            have q_45 : gp_R s_34 51 7 = some 56 := by rw [e_35]; exact q_23
            have q_46 : gp_us s_34 = 606895 := by rw [e_35]; exact q_24
            have q_47 : gp_sz s_34 = 117 := by rw [e_35]; exact q_25
            have w_48 := gz_w (1 + 1)
            have e_49 : gp_wr (1 + 1) = 2 := by omega
            try rw [e_49]
            refine s_2817_37 _ _ _ ?_
            refine ⟨fun h_50 => ?_, fun h_50 => ?_⟩
            · try rw [show gp_I s_34 1 2 = 0 from q_37]
              have w_51 := gz_w (0 + 2)
              have e_52 : gp_wr (0 + 2) = 2 := by omega
              try rw [e_52]
              have w_53 := gz_w (8 * 2)
              have e_54 : gp_wr (8 * 2) = 16 := by omega
              try rw [e_54]
              have w_55 := gz_b (gp_wr (p0 >>> ((16 : Int) % 64).toNat).toInt)
              refine ⟨by omega, ?_⟩
              intro s_56 e_57
              have hs_58 : xM z s_56 := by rw [e_57]; exact xw3 hs_36 _ _
              have q_59 : gp_I s_56 1 2 = 0 := by rw [e_57]; exact q_37
              have q_60 : gp_I s_56 1 6 = 0 := by rw [e_57]; exact q_38
              have q_61 : gp_I s_56 1 7 = 1 := by rw [e_57]; exact q_39
              have q_62 : gp_I s_56 51 8 = 0 := by rw [e_57]; exact q_40
              have q_63 : gp_I s_56 57 1 = 0 := by rw [e_57]; exact q_41
              have q_64 : gp_I s_56 57 3 = 0 := by rw [e_57]; exact q_42
              have q_65 : ∀ k, k < 8 → gp_R s_56 4 k = some 25 := by rw [e_57]; exact q_43
              have q_66 : gp_R s_56 51 6 = some 55 := by rw [e_57]; exact q_44
              have q_67 : gp_R s_56 51 7 = some 56 := by rw [e_57]; exact q_45
              have q_68 : gp_us s_56 = 606895 := by rw [e_57]; exact q_46
              have q_69 : gp_sz s_56 = 117 := by rw [e_57]; exact q_47
              have w_70 := gz_w (2 + 1)
              have e_71 : gp_wr (2 + 1) = 3 := by omega
              try rw [e_71]
              refine s_2817_37 _ _ _ ?_
              refine ⟨fun h_72 => ?_, fun h_72 => ?_⟩
              · exfalso; omega
              · try rw [show gp_I s_56 1 2 = 0 from q_59]
                have w_73 := gz_w (0 + 3)
                have e_74 : gp_wr (0 + 3) = 3 := by omega
                try rw [e_74]
                intro s_75 e_76
                have hs_77 : xM z s_75 := by rw [e_76]; exact xw1_2 hs_58 0 _
                have q_78 : gp_I s_75 1 6 = 0 := by rw [e_76]; exact q_60
                have q_79 : gp_I s_75 1 7 = 1 := by rw [e_76]; exact q_61
                have q_80 : gp_I s_75 51 8 = 0 := by rw [e_76]; exact q_62
                have q_81 : gp_I s_75 57 1 = 0 := by rw [e_76]; exact q_63
                have q_82 : gp_I s_75 57 3 = 0 := by rw [e_76]; exact q_64
                have q_83 : ∀ k, k < 8 → gp_R s_75 4 k = some 25 := by rw [e_76]; exact q_65
                have q_84 : gp_R s_75 51 6 = some 55 := by rw [e_76]; exact q_66
                have q_85 : gp_R s_75 51 7 = some 56 := by rw [e_76]; exact q_67
                have q_86 : gp_us s_75 = 606895 := by rw [e_76]; exact q_68
                have q_87 : gp_sz s_75 = 117 := by rw [e_76]; exact q_69
                have q_88 : gp_I s_75 1 2 = 3 := by rw [e_76]; rfl
                try rw [show gp_I s_75 1 2 = 3 from q_88]
                exact k s_75 hs_77 (by omega) (by omega) (by omega) (by omega) (by omega) (by omega) q_83 q_84 q_85 q_86 q_87
            · exfalso; omega
          · exfalso; omega
        · exfalso; omega
set_option maxRecDepth 100000 in
/-- GatheredPoints.feed [None, (4, 4)] -/
theorem zx2817_4 {z : gH} {L d : Nat} {K : Option gV → gH → Prop} {s : gH} (p0 : BitVec 64) (hs : xM z s)  (q0 : gp_I s 1 2 = 0) (q1 : gp_I s 1 6 = 0) (q2 : gp_I s 1 7 = 1) (q3 : gp_I s 51 8 = 0) (q4 : gp_I s 57 1 = 0) (q5 : gp_I s 57 3 = 0) (q6 : ∀ k, k < 8 → gp_R s 4 k = some 25) (q7 : gp_R s 51 6 = some 55) (q8 : gp_R s 51 7 = some 56) (q9 : gp_us s = 606895) (q10 : gp_sz s = 117) (k : ∀ (t : gH), xM z t → (gp_I t 1 2 = 4) → (gp_I t 1 6 = 0) → (gp_I t 1 7 = 1) → (gp_I t 51 8 = 0) → (gp_I t 57 1 = 0) → (gp_I t 57 3 = 0) → (∀ k, k < 8 → gp_R t 4 k = some 25) → (gp_R t 51 6 = some 55) → (gp_R t 51 7 = some 56) → (gp_us t = 606895) → (gp_sz t = 117) → K (some (gp_i 4)) t) : gs_C L (d + 1) 2817 5 [gp_r (some 1), gp_l p0, gp_i 4] s K := by
  refine s_2817_e _ _ ?_
  refine ⟨fun h_1 => ?_, fun h_1 => ?_⟩
  · exfalso; omega
  · refine ⟨fun h_2 => ?_, fun h_2 => ?_⟩
    · exfalso; omega
    · try rw [show gp_I s 1 2 = 0 from q0]
      have w_3 := gz_w (0 + 4)
      have e_4 : gp_wr (0 + 4) = 4 := by omega
      try rw [e_4]
      refine ⟨fun h_5 => ?_, fun h_5 => ?_⟩
      · exfalso; omega
      · refine s_2817_37 _ _ _ ?_
        refine ⟨fun h_6 => ?_, fun h_6 => ?_⟩
        · try rw [show gp_I s 1 2 = 0 from q0]
          have w_7 := gz_w (0 + 0)
          have e_8 : gp_wr (0 + 0) = 0 := by omega
          try rw [e_8]
          have w_9 := gz_w (8 * 0)
          have e_10 : gp_wr (8 * 0) = 0 := by omega
          try rw [e_10]
          have w_11 := gz_b (gp_wr (p0 >>> ((0 : Int) % 64).toNat).toInt)
          refine ⟨by omega, ?_⟩
          intro s_12 e_13
          have hs_14 : xM z s_12 := by rw [e_13]; exact xw3 hs _ _
          have q_15 : gp_I s_12 1 2 = 0 := by rw [e_13]; exact q0
          have q_16 : gp_I s_12 1 6 = 0 := by rw [e_13]; exact q1
          have q_17 : gp_I s_12 1 7 = 1 := by rw [e_13]; exact q2
          have q_18 : gp_I s_12 51 8 = 0 := by rw [e_13]; exact q3
          have q_19 : gp_I s_12 57 1 = 0 := by rw [e_13]; exact q4
          have q_20 : gp_I s_12 57 3 = 0 := by rw [e_13]; exact q5
          have q_21 : ∀ k, k < 8 → gp_R s_12 4 k = some 25 := by rw [e_13]; exact q6
          have q_22 : gp_R s_12 51 6 = some 55 := by rw [e_13]; exact q7
          have q_23 : gp_R s_12 51 7 = some 56 := by rw [e_13]; exact q8
          have q_24 : gp_us s_12 = 606895 := by rw [e_13]; exact q9
          have q_25 : gp_sz s_12 = 117 := by rw [e_13]; exact q10
          have w_26 := gz_w (0 + 1)
          have e_27 : gp_wr (0 + 1) = 1 := by omega
          try rw [e_27]
          refine s_2817_37 _ _ _ ?_
          refine ⟨fun h_28 => ?_, fun h_28 => ?_⟩
          · try rw [show gp_I s_12 1 2 = 0 from q_15]
            have w_29 := gz_w (0 + 1)
            have e_30 : gp_wr (0 + 1) = 1 := by omega
            try rw [e_30]
            have w_31 := gz_w (8 * 1)
            have e_32 : gp_wr (8 * 1) = 8 := by omega
            try rw [e_32]
            have w_33 := gz_b (gp_wr (p0 >>> ((8 : Int) % 64).toNat).toInt)
            refine ⟨by omega, ?_⟩
            intro s_34 e_35
            have hs_36 : xM z s_34 := by rw [e_35]; exact xw3 hs_14 _ _
            have q_37 : gp_I s_34 1 2 = 0 := by rw [e_35]; exact q_15
            have q_38 : gp_I s_34 1 6 = 0 := by rw [e_35]; exact q_16
            have q_39 : gp_I s_34 1 7 = 1 := by rw [e_35]; exact q_17
            have q_40 : gp_I s_34 51 8 = 0 := by rw [e_35]; exact q_18
            have q_41 : gp_I s_34 57 1 = 0 := by rw [e_35]; exact q_19
            have q_42 : gp_I s_34 57 3 = 0 := by rw [e_35]; exact q_20
            have q_43 : ∀ k, k < 8 → gp_R s_34 4 k = some 25 := by rw [e_35]; exact q_21
            have q_44 : gp_R s_34 51 6 = some 55 := by rw [e_35]; exact q_22
            have q_45 : gp_R s_34 51 7 = some 56 := by rw [e_35]; exact q_23
            have q_46 : gp_us s_34 = 606895 := by rw [e_35]; exact q_24
            have q_47 : gp_sz s_34 = 117 := by rw [e_35]; exact q_25
            have w_48 := gz_w (1 + 1)
            have e_49 : gp_wr (1 + 1) = 2 := by omega
            try rw [e_49]
            refine s_2817_37 _ _ _ ?_
            refine ⟨fun h_50 => ?_, fun h_50 => ?_⟩
            · try rw [show gp_I s_34 1 2 = 0 from q_37]
              have w_51 := gz_w (0 + 2)
              have e_52 : gp_wr (0 + 2) = 2 := by omega
              try rw [e_52]
              have w_53 := gz_w (8 * 2)
              have e_54 : gp_wr (8 * 2) = 16 := by omega
              try rw [e_54]
              have w_55 := gz_b (gp_wr (p0 >>> ((16 : Int) % 64).toNat).toInt)
              refine ⟨by omega, ?_⟩
              intro s_56 e_57
              have hs_58 : xM z s_56 := by rw [e_57]; exact xw3 hs_36 _ _
              have q_59 : gp_I s_56 1 2 = 0 := by rw [e_57]; exact q_37
              have q_60 : gp_I s_56 1 6 = 0 := by rw [e_57]; exact q_38
              have q_61 : gp_I s_56 1 7 = 1 := by rw [e_57]; exact q_39
              have q_62 : gp_I s_56 51 8 = 0 := by rw [e_57]; exact q_40
              have q_63 : gp_I s_56 57 1 = 0 := by rw [e_57]; exact q_41
              have q_64 : gp_I s_56 57 3 = 0 := by rw [e_57]; exact q_42
              have q_65 : ∀ k, k < 8 → gp_R s_56 4 k = some 25 := by rw [e_57]; exact q_43
              have q_66 : gp_R s_56 51 6 = some 55 := by rw [e_57]; exact q_44
              have q_67 : gp_R s_56 51 7 = some 56 := by rw [e_57]; exact q_45
              have q_68 : gp_us s_56 = 606895 := by rw [e_57]; exact q_46
              have q_69 : gp_sz s_56 = 117 := by rw [e_57]; exact q_47
              have w_70 := gz_w (2 + 1)
              have e_71 : gp_wr (2 + 1) = 3 := by omega
              try rw [e_71]
              refine s_2817_37 _ _ _ ?_
              refine ⟨fun h_72 => ?_, fun h_72 => ?_⟩
              · try rw [show gp_I s_56 1 2 = 0 from q_59]
                have w_73 := gz_w (0 + 3)
                have e_74 : gp_wr (0 + 3) = 3 := by omega
                try rw [e_74]
                have w_75 := gz_w (8 * 3)
                have e_76 : gp_wr (8 * 3) = 24 := by omega
                try rw [e_76]
                have w_77 := gz_b (gp_wr (p0 >>> ((24 : Int) % 64).toNat).toInt)
                refine ⟨by omega, ?_⟩
                intro s_78 e_79
                have hs_80 : xM z s_78 := by rw [e_79]; exact xw3 hs_58 _ _
                have q_81 : gp_I s_78 1 2 = 0 := by rw [e_79]; exact q_59
                have q_82 : gp_I s_78 1 6 = 0 := by rw [e_79]; exact q_60
                have q_83 : gp_I s_78 1 7 = 1 := by rw [e_79]; exact q_61
                have q_84 : gp_I s_78 51 8 = 0 := by rw [e_79]; exact q_62
                have q_85 : gp_I s_78 57 1 = 0 := by rw [e_79]; exact q_63
                have q_86 : gp_I s_78 57 3 = 0 := by rw [e_79]; exact q_64
                have q_87 : ∀ k, k < 8 → gp_R s_78 4 k = some 25 := by rw [e_79]; exact q_65
                have q_88 : gp_R s_78 51 6 = some 55 := by rw [e_79]; exact q_66
                have q_89 : gp_R s_78 51 7 = some 56 := by rw [e_79]; exact q_67
                have q_90 : gp_us s_78 = 606895 := by rw [e_79]; exact q_68
                have q_91 : gp_sz s_78 = 117 := by rw [e_79]; exact q_69
                have w_92 := gz_w (3 + 1)
                have e_93 : gp_wr (3 + 1) = 4 := by omega
                try rw [e_93]
                refine s_2817_37 _ _ _ ?_
                refine ⟨fun h_94 => ?_, fun h_94 => ?_⟩
                · exfalso; omega
                · try rw [show gp_I s_78 1 2 = 0 from q_81]
                  have w_95 := gz_w (0 + 4)
                  have e_96 : gp_wr (0 + 4) = 4 := by omega
                  try rw [e_96]
                  intro s_97 e_98
                  have hs_99 : xM z s_97 := by rw [e_98]; exact xw1_2 hs_80 0 _
                  have q_100 : gp_I s_97 1 6 = 0 := by rw [e_98]; exact q_82
                  have q_101 : gp_I s_97 1 7 = 1 := by rw [e_98]; exact q_83
                  have q_102 : gp_I s_97 51 8 = 0 := by rw [e_98]; exact q_84
                  have q_103 : gp_I s_97 57 1 = 0 := by rw [e_98]; exact q_85
                  have q_104 : gp_I s_97 57 3 = 0 := by rw [e_98]; exact q_86
                  have q_105 : ∀ k, k < 8 → gp_R s_97 4 k = some 25 := by rw [e_98]; exact q_87
                  have q_106 : gp_R s_97 51 6 = some 55 := by rw [e_98]; exact q_88
                  have q_107 : gp_R s_97 51 7 = some 56 := by rw [e_98]; exact q_89
                  have q_108 : gp_us s_97 = 606895 := by rw [e_98]; exact q_90
                  have q_109 : gp_sz s_97 = 117 := by rw [e_98]; exact q_91
                  have q_110 : gp_I s_97 1 2 = 4 := by rw [e_98]; rfl
                  try rw [show gp_I s_97 1 2 = 4 from q_110]
                  exact k s_97 hs_99 (by omega) (by omega) (by omega) (by omega) (by omega) (by omega) q_105 q_106 q_107 q_108 q_109
              · exfalso; omega
            · exfalso; omega
          · exfalso; omega
        · exfalso; omega
set_option maxRecDepth 100000 in
/-- GatheredPoints.feed [None, (5, 5)] -/
theorem zx2817_5 {z : gH} {L d : Nat} {K : Option gV → gH → Prop} {s : gH} (p0 : BitVec 64) (hs : xM z s)  (q0 : gp_I s 1 2 = 0) (q1 : gp_I s 1 6 = 0) (q2 : gp_I s 1 7 = 1) (q3 : gp_I s 51 8 = 0) (q4 : gp_I s 57 1 = 0) (q5 : gp_I s 57 3 = 0) (q6 : ∀ k, k < 8 → gp_R s 4 k = some 25) (q7 : gp_R s 51 6 = some 55) (q8 : gp_R s 51 7 = some 56) (q9 : gp_us s = 606895) (q10 : gp_sz s = 117) (k : ∀ (t : gH), xM z t → (gp_I t 1 2 = 5) → (gp_I t 1 6 = 0) → (gp_I t 1 7 = 1) → (gp_I t 51 8 = 0) → (gp_I t 57 1 = 0) → (gp_I t 57 3 = 0) → (∀ k, k < 8 → gp_R t 4 k = some 25) → (gp_R t 51 6 = some 55) → (gp_R t 51 7 = some 56) → (gp_us t = 606895) → (gp_sz t = 117) → K (some (gp_i 5)) t) : gs_C L (d + 1) 2817 5 [gp_r (some 1), gp_l p0, gp_i 5] s K := by
  refine s_2817_e _ _ ?_
  refine ⟨fun h_1 => ?_, fun h_1 => ?_⟩
  · exfalso; omega
  · refine ⟨fun h_2 => ?_, fun h_2 => ?_⟩
    · exfalso; omega
    · try rw [show gp_I s 1 2 = 0 from q0]
      have w_3 := gz_w (0 + 5)
      have e_4 : gp_wr (0 + 5) = 5 := by omega
      try rw [e_4]
      refine ⟨fun h_5 => ?_, fun h_5 => ?_⟩
      · exfalso; omega
      · refine s_2817_37 _ _ _ ?_
        refine ⟨fun h_6 => ?_, fun h_6 => ?_⟩
        · try rw [show gp_I s 1 2 = 0 from q0]
          have w_7 := gz_w (0 + 0)
          have e_8 : gp_wr (0 + 0) = 0 := by omega
          try rw [e_8]
          have w_9 := gz_w (8 * 0)
          have e_10 : gp_wr (8 * 0) = 0 := by omega
          try rw [e_10]
          have w_11 := gz_b (gp_wr (p0 >>> ((0 : Int) % 64).toNat).toInt)
          refine ⟨by omega, ?_⟩
          intro s_12 e_13
          have hs_14 : xM z s_12 := by rw [e_13]; exact xw3 hs _ _
          have q_15 : gp_I s_12 1 2 = 0 := by rw [e_13]; exact q0
          have q_16 : gp_I s_12 1 6 = 0 := by rw [e_13]; exact q1
          have q_17 : gp_I s_12 1 7 = 1 := by rw [e_13]; exact q2
          have q_18 : gp_I s_12 51 8 = 0 := by rw [e_13]; exact q3
          have q_19 : gp_I s_12 57 1 = 0 := by rw [e_13]; exact q4
          have q_20 : gp_I s_12 57 3 = 0 := by rw [e_13]; exact q5
          have q_21 : ∀ k, k < 8 → gp_R s_12 4 k = some 25 := by rw [e_13]; exact q6
          have q_22 : gp_R s_12 51 6 = some 55 := by rw [e_13]; exact q7
          have q_23 : gp_R s_12 51 7 = some 56 := by rw [e_13]; exact q8
          have q_24 : gp_us s_12 = 606895 := by rw [e_13]; exact q9
          have q_25 : gp_sz s_12 = 117 := by rw [e_13]; exact q10
          have w_26 := gz_w (0 + 1)
          have e_27 : gp_wr (0 + 1) = 1 := by omega
          try rw [e_27]
          refine s_2817_37 _ _ _ ?_
          refine ⟨fun h_28 => ?_, fun h_28 => ?_⟩
          · try rw [show gp_I s_12 1 2 = 0 from q_15]
            have w_29 := gz_w (0 + 1)
            have e_30 : gp_wr (0 + 1) = 1 := by omega
            try rw [e_30]
            have w_31 := gz_w (8 * 1)
            have e_32 : gp_wr (8 * 1) = 8 := by omega
            try rw [e_32]
            have w_33 := gz_b (gp_wr (p0 >>> ((8 : Int) % 64).toNat).toInt)
            refine ⟨by omega, ?_⟩
            intro s_34 e_35
            have hs_36 : xM z s_34 := by rw [e_35]; exact xw3 hs_14 _ _
            have q_37 : gp_I s_34 1 2 = 0 := by rw [e_35]; exact q_15
            have q_38 : gp_I s_34 1 6 = 0 := by rw [e_35]; exact q_16
            have q_39 : gp_I s_34 1 7 = 1 := by rw [e_35]; exact q_17
            have q_40 : gp_I s_34 51 8 = 0 := by rw [e_35]; exact q_18
            have q_41 : gp_I s_34 57 1 = 0 := by rw [e_35]; exact q_19
            have q_42 : gp_I s_34 57 3 = 0 := by rw [e_35]; exact q_20
            have q_43 : ∀ k, k < 8 → gp_R s_34 4 k = some 25 := by rw [e_35]; exact q_21
            have q_44 : gp_R s_34 51 6 = some 55 := by rw [e_35]; exact q_22
            have q_45 : gp_R s_34 51 7 = some 56 := by rw [e_35]; exact q_23
            have q_46 : gp_us s_34 = 606895 := by rw [e_35]; exact q_24
            have q_47 : gp_sz s_34 = 117 := by rw [e_35]; exact q_25
            have w_48 := gz_w (1 + 1)
            have e_49 : gp_wr (1 + 1) = 2 := by omega
            try rw [e_49]
            refine s_2817_37 _ _ _ ?_
            refine ⟨fun h_50 => ?_, fun h_50 => ?_⟩
            · try rw [show gp_I s_34 1 2 = 0 from q_37]
              have w_51 := gz_w (0 + 2)
              have e_52 : gp_wr (0 + 2) = 2 := by omega
              try rw [e_52]
              have w_53 := gz_w (8 * 2)
              have e_54 : gp_wr (8 * 2) = 16 := by omega
              try rw [e_54]
              have w_55 := gz_b (gp_wr (p0 >>> ((16 : Int) % 64).toNat).toInt)
              refine ⟨by omega, ?_⟩
              intro s_56 e_57
              have hs_58 : xM z s_56 := by rw [e_57]; exact xw3 hs_36 _ _
              have q_59 : gp_I s_56 1 2 = 0 := by rw [e_57]; exact q_37
              have q_60 : gp_I s_56 1 6 = 0 := by rw [e_57]; exact q_38
              have q_61 : gp_I s_56 1 7 = 1 := by rw [e_57]; exact q_39
              have q_62 : gp_I s_56 51 8 = 0 := by rw [e_57]; exact q_40
              have q_63 : gp_I s_56 57 1 = 0 := by rw [e_57]; exact q_41
              have q_64 : gp_I s_56 57 3 = 0 := by rw [e_57]; exact q_42
              have q_65 : ∀ k, k < 8 → gp_R s_56 4 k = some 25 := by rw [e_57]; exact q_43
              have q_66 : gp_R s_56 51 6 = some 55 := by rw [e_57]; exact q_44
              have q_67 : gp_R s_56 51 7 = some 56 := by rw [e_57]; exact q_45
              have q_68 : gp_us s_56 = 606895 := by rw [e_57]; exact q_46
              have q_69 : gp_sz s_56 = 117 := by rw [e_57]; exact q_47
              have w_70 := gz_w (2 + 1)
              have e_71 : gp_wr (2 + 1) = 3 := by omega
              try rw [e_71]
              refine s_2817_37 _ _ _ ?_
              refine ⟨fun h_72 => ?_, fun h_72 => ?_⟩
              · try rw [show gp_I s_56 1 2 = 0 from q_59]
                have w_73 := gz_w (0 + 3)
                have e_74 : gp_wr (0 + 3) = 3 := by omega
                try rw [e_74]
                have w_75 := gz_w (8 * 3)
                have e_76 : gp_wr (8 * 3) = 24 := by omega
                try rw [e_76]
                have w_77 := gz_b (gp_wr (p0 >>> ((24 : Int) % 64).toNat).toInt)
                refine ⟨by omega, ?_⟩
                intro s_78 e_79
                have hs_80 : xM z s_78 := by rw [e_79]; exact xw3 hs_58 _ _
                have q_81 : gp_I s_78 1 2 = 0 := by rw [e_79]; exact q_59
                have q_82 : gp_I s_78 1 6 = 0 := by rw [e_79]; exact q_60
                have q_83 : gp_I s_78 1 7 = 1 := by rw [e_79]; exact q_61
                have q_84 : gp_I s_78 51 8 = 0 := by rw [e_79]; exact q_62
                have q_85 : gp_I s_78 57 1 = 0 := by rw [e_79]; exact q_63
                have q_86 : gp_I s_78 57 3 = 0 := by rw [e_79]; exact q_64
                have q_87 : ∀ k, k < 8 → gp_R s_78 4 k = some 25 := by rw [e_79]; exact q_65
                have q_88 : gp_R s_78 51 6 = some 55 := by rw [e_79]; exact q_66
                have q_89 : gp_R s_78 51 7 = some 56 := by rw [e_79]; exact q_67
                have q_90 : gp_us s_78 = 606895 := by rw [e_79]; exact q_68
                have q_91 : gp_sz s_78 = 117 := by rw [e_79]; exact q_69
                have w_92 := gz_w (3 + 1)
                have e_93 : gp_wr (3 + 1) = 4 := by omega
                try rw [e_93]
                refine s_2817_37 _ _ _ ?_
                refine ⟨fun h_94 => ?_, fun h_94 => ?_⟩
                · try rw [show gp_I s_78 1 2 = 0 from q_81]
                  have w_95 := gz_w (0 + 4)
                  have e_96 : gp_wr (0 + 4) = 4 := by omega
                  try rw [e_96]
                  have w_97 := gz_w (8 * 4)
                  have e_98 : gp_wr (8 * 4) = 32 := by omega
                  try rw [e_98]
                  have w_99 := gz_b (gp_wr (p0 >>> ((32 : Int) % 64).toNat).toInt)
                  refine ⟨by omega, ?_⟩
                  intro s_100 e_101
                  have hs_102 : xM z s_100 := by rw [e_101]; exact xw3 hs_80 _ _
                  have q_103 : gp_I s_100 1 2 = 0 := by rw [e_101]; exact q_81
                  have q_104 : gp_I s_100 1 6 = 0 := by rw [e_101]; exact q_82
                  have q_105 : gp_I s_100 1 7 = 1 := by rw [e_101]; exact q_83
                  have q_106 : gp_I s_100 51 8 = 0 := by rw [e_101]; exact q_84
                  have q_107 : gp_I s_100 57 1 = 0 := by rw [e_101]; exact q_85
                  have q_108 : gp_I s_100 57 3 = 0 := by rw [e_101]; exact q_86
                  have q_109 : ∀ k, k < 8 → gp_R s_100 4 k = some 25 := by rw [e_101]; exact q_87
                  have q_110 : gp_R s_100 51 6 = some 55 := by rw [e_101]; exact q_88
                  have q_111 : gp_R s_100 51 7 = some 56 := by rw [e_101]; exact q_89
                  have q_112 : gp_us s_100 = 606895 := by rw [e_101]; exact q_90
                  have q_113 : gp_sz s_100 = 117 := by rw [e_101]; exact q_91
                  have w_114 := gz_w (4 + 1)
                  have e_115 : gp_wr (4 + 1) = 5 := by omega
                  try rw [e_115]
                  refine s_2817_37 _ _ _ ?_
                  refine ⟨fun h_116 => ?_, fun h_116 => ?_⟩
                  · exfalso; omega
                  · try rw [show gp_I s_100 1 2 = 0 from q_103]
                    have w_117 := gz_w (0 + 5)
                    have e_118 : gp_wr (0 + 5) = 5 := by omega
                    try rw [e_118]
                    intro s_119 e_120
                    have hs_121 : xM z s_119 := by rw [e_120]; exact xw1_2 hs_102 0 _
                    have q_122 : gp_I s_119 1 6 = 0 := by rw [e_120]; exact q_104
                    have q_123 : gp_I s_119 1 7 = 1 := by rw [e_120]; exact q_105
                    have q_124 : gp_I s_119 51 8 = 0 := by rw [e_120]; exact q_106
                    have q_125 : gp_I s_119 57 1 = 0 := by rw [e_120]; exact q_107
                    have q_126 : gp_I s_119 57 3 = 0 := by rw [e_120]; exact q_108
                    have q_127 : ∀ k, k < 8 → gp_R s_119 4 k = some 25 := by rw [e_120]; exact q_109
                    have q_128 : gp_R s_119 51 6 = some 55 := by rw [e_120]; exact q_110
                    have q_129 : gp_R s_119 51 7 = some 56 := by rw [e_120]; exact q_111
                    have q_130 : gp_us s_119 = 606895 := by rw [e_120]; exact q_112
                    have q_131 : gp_sz s_119 = 117 := by rw [e_120]; exact q_113
                    have q_132 : gp_I s_119 1 2 = 5 := by rw [e_120]; rfl
                    try rw [show gp_I s_119 1 2 = 5 from q_132]
                    exact k s_119 hs_121 (by omega) (by omega) (by omega) (by omega) (by omega) (by omega) q_127 q_128 q_129 q_130 q_131
                · exfalso; omega
              · exfalso; omega
            · exfalso; omega
          · exfalso; omega
        · exfalso; omega
set_option maxRecDepth 100000 in
/-- GatheredPoints.feed [None, (6, 6)] -/
theorem zx2817_6 {z : gH} {L d : Nat} {K : Option gV → gH → Prop} {s : gH} (p0 : BitVec 64) (hs : xM z s)  (q0 : gp_I s 1 2 = 0) (q1 : gp_I s 1 6 = 0) (q2 : gp_I s 1 7 = 1) (q3 : gp_I s 51 8 = 0) (q4 : gp_I s 57 1 = 0) (q5 : gp_I s 57 3 = 0) (q6 : ∀ k, k < 8 → gp_R s 4 k = some 25) (q7 : gp_R s 51 6 = some 55) (q8 : gp_R s 51 7 = some 56) (q9 : gp_us s = 606895) (q10 : gp_sz s = 117) (k : ∀ (t : gH), xM z t → (gp_I t 1 2 = 6) → (gp_I t 1 6 = 0) → (gp_I t 1 7 = 1) → (gp_I t 51 8 = 0) → (gp_I t 57 1 = 0) → (gp_I t 57 3 = 0) → (∀ k, k < 8 → gp_R t 4 k = some 25) → (gp_R t 51 6 = some 55) → (gp_R t 51 7 = some 56) → (gp_us t = 606895) → (gp_sz t = 117) → K (some (gp_i 6)) t) : gs_C L (d + 1) 2817 5 [gp_r (some 1), gp_l p0, gp_i 6] s K := by
  refine s_2817_e _ _ ?_
  refine ⟨fun h_1 => ?_, fun h_1 => ?_⟩
  · exfalso; omega
  · refine ⟨fun h_2 => ?_, fun h_2 => ?_⟩
    · exfalso; omega
    · try rw [show gp_I s 1 2 = 0 from q0]
      have w_3 := gz_w (0 + 6)
      have e_4 : gp_wr (0 + 6) = 6 := by omega
      try rw [e_4]
      refine ⟨fun h_5 => ?_, fun h_5 => ?_⟩
      · exfalso; omega
      · refine s_2817_37 _ _ _ ?_
        refine ⟨fun h_6 => ?_, fun h_6 => ?_⟩
        · try rw [show gp_I s 1 2 = 0 from q0]
          have w_7 := gz_w (0 + 0)
          have e_8 : gp_wr (0 + 0) = 0 := by omega
          try rw [e_8]
          have w_9 := gz_w (8 * 0)
          have e_10 : gp_wr (8 * 0) = 0 := by omega
          try rw [e_10]
          have w_11 := gz_b (gp_wr (p0 >>> ((0 : Int) % 64).toNat).toInt)
          refine ⟨by omega, ?_⟩
          intro s_12 e_13
          have hs_14 : xM z s_12 := by rw [e_13]; exact xw3 hs _ _
          have q_15 : gp_I s_12 1 2 = 0 := by rw [e_13]; exact q0
          have q_16 : gp_I s_12 1 6 = 0 := by rw [e_13]; exact q1
          have q_17 : gp_I s_12 1 7 = 1 := by rw [e_13]; exact q2
          have q_18 : gp_I s_12 51 8 = 0 := by rw [e_13]; exact q3
          have q_19 : gp_I s_12 57 1 = 0 := by rw [e_13]; exact q4
          have q_20 : gp_I s_12 57 3 = 0 := by rw [e_13]; exact q5
          have q_21 : ∀ k, k < 8 → gp_R s_12 4 k = some 25 := by rw [e_13]; exact q6
          have q_22 : gp_R s_12 51 6 = some 55 := by rw [e_13]; exact q7
          have q_23 : gp_R s_12 51 7 = some 56 := by rw [e_13]; exact q8
          have q_24 : gp_us s_12 = 606895 := by rw [e_13]; exact q9
          have q_25 : gp_sz s_12 = 117 := by rw [e_13]; exact q10
          have w_26 := gz_w (0 + 1)
          have e_27 : gp_wr (0 + 1) = 1 := by omega
          try rw [e_27]
          refine s_2817_37 _ _ _ ?_
          refine ⟨fun h_28 => ?_, fun h_28 => ?_⟩
          · try rw [show gp_I s_12 1 2 = 0 from q_15]
            have w_29 := gz_w (0 + 1)
            have e_30 : gp_wr (0 + 1) = 1 := by omega
            try rw [e_30]
            have w_31 := gz_w (8 * 1)
            have e_32 : gp_wr (8 * 1) = 8 := by omega
            try rw [e_32]
            have w_33 := gz_b (gp_wr (p0 >>> ((8 : Int) % 64).toNat).toInt)
            refine ⟨by omega, ?_⟩
            intro s_34 e_35
            have hs_36 : xM z s_34 := by rw [e_35]; exact xw3 hs_14 _ _
            have q_37 : gp_I s_34 1 2 = 0 := by rw [e_35]; exact q_15
            have q_38 : gp_I s_34 1 6 = 0 := by rw [e_35]; exact q_16
            have q_39 : gp_I s_34 1 7 = 1 := by rw [e_35]; exact q_17
            have q_40 : gp_I s_34 51 8 = 0 := by rw [e_35]; exact q_18
            have q_41 : gp_I s_34 57 1 = 0 := by rw [e_35]; exact q_19
            have q_42 : gp_I s_34 57 3 = 0 := by rw [e_35]; exact q_20
            have q_43 : ∀ k, k < 8 → gp_R s_34 4 k = some 25 := by rw [e_35]; exact q_21
            have q_44 : gp_R s_34 51 6 = some 55 := by rw [e_35]; exact q_22
            have q_45 : gp_R s_34 51 7 = some 56 := by rw [e_35]; exact q_23
            have q_46 : gp_us s_34 = 606895 := by rw [e_35]; exact q_24
            have q_47 : gp_sz s_34 = 117 := by rw [e_35]; exact q_25
            have w_48 := gz_w (1 + 1)
            have e_49 : gp_wr (1 + 1) = 2 := by omega
            try rw [e_49]
            refine s_2817_37 _ _ _ ?_
            refine ⟨fun h_50 => ?_, fun h_50 => ?_⟩
            · try rw [show gp_I s_34 1 2 = 0 from q_37]
              have w_51 := gz_w (0 + 2)
              have e_52 : gp_wr (0 + 2) = 2 := by omega
              try rw [e_52]
              have w_53 := gz_w (8 * 2)
              have e_54 : gp_wr (8 * 2) = 16 := by omega
              try rw [e_54]
              have w_55 := gz_b (gp_wr (p0 >>> ((16 : Int) % 64).toNat).toInt)
              refine ⟨by omega, ?_⟩
              intro s_56 e_57
              have hs_58 : xM z s_56 := by rw [e_57]; exact xw3 hs_36 _ _
              have q_59 : gp_I s_56 1 2 = 0 := by rw [e_57]; exact q_37
              have q_60 : gp_I s_56 1 6 = 0 := by rw [e_57]; exact q_38
              have q_61 : gp_I s_56 1 7 = 1 := by rw [e_57]; exact q_39
              have q_62 : gp_I s_56 51 8 = 0 := by rw [e_57]; exact q_40
              have q_63 : gp_I s_56 57 1 = 0 := by rw [e_57]; exact q_41
              have q_64 : gp_I s_56 57 3 = 0 := by rw [e_57]; exact q_42
              have q_65 : ∀ k, k < 8 → gp_R s_56 4 k = some 25 := by rw [e_57]; exact q_43
              have q_66 : gp_R s_56 51 6 = some 55 := by rw [e_57]; exact q_44
              have q_67 : gp_R s_56 51 7 = some 56 := by rw [e_57]; exact q_45
              have q_68 : gp_us s_56 = 606895 := by rw [e_57]; exact q_46
              have q_69 : gp_sz s_56 = 117 := by rw [e_57]; exact q_47
              have w_70 := gz_w (2 + 1)
              have e_71 : gp_wr (2 + 1) = 3 := by omega
              try rw [e_71]
              refine s_2817_37 _ _ _ ?_
              refine ⟨fun h_72 => ?_, fun h_72 => ?_⟩
              · try rw [show gp_I s_56 1 2 = 0 from q_59]
                have w_73 := gz_w (0 + 3)
                have e_74 : gp_wr (0 + 3) = 3 := by omega
                try rw [e_74]
                have w_75 := gz_w (8 * 3)
                have e_76 : gp_wr (8 * 3) = 24 := by omega
                try rw [e_76]
                have w_77 := gz_b (gp_wr (p0 >>> ((24 : Int) % 64).toNat).toInt)
                refine ⟨by omega, ?_⟩
                intro s_78 e_79
                have hs_80 : xM z s_78 := by rw [e_79]; exact xw3 hs_58 _ _
                have q_81 : gp_I s_78 1 2 = 0 := by rw [e_79]; exact q_59
                have q_82 : gp_I s_78 1 6 = 0 := by rw [e_79]; exact q_60
                have q_83 : gp_I s_78 1 7 = 1 := by rw [e_79]; exact q_61
                have q_84 : gp_I s_78 51 8 = 0 := by rw [e_79]; exact q_62
                have q_85 : gp_I s_78 57 1 = 0 := by rw [e_79]; exact q_63
                have q_86 : gp_I s_78 57 3 = 0 := by rw [e_79]; exact q_64
                have q_87 : ∀ k, k < 8 → gp_R s_78 4 k = some 25 := by rw [e_79]; exact q_65
                have q_88 : gp_R s_78 51 6 = some 55 := by rw [e_79]; exact q_66
                have q_89 : gp_R s_78 51 7 = some 56 := by rw [e_79]; exact q_67
                have q_90 : gp_us s_78 = 606895 := by rw [e_79]; exact q_68
                have q_91 : gp_sz s_78 = 117 := by rw [e_79]; exact q_69
                have w_92 := gz_w (3 + 1)
                have e_93 : gp_wr (3 + 1) = 4 := by omega
                try rw [e_93]
                refine s_2817_37 _ _ _ ?_
                refine ⟨fun h_94 => ?_, fun h_94 => ?_⟩
                · try rw [show gp_I s_78 1 2 = 0 from q_81]
                  have w_95 := gz_w (0 + 4)
                  have e_96 : gp_wr (0 + 4) = 4 := by omega
                  try rw [e_96]
                  have w_97 := gz_w (8 * 4)
                  have e_98 : gp_wr (8 * 4) = 32 := by omega
                  try rw [e_98]
                  have w_99 := gz_b (gp_wr (p0 >>> ((32 : Int) % 64).toNat).toInt)
                  refine ⟨by omega, ?_⟩
                  intro s_100 e_101
                  have hs_102 : xM z s_100 := by rw [e_101]; exact xw3 hs_80 _ _
                  have q_103 : gp_I s_100 1 2 = 0 := by rw [e_101]; exact q_81
                  have q_104 : gp_I s_100 1 6 = 0 := by rw [e_101]; exact q_82
                  have q_105 : gp_I s_100 1 7 = 1 := by rw [e_101]; exact q_83
                  have q_106 : gp_I s_100 51 8 = 0 := by rw [e_101]; exact q_84
                  have q_107 : gp_I s_100 57 1 = 0 := by rw [e_101]; exact q_85
                  have q_108 : gp_I s_100 57 3 = 0 := by rw [e_101]; exact q_86
                  have q_109 : ∀ k, k < 8 → gp_R s_100 4 k = some 25 := by rw [e_101]; exact q_87
                  have q_110 : gp_R s_100 51 6 = some 55 := by rw [e_101]; exact q_88
                  have q_111 : gp_R s_100 51 7 = some 56 := by rw [e_101]; exact q_89
                  have q_112 : gp_us s_100 = 606895 := by rw [e_101]; exact q_90
                  have q_113 : gp_sz s_100 = 117 := by rw [e_101]; exact q_91
                  have w_114 := gz_w (4 + 1)
                  have e_115 : gp_wr (4 + 1) = 5 := by omega
                  try rw [e_115]
                  refine s_2817_37 _ _ _ ?_
                  refine ⟨fun h_116 => ?_, fun h_116 => ?_⟩
                  · try rw [show gp_I s_100 1 2 = 0 from q_103]
                    have w_117 := gz_w (0 + 5)
                    have e_118 : gp_wr (0 + 5) = 5 := by omega
                    try rw [e_118]
                    have w_119 := gz_w (8 * 5)
                    have e_120 : gp_wr (8 * 5) = 40 := by omega
                    try rw [e_120]
                    have w_121 := gz_b (gp_wr (p0 >>> ((40 : Int) % 64).toNat).toInt)
                    refine ⟨by omega, ?_⟩
                    intro s_122 e_123
                    have hs_124 : xM z s_122 := by rw [e_123]; exact xw3 hs_102 _ _
                    have q_125 : gp_I s_122 1 2 = 0 := by rw [e_123]; exact q_103
                    have q_126 : gp_I s_122 1 6 = 0 := by rw [e_123]; exact q_104
                    have q_127 : gp_I s_122 1 7 = 1 := by rw [e_123]; exact q_105
                    have q_128 : gp_I s_122 51 8 = 0 := by rw [e_123]; exact q_106
                    have q_129 : gp_I s_122 57 1 = 0 := by rw [e_123]; exact q_107
                    have q_130 : gp_I s_122 57 3 = 0 := by rw [e_123]; exact q_108
                    have q_131 : ∀ k, k < 8 → gp_R s_122 4 k = some 25 := by rw [e_123]; exact q_109
                    have q_132 : gp_R s_122 51 6 = some 55 := by rw [e_123]; exact q_110
                    have q_133 : gp_R s_122 51 7 = some 56 := by rw [e_123]; exact q_111
                    have q_134 : gp_us s_122 = 606895 := by rw [e_123]; exact q_112
                    have q_135 : gp_sz s_122 = 117 := by rw [e_123]; exact q_113
                    have w_136 := gz_w (5 + 1)
                    have e_137 : gp_wr (5 + 1) = 6 := by omega
                    try rw [e_137]
                    refine s_2817_37 _ _ _ ?_
                    refine ⟨fun h_138 => ?_, fun h_138 => ?_⟩
                    · exfalso; omega
                    · try rw [show gp_I s_122 1 2 = 0 from q_125]
                      have w_139 := gz_w (0 + 6)
                      have e_140 : gp_wr (0 + 6) = 6 := by omega
                      try rw [e_140]
                      intro s_141 e_142
                      have hs_143 : xM z s_141 := by rw [e_142]; exact xw1_2 hs_124 0 _
                      have q_144 : gp_I s_141 1 6 = 0 := by rw [e_142]; exact q_126
                      have q_145 : gp_I s_141 1 7 = 1 := by rw [e_142]; exact q_127
                      have q_146 : gp_I s_141 51 8 = 0 := by rw [e_142]; exact q_128
                      have q_147 : gp_I s_141 57 1 = 0 := by rw [e_142]; exact q_129
                      have q_148 : gp_I s_141 57 3 = 0 := by rw [e_142]; exact q_130
                      have q_149 : ∀ k, k < 8 → gp_R s_141 4 k = some 25 := by rw [e_142]; exact q_131
                      have q_150 : gp_R s_141 51 6 = some 55 := by rw [e_142]; exact q_132
                      have q_151 : gp_R s_141 51 7 = some 56 := by rw [e_142]; exact q_133
                      have q_152 : gp_us s_141 = 606895 := by rw [e_142]; exact q_134
                      have q_153 : gp_sz s_141 = 117 := by rw [e_142]; exact q_135
                      have q_154 : gp_I s_141 1 2 = 6 := by rw [e_142]; rfl
                      try rw [show gp_I s_141 1 2 = 6 from q_154]
                      exact k s_141 hs_143 (by omega) (by omega) (by omega) (by omega) (by omega) (by omega) q_149 q_150 q_151 q_152 q_153
                  · exfalso; omega
                · exfalso; omega
              · exfalso; omega
            · exfalso; omega
          · exfalso; omega
        · exfalso; omega
set_option maxRecDepth 100000 in
/-- GatheredPoints.feed [None, (7, 7)] -/
theorem zx2817_7 {z : gH} {L d : Nat} {K : Option gV → gH → Prop} {s : gH} (p0 : BitVec 64) (hs : xM z s)  (q0 : gp_I s 1 2 = 0) (q1 : gp_I s 1 6 = 0) (q2 : gp_I s 1 7 = 1) (q3 : gp_I s 51 8 = 0) (q4 : gp_I s 57 1 = 0) (q5 : gp_I s 57 3 = 0) (q6 : ∀ k, k < 8 → gp_R s 4 k = some 25) (q7 : gp_R s 51 6 = some 55) (q8 : gp_R s 51 7 = some 56) (q9 : gp_us s = 606895) (q10 : gp_sz s = 117) (k : ∀ (t : gH), xM z t → (gp_I t 1 2 = 7) → (gp_I t 1 6 = 0) → (gp_I t 1 7 = 1) → (gp_I t 51 8 = 0) → (gp_I t 57 1 = 0) → (gp_I t 57 3 = 0) → (∀ k, k < 8 → gp_R t 4 k = some 25) → (gp_R t 51 6 = some 55) → (gp_R t 51 7 = some 56) → (gp_us t = 606895) → (gp_sz t = 117) → K (some (gp_i 7)) t) : gs_C L (d + 1) 2817 5 [gp_r (some 1), gp_l p0, gp_i 7] s K := by
  refine s_2817_e _ _ ?_
  refine ⟨fun h_1 => ?_, fun h_1 => ?_⟩
  · exfalso; omega
  · refine ⟨fun h_2 => ?_, fun h_2 => ?_⟩
    · exfalso; omega
    · try rw [show gp_I s 1 2 = 0 from q0]
      have w_3 := gz_w (0 + 7)
      have e_4 : gp_wr (0 + 7) = 7 := by omega
      try rw [e_4]
      refine ⟨fun h_5 => ?_, fun h_5 => ?_⟩
      · exfalso; omega
      · refine s_2817_37 _ _ _ ?_
        refine ⟨fun h_6 => ?_, fun h_6 => ?_⟩
        · try rw [show gp_I s 1 2 = 0 from q0]
          have w_7 := gz_w (0 + 0)
          have e_8 : gp_wr (0 + 0) = 0 := by omega
          try rw [e_8]
          have w_9 := gz_w (8 * 0)
          have e_10 : gp_wr (8 * 0) = 0 := by omega
          try rw [e_10]
          have w_11 := gz_b (gp_wr (p0 >>> ((0 : Int) % 64).toNat).toInt)
          refine ⟨by omega, ?_⟩
          intro s_12 e_13
          have hs_14 : xM z s_12 := by rw [e_13]; exact xw3 hs _ _
          have q_15 : gp_I s_12 1 2 = 0 := by rw [e_13]; exact q0
          have q_16 : gp_I s_12 1 6 = 0 := by rw [e_13]; exact q1
          have q_17 : gp_I s_12 1 7 = 1 := by rw [e_13]; exact q2
          have q_18 : gp_I s_12 51 8 = 0 := by rw [e_13]; exact q3
          have q_19 : gp_I s_12 57 1 = 0 := by rw [e_13]; exact q4
          have q_20 : gp_I s_12 57 3 = 0 := by rw [e_13]; exact q5
          have q_21 : ∀ k, k < 8 → gp_R s_12 4 k = some 25 := by rw [e_13]; exact q6
          have q_22 : gp_R s_12 51 6 = some 55 := by rw [e_13]; exact q7
          have q_23 : gp_R s_12 51 7 = some 56 := by rw [e_13]; exact q8
          have q_24 : gp_us s_12 = 606895 := by rw [e_13]; exact q9
          have q_25 : gp_sz s_12 = 117 := by rw [e_13]; exact q10
          have w_26 := gz_w (0 + 1)
          have e_27 : gp_wr (0 + 1) = 1 := by omega
          try rw [e_27]
          refine s_2817_37 _ _ _ ?_
          refine ⟨fun h_28 => ?_, fun h_28 => ?_⟩
          · try rw [show gp_I s_12 1 2 = 0 from q_15]
            have w_29 := gz_w (0 + 1)
            have e_30 : gp_wr (0 + 1) = 1 := by omega
            try rw [e_30]
            have w_31 := gz_w (8 * 1)
            have e_32 : gp_wr (8 * 1) = 8 := by omega
            try rw [e_32]
            have w_33 := gz_b (gp_wr (p0 >>> ((8 : Int) % 64).toNat).toInt)
            refine ⟨by omega, ?_⟩
            intro s_34 e_35
            have hs_36 : xM z s_34 := by rw [e_35]; exact xw3 hs_14 _ _
            have q_37 : gp_I s_34 1 2 = 0 := by rw [e_35]; exact q_15
            have q_38 : gp_I s_34 1 6 = 0 := by rw [e_35]; exact q_16
            have q_39 : gp_I s_34 1 7 = 1 := by rw [e_35]; exact q_17
            have q_40 : gp_I s_34 51 8 = 0 := by rw [e_35]; exact q_18
            have q_41 : gp_I s_34 57 1 = 0 := by rw [e_35]; exact q_19
            have q_42 : gp_I s_34 57 3 = 0 := by rw [e_35]; exact q_20
            have q_43 : ∀ k, k < 8 → gp_R s_34 4 k = some 25 := by rw [e_35]; exact q_21
            have q_44 : gp_R s_34 51 6 = some 55 := by rw [e_35]; exact q_22
            have q_45 : gp_R s_34 51 7 = some 56 := by rw [e_35]; exact q_23
            have q_46 : gp_us s_34 = 606895 := by rw [e_35]; exact q_24
            have q_47 : gp_sz s_34 = 117 := by rw [e_35]; exact q_25
            have w_48 := gz_w (1 + 1)
            have e_49 : gp_wr (1 + 1) = 2 := by omega
            try rw [e_49]
            refine s_2817_37 _ _ _ ?_
            refine ⟨fun h_50 => ?_, fun h_50 => ?_⟩
            · try rw [show gp_I s_34 1 2 = 0 from q_37]
              have w_51 := gz_w (0 + 2)
              have e_52 : gp_wr (0 + 2) = 2 := by omega
              try rw [e_52]
              have w_53 := gz_w (8 * 2)
              have e_54 : gp_wr (8 * 2) = 16 := by omega
              try rw [e_54]
              have w_55 := gz_b (gp_wr (p0 >>> ((16 : Int) % 64).toNat).toInt)
              refine ⟨by omega, ?_⟩
              intro s_56 e_57
              have hs_58 : xM z s_56 := by rw [e_57]; exact xw3 hs_36 _ _
              have q_59 : gp_I s_56 1 2 = 0 := by rw [e_57]; exact q_37
              have q_60 : gp_I s_56 1 6 = 0 := by rw [e_57]; exact q_38
              have q_61 : gp_I s_56 1 7 = 1 := by rw [e_57]; exact q_39
              have q_62 : gp_I s_56 51 8 = 0 := by rw [e_57]; exact q_40
              have q_63 : gp_I s_56 57 1 = 0 := by rw [e_57]; exact q_41
              have q_64 : gp_I s_56 57 3 = 0 := by rw [e_57]; exact q_42
              have q_65 : ∀ k, k < 8 → gp_R s_56 4 k = some 25 := by rw [e_57]; exact q_43
              have q_66 : gp_R s_56 51 6 = some 55 := by rw [e_57]; exact q_44
              have q_67 : gp_R s_56 51 7 = some 56 := by rw [e_57]; exact q_45
              have q_68 : gp_us s_56 = 606895 := by rw [e_57]; exact q_46
              have q_69 : gp_sz s_56 = 117 := by rw [e_57]; exact q_47
              have w_70 := gz_w (2 + 1)
              have e_71 : gp_wr (2 + 1) = 3 := by omega
              try rw [e_71]
              refine s_2817_37 _ _ _ ?_
              refine ⟨fun h_72 => ?_, fun h_72 => ?_⟩
              · try rw [show gp_I s_56 1 2 = 0 from q_59]
                have w_73 := gz_w (0 + 3)
                have e_74 : gp_wr (0 + 3) = 3 := by omega
                try rw [e_74]
                have w_75 := gz_w (8 * 3)
                have e_76 : gp_wr (8 * 3) = 24 := by omega
                try rw [e_76]
                have w_77 := gz_b (gp_wr (p0 >>> ((24 : Int) % 64).toNat).toInt)
                refine ⟨by omega, ?_⟩
                intro s_78 e_79
                have hs_80 : xM z s_78 := by rw [e_79]; exact xw3 hs_58 _ _
                have q_81 : gp_I s_78 1 2 = 0 := by rw [e_79]; exact q_59
                have q_82 : gp_I s_78 1 6 = 0 := by rw [e_79]; exact q_60
                have q_83 : gp_I s_78 1 7 = 1 := by rw [e_79]; exact q_61
                have q_84 : gp_I s_78 51 8 = 0 := by rw [e_79]; exact q_62
                have q_85 : gp_I s_78 57 1 = 0 := by rw [e_79]; exact q_63
                have q_86 : gp_I s_78 57 3 = 0 := by rw [e_79]; exact q_64
                have q_87 : ∀ k, k < 8 → gp_R s_78 4 k = some 25 := by rw [e_79]; exact q_65
                have q_88 : gp_R s_78 51 6 = some 55 := by rw [e_79]; exact q_66
                have q_89 : gp_R s_78 51 7 = some 56 := by rw [e_79]; exact q_67
                have q_90 : gp_us s_78 = 606895 := by rw [e_79]; exact q_68
                have q_91 : gp_sz s_78 = 117 := by rw [e_79]; exact q_69
                have w_92 := gz_w (3 + 1)
                have e_93 : gp_wr (3 + 1) = 4 := by omega
                try rw [e_93]
                refine s_2817_37 _ _ _ ?_
                refine ⟨fun h_94 => ?_, fun h_94 => ?_⟩
                · try rw [show gp_I s_78 1 2 = 0 from q_81]
                  have w_95 := gz_w (0 + 4)
                  have e_96 : gp_wr (0 + 4) = 4 := by omega
                  try rw [e_96]
                  have w_97 := gz_w (8 * 4)
                  have e_98 : gp_wr (8 * 4) = 32 := by omega
                  try rw [e_98]
                  have w_99 := gz_b (gp_wr (p0 >>> ((32 : Int) % 64).toNat).toInt)
                  refine ⟨by omega, ?_⟩
                  intro s_100 e_101
                  have hs_102 : xM z s_100 := by rw [e_101]; exact xw3 hs_80 _ _
                  have q_103 : gp_I s_100 1 2 = 0 := by rw [e_101]; exact q_81
                  have q_104 : gp_I s_100 1 6 = 0 := by rw [e_101]; exact q_82
                  have q_105 : gp_I s_100 1 7 = 1 := by rw [e_101]; exact q_83
                  have q_106 : gp_I s_100 51 8 = 0 := by rw [e_101]; exact q_84
                  have q_107 : gp_I s_100 57 1 = 0 := by rw [e_101]; exact q_85
                  have q_108 : gp_I s_100 57 3 = 0 := by rw [e_101]; exact q_86
                  have q_109 : ∀ k, k < 8 → gp_R s_100 4 k = some 25 := by rw [e_101]; exact q_87
                  have q_110 : gp_R s_100 51 6 = some 55 := by rw [e_101]; exact q_88
                  have q_111 : gp_R s_100 51 7 = some 56 := by rw [e_101]; exact q_89
                  have q_112 : gp_us s_100 = 606895 := by rw [e_101]; exact q_90
                  have q_113 : gp_sz s_100 = 117 := by rw [e_101]; exact q_91
                  have w_114 := gz_w (4 + 1)
                  have e_115 : gp_wr (4 + 1) = 5 := by omega
                  try rw [e_115]
                  refine s_2817_37 _ _ _ ?_
                  refine ⟨fun h_116 => ?_, fun h_116 => ?_⟩
                  · try rw [show gp_I s_100 1 2 = 0 from q_103]
                    have w_117 := gz_w (0 + 5)
                    have e_118 : gp_wr (0 + 5) = 5 := by omega
                    try rw [e_118]
                    have w_119 := gz_w (8 * 5)
                    have e_120 : gp_wr (8 * 5) = 40 := by omega
                    try rw [e_120]
                    have w_121 := gz_b (gp_wr (p0 >>> ((40 : Int) % 64).toNat).toInt)
                    refine ⟨by omega, ?_⟩
                    intro s_122 e_123
                    have hs_124 : xM z s_122 := by rw [e_123]; exact xw3 hs_102 _ _
                    have q_125 : gp_I s_122 1 2 = 0 := by rw [e_123]; exact q_103
                    have q_126 : gp_I s_122 1 6 = 0 := by rw [e_123]; exact q_104
                    have q_127 : gp_I s_122 1 7 = 1 := by rw [e_123]; exact q_105
                    have q_128 : gp_I s_122 51 8 = 0 := by rw [e_123]; exact q_106
                    have q_129 : gp_I s_122 57 1 = 0 := by rw [e_123]; exact q_107
                    have q_130 : gp_I s_122 57 3 = 0 := by rw [e_123]; exact q_108
                    have q_131 : ∀ k, k < 8 → gp_R s_122 4 k = some 25 := by rw [e_123]; exact q_109
                    have q_132 : gp_R s_122 51 6 = some 55 := by rw [e_123]; exact q_110
                    have q_133 : gp_R s_122 51 7 = some 56 := by rw [e_123]; exact q_111
                    have q_134 : gp_us s_122 = 606895 := by rw [e_123]; exact q_112
                    have q_135 : gp_sz s_122 = 117 := by rw [e_123]; exact q_113
                    have w_136 := gz_w (5 + 1)
                    have e_137 : gp_wr (5 + 1) = 6 := by omega
                    try rw [e_137]
                    refine s_2817_37 _ _ _ ?_
                    refine ⟨fun h_138 => ?_, fun h_138 => ?_⟩
                    · try rw [show gp_I s_122 1 2 = 0 from q_125]
                      have w_139 := gz_w (0 + 6)
                      have e_140 : gp_wr (0 + 6) = 6 := by omega
                      try rw [e_140]
                      have w_141 := gz_w (8 * 6)
                      have e_142 : gp_wr (8 * 6) = 48 := by omega
                      try rw [e_142]
                      have w_143 := gz_b (gp_wr (p0 >>> ((48 : Int) % 64).toNat).toInt)
                      refine ⟨by omega, ?_⟩
                      intro s_144 e_145
                      have hs_146 : xM z s_144 := by rw [e_145]; exact xw3 hs_124 _ _
                      have q_147 : gp_I s_144 1 2 = 0 := by rw [e_145]; exact q_125
                      have q_148 : gp_I s_144 1 6 = 0 := by rw [e_145]; exact q_126
                      have q_149 : gp_I s_144 1 7 = 1 := by rw [e_145]; exact q_127
                      have q_150 : gp_I s_144 51 8 = 0 := by rw [e_145]; exact q_128
                      have q_151 : gp_I s_144 57 1 = 0 := by rw [e_145]; exact q_129
                      have q_152 : gp_I s_144 57 3 = 0 := by rw [e_145]; exact q_130
                      have q_153 : ∀ k, k < 8 → gp_R s_144 4 k = some 25 := by rw [e_145]; exact q_131
                      have q_154 : gp_R s_144 51 6 = some 55 := by rw [e_145]; exact q_132
                      have q_155 : gp_R s_144 51 7 = some 56 := by rw [e_145]; exact q_133
                      have q_156 : gp_us s_144 = 606895 := by rw [e_145]; exact q_134
                      have q_157 : gp_sz s_144 = 117 := by rw [e_145]; exact q_135
                      have w_158 := gz_w (6 + 1)
                      have e_159 : gp_wr (6 + 1) = 7 := by omega
                      try rw [e_159]
                      refine s_2817_37 _ _ _ ?_
                      refine ⟨fun h_160 => ?_, fun h_160 => ?_⟩
                      · exfalso; omega
                      · try rw [show gp_I s_144 1 2 = 0 from q_147]
                        have w_161 := gz_w (0 + 7)
                        have e_162 : gp_wr (0 + 7) = 7 := by omega
                        try rw [e_162]
                        intro s_163 e_164
                        have hs_165 : xM z s_163 := by rw [e_164]; exact xw1_2 hs_146 0 _
                        have q_166 : gp_I s_163 1 6 = 0 := by rw [e_164]; exact q_148
                        have q_167 : gp_I s_163 1 7 = 1 := by rw [e_164]; exact q_149
                        have q_168 : gp_I s_163 51 8 = 0 := by rw [e_164]; exact q_150
                        have q_169 : gp_I s_163 57 1 = 0 := by rw [e_164]; exact q_151
                        have q_170 : gp_I s_163 57 3 = 0 := by rw [e_164]; exact q_152
                        have q_171 : ∀ k, k < 8 → gp_R s_163 4 k = some 25 := by rw [e_164]; exact q_153
                        have q_172 : gp_R s_163 51 6 = some 55 := by rw [e_164]; exact q_154
                        have q_173 : gp_R s_163 51 7 = some 56 := by rw [e_164]; exact q_155
                        have q_174 : gp_us s_163 = 606895 := by rw [e_164]; exact q_156
                        have q_175 : gp_sz s_163 = 117 := by rw [e_164]; exact q_157
                        have q_176 : gp_I s_163 1 2 = 7 := by rw [e_164]; rfl
                        try rw [show gp_I s_163 1 2 = 7 from q_176]
                        exact k s_163 hs_165 (by omega) (by omega) (by omega) (by omega) (by omega) (by omega) q_171 q_172 q_173 q_174 q_175
                    · exfalso; omega
                  · exfalso; omega
                · exfalso; omega
              · exfalso; omega
            · exfalso; omega
          · exfalso; omega
        · exfalso; omega
set_option maxRecDepth 100000 in
/-- GatheredPoints.feed [None, (8, 8)] -/
theorem zx2817_8 {z : gH} {L d : Nat} {K : Option gV → gH → Prop} {s : gH} (p0 : BitVec 64) (hs : xM z s)  (q0 : gp_I s 1 2 = 0) (q1 : gp_I s 1 6 = 0) (q2 : gp_I s 1 7 = 1) (q3 : gp_I s 51 8 = 0) (q4 : gp_I s 57 1 = 0) (q5 : gp_I s 57 3 = 0) (q6 : ∀ k, k < 8 → gp_R s 4 k = some 25) (q7 : gp_R s 51 6 = some 55) (q8 : gp_R s 51 7 = some 56) (q9 : gp_us s = 606895) (q10 : gp_sz s = 117) (k : ∀ (t : gH), xM z t → (gp_I t 1 2 = 8) → (gp_I t 1 6 = 0) → (gp_I t 1 7 = 1) → (gp_I t 51 8 = 0) → (gp_I t 57 1 = 0) → (gp_I t 57 3 = 0) → (∀ k, k < 8 → gp_R t 4 k = some 25) → (gp_R t 51 6 = some 55) → (gp_R t 51 7 = some 56) → (gp_us t = 606895) → (gp_sz t = 117) → K (some (gp_i 8)) t) : gs_C L (d + 1) 2817 5 [gp_r (some 1), gp_l p0, gp_i 8] s K := by
  refine s_2817_e _ _ ?_
  refine ⟨fun h_1 => ?_, fun h_1 => ?_⟩
  · exfalso; omega
  · refine ⟨fun h_2 => ?_, fun h_2 => ?_⟩
    · exfalso; omega
    · try rw [show gp_I s 1 2 = 0 from q0]
      have w_3 := gz_w (0 + 8)
      have e_4 : gp_wr (0 + 8) = 8 := by omega
      try rw [e_4]
      refine ⟨fun h_5 => ?_, fun h_5 => ?_⟩
      · exfalso; omega
      · refine s_2817_37 _ _ _ ?_
        refine ⟨fun h_6 => ?_, fun h_6 => ?_⟩
        · try rw [show gp_I s 1 2 = 0 from q0]
          have w_7 := gz_w (0 + 0)
          have e_8 : gp_wr (0 + 0) = 0 := by omega
          try rw [e_8]
          have w_9 := gz_w (8 * 0)
          have e_10 : gp_wr (8 * 0) = 0 := by omega
          try rw [e_10]
          have w_11 := gz_b (gp_wr (p0 >>> ((0 : Int) % 64).toNat).toInt)
          refine ⟨by omega, ?_⟩
          intro s_12 e_13
          have hs_14 : xM z s_12 := by rw [e_13]; exact xw3 hs _ _
          have q_15 : gp_I s_12 1 2 = 0 := by rw [e_13]; exact q0
          have q_16 : gp_I s_12 1 6 = 0 := by rw [e_13]; exact q1
          have q_17 : gp_I s_12 1 7 = 1 := by rw [e_13]; exact q2
          have q_18 : gp_I s_12 51 8 = 0 := by rw [e_13]; exact q3
          have q_19 : gp_I s_12 57 1 = 0 := by rw [e_13]; exact q4
          have q_20 : gp_I s_12 57 3 = 0 := by rw [e_13]; exact q5
          have q_21 : ∀ k, k < 8 → gp_R s_12 4 k = some 25 := by rw [e_13]; exact q6
          have q_22 : gp_R s_12 51 6 = some 55 := by rw [e_13]; exact q7
          have q_23 : gp_R s_12 51 7 = some 56 := by rw [e_13]; exact q8
          have q_24 : gp_us s_12 = 606895 := by rw [e_13]; exact q9
          have q_25 : gp_sz s_12 = 117 := by rw [e_13]; exact q10
          have w_26 := gz_w (0 + 1)
          have e_27 : gp_wr (0 + 1) = 1 := by omega
          try rw [e_27]
          refine s_2817_37 _ _ _ ?_
          refine ⟨fun h_28 => ?_, fun h_28 => ?_⟩
          · try rw [show gp_I s_12 1 2 = 0 from q_15]
            have w_29 := gz_w (0 + 1)
            have e_30 : gp_wr (0 + 1) = 1 := by omega
            try rw [e_30]
            have w_31 := gz_w (8 * 1)
            have e_32 : gp_wr (8 * 1) = 8 := by omega
            try rw [e_32]
            have w_33 := gz_b (gp_wr (p0 >>> ((8 : Int) % 64).toNat).toInt)
            refine ⟨by omega, ?_⟩
            intro s_34 e_35
            have hs_36 : xM z s_34 := by rw [e_35]; exact xw3 hs_14 _ _
            have q_37 : gp_I s_34 1 2 = 0 := by rw [e_35]; exact q_15
            have q_38 : gp_I s_34 1 6 = 0 := by rw [e_35]; exact q_16
            have q_39 : gp_I s_34 1 7 = 1 := by rw [e_35]; exact q_17
            have q_40 : gp_I s_34 51 8 = 0 := by rw [e_35]; exact q_18
            have q_41 : gp_I s_34 57 1 = 0 := by rw [e_35]; exact q_19
            have q_42 : gp_I s_34 57 3 = 0 := by rw [e_35]; exact q_20
            have q_43 : ∀ k, k < 8 → gp_R s_34 4 k = some 25 := by rw [e_35]; exact q_21
            have q_44 : gp_R s_34 51 6 = some 55 := by rw [e_35]; exact q_22
            have q_45 : gp_R s_34 51 7 = some 56 := by rw [e_35]; exact q_23
            have q_46 : gp_us s_34 = 606895 := by rw [e_35]; exact q_24
            have q_47 : gp_sz s_34 = 117 := by rw [e_35]; exact q_25
            have w_48 := gz_w (1 + 1)
            have e_49 : gp_wr (1 + 1) = 2 := by omega
            try rw [e_49]
            refine s_2817_37 _ _ _ ?_
            refine ⟨fun h_50 => ?_, fun h_50 => ?_⟩
            · try rw [show gp_I s_34 1 2 = 0 from q_37]
              have w_51 := gz_w (0 + 2)
              have e_52 : gp_wr (0 + 2) = 2 := by omega
              try rw [e_52]
              have w_53 := gz_w (8 * 2)
              have e_54 : gp_wr (8 * 2) = 16 := by omega
              try rw [e_54]
              have w_55 := gz_b (gp_wr (p0 >>> ((16 : Int) % 64).toNat).toInt)
              refine ⟨by omega, ?_⟩
              intro s_56 e_57
              have hs_58 : xM z s_56 := by rw [e_57]; exact xw3 hs_36 _ _
              have q_59 : gp_I s_56 1 2 = 0 := by rw [e_57]; exact q_37
              have q_60 : gp_I s_56 1 6 = 0 := by rw [e_57]; exact q_38
              have q_61 : gp_I s_56 1 7 = 1 := by rw [e_57]; exact q_39
              have q_62 : gp_I s_56 51 8 = 0 := by rw [e_57]; exact q_40
              have q_63 : gp_I s_56 57 1 = 0 := by rw [e_57]; exact q_41
              have q_64 : gp_I s_56 57 3 = 0 := by rw [e_57]; exact q_42
              have q_65 : ∀ k, k < 8 → gp_R s_56 4 k = some 25 := by rw [e_57]; exact q_43
              have q_66 : gp_R s_56 51 6 = some 55 := by rw [e_57]; exact q_44
              have q_67 : gp_R s_56 51 7 = some 56 := by rw [e_57]; exact q_45
              have q_68 : gp_us s_56 = 606895 := by rw [e_57]; exact q_46
              have q_69 : gp_sz s_56 = 117 := by rw [e_57]; exact q_47
              have w_70 := gz_w (2 + 1)
              have e_71 : gp_wr (2 + 1) = 3 := by omega
              try rw [e_71]
              refine s_2817_37 _ _ _ ?_
              refine ⟨fun h_72 => ?_, fun h_72 => ?_⟩
              · try rw [show gp_I s_56 1 2 = 0 from q_59]
                have w_73 := gz_w (0 + 3)
                have e_74 : gp_wr (0 + 3) = 3 := by omega
                try rw [e_74]
                have w_75 := gz_w (8 * 3)
                have e_76 : gp_wr (8 * 3) = 24 := by omega
                try rw [e_76]
                have w_77 := gz_b (gp_wr (p0 >>> ((24 : Int) % 64).toNat).toInt)
                refine ⟨by omega, ?_⟩
                intro s_78 e_79
                have hs_80 : xM z s_78 := by rw [e_79]; exact xw3 hs_58 _ _
                have q_81 : gp_I s_78 1 2 = 0 := by rw [e_79]; exact q_59
                have q_82 : gp_I s_78 1 6 = 0 := by rw [e_79]; exact q_60
                have q_83 : gp_I s_78 1 7 = 1 := by rw [e_79]; exact q_61
                have q_84 : gp_I s_78 51 8 = 0 := by rw [e_79]; exact q_62
                have q_85 : gp_I s_78 57 1 = 0 := by rw [e_79]; exact q_63
                have q_86 : gp_I s_78 57 3 = 0 := by rw [e_79]; exact q_64
                have q_87 : ∀ k, k < 8 → gp_R s_78 4 k = some 25 := by rw [e_79]; exact q_65
                have q_88 : gp_R s_78 51 6 = some 55 := by rw [e_79]; exact q_66
                have q_89 : gp_R s_78 51 7 = some 56 := by rw [e_79]; exact q_67
                have q_90 : gp_us s_78 = 606895 := by rw [e_79]; exact q_68
                have q_91 : gp_sz s_78 = 117 := by rw [e_79]; exact q_69
                have w_92 := gz_w (3 + 1)
                have e_93 : gp_wr (3 + 1) = 4 := by omega
                try rw [e_93]
                refine s_2817_37 _ _ _ ?_
                refine ⟨fun h_94 => ?_, fun h_94 => ?_⟩
                · try rw [show gp_I s_78 1 2 = 0 from q_81]
                  have w_95 := gz_w (0 + 4)
                  have e_96 : gp_wr (0 + 4) = 4 := by omega
                  try rw [e_96]
                  have w_97 := gz_w (8 * 4)
                  have e_98 : gp_wr (8 * 4) = 32 := by omega
                  try rw [e_98]
                  have w_99 := gz_b (gp_wr (p0 >>> ((32 : Int) % 64).toNat).toInt)
                  refine ⟨by omega, ?_⟩
                  intro s_100 e_101
                  have hs_102 : xM z s_100 := by rw [e_101]; exact xw3 hs_80 _ _
                  have q_103 : gp_I s_100 1 2 = 0 := by rw [e_101]; exact q_81
                  have q_104 : gp_I s_100 1 6 = 0 := by rw [e_101]; exact q_82
                  have q_105 : gp_I s_100 1 7 = 1 := by rw [e_101]; exact q_83
                  have q_106 : gp_I s_100 51 8 = 0 := by rw [e_101]; exact q_84
                  have q_107 : gp_I s_100 57 1 = 0 := by rw [e_101]; exact q_85
                  have q_108 : gp_I s_100 57 3 = 0 := by rw [e_101]; exact q_86
                  have q_109 : ∀ k, k < 8 → gp_R s_100 4 k = some 25 := by rw [e_101]; exact q_87
                  have q_110 : gp_R s_100 51 6 = some 55 := by rw [e_101]; exact q_88
                  have q_111 : gp_R s_100 51 7 = some 56 := by rw [e_101]; exact q_89
                  have q_112 : gp_us s_100 = 606895 := by rw [e_101]; exact q_90
                  have q_113 : gp_sz s_100 = 117 := by rw [e_101]; exact q_91
                  have w_114 := gz_w (4 + 1)
                  have e_115 : gp_wr (4 + 1) = 5 := by omega
                  try rw [e_115]
                  refine s_2817_37 _ _ _ ?_
                  refine ⟨fun h_116 => ?_, fun h_116 => ?_⟩
                  · try rw [show gp_I s_100 1 2 = 0 from q_103]
                    have w_117 := gz_w (0 + 5)
                    have e_118 : gp_wr (0 + 5) = 5 := by omega
                    try rw [e_118]
                    have w_119 := gz_w (8 * 5)
                    have e_120 : gp_wr (8 * 5) = 40 := by omega
                    try rw [e_120]
                    have w_121 := gz_b (gp_wr (p0 >>> ((40 : Int) % 64).toNat).toInt)
                    refine ⟨by omega, ?_⟩
                    intro s_122 e_123
                    have hs_124 : xM z s_122 := by rw [e_123]; exact xw3 hs_102 _ _
                    have q_125 : gp_I s_122 1 2 = 0 := by rw [e_123]; exact q_103
                    have q_126 : gp_I s_122 1 6 = 0 := by rw [e_123]; exact q_104
                    have q_127 : gp_I s_122 1 7 = 1 := by rw [e_123]; exact q_105
                    have q_128 : gp_I s_122 51 8 = 0 := by rw [e_123]; exact q_106
                    have q_129 : gp_I s_122 57 1 = 0 := by rw [e_123]; exact q_107
                    have q_130 : gp_I s_122 57 3 = 0 := by rw [e_123]; exact q_108
                    have q_131 : ∀ k, k < 8 → gp_R s_122 4 k = some 25 := by rw [e_123]; exact q_109
                    have q_132 : gp_R s_122 51 6 = some 55 := by rw [e_123]; exact q_110
                    have q_133 : gp_R s_122 51 7 = some 56 := by rw [e_123]; exact q_111
                    have q_134 : gp_us s_122 = 606895 := by rw [e_123]; exact q_112
                    have q_135 : gp_sz s_122 = 117 := by rw [e_123]; exact q_113
                    have w_136 := gz_w (5 + 1)
                    have e_137 : gp_wr (5 + 1) = 6 := by omega
                    try rw [e_137]
                    refine s_2817_37 _ _ _ ?_
                    refine ⟨fun h_138 => ?_, fun h_138 => ?_⟩
                    · try rw [show gp_I s_122 1 2 = 0 from q_125]
                      have w_139 := gz_w (0 + 6)
                      have e_140 : gp_wr (0 + 6) = 6 := by omega
                      try rw [e_140]
                      have w_141 := gz_w (8 * 6)
                      have e_142 : gp_wr (8 * 6) = 48 := by omega
                      try rw [e_142]
                      have w_143 := gz_b (gp_wr (p0 >>> ((48 : Int) % 64).toNat).toInt)
                      refine ⟨by omega, ?_⟩
                      intro s_144 e_145
                      have hs_146 : xM z s_144 := by rw [e_145]; exact xw3 hs_124 _ _
                      have q_147 : gp_I s_144 1 2 = 0 := by rw [e_145]; exact q_125
                      have q_148 : gp_I s_144 1 6 = 0 := by rw [e_145]; exact q_126
                      have q_149 : gp_I s_144 1 7 = 1 := by rw [e_145]; exact q_127
                      have q_150 : gp_I s_144 51 8 = 0 := by rw [e_145]; exact q_128
                      have q_151 : gp_I s_144 57 1 = 0 := by rw [e_145]; exact q_129
                      have q_152 : gp_I s_144 57 3 = 0 := by rw [e_145]; exact q_130
                      have q_153 : ∀ k, k < 8 → gp_R s_144 4 k = some 25 := by rw [e_145]; exact q_131
                      have q_154 : gp_R s_144 51 6 = some 55 := by rw [e_145]; exact q_132
                      have q_155 : gp_R s_144 51 7 = some 56 := by rw [e_145]; exact q_133
                      have q_156 : gp_us s_144 = 606895 := by rw [e_145]; exact q_134
                      have q_157 : gp_sz s_144 = 117 := by rw [e_145]; exact q_135
                      have w_158 := gz_w (6 + 1)
                      have e_159 : gp_wr (6 + 1) = 7 := by omega
                      try rw [e_159]
                      refine s_2817_37 _ _ _ ?_
                      refine ⟨fun h_160 => ?_, fun h_160 => ?_⟩
                      · try rw [show gp_I s_144 1 2 = 0 from q_147]
                        have w_161 := gz_w (0 + 7)
                        have e_162 : gp_wr (0 + 7) = 7 := by omega
                        try rw [e_162]
                        have w_163 := gz_w (8 * 7)
                        have e_164 : gp_wr (8 * 7) = 56 := by omega
                        try rw [e_164]
                        have w_165 := gz_b (gp_wr (p0 >>> ((56 : Int) % 64).toNat).toInt)
                        refine ⟨by omega, ?_⟩
                        intro s_166 e_167
                        have hs_168 : xM z s_166 := by rw [e_167]; exact xw3 hs_146 _ _
                        have q_169 : gp_I s_166 1 2 = 0 := by rw [e_167]; exact q_147
                        have q_170 : gp_I s_166 1 6 = 0 := by rw [e_167]; exact q_148
                        have q_171 : gp_I s_166 1 7 = 1 := by rw [e_167]; exact q_149
                        have q_172 : gp_I s_166 51 8 = 0 := by rw [e_167]; exact q_150
                        have q_173 : gp_I s_166 57 1 = 0 := by rw [e_167]; exact q_151
                        have q_174 : gp_I s_166 57 3 = 0 := by rw [e_167]; exact q_152
                        have q_175 : ∀ k, k < 8 → gp_R s_166 4 k = some 25 := by rw [e_167]; exact q_153
                        have q_176 : gp_R s_166 51 6 = some 55 := by rw [e_167]; exact q_154
                        have q_177 : gp_R s_166 51 7 = some 56 := by rw [e_167]; exact q_155
                        have q_178 : gp_us s_166 = 606895 := by rw [e_167]; exact q_156
                        have q_179 : gp_sz s_166 = 117 := by rw [e_167]; exact q_157
                        have w_180 := gz_w (7 + 1)
                        have e_181 : gp_wr (7 + 1) = 8 := by omega
                        try rw [e_181]
                        refine s_2817_37 _ _ _ ?_
                        refine ⟨fun h_182 => ?_, fun h_182 => ?_⟩
                        · exfalso; omega
                        · try rw [show gp_I s_166 1 2 = 0 from q_169]
                          have w_183 := gz_w (0 + 8)
                          have e_184 : gp_wr (0 + 8) = 8 := by omega
                          try rw [e_184]
                          intro s_185 e_186
                          have hs_187 : xM z s_185 := by rw [e_186]; exact xw1_2 hs_168 0 _
                          have q_188 : gp_I s_185 1 6 = 0 := by rw [e_186]; exact q_170
                          have q_189 : gp_I s_185 1 7 = 1 := by rw [e_186]; exact q_171
                          have q_190 : gp_I s_185 51 8 = 0 := by rw [e_186]; exact q_172
                          have q_191 : gp_I s_185 57 1 = 0 := by rw [e_186]; exact q_173
                          have q_192 : gp_I s_185 57 3 = 0 := by rw [e_186]; exact q_174
                          have q_193 : ∀ k, k < 8 → gp_R s_185 4 k = some 25 := by rw [e_186]; exact q_175
                          have q_194 : gp_R s_185 51 6 = some 55 := by rw [e_186]; exact q_176
                          have q_195 : gp_R s_185 51 7 = some 56 := by rw [e_186]; exact q_177
                          have q_196 : gp_us s_185 = 606895 := by rw [e_186]; exact q_178
                          have q_197 : gp_sz s_185 = 117 := by rw [e_186]; exact q_179
                          have q_198 : gp_I s_185 1 2 = 8 := by rw [e_186]; rfl
                          try rw [show gp_I s_185 1 2 = 8 from q_198]
                          exact k s_185 hs_187 (by omega) (by omega) (by omega) (by omega) (by omega) (by omega) q_193 q_194 q_195 q_196 q_197
                      · exfalso; omega
                    · exfalso; omega
                  · exfalso; omega
                · exfalso; omega
              · exfalso; omega
            · exfalso; omega
          · exfalso; omega
        · exfalso; omega
set_option maxRecDepth 100000 in
/-- GatheredPoints.feed [None, (9, 2147483647)] -/
theorem zx2817_9 {z : gH} {L d : Nat} {K : Option gV → gH → Prop} {s : gH} (p0 : BitVec 64) (p1 : Int) (hs : xM z s) (h_p1 : 9 ≤ p1 ∧ p1 ≤ 2147483647) (q0 : gp_I s 1 2 = 0) (q1 : gp_I s 1 6 = 0) (q2 : gp_I s 1 7 = 1) (q3 : gp_I s 51 8 = 0) (q4 : gp_I s 57 1 = 0) (q5 : gp_I s 57 3 = 0) (q6 : ∀ k, k < 8 → gp_R s 4 k = some 25) (q7 : gp_R s 51 6 = some 55) (q8 : gp_R s 51 7 = some 56) (q9 : gp_us s = 606895) (q10 : gp_sz s = 117) (k : ∀ (t : gH), xM z t → (gp_I t 1 2 = 0) → (gp_I t 1 6 = 0) → (gp_I t 1 7 = 1) → ((-2147483648) ≤ gp_I t 2 1 ∧ gp_I t 2 1 ≤ 2147483647) → (gp_I t 51 8 = 0) → (gp_I t 57 1 = 0) → (gp_I t 57 3 = 0) → (∀ k, k < 8 → gp_R t 4 k = some 25) → (gp_R t 51 6 = some 55) → (gp_R t 51 7 = some 56) → (gp_us t = 606895) → (gp_sz t = 117) → K (some (gp_i (-1000000001))) t) : gs_C L (d + 1) 2817 5 [gp_r (some 1), gp_l p0, gp_i p1] s K := by
  refine s_2817_e _ _ ?_
  refine ⟨fun h_1 => ?_, fun h_1 => ?_⟩
  · exfalso; omega
  · refine ⟨fun h_2 => ?_, fun h_2 => ?_⟩
    · refine s_2817_11 _ _ _ ?_
      refine zx2855_0 hs (by omega) (by omega) (by omega) (by omega) (by omega) (by omega) q6 q7 q8 q9 q10 (fun s_3 hs_4 q_5 q_6 q_7 q_8 q_9 q_10 q_11 q_12 q_13 q_14 q_15 q_16 => ⟨_, rfl, ?_⟩)
      exact k s_3 hs_4 (by omega) (by omega) (by omega) (by omega) (by omega) (by omega) (by omega) q_12 q_13 q_14 q_15 q_16
    · exfalso; omega
set_option maxRecDepth 100000 in
/-- GatheredPoints.noSlot [(-2147483648, -1)] -/
theorem zx2856_0 {z : gH} {L d : Nat} {K : Option gV → gH → Prop} {s : gH} (p0 : Int) (hs : xM z s) (h_p0 : (-2147483648) ≤ p0 ∧ p0 ≤ (-1)) (q0 : gp_I s 1 2 = 0) (q1 : gp_I s 1 6 = 0) (q2 : gp_I s 1 7 = 1) (q3 : gp_I s 51 8 = 0) (q4 : gp_I s 57 1 = 0) (q5 : gp_I s 57 3 = 0) (q6 : gp_R s 25 6 = none) (q7 : gp_R s 25 7 = none) (q8 : gp_R s 25 8 = none) (q9 : gp_R s 25 9 = none) (q10 : ∀ k, k < 8 → gp_R s 4 k = some 25) (q11 : gp_R s 51 6 = some 55) (q12 : gp_R s 51 7 = some 56) (k : K (some (gp_i 1)) s) : gs_C L d 2856 1 [gp_i p0] s K := by
  refine s_2856_e _ ?_
  refine ⟨fun h_1 => ?_, fun h_1 => ?_⟩
  · refine s_2856_10 _ ?_
    refine s_2856_15 _ _ ?_
    refine ⟨by omega, ?_⟩
    exact k
  · exfalso; omega
set_option maxRecDepth 100000 in
/-- GatheredPoints.refused [(1, 1)] -/
theorem zx2855_1 {z : gH} {L d : Nat} {K : Option gV → gH → Prop} {s : gH}  (hs : xM z s)  (q0 : gp_I s 1 2 = 0) (q1 : gp_I s 1 6 = 0) (q2 : gp_I s 1 7 = 1) (q3 : gp_I s 51 8 = 0) (q4 : gp_I s 57 1 = 0) (q5 : gp_I s 57 3 = 0) (q6 : gp_I s 6 4 = 0) (q7 : gp_R s 25 6 = none) (q8 : gp_R s 25 7 = none) (q9 : gp_R s 25 8 = none) (q10 : gp_R s 25 9 = none) (q11 : ∀ k, k < 8 → gp_R s 4 k = some 25) (q12 : gp_R s 51 6 = some 55) (q13 : gp_R s 51 7 = some 56) (q14 : gp_us s = 606895) (q15 : gp_sz s = 117) (k : ∀ (t : gH), xM z t → (gp_I t 1 2 = 0) → (gp_I t 1 6 = 0) → (gp_I t 1 7 = 1) → ((-2147483648) ≤ gp_I t 2 1 ∧ gp_I t 2 1 ≤ 2147483647) → (gp_I t 51 8 = 0) → (gp_I t 57 1 = 0) → (gp_I t 57 3 = 0) → (gp_I t 6 4 = 0) → (gp_R t 25 6 = none) → (gp_R t 25 7 = none) → (gp_R t 25 8 = none) → (gp_R t 25 9 = none) → (∀ k, k < 8 → gp_R t 4 k = some 25) → (gp_R t 51 6 = some 55) → (gp_R t 51 7 = some 56) → (gp_us t = 606895) → (gp_sz t = 117) → K (some (gp_i (-1000000001))) t) : gs_C L d 2855 2 [gp_r (some 1), gp_i 1] s K := by
  refine s_2855_e _ ?_
  refine ⟨by omega, ?_⟩
  have w_1 := gz_w ((gp_I s 2 (1 : Int).toNat) + 1)
  refine ⟨by omega, ?_⟩
  intro s_2 e_3
  have hs_4 : xM z s_2 := by rw [e_3]; exact xw2 hs _ _
  have q_5 : gp_I s_2 1 2 = 0 := by rw [e_3]; exact q0
  have q_6 : gp_I s_2 1 6 = 0 := by rw [e_3]; exact q1
  have q_7 : gp_I s_2 1 7 = 1 := by rw [e_3]; exact q2
  have q_8 : gp_I s_2 51 8 = 0 := by rw [e_3]; exact q3
  have q_9 : gp_I s_2 57 1 = 0 := by rw [e_3]; exact q4
  have q_10 : gp_I s_2 57 3 = 0 := by rw [e_3]; exact q5
  have q_11 : gp_I s_2 6 4 = 0 := by rw [e_3]; exact q6
  have q_12 : gp_R s_2 25 6 = none := by rw [e_3]; exact q7
  have q_13 : gp_R s_2 25 7 = none := by rw [e_3]; exact q8
  have q_14 : gp_R s_2 25 8 = none := by rw [e_3]; exact q9
  have q_15 : gp_R s_2 25 9 = none := by rw [e_3]; exact q10
  have q_16 : ∀ k, k < 8 → gp_R s_2 4 k = some 25 := by rw [e_3]; exact q11
  have q_17 : gp_R s_2 51 6 = some 55 := by rw [e_3]; exact q12
  have q_18 : gp_R s_2 51 7 = some 56 := by rw [e_3]; exact q13
  have q_19 : gp_us s_2 = 606895 := by rw [e_3]; exact q14
  have q_20 : gp_sz s_2 = 117 := by rw [e_3]; exact q15
  have q_21 : (-2147483648) ≤ gp_I s_2 2 1 ∧ gp_I s_2 2 1 ≤ 2147483647 := by have x_22 : gp_I s_2 2 1 = gp_wr ((gp_I s 2 (1 : Int).toNat) + 1) := (by rw [e_3]; rfl); omega
  have w_23 := gz_w ((-1000000000) - 1)
  have e_24 : gp_wr ((-1000000000) - 1) = (-1000000001) := by omega
  try rw [e_24]
  exact k s_2 hs_4 (by omega) (by omega) (by omega) (by omega) (by omega) (by omega) (by omega) (by omega) q_12 q_13 q_14 q_15 q_16 q_17 q_18 q_19 q_20
set_option maxRecDepth 100000 in
/-- GatheredPoints.game [(-2147483648, -1)] -/
theorem zx2818_0 {z : gH} {L d : Nat} {K : Option gV → gH → Prop} {s : gH} (p0 : Int) (hs : xM z s) (h_p0 : (-2147483648) ≤ p0 ∧ p0 ≤ (-1)) (q0 : gp_I s 1 2 = 0) (q1 : gp_I s 1 6 = 0) (q2 : gp_I s 1 7 = 1) (q3 : gp_I s 51 8 = 0) (q4 : gp_I s 57 1 = 0) (q5 : gp_I s 57 3 = 0) (q6 : gp_I s 6 4 = 0) (q7 : gp_R s 25 6 = none) (q8 : gp_R s 25 7 = none) (q9 : gp_R s 25 8 = none) (q10 : gp_R s 25 9 = none) (q11 : ∀ k, k < 8 → gp_R s 4 k = some 25) (q12 : gp_R s 51 6 = some 55) (q13 : gp_R s 51 7 = some 56) (q14 : gp_us s = 606895) (q15 : gp_sz s = 117) (k : ∀ (t : gH), xM z t → (gp_I t 1 2 = 0) → (gp_I t 1 6 = 0) → (gp_I t 1 7 = 1) → ((-2147483648) ≤ gp_I t 2 1 ∧ gp_I t 2 1 ≤ 2147483647) → (gp_I t 51 8 = 0) → (gp_I t 57 1 = 0) → (gp_I t 57 3 = 0) → (gp_I t 6 4 = 0) → (gp_R t 25 6 = none) → (gp_R t 25 7 = none) → (gp_R t 25 8 = none) → (gp_R t 25 9 = none) → (∀ k, k < 8 → gp_R t 4 k = some 25) → (gp_R t 51 6 = some 55) → (gp_R t 51 7 = some 56) → (gp_us t = 606895) → (gp_sz t = 117) → K (some (gp_i (-1000000001))) t) : gs_C L (d + 1) 2818 3 [gp_r (some 1), gp_i p0] s K := by
  refine s_2818_e _ ?_
  refine zx2856_0 _ hs (by omega) (by omega) (by omega) (by omega) (by omega) (by omega) (by omega) q7 q8 q9 q10 q11 q12 q13 (⟨_, rfl, ?_⟩)
  refine ⟨fun h_1 => ?_, fun h_1 => ?_⟩
  · exfalso; omega
  · refine zx2855_1 hs (by omega) (by omega) (by omega) (by omega) (by omega) (by omega) (by omega) q7 q8 q9 q10 q11 q12 q13 q14 q15 (fun s_2 hs_3 q_4 q_5 q_6 q_7 q_8 q_9 q_10 q_11 q_12 q_13 q_14 q_15 q_16 q_17 q_18 q_19 q_20 => ⟨_, rfl, ?_⟩)
    exact k s_2 hs_3 (by omega) (by omega) (by omega) (by omega) (by omega) (by omega) (by omega) (by omega) q_12 q_13 q_14 q_15 q_16 q_17 q_18 q_19 q_20
set_option maxRecDepth 100000 in
/-- GatheredPoints.noSlot [(8, 2147483647)] -/
theorem zx2856_1 {z : gH} {L d : Nat} {K : Option gV → gH → Prop} {s : gH} (p0 : Int) (hs : xM z s) (h_p0 : 8 ≤ p0 ∧ p0 ≤ 2147483647) (q0 : gp_I s 1 2 = 0) (q1 : gp_I s 1 6 = 0) (q2 : gp_I s 1 7 = 1) (q3 : gp_I s 51 8 = 0) (q4 : gp_I s 57 1 = 0) (q5 : gp_I s 57 3 = 0) (q6 : gp_R s 25 6 = none) (q7 : gp_R s 25 7 = none) (q8 : gp_R s 25 8 = none) (q9 : gp_R s 25 9 = none) (q10 : ∀ k, k < 8 → gp_R s 4 k = some 25) (q11 : gp_R s 51 6 = some 55) (q12 : gp_R s 51 7 = some 56) (k : K (some (gp_i 1)) s) : gs_C L d 2856 1 [gp_i p0] s K := by
  refine s_2856_e _ ?_
  refine ⟨fun h_1 => ?_, fun h_1 => ?_⟩
  · exfalso; omega
  · refine ⟨fun h_2 => ?_, fun h_2 => ?_⟩
    · exfalso; omega
    · refine s_2856_10 _ ?_
      refine s_2856_15 _ _ ?_
      refine ⟨by omega, ?_⟩
      exact k
set_option maxRecDepth 100000 in
/-- GatheredPoints.game [(8, 2147483647)] -/
theorem zx2818_1 {z : gH} {L d : Nat} {K : Option gV → gH → Prop} {s : gH} (p0 : Int) (hs : xM z s) (h_p0 : 8 ≤ p0 ∧ p0 ≤ 2147483647) (q0 : gp_I s 1 2 = 0) (q1 : gp_I s 1 6 = 0) (q2 : gp_I s 1 7 = 1) (q3 : gp_I s 51 8 = 0) (q4 : gp_I s 57 1 = 0) (q5 : gp_I s 57 3 = 0) (q6 : gp_I s 6 4 = 0) (q7 : gp_R s 25 6 = none) (q8 : gp_R s 25 7 = none) (q9 : gp_R s 25 8 = none) (q10 : gp_R s 25 9 = none) (q11 : ∀ k, k < 8 → gp_R s 4 k = some 25) (q12 : gp_R s 51 6 = some 55) (q13 : gp_R s 51 7 = some 56) (q14 : gp_us s = 606895) (q15 : gp_sz s = 117) (k : ∀ (t : gH), xM z t → (gp_I t 1 2 = 0) → (gp_I t 1 6 = 0) → (gp_I t 1 7 = 1) → ((-2147483648) ≤ gp_I t 2 1 ∧ gp_I t 2 1 ≤ 2147483647) → (gp_I t 51 8 = 0) → (gp_I t 57 1 = 0) → (gp_I t 57 3 = 0) → (gp_I t 6 4 = 0) → (gp_R t 25 6 = none) → (gp_R t 25 7 = none) → (gp_R t 25 8 = none) → (gp_R t 25 9 = none) → (∀ k, k < 8 → gp_R t 4 k = some 25) → (gp_R t 51 6 = some 55) → (gp_R t 51 7 = some 56) → (gp_us t = 606895) → (gp_sz t = 117) → K (some (gp_i (-1000000001))) t) : gs_C L (d + 1) 2818 3 [gp_r (some 1), gp_i p0] s K := by
  refine s_2818_e _ ?_
  refine zx2856_1 _ hs (by omega) (by omega) (by omega) (by omega) (by omega) (by omega) (by omega) q7 q8 q9 q10 q11 q12 q13 (⟨_, rfl, ?_⟩)
  refine ⟨fun h_1 => ?_, fun h_1 => ?_⟩
  · exfalso; omega
  · refine zx2855_1 hs (by omega) (by omega) (by omega) (by omega) (by omega) (by omega) (by omega) q7 q8 q9 q10 q11 q12 q13 q14 q15 (fun s_2 hs_3 q_4 q_5 q_6 q_7 q_8 q_9 q_10 q_11 q_12 q_13 q_14 q_15 q_16 q_17 q_18 q_19 q_20 => ⟨_, rfl, ?_⟩)
    exact k s_2 hs_3 (by omega) (by omega) (by omega) (by omega) (by omega) (by omega) (by omega) (by omega) q_12 q_13 q_14 q_15 q_16 q_17 q_18 q_19 q_20
set_option maxRecDepth 100000 in
/-- GatheredPoints.noSlot [(0, 7)] -/
theorem zx2856_2 {z : gH} {L d : Nat} {K : Option gV → gH → Prop} {s : gH} (p0 : Int) (hs : xM z s) (h_p0 : 0 ≤ p0 ∧ p0 ≤ 7) (q0 : gp_I s 1 2 = 0) (q1 : gp_I s 1 6 = 0) (q2 : gp_I s 1 7 = 1) (q3 : gp_I s 51 8 = 0) (q4 : gp_I s 57 1 = 0) (q5 : gp_I s 57 3 = 0) (q6 : gp_R s 25 6 = none) (q7 : gp_R s 25 7 = none) (q8 : gp_R s 25 8 = none) (q9 : gp_R s 25 9 = none) (q10 : ∀ k, k < 8 → gp_R s 4 k = some 25) (q11 : gp_R s 51 6 = some 55) (q12 : gp_R s 51 7 = some 56) (k : K (some (gp_i 0)) s) : gs_C L d 2856 1 [gp_i p0] s K := by
  refine s_2856_e _ ?_
  refine ⟨fun h_1 => ?_, fun h_1 => ?_⟩
  · exfalso; omega
  · refine ⟨fun h_2 => ?_, fun h_2 => ?_⟩
    · refine s_2856_15 _ _ ?_
      refine ⟨by omega, ?_⟩
      exact k
    · exfalso; omega
set_option maxRecDepth 100000 in
/-- Reader.next [] -/
theorem zx1282_0 {z : gH} {L d : Nat} {K : Option gV → gH → Prop} {s : gH}  (hs : xM z s)  (q0 : gp_I s 46 3 = 0) (q1 : gp_I s 46 5 = 0) (q2 : gp_I s 46 6 = 0) (q3 : gp_I s 46 7 = (-1)) (q4 : gp_I s 46 8 = 0) (q5 : gp_I s 6 4 = 0) (q6 : gp_R s 25 6 = none) (q7 : gp_R s 25 7 = none) (q8 : gp_R s 25 8 = none) (q9 : gp_R s 25 9 = none) (q10 : gp_R s 46 4 = some 3) (k : K (some (gp_i (-1))) s) : gs_C L d 1282 1 [gp_r (some 46)] s K := by
  refine s_1282_e ?_
  try rw [show gp_I s 46 7 = (-1) from q3]
  refine ⟨fun h_1 => ?_, fun h_1 => ?_⟩
  · try rw [show gp_I s 46 6 = 0 from q2]
    try rw [show gp_I s 46 5 = 0 from q1]
    refine ⟨fun h_2 => ?_, fun h_2 => ?_⟩
    · exfalso; omega
    · refine s_1282_30 ?_
      refine s_1282_31 _ ?_
      exact k
  · exfalso; omega
set_option maxRecDepth 100000 in
/-- Reader.digit [(-1, -1)] -/
theorem zx1291_0 {z : gH} {L d : Nat} {K : Option gV → gH → Prop} {s : gH}  (hs : xM z s)  (q0 : gp_I s 46 3 = 0) (q1 : gp_I s 46 5 = 0) (q2 : gp_I s 46 6 = 0) (q3 : gp_I s 46 7 = (-1)) (q4 : gp_I s 46 8 = 0) (q5 : gp_I s 6 4 = 0) (q6 : gp_R s 25 6 = none) (q7 : gp_R s 25 7 = none) (q8 : gp_R s 25 8 = none) (q9 : gp_R s 25 9 = none) (q10 : gp_R s 46 4 = some 3) (k : K (some (gp_i 0)) s) : gs_C L d 1291 1 [gp_i (-1)] s K := by
  refine s_1291_e _ ?_
  refine ⟨fun h_1 => ?_, fun h_1 => ?_⟩
  · refine s_1291_16 _ ?_
    refine s_1291_17 _ _ ?_
    refine ⟨by omega, ?_⟩
    exact k
  · exfalso; omega
set_option maxRecDepth 100000 in
/-- Reader.fail [] -/
theorem zx1283_0 {z : gH} {L d : Nat} {K : Option gV → gH → Prop} {s : gH}  (hs : xM z s)  (q0 : gp_I s 1 2 = 0) (q1 : gp_I s 1 6 = 0) (q2 : gp_I s 1 7 = 1) (q3 : gp_I s 46 3 = 0) (q4 : gp_I s 46 5 = 0) (q5 : gp_I s 46 6 = 0) (q6 : gp_I s 46 7 = (-1)) (q7 : gp_I s 46 8 = 0) (q8 : gp_I s 51 8 = 0) (q9 : gp_I s 57 1 = 0) (q10 : gp_I s 57 3 = 0) (q11 : gp_I s 6 4 = 0) (q12 : gp_R s 25 6 = none) (q13 : gp_R s 25 7 = none) (q14 : gp_R s 25 8 = none) (q15 : gp_R s 25 9 = none) (q16 : ∀ k, k < 8 → gp_R s 4 k = some 25) (q17 : gp_R s 46 4 = some 3) (q18 : gp_R s 51 6 = some 55) (q19 : gp_R s 51 7 = some 56) (q20 : gp_us s = 606895) (q21 : gp_sz s = 117) (k : ∀ (t : gH), xM z t → (gp_I t 1 2 = 0) → (gp_I t 1 6 = 0) → (gp_I t 1 7 = 1) → (gp_I t 46 3 = 0) → (gp_I t 46 5 = 0) → (gp_I t 46 6 = 0) → (gp_I t 46 7 = 0) → (gp_I t 46 8 = 0) → (gp_I t 51 8 = 0) → (gp_I t 57 1 = 0) → (gp_I t 57 3 = 0) → (gp_I t 6 4 = 0) → (gp_R t 25 6 = none) → (gp_R t 25 7 = none) → (gp_R t 25 8 = none) → (gp_R t 25 9 = none) → (∀ k, k < 8 → gp_R t 4 k = some 25) → (gp_R t 46 4 = some 3) → (gp_R t 51 6 = some 55) → (gp_R t 51 7 = some 56) → (gp_us t = 606895) → (gp_sz t = 117) → K none t) : gs_C L d 1283 1 [gp_r (some 46)] s K := by
  refine s_1283_e ?_
  try rw [show gp_I s 46 7 = (-1) from q6]
  refine ⟨fun h_1 => ?_, fun h_1 => ?_⟩
  · try rw [show gp_I s 46 6 = 0 from q5]
    intro s_2 e_3
    have hs_4 : xM z s_2 := by rw [e_3]; exact xw46_7 hs 0 _
    have q_5 : gp_I s_2 1 2 = 0 := by rw [e_3]; exact q0
    have q_6 : gp_I s_2 1 6 = 0 := by rw [e_3]; exact q1
    have q_7 : gp_I s_2 1 7 = 1 := by rw [e_3]; exact q2
    have q_8 : gp_I s_2 46 3 = 0 := by rw [e_3]; exact q3
    have q_9 : gp_I s_2 46 5 = 0 := by rw [e_3]; exact q4
    have q_10 : gp_I s_2 46 6 = 0 := by rw [e_3]; exact q5
    have q_11 : gp_I s_2 46 8 = 0 := by rw [e_3]; exact q7
    have q_12 : gp_I s_2 51 8 = 0 := by rw [e_3]; exact q8
    have q_13 : gp_I s_2 57 1 = 0 := by rw [e_3]; exact q9
    have q_14 : gp_I s_2 57 3 = 0 := by rw [e_3]; exact q10
    have q_15 : gp_I s_2 6 4 = 0 := by rw [e_3]; exact q11
    have q_16 : gp_R s_2 25 6 = none := by rw [e_3]; exact q12
    have q_17 : gp_R s_2 25 7 = none := by rw [e_3]; exact q13
    have q_18 : gp_R s_2 25 8 = none := by rw [e_3]; exact q14
    have q_19 : gp_R s_2 25 9 = none := by rw [e_3]; exact q15
    have q_20 : ∀ k, k < 8 → gp_R s_2 4 k = some 25 := by rw [e_3]; exact q16
    have q_21 : gp_R s_2 46 4 = some 3 := by rw [e_3]; exact q17
    have q_22 : gp_R s_2 51 6 = some 55 := by rw [e_3]; exact q18
    have q_23 : gp_R s_2 51 7 = some 56 := by rw [e_3]; exact q19
    have q_24 : gp_us s_2 = 606895 := by rw [e_3]; exact q20
    have q_25 : gp_sz s_2 = 117 := by rw [e_3]; exact q21
    have q_26 : gp_I s_2 46 7 = 0 := by rw [e_3]; rfl
    refine s_1283_15 ?_
    exact k s_2 hs_4 (by omega) (by omega) (by omega) (by omega) (by omega) (by omega) (by omega) (by omega) (by omega) (by omega) (by omega) (by omega) q_16 q_17 q_18 q_19 q_20 q_21 q_22 q_23 q_24 q_25
  · exfalso; omega
set_option maxRecDepth 100000 in
/-- Reader.readUnit [(0, 0)] -/
theorem zx1286_0 {z : gH} {L d : Nat} {K : Option gV → gH → Prop} {s : gH}  (hs : xM z s)  (q0 : gp_I s 1 2 = 0) (q1 : gp_I s 1 6 = 0) (q2 : gp_I s 1 7 = 1) (q3 : gp_I s 46 3 = 0) (q4 : gp_I s 46 5 = 0) (q5 : gp_I s 46 6 = 0) (q6 : gp_I s 46 7 = (-1)) (q7 : gp_I s 46 8 = 0) (q8 : gp_I s 51 8 = 0) (q9 : gp_I s 57 1 = 0) (q10 : gp_I s 57 3 = 0) (q11 : gp_I s 6 4 = 0) (q12 : gp_R s 25 6 = none) (q13 : gp_R s 25 7 = none) (q14 : gp_R s 25 8 = none) (q15 : gp_R s 25 9 = none) (q16 : ∀ k, k < 8 → gp_R s 4 k = some 25) (q17 : gp_R s 46 4 = some 3) (q18 : gp_R s 51 6 = some 55) (q19 : gp_R s 51 7 = some 56) (q20 : gp_us s = 606895) (q21 : gp_sz s = 117) (k : ∀ (t : gH), xM z t → (gp_I t 1 2 = 0) → (gp_I t 1 6 = 0) → (gp_I t 1 7 = 1) → (gp_I t 46 3 = 0) → (gp_I t 46 5 = 0) → (gp_I t 46 6 = 0) → (gp_I t 46 7 = 0) → (gp_I t 46 8 = 0) → (gp_I t 51 8 = 0) → (gp_I t 57 1 = 0) → (gp_I t 57 3 = 0) → (gp_I t 6 4 = 0) → (gp_R t 25 6 = none) → (gp_R t 25 7 = none) → (gp_R t 25 8 = none) → (gp_R t 25 9 = none) → (∀ k, k < 8 → gp_R t 4 k = some 25) → (gp_R t 46 4 = some 3) → (gp_R t 51 6 = some 55) → (gp_R t 51 7 = some 56) → (gp_us t = 606895) → (gp_sz t = 117) → K (some (gp_r (some 25))) t) : gs_C L (d + 1) 1286 3 [gp_r (some 46), gp_i 0] s K := by
  refine s_1286_e _ ?_
  refine zx1282_0 hs (by omega) (by omega) (by omega) (by omega) (by omega) (by omega) q12 q13 q14 q15 q17 (⟨_, rfl, ?_⟩)
  refine ⟨fun h_1 => ?_, fun h_1 => ?_⟩
  · exfalso; omega
  · refine zx1291_0 hs (by omega) (by omega) (by omega) (by omega) (by omega) (by omega) q12 q13 q14 q15 q17 (⟨_, rfl, ?_⟩)
    refine ⟨fun h_2 => ?_, fun h_2 => ?_⟩
    · refine ⟨fun h_3 => ?_, fun h_3 => ?_⟩
      · exfalso; omega
      · refine ⟨fun h_4 => ?_, fun h_4 => ?_⟩
        · exfalso; omega
        · refine s_1286_72 _ _ ?_
          refine zx1283_0 hs (by omega) (by omega) (by omega) (by omega) (by omega) (by omega) (by omega) (by omega) (by omega) (by omega) (by omega) (by omega) q12 q13 q14 q15 q16 q17 q18 q19 q20 q21 (fun s_5 hs_6 q_7 q_8 q_9 q_10 q_11 q_12 q_13 q_14 q_15 q_16 q_17 q_18 q_19 q_20 q_21 q_22 q_23 q_24 q_25 q_26 q_27 q_28 => ⟨rfl, ?_⟩)
          exact k s_5 hs_6 (by omega) (by omega) (by omega) (by omega) (by omega) (by omega) (by omega) (by omega) (by omega) (by omega) (by omega) (by omega) q_19 q_20 q_21 q_22 q_23 q_24 q_25 q_26 q_27 q_28
    · exfalso; omega
set_option maxRecDepth 100000 in
/-- Reader.next [] -/
theorem zx1282_1 {z : gH} {L d : Nat} {K : Option gV → gH → Prop} {s : gH}  (hs : xM z s)  (q0 : gp_I s 46 3 = 0) (q1 : gp_I s 46 5 = 0) (q2 : gp_I s 46 6 = 0) (q3 : gp_I s 46 7 = 0) (q4 : gp_I s 46 8 = 0) (q5 : gp_I s 6 4 = 0) (q6 : gp_R s 25 6 = none) (q7 : gp_R s 25 7 = none) (q8 : gp_R s 25 8 = none) (q9 : gp_R s 25 9 = none) (q10 : gp_R s 46 4 = some 3) (k : K (some (gp_i (-1))) s) : gs_C L d 1282 1 [gp_r (some 46)] s K := by
  refine s_1282_e ?_
  try rw [show gp_I s 46 7 = 0 from q3]
  refine ⟨fun h_1 => ?_, fun h_1 => ?_⟩
  · exfalso; omega
  · refine s_1282_30 ?_
    refine s_1282_31 _ ?_
    exact k
set_option maxRecDepth 100000 in
/-- Reader.readSum [(0, 0)] -/
theorem zx1285_0 {z : gH} {L d : Nat} {K : Option gV → gH → Prop} {s : gH}  (hs : xM z s)  (q0 : gp_I s 1 2 = 0) (q1 : gp_I s 1 6 = 0) (q2 : gp_I s 1 7 = 1) (q3 : gp_I s 46 3 = 0) (q4 : gp_I s 46 5 = 0) (q5 : gp_I s 46 6 = 0) (q6 : gp_I s 46 7 = (-1)) (q7 : gp_I s 46 8 = 0) (q8 : gp_I s 51 8 = 0) (q9 : gp_I s 57 1 = 0) (q10 : gp_I s 57 3 = 0) (q11 : gp_I s 6 4 = 0) (q12 : gp_R s 25 6 = none) (q13 : gp_R s 25 7 = none) (q14 : gp_R s 25 8 = none) (q15 : gp_R s 25 9 = none) (q16 : ∀ k, k < 8 → gp_R s 4 k = some 25) (q17 : gp_R s 46 4 = some 3) (q18 : gp_R s 51 6 = some 55) (q19 : gp_R s 51 7 = some 56) (q20 : gp_us s = 606895) (q21 : gp_sz s = 117) (k : ∀ (t : gH), xM z t → (gp_I t 1 2 = 0) → (gp_I t 1 6 = 0) → (gp_I t 1 7 = 1) → (gp_I t 46 3 = 0) → (gp_I t 46 5 = 0) → (gp_I t 46 6 = 0) → (gp_I t 46 7 = 0) → (gp_I t 46 8 = 0) → (gp_I t 51 8 = 0) → (gp_I t 57 1 = 0) → (gp_I t 57 3 = 0) → (gp_I t 6 4 = 0) → (gp_R t 25 6 = none) → (gp_R t 25 7 = none) → (gp_R t 25 8 = none) → (gp_R t 25 9 = none) → (∀ k, k < 8 → gp_R t 4 k = some 25) → (gp_R t 46 4 = some 3) → (gp_R t 51 6 = some 55) → (gp_R t 51 7 = some 56) → (gp_us t = 606895) → (gp_sz t = 117) → K (some (gp_r (some 25))) t) : gs_C L (d + 2) 1285 5 [gp_r (some 46), gp_i 0] s K := by
  refine s_1285_e _ ?_
  refine zx1286_0 hs (by omega) (by omega) (by omega) (by omega) (by omega) (by omega) (by omega) (by omega) (by omega) (by omega) (by omega) (by omega) q12 q13 q14 q15 q16 q17 q18 q19 q20 q21 (fun s_2 hs_3 q_4 q_5 q_6 q_7 q_8 q_9 q_10 q_11 q_12 q_13 q_14 q_15 q_16 q_17 q_18 q_19 q_20 q_21 q_22 q_23 q_24 q_25 => ⟨_, rfl, ?_⟩)
  refine s_1285_8 _ _ _ _ ?_
  refine ⟨fun h_27 => ?_, fun h_27 => ?_⟩
  · refine zx1282_1 hs_3 (by omega) (by omega) (by omega) (by omega) (by omega) (by omega) q_16 q_17 q_18 q_19 q_21 (⟨_, rfl, ?_⟩)
    refine ⟨fun h_28 => ?_, fun h_28 => ?_⟩
    · exfalso; omega
    · refine s_1285_78 _ _ _ _ ?_
      exact k s_2 hs_3 (by omega) (by omega) (by omega) (by omega) (by omega) (by omega) (by omega) (by omega) (by omega) (by omega) (by omega) (by omega) q_16 q_17 q_18 q_19 q_20 q_21 q_22 q_23 q_24 q_25
  · exfalso; omega
set_option maxRecDepth 100000 in
/-- Reader.read [3, (0, 0)] -/
theorem zx1281_0 {z : gH} {L d : Nat} {K : Option gV → gH → Prop} {s : gH}  (hs : xM z s)  (q0 : gp_I s 1 2 = 0) (q1 : gp_I s 1 6 = 0) (q2 : gp_I s 1 7 = 1) (q3 : gp_I s 51 8 = 0) (q4 : gp_I s 57 1 = 0) (q5 : gp_I s 57 3 = 0) (q6 : gp_I s 6 4 = 0) (q7 : gp_R s 25 6 = none) (q8 : gp_R s 25 7 = none) (q9 : gp_R s 25 8 = none) (q10 : gp_R s 25 9 = none) (q11 : ∀ k, k < 8 → gp_R s 4 k = some 25) (q12 : gp_R s 51 6 = some 55) (q13 : gp_R s 51 7 = some 56) (q14 : gp_us s = 606895) (q15 : gp_sz s = 117) (k : ∀ (t : gH), xM z t → (gp_I t 1 2 = 0) → (gp_I t 1 6 = 0) → (gp_I t 1 7 = 1) → (gp_I t 46 3 = 0) → (gp_I t 46 5 = 0) → (gp_I t 46 6 = 0) → (gp_I t 46 7 = 0) → (gp_I t 46 8 = 0) → (gp_I t 51 8 = 0) → (gp_I t 57 1 = 0) → (gp_I t 57 3 = 0) → (gp_I t 6 4 = 0) → (gp_R t 25 6 = none) → (gp_R t 25 7 = none) → (gp_R t 25 8 = none) → (gp_R t 25 9 = none) → (∀ k, k < 8 → gp_R t 4 k = some 25) → (gp_R t 46 4 = some 3) → (gp_R t 51 6 = some 55) → (gp_R t 51 7 = some 56) → (gp_us t = 606895) → (gp_sz t = 117) → K (some (gp_r (some 25))) t) : gs_C L (d + 3) 1281 4 [gp_r (some 46), gp_r (some 3), gp_i 0] s K := by
  refine s_1281_e _ _ ?_
  intro s_1 e_2
  have hs_3 : xM z s_1 := by rw [e_2]; exact xI.wR hs _ _ _
  have q_4 : gp_I s_1 1 2 = 0 := by rw [e_2]; exact q0
  have q_5 : gp_I s_1 1 6 = 0 := by rw [e_2]; exact q1
  have q_6 : gp_I s_1 1 7 = 1 := by rw [e_2]; exact q2
  have q_7 : gp_I s_1 51 8 = 0 := by rw [e_2]; exact q3
  have q_8 : gp_I s_1 57 1 = 0 := by rw [e_2]; exact q4
  have q_9 : gp_I s_1 57 3 = 0 := by rw [e_2]; exact q5
  have q_10 : gp_I s_1 6 4 = 0 := by rw [e_2]; exact q6
  have q_11 : gp_R s_1 25 6 = none := by rw [e_2]; exact q7
  have q_12 : gp_R s_1 25 7 = none := by rw [e_2]; exact q8
  have q_13 : gp_R s_1 25 8 = none := by rw [e_2]; exact q9
  have q_14 : gp_R s_1 25 9 = none := by rw [e_2]; exact q10
  have q_15 : ∀ k, k < 8 → gp_R s_1 4 k = some 25 := by rw [e_2]; exact q11
  have q_16 : gp_R s_1 51 6 = some 55 := by rw [e_2]; exact q12
  have q_17 : gp_R s_1 51 7 = some 56 := by rw [e_2]; exact q13
  have q_18 : gp_us s_1 = 606895 := by rw [e_2]; exact q14
  have q_19 : gp_sz s_1 = 117 := by rw [e_2]; exact q15
  have q_20 : gp_R s_1 46 4 = some 3 := by rw [e_2]; rfl
  intro s_21 e_22
  have hs_23 : xM z s_21 := by rw [e_22]; exact xw46_5 hs_3 0 _
  have q_24 : gp_I s_21 1 2 = 0 := by rw [e_22]; exact q_4
  have q_25 : gp_I s_21 1 6 = 0 := by rw [e_22]; exact q_5
  have q_26 : gp_I s_21 1 7 = 1 := by rw [e_22]; exact q_6
  have q_27 : gp_I s_21 51 8 = 0 := by rw [e_22]; exact q_7
  have q_28 : gp_I s_21 57 1 = 0 := by rw [e_22]; exact q_8
  have q_29 : gp_I s_21 57 3 = 0 := by rw [e_22]; exact q_9
  have q_30 : gp_I s_21 6 4 = 0 := by rw [e_22]; exact q_10
  have q_31 : gp_R s_21 25 6 = none := by rw [e_22]; exact q_11
  have q_32 : gp_R s_21 25 7 = none := by rw [e_22]; exact q_12
  have q_33 : gp_R s_21 25 8 = none := by rw [e_22]; exact q_13
  have q_34 : gp_R s_21 25 9 = none := by rw [e_22]; exact q_14
  have q_35 : ∀ k, k < 8 → gp_R s_21 4 k = some 25 := by rw [e_22]; exact q_15
  have q_36 : gp_R s_21 51 6 = some 55 := by rw [e_22]; exact q_16
  have q_37 : gp_R s_21 51 7 = some 56 := by rw [e_22]; exact q_17
  have q_38 : gp_us s_21 = 606895 := by rw [e_22]; exact q_18
  have q_39 : gp_sz s_21 = 117 := by rw [e_22]; exact q_19
  have q_40 : gp_R s_21 46 4 = some 3 := by rw [e_22]; exact q_20
  have q_41 : gp_I s_21 46 5 = 0 := by rw [e_22]; rfl
  intro s_43 e_44
  have hs_45 : xM z s_43 := by rw [e_44]; exact xw46_6 hs_23 0 _
  have q_46 : gp_I s_43 1 2 = 0 := by rw [e_44]; exact q_24
  have q_47 : gp_I s_43 1 6 = 0 := by rw [e_44]; exact q_25
  have q_48 : gp_I s_43 1 7 = 1 := by rw [e_44]; exact q_26
  have q_49 : gp_I s_43 51 8 = 0 := by rw [e_44]; exact q_27
  have q_50 : gp_I s_43 57 1 = 0 := by rw [e_44]; exact q_28
  have q_51 : gp_I s_43 57 3 = 0 := by rw [e_44]; exact q_29
  have q_52 : gp_I s_43 6 4 = 0 := by rw [e_44]; exact q_30
  have q_53 : gp_R s_43 25 6 = none := by rw [e_44]; exact q_31
  have q_54 : gp_R s_43 25 7 = none := by rw [e_44]; exact q_32
  have q_55 : gp_R s_43 25 8 = none := by rw [e_44]; exact q_33
  have q_56 : gp_R s_43 25 9 = none := by rw [e_44]; exact q_34
  have q_57 : ∀ k, k < 8 → gp_R s_43 4 k = some 25 := by rw [e_44]; exact q_35
  have q_58 : gp_R s_43 51 6 = some 55 := by rw [e_44]; exact q_36
  have q_59 : gp_R s_43 51 7 = some 56 := by rw [e_44]; exact q_37
  have q_60 : gp_us s_43 = 606895 := by rw [e_44]; exact q_38
  have q_61 : gp_sz s_43 = 117 := by rw [e_44]; exact q_39
  have q_62 : gp_R s_43 46 4 = some 3 := by rw [e_44]; exact q_40
  have q_63 : gp_I s_43 46 5 = 0 := by rw [e_44]; exact q_41
  have q_64 : gp_I s_43 46 6 = 0 := by rw [e_44]; rfl
  intro s_66 e_67
  have hs_68 : xM z s_66 := by rw [e_67]; exact xw46_3 hs_45 0 _
  have q_69 : gp_I s_66 1 2 = 0 := by rw [e_67]; exact q_46
  have q_70 : gp_I s_66 1 6 = 0 := by rw [e_67]; exact q_47
  have q_71 : gp_I s_66 1 7 = 1 := by rw [e_67]; exact q_48
  have q_72 : gp_I s_66 51 8 = 0 := by rw [e_67]; exact q_49
  have q_73 : gp_I s_66 57 1 = 0 := by rw [e_67]; exact q_50
  have q_74 : gp_I s_66 57 3 = 0 := by rw [e_67]; exact q_51
  have q_75 : gp_I s_66 6 4 = 0 := by rw [e_67]; exact q_52
  have q_76 : gp_R s_66 25 6 = none := by rw [e_67]; exact q_53
  have q_77 : gp_R s_66 25 7 = none := by rw [e_67]; exact q_54
  have q_78 : gp_R s_66 25 8 = none := by rw [e_67]; exact q_55
  have q_79 : gp_R s_66 25 9 = none := by rw [e_67]; exact q_56
  have q_80 : ∀ k, k < 8 → gp_R s_66 4 k = some 25 := by rw [e_67]; exact q_57
  have q_81 : gp_R s_66 51 6 = some 55 := by rw [e_67]; exact q_58
  have q_82 : gp_R s_66 51 7 = some 56 := by rw [e_67]; exact q_59
  have q_83 : gp_us s_66 = 606895 := by rw [e_67]; exact q_60
  have q_84 : gp_sz s_66 = 117 := by rw [e_67]; exact q_61
  have q_85 : gp_R s_66 46 4 = some 3 := by rw [e_67]; exact q_62
  have q_86 : gp_I s_66 46 5 = 0 := by rw [e_67]; exact q_63
  have q_87 : gp_I s_66 46 6 = 0 := by rw [e_67]; exact q_64
  have q_88 : gp_I s_66 46 3 = 0 := by rw [e_67]; rfl
  intro s_90 e_91
  have hs_92 : xM z s_90 := by rw [e_91]; exact xw46_7 hs_68 0 _
  have q_93 : gp_I s_90 1 2 = 0 := by rw [e_91]; exact q_69
  have q_94 : gp_I s_90 1 6 = 0 := by rw [e_91]; exact q_70
  have q_95 : gp_I s_90 1 7 = 1 := by rw [e_91]; exact q_71
  have q_96 : gp_I s_90 51 8 = 0 := by rw [e_91]; exact q_72
  have q_97 : gp_I s_90 57 1 = 0 := by rw [e_91]; exact q_73
  have q_98 : gp_I s_90 57 3 = 0 := by rw [e_91]; exact q_74
  have q_99 : gp_I s_90 6 4 = 0 := by rw [e_91]; exact q_75
  have q_100 : gp_R s_90 25 6 = none := by rw [e_91]; exact q_76
  have q_101 : gp_R s_90 25 7 = none := by rw [e_91]; exact q_77
  have q_102 : gp_R s_90 25 8 = none := by rw [e_91]; exact q_78
  have q_103 : gp_R s_90 25 9 = none := by rw [e_91]; exact q_79
  have q_104 : ∀ k, k < 8 → gp_R s_90 4 k = some 25 := by rw [e_91]; exact q_80
  have q_105 : gp_R s_90 51 6 = some 55 := by rw [e_91]; exact q_81
  have q_106 : gp_R s_90 51 7 = some 56 := by rw [e_91]; exact q_82
  have q_107 : gp_us s_90 = 606895 := by rw [e_91]; exact q_83
  have q_108 : gp_sz s_90 = 117 := by rw [e_91]; exact q_84
  have q_109 : gp_R s_90 46 4 = some 3 := by rw [e_91]; exact q_85
  have q_110 : gp_I s_90 46 5 = 0 := by rw [e_91]; exact q_86
  have q_111 : gp_I s_90 46 6 = 0 := by rw [e_91]; exact q_87
  have q_112 : gp_I s_90 46 3 = 0 := by rw [e_91]; exact q_88
  have q_113 : gp_I s_90 46 7 = (-1) := by rw [e_91]; rfl
  intro s_115 e_116
  have hs_117 : xM z s_115 := by rw [e_116]; exact xw46_8 hs_92 0 _
  have q_118 : gp_I s_115 1 2 = 0 := by rw [e_116]; exact q_93
  have q_119 : gp_I s_115 1 6 = 0 := by rw [e_116]; exact q_94
  have q_120 : gp_I s_115 1 7 = 1 := by rw [e_116]; exact q_95
  have q_121 : gp_I s_115 51 8 = 0 := by rw [e_116]; exact q_96
  have q_122 : gp_I s_115 57 1 = 0 := by rw [e_116]; exact q_97
  have q_123 : gp_I s_115 57 3 = 0 := by rw [e_116]; exact q_98
  have q_124 : gp_I s_115 6 4 = 0 := by rw [e_116]; exact q_99
  have q_125 : gp_R s_115 25 6 = none := by rw [e_116]; exact q_100
  have q_126 : gp_R s_115 25 7 = none := by rw [e_116]; exact q_101
  have q_127 : gp_R s_115 25 8 = none := by rw [e_116]; exact q_102
  have q_128 : gp_R s_115 25 9 = none := by rw [e_116]; exact q_103
  have q_129 : ∀ k, k < 8 → gp_R s_115 4 k = some 25 := by rw [e_116]; exact q_104
  have q_130 : gp_R s_115 51 6 = some 55 := by rw [e_116]; exact q_105
  have q_131 : gp_R s_115 51 7 = some 56 := by rw [e_116]; exact q_106
  have q_132 : gp_us s_115 = 606895 := by rw [e_116]; exact q_107
  have q_133 : gp_sz s_115 = 117 := by rw [e_116]; exact q_108
  have q_134 : gp_R s_115 46 4 = some 3 := by rw [e_116]; exact q_109
  have q_135 : gp_I s_115 46 5 = 0 := by rw [e_116]; exact q_110
  have q_136 : gp_I s_115 46 6 = 0 := by rw [e_116]; exact q_111
  have q_137 : gp_I s_115 46 3 = 0 := by rw [e_116]; exact q_112
  have q_138 : gp_I s_115 46 7 = (-1) := by rw [e_116]; exact q_113
  have q_139 : gp_I s_115 46 8 = 0 := by rw [e_116]; rfl
  refine zx1285_0 hs_117 (by omega) (by omega) (by omega) (by omega) (by omega) (by omega) (by omega) (by omega) (by omega) (by omega) (by omega) (by omega) q_125 q_126 q_127 q_128 q_129 q_134 q_130 q_131 q_132 q_133 (fun s_142 hs_143 q_144 q_145 q_146 q_147 q_148 q_149 q_150 q_151 q_152 q_153 q_154 q_155 q_156 q_157 q_158 q_159 q_160 q_161 q_162 q_163 q_164 q_165 => ⟨_, rfl, ?_⟩)
  try rw [show gp_I s_142 46 6 = 0 from q_149]
  try rw [show gp_I s_142 46 5 = 0 from q_148]
  refine ⟨fun h_166 => ?_, fun h_166 => ?_⟩
  · exfalso; omega
  · refine s_1281_51 _ _ _ ?_
    exact k s_142 hs_143 (by omega) (by omega) (by omega) (by omega) (by omega) (by omega) (by omega) (by omega) (by omega) (by omega) (by omega) (by omega) q_156 q_157 q_158 q_159 q_160 q_161 q_162 q_163 q_164 q_165
set_option maxRecDepth 100000 in
/-- GatheredPoints.game [(0, 7)] -/
theorem zx2818_2 {z : gH} {L d : Nat} {K : Option gV → gH → Prop} {s : gH} (p0 : Int) (hs : xM z s) (h_p0 : 0 ≤ p0 ∧ p0 ≤ 7) (q0 : gp_I s 1 2 = 0) (q1 : gp_I s 1 6 = 0) (q2 : gp_I s 1 7 = 1) (q3 : gp_I s 51 8 = 0) (q4 : gp_I s 57 1 = 0) (q5 : gp_I s 57 3 = 0) (q6 : gp_I s 6 4 = 0) (q7 : gp_R s 25 6 = none) (q8 : gp_R s 25 7 = none) (q9 : gp_R s 25 8 = none) (q10 : gp_R s 25 9 = none) (q11 : ∀ k, k < 8 → gp_R s 4 k = some 25) (q12 : gp_R s 51 6 = some 55) (q13 : gp_R s 51 7 = some 56) (q14 : gp_us s = 606895) (q15 : gp_sz s = 117) (k : ∀ (t : gH), xM z t → (gp_I t 1 2 = 0) → (gp_I t 1 6 = 0) → (gp_I t 1 7 = 1) → (gp_I t 46 3 = 0) → (gp_I t 46 5 = 0) → (gp_I t 46 6 = 0) → (gp_I t 46 7 = 0) → (gp_I t 46 8 = 0) → (gp_I t 51 8 = 0) → (gp_I t 57 1 = 0) → (gp_I t 57 3 = 0) → (gp_I t 6 4 = 0) → (gp_R t 25 6 = none) → (gp_R t 25 7 = none) → (gp_R t 25 8 = none) → (gp_R t 25 9 = none) → (∀ k, k < 8 → gp_R t 4 k = some 25) → (gp_R t 46 4 = some 3) → (gp_R t 51 6 = some 55) → (gp_R t 51 7 = some 56) → (gp_us t = 606895) → (gp_sz t = 117) → K (some (gp_i (-10))) t) : gs_C L (d + 4) 2818 3 [gp_r (some 1), gp_i p0] s K := by
  refine s_2818_e _ ?_
  refine zx2856_2 _ hs (by omega) (by omega) (by omega) (by omega) (by omega) (by omega) (by omega) q7 q8 q9 q10 q11 q12 q13 (⟨_, rfl, ?_⟩)
  refine ⟨fun h_1 => ?_, fun h_1 => ?_⟩
  · try rw [show gp_I s 1 2 = 0 from q0]
    refine zx1281_0 hs (by omega) (by omega) (by omega) (by omega) (by omega) (by omega) (by omega) q7 q8 q9 q10 q11 q12 q13 q14 q15 (fun s_3 hs_4 q_5 q_6 q_7 q_8 q_9 q_10 q_11 q_12 q_13 q_14 q_15 q_16 q_17 q_18 q_19 q_20 q_21 q_22 q_23 q_24 q_25 q_26 => ⟨_, rfl, ?_⟩)
    intro s_27 e_28
    have hs_29 : xM z s_27 := by rw [e_28]; exact xw1_2 hs_4 0 _
    have q_30 : gp_I s_27 1 6 = 0 := by rw [e_28]; exact q_6
    have q_31 : gp_I s_27 1 7 = 1 := by rw [e_28]; exact q_7
    have q_32 : gp_I s_27 46 3 = 0 := by rw [e_28]; exact q_8
    have q_33 : gp_I s_27 46 5 = 0 := by rw [e_28]; exact q_9
    have q_34 : gp_I s_27 46 6 = 0 := by rw [e_28]; exact q_10
    have q_35 : gp_I s_27 46 7 = 0 := by rw [e_28]; exact q_11
    have q_36 : gp_I s_27 46 8 = 0 := by rw [e_28]; exact q_12
    have q_37 : gp_I s_27 51 8 = 0 := by rw [e_28]; exact q_13
    have q_38 : gp_I s_27 57 1 = 0 := by rw [e_28]; exact q_14
    have q_39 : gp_I s_27 57 3 = 0 := by rw [e_28]; exact q_15
    have q_40 : gp_I s_27 6 4 = 0 := by rw [e_28]; exact q_16
    have q_41 : gp_R s_27 25 6 = none := by rw [e_28]; exact q_17
    have q_42 : gp_R s_27 25 7 = none := by rw [e_28]; exact q_18
    have q_43 : gp_R s_27 25 8 = none := by rw [e_28]; exact q_19
    have q_44 : gp_R s_27 25 9 = none := by rw [e_28]; exact q_20
    have q_45 : ∀ k, k < 8 → gp_R s_27 4 k = some 25 := by rw [e_28]; exact q_21
    have q_46 : gp_R s_27 46 4 = some 3 := by rw [e_28]; exact q_22
    have q_47 : gp_R s_27 51 6 = some 55 := by rw [e_28]; exact q_23
    have q_48 : gp_R s_27 51 7 = some 56 := by rw [e_28]; exact q_24
    have q_49 : gp_us s_27 = 606895 := by rw [e_28]; exact q_25
    have q_50 : gp_sz s_27 = 117 := by rw [e_28]; exact q_26
    have q_51 : gp_I s_27 1 2 = 0 := by rw [e_28]; rfl
    try rw [show gp_I s_27 46 7 = 0 from q_35]
    refine ⟨fun h_53 => ?_, fun h_53 => ?_⟩
    · exfalso; omega
    · try rw [show gp_I s_27 46 7 = 0 from q_35]
      have w_54 := gz_w ((-10) - 0)
      have e_55 : gp_wr ((-10) - 0) = (-10) := by omega
      try rw [e_55]
      exact k s_27 hs_29 (by omega) (by omega) (by omega) (by omega) (by omega) (by omega) (by omega) (by omega) (by omega) (by omega) (by omega) (by omega) q_41 q_42 q_43 q_44 q_45 q_46 q_47 q_48 q_49 q_50
  · exfalso; omega
set_option maxRecDepth 100000 in
/-- GatheredPoints.strip [(-2147483648, -1)] -/
theorem zx2819_0 {z : gH} {L d : Nat} {K : Option gV → gH → Prop} {s : gH} (p0 : Int) (hs : xM z s) (h_p0 : (-2147483648) ≤ p0 ∧ p0 ≤ (-1)) (q0 : gp_I s 1 2 = 0) (q1 : gp_I s 1 6 = 0) (q2 : gp_I s 1 7 = 1) (q3 : gp_I s 51 8 = 0) (q4 : gp_I s 57 1 = 0) (q5 : gp_I s 57 3 = 0) (q6 : gp_I s 6 4 = 0) (q7 : gp_R s 25 6 = none) (q8 : gp_R s 25 7 = none) (q9 : gp_R s 25 8 = none) (q10 : gp_R s 25 9 = none) (q11 : ∀ k, k < 8 → gp_R s 4 k = some 25) (q12 : gp_R s 51 6 = some 55) (q13 : gp_R s 51 7 = some 56) (q14 : gp_us s = 606895) (q15 : gp_sz s = 117) (k : ∀ (t : gH), xM z t → (gp_I t 1 2 = 0) → (gp_I t 1 6 = 0) → (gp_I t 1 7 = 1) → ((-2147483648) ≤ gp_I t 2 1 ∧ gp_I t 2 1 ≤ 2147483647) → (gp_I t 51 8 = 0) → (gp_I t 57 1 = 0) → (gp_I t 57 3 = 0) → (gp_I t 6 4 = 0) → (gp_R t 25 6 = none) → (gp_R t 25 7 = none) → (gp_R t 25 8 = none) → (gp_R t 25 9 = none) → (∀ k, k < 8 → gp_R t 4 k = some 25) → (gp_R t 51 6 = some 55) → (gp_R t 51 7 = some 56) → (gp_us t = 606895) → (gp_sz t = 117) → K (some (gp_i (-1000000001))) t) : gs_C L (d + 1) 2819 4 [gp_r (some 1), gp_i p0] s K := by
  refine s_2819_e _ ?_
  refine zx2856_0 _ hs (by omega) (by omega) (by omega) (by omega) (by omega) (by omega) (by omega) q7 q8 q9 q10 q11 q12 q13 (⟨_, rfl, ?_⟩)
  refine ⟨fun h_1 => ?_, fun h_1 => ?_⟩
  · exfalso; omega
  · refine zx2855_1 hs (by omega) (by omega) (by omega) (by omega) (by omega) (by omega) (by omega) q7 q8 q9 q10 q11 q12 q13 q14 q15 (fun s_2 hs_3 q_4 q_5 q_6 q_7 q_8 q_9 q_10 q_11 q_12 q_13 q_14 q_15 q_16 q_17 q_18 q_19 q_20 => ⟨_, rfl, ?_⟩)
    exact k s_2 hs_3 (by omega) (by omega) (by omega) (by omega) (by omega) (by omega) (by omega) (by omega) q_12 q_13 q_14 q_15 q_16 q_17 q_18 q_19 q_20
set_option maxRecDepth 100000 in
/-- GatheredPoints.strip [(8, 2147483647)] -/
theorem zx2819_1 {z : gH} {L d : Nat} {K : Option gV → gH → Prop} {s : gH} (p0 : Int) (hs : xM z s) (h_p0 : 8 ≤ p0 ∧ p0 ≤ 2147483647) (q0 : gp_I s 1 2 = 0) (q1 : gp_I s 1 6 = 0) (q2 : gp_I s 1 7 = 1) (q3 : gp_I s 51 8 = 0) (q4 : gp_I s 57 1 = 0) (q5 : gp_I s 57 3 = 0) (q6 : gp_I s 6 4 = 0) (q7 : gp_R s 25 6 = none) (q8 : gp_R s 25 7 = none) (q9 : gp_R s 25 8 = none) (q10 : gp_R s 25 9 = none) (q11 : ∀ k, k < 8 → gp_R s 4 k = some 25) (q12 : gp_R s 51 6 = some 55) (q13 : gp_R s 51 7 = some 56) (q14 : gp_us s = 606895) (q15 : gp_sz s = 117) (k : ∀ (t : gH), xM z t → (gp_I t 1 2 = 0) → (gp_I t 1 6 = 0) → (gp_I t 1 7 = 1) → ((-2147483648) ≤ gp_I t 2 1 ∧ gp_I t 2 1 ≤ 2147483647) → (gp_I t 51 8 = 0) → (gp_I t 57 1 = 0) → (gp_I t 57 3 = 0) → (gp_I t 6 4 = 0) → (gp_R t 25 6 = none) → (gp_R t 25 7 = none) → (gp_R t 25 8 = none) → (gp_R t 25 9 = none) → (∀ k, k < 8 → gp_R t 4 k = some 25) → (gp_R t 51 6 = some 55) → (gp_R t 51 7 = some 56) → (gp_us t = 606895) → (gp_sz t = 117) → K (some (gp_i (-1000000001))) t) : gs_C L (d + 1) 2819 4 [gp_r (some 1), gp_i p0] s K := by
  refine s_2819_e _ ?_
  refine zx2856_1 _ hs (by omega) (by omega) (by omega) (by omega) (by omega) (by omega) (by omega) q7 q8 q9 q10 q11 q12 q13 (⟨_, rfl, ?_⟩)
  refine ⟨fun h_1 => ?_, fun h_1 => ?_⟩
  · exfalso; omega
  · refine zx2855_1 hs (by omega) (by omega) (by omega) (by omega) (by omega) (by omega) (by omega) q7 q8 q9 q10 q11 q12 q13 q14 q15 (fun s_2 hs_3 q_4 q_5 q_6 q_7 q_8 q_9 q_10 q_11 q_12 q_13 q_14 q_15 q_16 q_17 q_18 q_19 q_20 => ⟨_, rfl, ?_⟩)
    exact k s_2 hs_3 (by omega) (by omega) (by omega) (by omega) (by omega) (by omega) (by omega) (by omega) q_12 q_13 q_14 q_15 q_16 q_17 q_18 q_19 q_20
set_option maxRecDepth 100000 in
/-- Walker.firstWrong [3, (0, 0)] -/
theorem zx2561_0 {z : gH} {L d : Nat} {K : Option gV → gH → Prop} {s : gH}  (hs : xM z s)  (q0 : gp_I s 6 4 = 0) (q1 : gp_R s 25 6 = none) (q2 : gp_R s 25 7 = none) (q3 : gp_R s 25 8 = none) (q4 : gp_R s 25 9 = none) (k : K (some (gp_i 0)) s) : gs_C L d 2561 6 [gp_r (some 48), gp_r (some 3), gp_i 0] s K := by
  refine s_2561_e _ _ ?_
  refine s_2561_2 _ _ _ _ _ ?_
  refine ⟨fun h_2 => ?_, fun h_2 => ?_⟩
  · exfalso; omega
  · refine ⟨fun h_3 => ?_, fun h_3 => ?_⟩
    · refine s_2561_75 _ _ _ _ _ _ ?_
      exact k
    · exfalso; omega
set_option maxRecDepth 100000 in
/-- GatheredPoints.strip [(0, 7)] -/
theorem zx2819_2 {z : gH} {L d : Nat} {K : Option gV → gH → Prop} {s : gH} (p0 : Int) (hs : xM z s) (h_p0 : 0 ≤ p0 ∧ p0 ≤ 7) (q0 : gp_I s 1 2 = 0) (q1 : gp_I s 1 6 = 0) (q2 : gp_I s 1 7 = 1) (q3 : gp_I s 51 8 = 0) (q4 : gp_I s 57 1 = 0) (q5 : gp_I s 57 3 = 0) (q6 : gp_I s 6 4 = 0) (q7 : gp_R s 25 6 = none) (q8 : gp_R s 25 7 = none) (q9 : gp_R s 25 8 = none) (q10 : gp_R s 25 9 = none) (q11 : ∀ k, k < 8 → gp_R s 4 k = some 25) (q12 : gp_R s 51 6 = some 55) (q13 : gp_R s 51 7 = some 56) (q14 : gp_us s = 606895) (q15 : gp_sz s = 117) (k : ∀ (t : gH), xM z t → (gp_I t 1 2 = 0) → (gp_I t 1 6 = 0) → (gp_I t 1 7 = 1) → (gp_I t 51 8 = 0) → (gp_I t 57 1 = 0) → (gp_I t 57 3 = 0) → (gp_I t 6 4 = 0) → (gp_R t 25 6 = none) → (gp_R t 25 7 = none) → (gp_R t 25 8 = none) → (gp_R t 25 9 = none) → (∀ k, k < 8 → gp_R t 4 k = some 25) → (gp_R t 51 6 = some 55) → (gp_R t 51 7 = some 56) → (gp_us t = 606895) → (gp_sz t = 117) → K (some (gp_i (-10))) t) : gs_C L (d + 1) 2819 4 [gp_r (some 1), gp_i p0] s K := by
  refine s_2819_e _ ?_
  refine zx2856_2 _ hs (by omega) (by omega) (by omega) (by omega) (by omega) (by omega) (by omega) q7 q8 q9 q10 q11 q12 q13 (⟨_, rfl, ?_⟩)
  refine ⟨fun h_1 => ?_, fun h_1 => ?_⟩
  · try rw [show gp_I s 1 2 = 0 from q0]
    refine zx2561_0 hs (by omega) q7 q8 q9 q10 (⟨_, rfl, ?_⟩)
    refine ⟨fun h_2 => ?_, fun h_2 => ?_⟩
    · exfalso; omega
    · refine s_2819_52 _ _ _ _ ?_
      intro s_4 e_5
      have hs_6 : xM z s_4 := by rw [e_5]; exact xw1_2 hs 0 _
      have q_7 : gp_I s_4 1 6 = 0 := by rw [e_5]; exact q1
      have q_8 : gp_I s_4 1 7 = 1 := by rw [e_5]; exact q2
      have q_9 : gp_I s_4 51 8 = 0 := by rw [e_5]; exact q3
      have q_10 : gp_I s_4 57 1 = 0 := by rw [e_5]; exact q4
      have q_11 : gp_I s_4 57 3 = 0 := by rw [e_5]; exact q5
      have q_12 : gp_I s_4 6 4 = 0 := by rw [e_5]; exact q6
      have q_13 : gp_R s_4 25 6 = none := by rw [e_5]; exact q7
      have q_14 : gp_R s_4 25 7 = none := by rw [e_5]; exact q8
      have q_15 : gp_R s_4 25 8 = none := by rw [e_5]; exact q9
      have q_16 : gp_R s_4 25 9 = none := by rw [e_5]; exact q10
      have q_17 : ∀ k, k < 8 → gp_R s_4 4 k = some 25 := by rw [e_5]; exact q11
      have q_18 : gp_R s_4 51 6 = some 55 := by rw [e_5]; exact q12
      have q_19 : gp_R s_4 51 7 = some 56 := by rw [e_5]; exact q13
      have q_20 : gp_us s_4 = 606895 := by rw [e_5]; exact q14
      have q_21 : gp_sz s_4 = 117 := by rw [e_5]; exact q15
      have q_22 : gp_I s_4 1 2 = 0 := by rw [e_5]; rfl
      refine ⟨fun h_24 => ?_, fun h_24 => ?_⟩
      · exfalso; omega
      · have w_25 := gz_w ((-10) - 0)
        have e_26 : gp_wr ((-10) - 0) = (-10) := by omega
        try rw [e_26]
        exact k s_4 hs_6 (by omega) (by omega) (by omega) (by omega) (by omega) (by omega) (by omega) q_13 q_14 q_15 q_16 q_17 q_18 q_19 q_20 q_21
  · exfalso; omega
set_option maxRecDepth 100000 in
/-- GatheredPoints.refused [(1, 1)] -/
theorem zx2855_2 {z : gH} {L d : Nat} {K : Option gV → gH → Prop} {s : gH}  (hs : xM z s)  (q0 : gp_I s 1 2 = 0) (q1 : gp_I s 1 6 = 0) (q2 : gp_I s 1 7 = 1) (q3 : gp_I s 51 8 = 0) (q4 : gp_I s 57 1 = 0) (q5 : gp_I s 57 3 = 0) (q6 : gp_I s 6 4 = 0) (q7 : gp_I s 72 0 = 0) (q8 : gp_I s 72 1 = 0) (q9 : gp_I s 72 2 = 0) (q10 : gp_I s 72 3 = 0) (q11 : gp_I s 73 0 = 0) (q12 : gp_I s 73 1 = 0) (q13 : gp_I s 73 2 = 0) (q14 : gp_I s 73 3 = 0) (q15 : gp_R s 25 6 = none) (q16 : gp_R s 25 7 = none) (q17 : gp_R s 25 8 = none) (q18 : gp_R s 25 9 = none) (q19 : ∀ k, k < 8 → gp_R s 4 k = some 25) (q20 : gp_R s 51 6 = some 55) (q21 : gp_R s 51 7 = some 56) (q22 : gp_us s = 606895) (q23 : gp_sz s = 117) (k : ∀ (t : gH), xM z t → (gp_I t 1 2 = 0) → (gp_I t 1 6 = 0) → (gp_I t 1 7 = 1) → ((-2147483648) ≤ gp_I t 2 1 ∧ gp_I t 2 1 ≤ 2147483647) → (gp_I t 51 8 = 0) → (gp_I t 57 1 = 0) → (gp_I t 57 3 = 0) → (gp_I t 6 4 = 0) → (gp_I t 72 0 = 0) → (gp_I t 72 1 = 0) → (gp_I t 72 2 = 0) → (gp_I t 72 3 = 0) → (gp_I t 73 0 = 0) → (gp_I t 73 1 = 0) → (gp_I t 73 2 = 0) → (gp_I t 73 3 = 0) → (gp_R t 25 6 = none) → (gp_R t 25 7 = none) → (gp_R t 25 8 = none) → (gp_R t 25 9 = none) → (∀ k, k < 8 → gp_R t 4 k = some 25) → (gp_R t 51 6 = some 55) → (gp_R t 51 7 = some 56) → (gp_us t = 606895) → (gp_sz t = 117) → K (some (gp_i (-1000000001))) t) : gs_C L d 2855 2 [gp_r (some 1), gp_i 1] s K := by
  refine s_2855_e _ ?_
  refine ⟨by omega, ?_⟩
  have w_1 := gz_w ((gp_I s 2 (1 : Int).toNat) + 1)
  refine ⟨by omega, ?_⟩
  intro s_2 e_3
  have hs_4 : xM z s_2 := by rw [e_3]; exact xw2 hs _ _
  have q_5 : gp_I s_2 1 2 = 0 := by rw [e_3]; exact q0
  have q_6 : gp_I s_2 1 6 = 0 := by rw [e_3]; exact q1
  have q_7 : gp_I s_2 1 7 = 1 := by rw [e_3]; exact q2
  have q_8 : gp_I s_2 51 8 = 0 := by rw [e_3]; exact q3
  have q_9 : gp_I s_2 57 1 = 0 := by rw [e_3]; exact q4
  have q_10 : gp_I s_2 57 3 = 0 := by rw [e_3]; exact q5
  have q_11 : gp_I s_2 6 4 = 0 := by rw [e_3]; exact q6
  have q_12 : gp_I s_2 72 0 = 0 := by rw [e_3]; exact q7
  have q_13 : gp_I s_2 72 1 = 0 := by rw [e_3]; exact q8
  have q_14 : gp_I s_2 72 2 = 0 := by rw [e_3]; exact q9
  have q_15 : gp_I s_2 72 3 = 0 := by rw [e_3]; exact q10
  have q_16 : gp_I s_2 73 0 = 0 := by rw [e_3]; exact q11
  have q_17 : gp_I s_2 73 1 = 0 := by rw [e_3]; exact q12
  have q_18 : gp_I s_2 73 2 = 0 := by rw [e_3]; exact q13
  have q_19 : gp_I s_2 73 3 = 0 := by rw [e_3]; exact q14
  have q_20 : gp_R s_2 25 6 = none := by rw [e_3]; exact q15
  have q_21 : gp_R s_2 25 7 = none := by rw [e_3]; exact q16
  have q_22 : gp_R s_2 25 8 = none := by rw [e_3]; exact q17
  have q_23 : gp_R s_2 25 9 = none := by rw [e_3]; exact q18
  have q_24 : ∀ k, k < 8 → gp_R s_2 4 k = some 25 := by rw [e_3]; exact q19
  have q_25 : gp_R s_2 51 6 = some 55 := by rw [e_3]; exact q20
  have q_26 : gp_R s_2 51 7 = some 56 := by rw [e_3]; exact q21
  have q_27 : gp_us s_2 = 606895 := by rw [e_3]; exact q22
  have q_28 : gp_sz s_2 = 117 := by rw [e_3]; exact q23
  have q_29 : (-2147483648) ≤ gp_I s_2 2 1 ∧ gp_I s_2 2 1 ≤ 2147483647 := by have x_30 : gp_I s_2 2 1 = gp_wr ((gp_I s 2 (1 : Int).toNat) + 1) := (by rw [e_3]; rfl); omega
  have w_31 := gz_w ((-1000000000) - 1)
  have e_32 : gp_wr ((-1000000000) - 1) = (-1000000001) := by omega
  try rw [e_32]
  exact k s_2 hs_4 (by omega) (by omega) (by omega) (by omega) (by omega) (by omega) (by omega) (by omega) (by omega) (by omega) (by omega) (by omega) (by omega) (by omega) (by omega) (by omega) q_20 q_21 q_22 q_23 q_24 q_25 q_26 q_27 q_28
set_option maxRecDepth 100000 in
/-- GatheredPoints.ladder [(-2147483648, -1), (-2147483648, 2147483647)] -/
theorem zx2820_0 {z : gH} {L d : Nat} {K : Option gV → gH → Prop} {s : gH} (p0 : Int) (p1 : Int) (hs : xM z s) (h_p0 : (-2147483648) ≤ p0 ∧ p0 ≤ (-1)) (h_p1 : (-2147483648) ≤ p1 ∧ p1 ≤ 2147483647) (q0 : gp_I s 1 2 = 0) (q1 : gp_I s 1 6 = 0) (q2 : gp_I s 1 7 = 1) (q3 : gp_I s 51 8 = 0) (q4 : gp_I s 57 1 = 0) (q5 : gp_I s 57 3 = 0) (q6 : gp_I s 6 4 = 0) (q7 : gp_I s 72 0 = 0) (q8 : gp_I s 72 1 = 0) (q9 : gp_I s 72 2 = 0) (q10 : gp_I s 72 3 = 0) (q11 : gp_I s 73 0 = 0) (q12 : gp_I s 73 1 = 0) (q13 : gp_I s 73 2 = 0) (q14 : gp_I s 73 3 = 0) (q15 : gp_R s 25 6 = none) (q16 : gp_R s 25 7 = none) (q17 : gp_R s 25 8 = none) (q18 : gp_R s 25 9 = none) (q19 : ∀ k, k < 8 → gp_R s 4 k = some 25) (q20 : gp_R s 51 6 = some 55) (q21 : gp_R s 51 7 = some 56) (q22 : gp_us s = 606895) (q23 : gp_sz s = 117) (k : ∀ (t : gH), xM z t → (gp_I t 1 2 = 0) → (gp_I t 1 6 = 0) → (gp_I t 1 7 = 1) → ((-2147483648) ≤ gp_I t 2 1 ∧ gp_I t 2 1 ≤ 2147483647) → (gp_I t 51 8 = 0) → (gp_I t 57 1 = 0) → (gp_I t 57 3 = 0) → (gp_I t 6 4 = 0) → (gp_I t 72 0 = 0) → (gp_I t 72 1 = 0) → (gp_I t 72 2 = 0) → (gp_I t 72 3 = 0) → (gp_I t 73 0 = 0) → (gp_I t 73 1 = 0) → (gp_I t 73 2 = 0) → (gp_I t 73 3 = 0) → (gp_R t 25 6 = none) → (gp_R t 25 7 = none) → (gp_R t 25 8 = none) → (gp_R t 25 9 = none) → (∀ k, k < 8 → gp_R t 4 k = some 25) → (gp_R t 51 6 = some 55) → (gp_R t 51 7 = some 56) → (gp_us t = 606895) → (gp_sz t = 117) → K (some (gp_i (-1000000001))) t) : gs_C L (d + 1) 2820 3 [gp_r (some 1), gp_i p0, gp_i p1] s K := by
  refine s_2820_e _ _ ?_
  refine zx2856_0 _ hs (by omega) (by omega) (by omega) (by omega) (by omega) (by omega) (by omega) q15 q16 q17 q18 q19 q20 q21 (⟨_, rfl, ?_⟩)
  refine ⟨fun h_1 => ?_, fun h_1 => ?_⟩
  · exfalso; omega
  · refine s_2820_18 _ _ ?_
    refine zx2855_2 hs (by omega) (by omega) (by omega) (by omega) (by omega) (by omega) (by omega) (by omega) (by omega) (by omega) (by omega) (by omega) (by omega) (by omega) (by omega) q15 q16 q17 q18 q19 q20 q21 q22 q23 (fun s_2 hs_3 q_4 q_5 q_6 q_7 q_8 q_9 q_10 q_11 q_12 q_13 q_14 q_15 q_16 q_17 q_18 q_19 q_20 q_21 q_22 q_23 q_24 q_25 q_26 q_27 q_28 => ⟨_, rfl, ?_⟩)
    exact k s_2 hs_3 (by omega) (by omega) (by omega) (by omega) (by omega) (by omega) (by omega) (by omega) (by omega) (by omega) (by omega) (by omega) (by omega) (by omega) (by omega) (by omega) q_20 q_21 q_22 q_23 q_24 q_25 q_26 q_27 q_28
set_option maxRecDepth 100000 in
/-- GatheredPoints.ladder [(8, 2147483647), (-2147483648, 2147483647)] -/
theorem zx2820_1 {z : gH} {L d : Nat} {K : Option gV → gH → Prop} {s : gH} (p0 : Int) (p1 : Int) (hs : xM z s) (h_p0 : 8 ≤ p0 ∧ p0 ≤ 2147483647) (h_p1 : (-2147483648) ≤ p1 ∧ p1 ≤ 2147483647) (q0 : gp_I s 1 2 = 0) (q1 : gp_I s 1 6 = 0) (q2 : gp_I s 1 7 = 1) (q3 : gp_I s 51 8 = 0) (q4 : gp_I s 57 1 = 0) (q5 : gp_I s 57 3 = 0) (q6 : gp_I s 6 4 = 0) (q7 : gp_I s 72 0 = 0) (q8 : gp_I s 72 1 = 0) (q9 : gp_I s 72 2 = 0) (q10 : gp_I s 72 3 = 0) (q11 : gp_I s 73 0 = 0) (q12 : gp_I s 73 1 = 0) (q13 : gp_I s 73 2 = 0) (q14 : gp_I s 73 3 = 0) (q15 : gp_R s 25 6 = none) (q16 : gp_R s 25 7 = none) (q17 : gp_R s 25 8 = none) (q18 : gp_R s 25 9 = none) (q19 : ∀ k, k < 8 → gp_R s 4 k = some 25) (q20 : gp_R s 51 6 = some 55) (q21 : gp_R s 51 7 = some 56) (q22 : gp_us s = 606895) (q23 : gp_sz s = 117) (k : ∀ (t : gH), xM z t → (gp_I t 1 2 = 0) → (gp_I t 1 6 = 0) → (gp_I t 1 7 = 1) → ((-2147483648) ≤ gp_I t 2 1 ∧ gp_I t 2 1 ≤ 2147483647) → (gp_I t 51 8 = 0) → (gp_I t 57 1 = 0) → (gp_I t 57 3 = 0) → (gp_I t 6 4 = 0) → (gp_I t 72 0 = 0) → (gp_I t 72 1 = 0) → (gp_I t 72 2 = 0) → (gp_I t 72 3 = 0) → (gp_I t 73 0 = 0) → (gp_I t 73 1 = 0) → (gp_I t 73 2 = 0) → (gp_I t 73 3 = 0) → (gp_R t 25 6 = none) → (gp_R t 25 7 = none) → (gp_R t 25 8 = none) → (gp_R t 25 9 = none) → (∀ k, k < 8 → gp_R t 4 k = some 25) → (gp_R t 51 6 = some 55) → (gp_R t 51 7 = some 56) → (gp_us t = 606895) → (gp_sz t = 117) → K (some (gp_i (-1000000001))) t) : gs_C L (d + 1) 2820 3 [gp_r (some 1), gp_i p0, gp_i p1] s K := by
  refine s_2820_e _ _ ?_
  refine zx2856_1 _ hs (by omega) (by omega) (by omega) (by omega) (by omega) (by omega) (by omega) q15 q16 q17 q18 q19 q20 q21 (⟨_, rfl, ?_⟩)
  refine ⟨fun h_1 => ?_, fun h_1 => ?_⟩
  · exfalso; omega
  · refine s_2820_18 _ _ ?_
    refine zx2855_2 hs (by omega) (by omega) (by omega) (by omega) (by omega) (by omega) (by omega) (by omega) (by omega) (by omega) (by omega) (by omega) (by omega) (by omega) (by omega) q15 q16 q17 q18 q19 q20 q21 q22 q23 (fun s_2 hs_3 q_4 q_5 q_6 q_7 q_8 q_9 q_10 q_11 q_12 q_13 q_14 q_15 q_16 q_17 q_18 q_19 q_20 q_21 q_22 q_23 q_24 q_25 q_26 q_27 q_28 => ⟨_, rfl, ?_⟩)
    exact k s_2 hs_3 (by omega) (by omega) (by omega) (by omega) (by omega) (by omega) (by omega) (by omega) (by omega) (by omega) (by omega) (by omega) (by omega) (by omega) (by omega) (by omega) q_20 q_21 q_22 q_23 q_24 q_25 q_26 q_27 q_28
set_option maxRecDepth 100000 in
/-- Sheets.beyond [(-2147483648, -1)] -/
theorem zx1793_0 {z : gH} {L d : Nat} {K : Option gV → gH → Prop} {s : gH} (p0 : Int) (hs : xM z s) (h_p0 : (-2147483648) ≤ p0 ∧ p0 ≤ (-1)) (q0 : gp_I s 72 0 = 0) (q1 : gp_I s 72 1 = 0) (q2 : gp_I s 72 2 = 0) (q3 : gp_I s 72 3 = 0) (q4 : gp_I s 73 0 = 0) (q5 : gp_I s 73 1 = 0) (q6 : gp_I s 73 2 = 0) (q7 : gp_I s 73 3 = 0) (q8 : gp_R s 25 6 = none) (q9 : gp_R s 25 7 = none) (q10 : gp_R s 25 8 = none) (q11 : gp_R s 25 9 = none) (k : K (some (gp_i 1)) s) : gs_C L d 1793 2 [gp_r (some 66), gp_i p0] s K := by
  refine s_1793_e _ ?_
  refine ⟨fun h_1 => ?_, fun h_1 => ?_⟩
  · refine s_1793_9 _ ?_
    refine s_1793_14 _ _ ?_
    refine ⟨by omega, ?_⟩
    exact k
  · exfalso; omega
set_option maxRecDepth 100000 in
/-- GatheredPoints.ladder [(0, 7), (-2147483648, -1)] -/
theorem zx2820_2 {z : gH} {L d : Nat} {K : Option gV → gH → Prop} {s : gH} (p0 : Int) (p1 : Int) (hs : xM z s) (h_p0 : 0 ≤ p0 ∧ p0 ≤ 7) (h_p1 : (-2147483648) ≤ p1 ∧ p1 ≤ (-1)) (q0 : gp_I s 1 2 = 0) (q1 : gp_I s 1 6 = 0) (q2 : gp_I s 1 7 = 1) (q3 : gp_I s 51 8 = 0) (q4 : gp_I s 57 1 = 0) (q5 : gp_I s 57 3 = 0) (q6 : gp_I s 6 4 = 0) (q7 : gp_I s 72 0 = 0) (q8 : gp_I s 72 1 = 0) (q9 : gp_I s 72 2 = 0) (q10 : gp_I s 72 3 = 0) (q11 : gp_I s 73 0 = 0) (q12 : gp_I s 73 1 = 0) (q13 : gp_I s 73 2 = 0) (q14 : gp_I s 73 3 = 0) (q15 : gp_R s 25 6 = none) (q16 : gp_R s 25 7 = none) (q17 : gp_R s 25 8 = none) (q18 : gp_R s 25 9 = none) (q19 : ∀ k, k < 8 → gp_R s 4 k = some 25) (q20 : gp_R s 51 6 = some 55) (q21 : gp_R s 51 7 = some 56) (q22 : gp_us s = 606895) (q23 : gp_sz s = 117) (k : ∀ (t : gH), xM z t → (gp_I t 1 2 = 0) → (gp_I t 1 6 = 0) → (gp_I t 1 7 = 1) → ((-2147483648) ≤ gp_I t 2 1 ∧ gp_I t 2 1 ≤ 2147483647) → (gp_I t 51 8 = 0) → (gp_I t 57 1 = 0) → (gp_I t 57 3 = 0) → (gp_I t 6 4 = 0) → (gp_I t 72 0 = 0) → (gp_I t 72 1 = 0) → (gp_I t 72 2 = 0) → (gp_I t 72 3 = 0) → (gp_I t 73 0 = 0) → (gp_I t 73 1 = 0) → (gp_I t 73 2 = 0) → (gp_I t 73 3 = 0) → (gp_R t 25 6 = none) → (gp_R t 25 7 = none) → (gp_R t 25 8 = none) → (gp_R t 25 9 = none) → (∀ k, k < 8 → gp_R t 4 k = some 25) → (gp_R t 51 6 = some 55) → (gp_R t 51 7 = some 56) → (gp_us t = 606895) → (gp_sz t = 117) → K (some (gp_i (-1000000001))) t) : gs_C L (d + 1) 2820 3 [gp_r (some 1), gp_i p0, gp_i p1] s K := by
  refine s_2820_e _ _ ?_
  refine zx2856_2 _ hs (by omega) (by omega) (by omega) (by omega) (by omega) (by omega) (by omega) q15 q16 q17 q18 q19 q20 q21 (⟨_, rfl, ?_⟩)
  refine ⟨fun h_1 => ?_, fun h_1 => ?_⟩
  · refine zx1793_0 _ hs (by omega) (by omega) (by omega) (by omega) (by omega) (by omega) (by omega) (by omega) (by omega) q15 q16 q17 q18 (⟨_, rfl, ?_⟩)
    refine ⟨fun h_2 => ?_, fun h_2 => ?_⟩
    · exfalso; omega
    · refine s_2820_18 _ _ ?_
      refine zx2855_2 hs (by omega) (by omega) (by omega) (by omega) (by omega) (by omega) (by omega) (by omega) (by omega) (by omega) (by omega) (by omega) (by omega) (by omega) (by omega) q15 q16 q17 q18 q19 q20 q21 q22 q23 (fun s_3 hs_4 q_5 q_6 q_7 q_8 q_9 q_10 q_11 q_12 q_13 q_14 q_15 q_16 q_17 q_18 q_19 q_20 q_21 q_22 q_23 q_24 q_25 q_26 q_27 q_28 q_29 => ⟨_, rfl, ?_⟩)
      exact k s_3 hs_4 (by omega) (by omega) (by omega) (by omega) (by omega) (by omega) (by omega) (by omega) (by omega) (by omega) (by omega) (by omega) (by omega) (by omega) (by omega) (by omega) q_21 q_22 q_23 q_24 q_25 q_26 q_27 q_28 q_29
  · exfalso; omega
set_option maxRecDepth 100000 in
/-- Sheets.beyond [(4, 2147483647)] -/
theorem zx1793_1 {z : gH} {L d : Nat} {K : Option gV → gH → Prop} {s : gH} (p0 : Int) (hs : xM z s) (h_p0 : 4 ≤ p0 ∧ p0 ≤ 2147483647) (q0 : gp_I s 72 0 = 0) (q1 : gp_I s 72 1 = 0) (q2 : gp_I s 72 2 = 0) (q3 : gp_I s 72 3 = 0) (q4 : gp_I s 73 0 = 0) (q5 : gp_I s 73 1 = 0) (q6 : gp_I s 73 2 = 0) (q7 : gp_I s 73 3 = 0) (q8 : gp_R s 25 6 = none) (q9 : gp_R s 25 7 = none) (q10 : gp_R s 25 8 = none) (q11 : gp_R s 25 9 = none) (k : K (some (gp_i 1)) s) : gs_C L d 1793 2 [gp_r (some 66), gp_i p0] s K := by
  refine s_1793_e _ ?_
  refine ⟨fun h_1 => ?_, fun h_1 => ?_⟩
  · exfalso; omega
  · refine ⟨fun h_2 => ?_, fun h_2 => ?_⟩
    · exfalso; omega
    · refine s_1793_9 _ ?_
      refine s_1793_14 _ _ ?_
      refine ⟨by omega, ?_⟩
      exact k
set_option maxRecDepth 100000 in
/-- GatheredPoints.ladder [(0, 7), (4, 2147483647)] -/
theorem zx2820_3 {z : gH} {L d : Nat} {K : Option gV → gH → Prop} {s : gH} (p0 : Int) (p1 : Int) (hs : xM z s) (h_p0 : 0 ≤ p0 ∧ p0 ≤ 7) (h_p1 : 4 ≤ p1 ∧ p1 ≤ 2147483647) (q0 : gp_I s 1 2 = 0) (q1 : gp_I s 1 6 = 0) (q2 : gp_I s 1 7 = 1) (q3 : gp_I s 51 8 = 0) (q4 : gp_I s 57 1 = 0) (q5 : gp_I s 57 3 = 0) (q6 : gp_I s 6 4 = 0) (q7 : gp_I s 72 0 = 0) (q8 : gp_I s 72 1 = 0) (q9 : gp_I s 72 2 = 0) (q10 : gp_I s 72 3 = 0) (q11 : gp_I s 73 0 = 0) (q12 : gp_I s 73 1 = 0) (q13 : gp_I s 73 2 = 0) (q14 : gp_I s 73 3 = 0) (q15 : gp_R s 25 6 = none) (q16 : gp_R s 25 7 = none) (q17 : gp_R s 25 8 = none) (q18 : gp_R s 25 9 = none) (q19 : ∀ k, k < 8 → gp_R s 4 k = some 25) (q20 : gp_R s 51 6 = some 55) (q21 : gp_R s 51 7 = some 56) (q22 : gp_us s = 606895) (q23 : gp_sz s = 117) (k : ∀ (t : gH), xM z t → (gp_I t 1 2 = 0) → (gp_I t 1 6 = 0) → (gp_I t 1 7 = 1) → ((-2147483648) ≤ gp_I t 2 1 ∧ gp_I t 2 1 ≤ 2147483647) → (gp_I t 51 8 = 0) → (gp_I t 57 1 = 0) → (gp_I t 57 3 = 0) → (gp_I t 6 4 = 0) → (gp_I t 72 0 = 0) → (gp_I t 72 1 = 0) → (gp_I t 72 2 = 0) → (gp_I t 72 3 = 0) → (gp_I t 73 0 = 0) → (gp_I t 73 1 = 0) → (gp_I t 73 2 = 0) → (gp_I t 73 3 = 0) → (gp_R t 25 6 = none) → (gp_R t 25 7 = none) → (gp_R t 25 8 = none) → (gp_R t 25 9 = none) → (∀ k, k < 8 → gp_R t 4 k = some 25) → (gp_R t 51 6 = some 55) → (gp_R t 51 7 = some 56) → (gp_us t = 606895) → (gp_sz t = 117) → K (some (gp_i (-1000000001))) t) : gs_C L (d + 1) 2820 3 [gp_r (some 1), gp_i p0, gp_i p1] s K := by
  refine s_2820_e _ _ ?_
  refine zx2856_2 _ hs (by omega) (by omega) (by omega) (by omega) (by omega) (by omega) (by omega) q15 q16 q17 q18 q19 q20 q21 (⟨_, rfl, ?_⟩)
  refine ⟨fun h_1 => ?_, fun h_1 => ?_⟩
  · refine zx1793_1 _ hs (by omega) (by omega) (by omega) (by omega) (by omega) (by omega) (by omega) (by omega) (by omega) q15 q16 q17 q18 (⟨_, rfl, ?_⟩)
    refine ⟨fun h_2 => ?_, fun h_2 => ?_⟩
    · exfalso; omega
    · refine s_2820_18 _ _ ?_
      refine zx2855_2 hs (by omega) (by omega) (by omega) (by omega) (by omega) (by omega) (by omega) (by omega) (by omega) (by omega) (by omega) (by omega) (by omega) (by omega) (by omega) q15 q16 q17 q18 q19 q20 q21 q22 q23 (fun s_3 hs_4 q_5 q_6 q_7 q_8 q_9 q_10 q_11 q_12 q_13 q_14 q_15 q_16 q_17 q_18 q_19 q_20 q_21 q_22 q_23 q_24 q_25 q_26 q_27 q_28 q_29 => ⟨_, rfl, ?_⟩)
      exact k s_3 hs_4 (by omega) (by omega) (by omega) (by omega) (by omega) (by omega) (by omega) (by omega) (by omega) (by omega) (by omega) (by omega) (by omega) (by omega) (by omega) (by omega) q_21 q_22 q_23 q_24 q_25 q_26 q_27 q_28 q_29
  · exfalso; omega
set_option maxRecDepth 100000 in
/-- Sheets.beyond [(0, 0)] -/
theorem zx1793_2 {z : gH} {L d : Nat} {K : Option gV → gH → Prop} {s : gH}  (hs : xM z s)  (q0 : gp_I s 72 0 = 0) (q1 : gp_I s 72 1 = 0) (q2 : gp_I s 72 2 = 0) (q3 : gp_I s 72 3 = 0) (q4 : gp_I s 73 0 = 0) (q5 : gp_I s 73 1 = 0) (q6 : gp_I s 73 2 = 0) (q7 : gp_I s 73 3 = 0) (q8 : gp_R s 25 6 = none) (q9 : gp_R s 25 7 = none) (q10 : gp_R s 25 8 = none) (q11 : gp_R s 25 9 = none) (k : K (some (gp_i 0)) s) : gs_C L d 1793 2 [gp_r (some 66), gp_i 0] s K := by
  refine s_1793_e _ ?_
  refine ⟨fun h_1 => ?_, fun h_1 => ?_⟩
  · exfalso; omega
  · refine ⟨fun h_2 => ?_, fun h_2 => ?_⟩
    · refine s_1793_14 _ _ ?_
      refine ⟨by omega, ?_⟩
      exact k
    · exfalso; omega
set_option maxRecDepth 100000 in
/-- Sheets.missing [(0, 0)] -/
theorem zx1794_0 {z : gH} {L d : Nat} {K : Option gV → gH → Prop} {s : gH}  (hs : xM z s)  (q0 : gp_I s 72 0 = 0) (q1 : gp_I s 72 1 = 0) (q2 : gp_I s 72 2 = 0) (q3 : gp_I s 72 3 = 0) (q4 : gp_I s 73 0 = 0) (q5 : gp_I s 73 1 = 0) (q6 : gp_I s 73 2 = 0) (q7 : gp_I s 73 3 = 0) (q8 : gp_R s 25 6 = none) (q9 : gp_R s 25 7 = none) (q10 : gp_R s 25 8 = none) (q11 : gp_R s 25 9 = none) (k : K (some (gp_i 1)) s) : gs_C L d 1794 2 [gp_r (some 66), gp_i 0] s K := by
  refine s_1794_e _ ?_
  refine ⟨by omega, ?_⟩
  try rw [show gp_I s 72 (0 : Int).toNat = 0 from q0]
  refine ⟨fun h_1 => ?_, fun h_1 => ?_⟩
  · refine s_1794_14 _ _ ?_
    refine ⟨by omega, ?_⟩
    exact k
  · exfalso; omega
set_option maxRecDepth 100000 in
/-- GatheredPoints.refused [(2, 2)] -/
theorem zx2855_3 {z : gH} {L d : Nat} {K : Option gV → gH → Prop} {s : gH}  (hs : xM z s)  (q0 : gp_I s 1 2 = 0) (q1 : gp_I s 1 6 = 0) (q2 : gp_I s 1 7 = 1) (q3 : gp_I s 51 8 = 0) (q4 : gp_I s 57 1 = 0) (q5 : gp_I s 57 3 = 0) (q6 : gp_I s 6 4 = 0) (q7 : gp_I s 72 0 = 0) (q8 : gp_I s 72 1 = 0) (q9 : gp_I s 72 2 = 0) (q10 : gp_I s 72 3 = 0) (q11 : gp_I s 73 0 = 0) (q12 : gp_I s 73 1 = 0) (q13 : gp_I s 73 2 = 0) (q14 : gp_I s 73 3 = 0) (q15 : gp_R s 25 6 = none) (q16 : gp_R s 25 7 = none) (q17 : gp_R s 25 8 = none) (q18 : gp_R s 25 9 = none) (q19 : ∀ k, k < 8 → gp_R s 4 k = some 25) (q20 : gp_R s 51 6 = some 55) (q21 : gp_R s 51 7 = some 56) (q22 : gp_us s = 606895) (q23 : gp_sz s = 117) (k : ∀ (t : gH), xM z t → (gp_I t 1 2 = 0) → (gp_I t 1 6 = 0) → (gp_I t 1 7 = 1) → ((-2147483648) ≤ gp_I t 2 2 ∧ gp_I t 2 2 ≤ 2147483647) → (gp_I t 51 8 = 0) → (gp_I t 57 1 = 0) → (gp_I t 57 3 = 0) → (gp_I t 6 4 = 0) → (gp_I t 72 0 = 0) → (gp_I t 72 1 = 0) → (gp_I t 72 2 = 0) → (gp_I t 72 3 = 0) → (gp_I t 73 0 = 0) → (gp_I t 73 1 = 0) → (gp_I t 73 2 = 0) → (gp_I t 73 3 = 0) → (gp_R t 25 6 = none) → (gp_R t 25 7 = none) → (gp_R t 25 8 = none) → (gp_R t 25 9 = none) → (∀ k, k < 8 → gp_R t 4 k = some 25) → (gp_R t 51 6 = some 55) → (gp_R t 51 7 = some 56) → (gp_us t = 606895) → (gp_sz t = 117) → K (some (gp_i (-1000000002))) t) : gs_C L d 2855 2 [gp_r (some 1), gp_i 2] s K := by
  refine s_2855_e _ ?_
  refine ⟨by omega, ?_⟩
  have w_1 := gz_w ((gp_I s 2 (2 : Int).toNat) + 1)
  refine ⟨by omega, ?_⟩
  intro s_2 e_3
  have hs_4 : xM z s_2 := by rw [e_3]; exact xw2 hs _ _
  have q_5 : gp_I s_2 1 2 = 0 := by rw [e_3]; exact q0
  have q_6 : gp_I s_2 1 6 = 0 := by rw [e_3]; exact q1
  have q_7 : gp_I s_2 1 7 = 1 := by rw [e_3]; exact q2
  have q_8 : gp_I s_2 51 8 = 0 := by rw [e_3]; exact q3
  have q_9 : gp_I s_2 57 1 = 0 := by rw [e_3]; exact q4
  have q_10 : gp_I s_2 57 3 = 0 := by rw [e_3]; exact q5
  have q_11 : gp_I s_2 6 4 = 0 := by rw [e_3]; exact q6
  have q_12 : gp_I s_2 72 0 = 0 := by rw [e_3]; exact q7
  have q_13 : gp_I s_2 72 1 = 0 := by rw [e_3]; exact q8
  have q_14 : gp_I s_2 72 2 = 0 := by rw [e_3]; exact q9
  have q_15 : gp_I s_2 72 3 = 0 := by rw [e_3]; exact q10
  have q_16 : gp_I s_2 73 0 = 0 := by rw [e_3]; exact q11
  have q_17 : gp_I s_2 73 1 = 0 := by rw [e_3]; exact q12
  have q_18 : gp_I s_2 73 2 = 0 := by rw [e_3]; exact q13
  have q_19 : gp_I s_2 73 3 = 0 := by rw [e_3]; exact q14
  have q_20 : gp_R s_2 25 6 = none := by rw [e_3]; exact q15
  have q_21 : gp_R s_2 25 7 = none := by rw [e_3]; exact q16
  have q_22 : gp_R s_2 25 8 = none := by rw [e_3]; exact q17
  have q_23 : gp_R s_2 25 9 = none := by rw [e_3]; exact q18
  have q_24 : ∀ k, k < 8 → gp_R s_2 4 k = some 25 := by rw [e_3]; exact q19
  have q_25 : gp_R s_2 51 6 = some 55 := by rw [e_3]; exact q20
  have q_26 : gp_R s_2 51 7 = some 56 := by rw [e_3]; exact q21
  have q_27 : gp_us s_2 = 606895 := by rw [e_3]; exact q22
  have q_28 : gp_sz s_2 = 117 := by rw [e_3]; exact q23
  have q_29 : (-2147483648) ≤ gp_I s_2 2 2 ∧ gp_I s_2 2 2 ≤ 2147483647 := by have x_30 : gp_I s_2 2 2 = gp_wr ((gp_I s 2 (2 : Int).toNat) + 1) := (by rw [e_3]; rfl); omega
  have w_31 := gz_w ((-1000000000) - 2)
  have e_32 : gp_wr ((-1000000000) - 2) = (-1000000002) := by omega
  try rw [e_32]
  exact k s_2 hs_4 (by omega) (by omega) (by omega) (by omega) (by omega) (by omega) (by omega) (by omega) (by omega) (by omega) (by omega) (by omega) (by omega) (by omega) (by omega) (by omega) q_20 q_21 q_22 q_23 q_24 q_25 q_26 q_27 q_28
set_option maxRecDepth 100000 in
/-- GatheredPoints.ladder [(0, 7), (0, 0)] -/
theorem zx2820_4 {z : gH} {L d : Nat} {K : Option gV → gH → Prop} {s : gH} (p0 : Int) (hs : xM z s) (h_p0 : 0 ≤ p0 ∧ p0 ≤ 7) (q0 : gp_I s 1 2 = 0) (q1 : gp_I s 1 6 = 0) (q2 : gp_I s 1 7 = 1) (q3 : gp_I s 51 8 = 0) (q4 : gp_I s 57 1 = 0) (q5 : gp_I s 57 3 = 0) (q6 : gp_I s 6 4 = 0) (q7 : gp_I s 72 0 = 0) (q8 : gp_I s 72 1 = 0) (q9 : gp_I s 72 2 = 0) (q10 : gp_I s 72 3 = 0) (q11 : gp_I s 73 0 = 0) (q12 : gp_I s 73 1 = 0) (q13 : gp_I s 73 2 = 0) (q14 : gp_I s 73 3 = 0) (q15 : gp_R s 25 6 = none) (q16 : gp_R s 25 7 = none) (q17 : gp_R s 25 8 = none) (q18 : gp_R s 25 9 = none) (q19 : ∀ k, k < 8 → gp_R s 4 k = some 25) (q20 : gp_R s 51 6 = some 55) (q21 : gp_R s 51 7 = some 56) (q22 : gp_us s = 606895) (q23 : gp_sz s = 117) (k : ∀ (t : gH), xM z t → (gp_I t 1 2 = 0) → (gp_I t 1 6 = 0) → (gp_I t 1 7 = 1) → ((-2147483648) ≤ gp_I t 2 2 ∧ gp_I t 2 2 ≤ 2147483647) → (gp_I t 51 8 = 0) → (gp_I t 57 1 = 0) → (gp_I t 57 3 = 0) → (gp_I t 6 4 = 0) → (gp_I t 72 0 = 0) → (gp_I t 72 1 = 0) → (gp_I t 72 2 = 0) → (gp_I t 72 3 = 0) → (gp_I t 73 0 = 0) → (gp_I t 73 1 = 0) → (gp_I t 73 2 = 0) → (gp_I t 73 3 = 0) → (gp_R t 25 6 = none) → (gp_R t 25 7 = none) → (gp_R t 25 8 = none) → (gp_R t 25 9 = none) → (∀ k, k < 8 → gp_R t 4 k = some 25) → (gp_R t 51 6 = some 55) → (gp_R t 51 7 = some 56) → (gp_us t = 606895) → (gp_sz t = 117) → K (some (gp_i (-1000000002))) t) : gs_C L (d + 1) 2820 3 [gp_r (some 1), gp_i p0, gp_i 0] s K := by
  refine s_2820_e _ _ ?_
  refine zx2856_2 _ hs (by omega) (by omega) (by omega) (by omega) (by omega) (by omega) (by omega) q15 q16 q17 q18 q19 q20 q21 (⟨_, rfl, ?_⟩)
  refine ⟨fun h_1 => ?_, fun h_1 => ?_⟩
  · refine zx1793_2 hs (by omega) (by omega) (by omega) (by omega) (by omega) (by omega) (by omega) (by omega) q15 q16 q17 q18 (⟨_, rfl, ?_⟩)
    refine ⟨fun h_2 => ?_, fun h_2 => ?_⟩
    · refine zx1794_0 hs (by omega) (by omega) (by omega) (by omega) (by omega) (by omega) (by omega) (by omega) q15 q16 q17 q18 (⟨_, rfl, ?_⟩)
      refine ⟨fun h_3 => ?_, fun h_3 => ?_⟩
      · exfalso; omega
      · refine s_2820_47 _ _ ?_
        refine zx2855_3 hs (by omega) (by omega) (by omega) (by omega) (by omega) (by omega) (by omega) (by omega) (by omega) (by omega) (by omega) (by omega) (by omega) (by omega) (by omega) q15 q16 q17 q18 q19 q20 q21 q22 q23 (fun s_4 hs_5 q_6 q_7 q_8 q_9 q_10 q_11 q_12 q_13 q_14 q_15 q_16 q_17 q_18 q_19 q_20 q_21 q_22 q_23 q_24 q_25 q_26 q_27 q_28 q_29 q_30 => ⟨_, rfl, ?_⟩)
        exact k s_4 hs_5 (by omega) (by omega) (by omega) (by omega) (by omega) (by omega) (by omega) (by omega) (by omega) (by omega) (by omega) (by omega) (by omega) (by omega) (by omega) (by omega) q_22 q_23 q_24 q_25 q_26 q_27 q_28 q_29 q_30
    · exfalso; omega
  · exfalso; omega
set_option maxRecDepth 100000 in
/-- Sheets.beyond [(1, 1)] -/
theorem zx1793_3 {z : gH} {L d : Nat} {K : Option gV → gH → Prop} {s : gH}  (hs : xM z s)  (q0 : gp_I s 72 0 = 0) (q1 : gp_I s 72 1 = 0) (q2 : gp_I s 72 2 = 0) (q3 : gp_I s 72 3 = 0) (q4 : gp_I s 73 0 = 0) (q5 : gp_I s 73 1 = 0) (q6 : gp_I s 73 2 = 0) (q7 : gp_I s 73 3 = 0) (q8 : gp_R s 25 6 = none) (q9 : gp_R s 25 7 = none) (q10 : gp_R s 25 8 = none) (q11 : gp_R s 25 9 = none) (k : K (some (gp_i 0)) s) : gs_C L d 1793 2 [gp_r (some 66), gp_i 1] s K := by
  refine s_1793_e _ ?_
  refine ⟨fun h_1 => ?_, fun h_1 => ?_⟩
  · exfalso; omega
  · refine ⟨fun h_2 => ?_, fun h_2 => ?_⟩
    · refine s_1793_14 _ _ ?_
      refine ⟨by omega, ?_⟩
      exact k
    · exfalso; omega
set_option maxRecDepth 100000 in
/-- Sheets.missing [(1, 1)] -/
theorem zx1794_1 {z : gH} {L d : Nat} {K : Option gV → gH → Prop} {s : gH}  (hs : xM z s)  (q0 : gp_I s 72 0 = 0) (q1 : gp_I s 72 1 = 0) (q2 : gp_I s 72 2 = 0) (q3 : gp_I s 72 3 = 0) (q4 : gp_I s 73 0 = 0) (q5 : gp_I s 73 1 = 0) (q6 : gp_I s 73 2 = 0) (q7 : gp_I s 73 3 = 0) (q8 : gp_R s 25 6 = none) (q9 : gp_R s 25 7 = none) (q10 : gp_R s 25 8 = none) (q11 : gp_R s 25 9 = none) (k : K (some (gp_i 1)) s) : gs_C L d 1794 2 [gp_r (some 66), gp_i 1] s K := by
  refine s_1794_e _ ?_
  refine ⟨by omega, ?_⟩
  try rw [show gp_I s 72 (1 : Int).toNat = 0 from q1]
  refine ⟨fun h_1 => ?_, fun h_1 => ?_⟩
  · refine s_1794_14 _ _ ?_
    refine ⟨by omega, ?_⟩
    exact k
  · exfalso; omega
set_option maxRecDepth 100000 in
/-- GatheredPoints.ladder [(0, 7), (1, 1)] -/
theorem zx2820_5 {z : gH} {L d : Nat} {K : Option gV → gH → Prop} {s : gH} (p0 : Int) (hs : xM z s) (h_p0 : 0 ≤ p0 ∧ p0 ≤ 7) (q0 : gp_I s 1 2 = 0) (q1 : gp_I s 1 6 = 0) (q2 : gp_I s 1 7 = 1) (q3 : gp_I s 51 8 = 0) (q4 : gp_I s 57 1 = 0) (q5 : gp_I s 57 3 = 0) (q6 : gp_I s 6 4 = 0) (q7 : gp_I s 72 0 = 0) (q8 : gp_I s 72 1 = 0) (q9 : gp_I s 72 2 = 0) (q10 : gp_I s 72 3 = 0) (q11 : gp_I s 73 0 = 0) (q12 : gp_I s 73 1 = 0) (q13 : gp_I s 73 2 = 0) (q14 : gp_I s 73 3 = 0) (q15 : gp_R s 25 6 = none) (q16 : gp_R s 25 7 = none) (q17 : gp_R s 25 8 = none) (q18 : gp_R s 25 9 = none) (q19 : ∀ k, k < 8 → gp_R s 4 k = some 25) (q20 : gp_R s 51 6 = some 55) (q21 : gp_R s 51 7 = some 56) (q22 : gp_us s = 606895) (q23 : gp_sz s = 117) (k : ∀ (t : gH), xM z t → (gp_I t 1 2 = 0) → (gp_I t 1 6 = 0) → (gp_I t 1 7 = 1) → ((-2147483648) ≤ gp_I t 2 2 ∧ gp_I t 2 2 ≤ 2147483647) → (gp_I t 51 8 = 0) → (gp_I t 57 1 = 0) → (gp_I t 57 3 = 0) → (gp_I t 6 4 = 0) → (gp_I t 72 0 = 0) → (gp_I t 72 1 = 0) → (gp_I t 72 2 = 0) → (gp_I t 72 3 = 0) → (gp_I t 73 0 = 0) → (gp_I t 73 1 = 0) → (gp_I t 73 2 = 0) → (gp_I t 73 3 = 0) → (gp_R t 25 6 = none) → (gp_R t 25 7 = none) → (gp_R t 25 8 = none) → (gp_R t 25 9 = none) → (∀ k, k < 8 → gp_R t 4 k = some 25) → (gp_R t 51 6 = some 55) → (gp_R t 51 7 = some 56) → (gp_us t = 606895) → (gp_sz t = 117) → K (some (gp_i (-1000000002))) t) : gs_C L (d + 1) 2820 3 [gp_r (some 1), gp_i p0, gp_i 1] s K := by
  refine s_2820_e _ _ ?_
  refine zx2856_2 _ hs (by omega) (by omega) (by omega) (by omega) (by omega) (by omega) (by omega) q15 q16 q17 q18 q19 q20 q21 (⟨_, rfl, ?_⟩)
  refine ⟨fun h_1 => ?_, fun h_1 => ?_⟩
  · refine zx1793_3 hs (by omega) (by omega) (by omega) (by omega) (by omega) (by omega) (by omega) (by omega) q15 q16 q17 q18 (⟨_, rfl, ?_⟩)
    refine ⟨fun h_2 => ?_, fun h_2 => ?_⟩
    · refine zx1794_1 hs (by omega) (by omega) (by omega) (by omega) (by omega) (by omega) (by omega) (by omega) q15 q16 q17 q18 (⟨_, rfl, ?_⟩)
      refine ⟨fun h_3 => ?_, fun h_3 => ?_⟩
      · exfalso; omega
      · refine s_2820_47 _ _ ?_
        refine zx2855_3 hs (by omega) (by omega) (by omega) (by omega) (by omega) (by omega) (by omega) (by omega) (by omega) (by omega) (by omega) (by omega) (by omega) (by omega) (by omega) q15 q16 q17 q18 q19 q20 q21 q22 q23 (fun s_4 hs_5 q_6 q_7 q_8 q_9 q_10 q_11 q_12 q_13 q_14 q_15 q_16 q_17 q_18 q_19 q_20 q_21 q_22 q_23 q_24 q_25 q_26 q_27 q_28 q_29 q_30 => ⟨_, rfl, ?_⟩)
        exact k s_4 hs_5 (by omega) (by omega) (by omega) (by omega) (by omega) (by omega) (by omega) (by omega) (by omega) (by omega) (by omega) (by omega) (by omega) (by omega) (by omega) (by omega) q_22 q_23 q_24 q_25 q_26 q_27 q_28 q_29 q_30
    · exfalso; omega
  · exfalso; omega
set_option maxRecDepth 100000 in
/-- Sheets.beyond [(2, 2)] -/
theorem zx1793_4 {z : gH} {L d : Nat} {K : Option gV → gH → Prop} {s : gH}  (hs : xM z s)  (q0 : gp_I s 72 0 = 0) (q1 : gp_I s 72 1 = 0) (q2 : gp_I s 72 2 = 0) (q3 : gp_I s 72 3 = 0) (q4 : gp_I s 73 0 = 0) (q5 : gp_I s 73 1 = 0) (q6 : gp_I s 73 2 = 0) (q7 : gp_I s 73 3 = 0) (q8 : gp_R s 25 6 = none) (q9 : gp_R s 25 7 = none) (q10 : gp_R s 25 8 = none) (q11 : gp_R s 25 9 = none) (k : K (some (gp_i 0)) s) : gs_C L d 1793 2 [gp_r (some 66), gp_i 2] s K := by
  refine s_1793_e _ ?_
  refine ⟨fun h_1 => ?_, fun h_1 => ?_⟩
  · exfalso; omega
  · refine ⟨fun h_2 => ?_, fun h_2 => ?_⟩
    · refine s_1793_14 _ _ ?_
      refine ⟨by omega, ?_⟩
      exact k
    · exfalso; omega
set_option maxRecDepth 100000 in
/-- Sheets.missing [(2, 2)] -/
theorem zx1794_2 {z : gH} {L d : Nat} {K : Option gV → gH → Prop} {s : gH}  (hs : xM z s)  (q0 : gp_I s 72 0 = 0) (q1 : gp_I s 72 1 = 0) (q2 : gp_I s 72 2 = 0) (q3 : gp_I s 72 3 = 0) (q4 : gp_I s 73 0 = 0) (q5 : gp_I s 73 1 = 0) (q6 : gp_I s 73 2 = 0) (q7 : gp_I s 73 3 = 0) (q8 : gp_R s 25 6 = none) (q9 : gp_R s 25 7 = none) (q10 : gp_R s 25 8 = none) (q11 : gp_R s 25 9 = none) (k : K (some (gp_i 1)) s) : gs_C L d 1794 2 [gp_r (some 66), gp_i 2] s K := by
  refine s_1794_e _ ?_
  refine ⟨by omega, ?_⟩
  try rw [show gp_I s 72 (2 : Int).toNat = 0 from q2]
  refine ⟨fun h_1 => ?_, fun h_1 => ?_⟩
  · refine s_1794_14 _ _ ?_
    refine ⟨by omega, ?_⟩
    exact k
  · exfalso; omega
set_option maxRecDepth 100000 in
/-- GatheredPoints.ladder [(0, 7), (2, 2)] -/
theorem zx2820_6 {z : gH} {L d : Nat} {K : Option gV → gH → Prop} {s : gH} (p0 : Int) (hs : xM z s) (h_p0 : 0 ≤ p0 ∧ p0 ≤ 7) (q0 : gp_I s 1 2 = 0) (q1 : gp_I s 1 6 = 0) (q2 : gp_I s 1 7 = 1) (q3 : gp_I s 51 8 = 0) (q4 : gp_I s 57 1 = 0) (q5 : gp_I s 57 3 = 0) (q6 : gp_I s 6 4 = 0) (q7 : gp_I s 72 0 = 0) (q8 : gp_I s 72 1 = 0) (q9 : gp_I s 72 2 = 0) (q10 : gp_I s 72 3 = 0) (q11 : gp_I s 73 0 = 0) (q12 : gp_I s 73 1 = 0) (q13 : gp_I s 73 2 = 0) (q14 : gp_I s 73 3 = 0) (q15 : gp_R s 25 6 = none) (q16 : gp_R s 25 7 = none) (q17 : gp_R s 25 8 = none) (q18 : gp_R s 25 9 = none) (q19 : ∀ k, k < 8 → gp_R s 4 k = some 25) (q20 : gp_R s 51 6 = some 55) (q21 : gp_R s 51 7 = some 56) (q22 : gp_us s = 606895) (q23 : gp_sz s = 117) (k : ∀ (t : gH), xM z t → (gp_I t 1 2 = 0) → (gp_I t 1 6 = 0) → (gp_I t 1 7 = 1) → ((-2147483648) ≤ gp_I t 2 2 ∧ gp_I t 2 2 ≤ 2147483647) → (gp_I t 51 8 = 0) → (gp_I t 57 1 = 0) → (gp_I t 57 3 = 0) → (gp_I t 6 4 = 0) → (gp_I t 72 0 = 0) → (gp_I t 72 1 = 0) → (gp_I t 72 2 = 0) → (gp_I t 72 3 = 0) → (gp_I t 73 0 = 0) → (gp_I t 73 1 = 0) → (gp_I t 73 2 = 0) → (gp_I t 73 3 = 0) → (gp_R t 25 6 = none) → (gp_R t 25 7 = none) → (gp_R t 25 8 = none) → (gp_R t 25 9 = none) → (∀ k, k < 8 → gp_R t 4 k = some 25) → (gp_R t 51 6 = some 55) → (gp_R t 51 7 = some 56) → (gp_us t = 606895) → (gp_sz t = 117) → K (some (gp_i (-1000000002))) t) : gs_C L (d + 1) 2820 3 [gp_r (some 1), gp_i p0, gp_i 2] s K := by
  refine s_2820_e _ _ ?_
  refine zx2856_2 _ hs (by omega) (by omega) (by omega) (by omega) (by omega) (by omega) (by omega) q15 q16 q17 q18 q19 q20 q21 (⟨_, rfl, ?_⟩)
  refine ⟨fun h_1 => ?_, fun h_1 => ?_⟩
  · refine zx1793_4 hs (by omega) (by omega) (by omega) (by omega) (by omega) (by omega) (by omega) (by omega) q15 q16 q17 q18 (⟨_, rfl, ?_⟩)
    refine ⟨fun h_2 => ?_, fun h_2 => ?_⟩
    · refine zx1794_2 hs (by omega) (by omega) (by omega) (by omega) (by omega) (by omega) (by omega) (by omega) q15 q16 q17 q18 (⟨_, rfl, ?_⟩)
      refine ⟨fun h_3 => ?_, fun h_3 => ?_⟩
      · exfalso; omega
      · refine s_2820_47 _ _ ?_
        refine zx2855_3 hs (by omega) (by omega) (by omega) (by omega) (by omega) (by omega) (by omega) (by omega) (by omega) (by omega) (by omega) (by omega) (by omega) (by omega) (by omega) q15 q16 q17 q18 q19 q20 q21 q22 q23 (fun s_4 hs_5 q_6 q_7 q_8 q_9 q_10 q_11 q_12 q_13 q_14 q_15 q_16 q_17 q_18 q_19 q_20 q_21 q_22 q_23 q_24 q_25 q_26 q_27 q_28 q_29 q_30 => ⟨_, rfl, ?_⟩)
        exact k s_4 hs_5 (by omega) (by omega) (by omega) (by omega) (by omega) (by omega) (by omega) (by omega) (by omega) (by omega) (by omega) (by omega) (by omega) (by omega) (by omega) (by omega) q_22 q_23 q_24 q_25 q_26 q_27 q_28 q_29 q_30
    · exfalso; omega
  · exfalso; omega
set_option maxRecDepth 100000 in
/-- Sheets.beyond [(3, 3)] -/
theorem zx1793_5 {z : gH} {L d : Nat} {K : Option gV → gH → Prop} {s : gH}  (hs : xM z s)  (q0 : gp_I s 72 0 = 0) (q1 : gp_I s 72 1 = 0) (q2 : gp_I s 72 2 = 0) (q3 : gp_I s 72 3 = 0) (q4 : gp_I s 73 0 = 0) (q5 : gp_I s 73 1 = 0) (q6 : gp_I s 73 2 = 0) (q7 : gp_I s 73 3 = 0) (q8 : gp_R s 25 6 = none) (q9 : gp_R s 25 7 = none) (q10 : gp_R s 25 8 = none) (q11 : gp_R s 25 9 = none) (k : K (some (gp_i 0)) s) : gs_C L d 1793 2 [gp_r (some 66), gp_i 3] s K := by
  refine s_1793_e _ ?_
  refine ⟨fun h_1 => ?_, fun h_1 => ?_⟩
  · exfalso; omega
  · refine ⟨fun h_2 => ?_, fun h_2 => ?_⟩
    · refine s_1793_14 _ _ ?_
      refine ⟨by omega, ?_⟩
      exact k
    · exfalso; omega
set_option maxRecDepth 100000 in
/-- Sheets.missing [(3, 3)] -/
theorem zx1794_3 {z : gH} {L d : Nat} {K : Option gV → gH → Prop} {s : gH}  (hs : xM z s)  (q0 : gp_I s 72 0 = 0) (q1 : gp_I s 72 1 = 0) (q2 : gp_I s 72 2 = 0) (q3 : gp_I s 72 3 = 0) (q4 : gp_I s 73 0 = 0) (q5 : gp_I s 73 1 = 0) (q6 : gp_I s 73 2 = 0) (q7 : gp_I s 73 3 = 0) (q8 : gp_R s 25 6 = none) (q9 : gp_R s 25 7 = none) (q10 : gp_R s 25 8 = none) (q11 : gp_R s 25 9 = none) (k : K (some (gp_i 1)) s) : gs_C L d 1794 2 [gp_r (some 66), gp_i 3] s K := by
  refine s_1794_e _ ?_
  refine ⟨by omega, ?_⟩
  try rw [show gp_I s 72 (3 : Int).toNat = 0 from q3]
  refine ⟨fun h_1 => ?_, fun h_1 => ?_⟩
  · refine s_1794_14 _ _ ?_
    refine ⟨by omega, ?_⟩
    exact k
  · exfalso; omega
set_option maxRecDepth 100000 in
/-- GatheredPoints.ladder [(0, 7), (3, 3)] -/
theorem zx2820_7 {z : gH} {L d : Nat} {K : Option gV → gH → Prop} {s : gH} (p0 : Int) (hs : xM z s) (h_p0 : 0 ≤ p0 ∧ p0 ≤ 7) (q0 : gp_I s 1 2 = 0) (q1 : gp_I s 1 6 = 0) (q2 : gp_I s 1 7 = 1) (q3 : gp_I s 51 8 = 0) (q4 : gp_I s 57 1 = 0) (q5 : gp_I s 57 3 = 0) (q6 : gp_I s 6 4 = 0) (q7 : gp_I s 72 0 = 0) (q8 : gp_I s 72 1 = 0) (q9 : gp_I s 72 2 = 0) (q10 : gp_I s 72 3 = 0) (q11 : gp_I s 73 0 = 0) (q12 : gp_I s 73 1 = 0) (q13 : gp_I s 73 2 = 0) (q14 : gp_I s 73 3 = 0) (q15 : gp_R s 25 6 = none) (q16 : gp_R s 25 7 = none) (q17 : gp_R s 25 8 = none) (q18 : gp_R s 25 9 = none) (q19 : ∀ k, k < 8 → gp_R s 4 k = some 25) (q20 : gp_R s 51 6 = some 55) (q21 : gp_R s 51 7 = some 56) (q22 : gp_us s = 606895) (q23 : gp_sz s = 117) (k : ∀ (t : gH), xM z t → (gp_I t 1 2 = 0) → (gp_I t 1 6 = 0) → (gp_I t 1 7 = 1) → ((-2147483648) ≤ gp_I t 2 2 ∧ gp_I t 2 2 ≤ 2147483647) → (gp_I t 51 8 = 0) → (gp_I t 57 1 = 0) → (gp_I t 57 3 = 0) → (gp_I t 6 4 = 0) → (gp_I t 72 0 = 0) → (gp_I t 72 1 = 0) → (gp_I t 72 2 = 0) → (gp_I t 72 3 = 0) → (gp_I t 73 0 = 0) → (gp_I t 73 1 = 0) → (gp_I t 73 2 = 0) → (gp_I t 73 3 = 0) → (gp_R t 25 6 = none) → (gp_R t 25 7 = none) → (gp_R t 25 8 = none) → (gp_R t 25 9 = none) → (∀ k, k < 8 → gp_R t 4 k = some 25) → (gp_R t 51 6 = some 55) → (gp_R t 51 7 = some 56) → (gp_us t = 606895) → (gp_sz t = 117) → K (some (gp_i (-1000000002))) t) : gs_C L (d + 1) 2820 3 [gp_r (some 1), gp_i p0, gp_i 3] s K := by
  refine s_2820_e _ _ ?_
  refine zx2856_2 _ hs (by omega) (by omega) (by omega) (by omega) (by omega) (by omega) (by omega) q15 q16 q17 q18 q19 q20 q21 (⟨_, rfl, ?_⟩)
  refine ⟨fun h_1 => ?_, fun h_1 => ?_⟩
  · refine zx1793_5 hs (by omega) (by omega) (by omega) (by omega) (by omega) (by omega) (by omega) (by omega) q15 q16 q17 q18 (⟨_, rfl, ?_⟩)
    refine ⟨fun h_2 => ?_, fun h_2 => ?_⟩
    · refine zx1794_3 hs (by omega) (by omega) (by omega) (by omega) (by omega) (by omega) (by omega) (by omega) q15 q16 q17 q18 (⟨_, rfl, ?_⟩)
      refine ⟨fun h_3 => ?_, fun h_3 => ?_⟩
      · exfalso; omega
      · refine s_2820_47 _ _ ?_
        refine zx2855_3 hs (by omega) (by omega) (by omega) (by omega) (by omega) (by omega) (by omega) (by omega) (by omega) (by omega) (by omega) (by omega) (by omega) (by omega) (by omega) q15 q16 q17 q18 q19 q20 q21 q22 q23 (fun s_4 hs_5 q_6 q_7 q_8 q_9 q_10 q_11 q_12 q_13 q_14 q_15 q_16 q_17 q_18 q_19 q_20 q_21 q_22 q_23 q_24 q_25 q_26 q_27 q_28 q_29 q_30 => ⟨_, rfl, ?_⟩)
        exact k s_4 hs_5 (by omega) (by omega) (by omega) (by omega) (by omega) (by omega) (by omega) (by omega) (by omega) (by omega) (by omega) (by omega) (by omega) (by omega) (by omega) (by omega) q_22 q_23 q_24 q_25 q_26 q_27 q_28 q_29 q_30
    · exfalso; omega
  · exfalso; omega
set_option maxRecDepth 100000 in
/-- GatheredPoints.waits [(-2147483648, -1), (-2147483648, 2147483647)] -/
theorem zx2821_0 {z : gH} {L d : Nat} {K : Option gV → gH → Prop} {s : gH} (p0 : Int) (p1 : Int) (hs : xM z s) (h_p0 : (-2147483648) ≤ p0 ∧ p0 ≤ (-1)) (h_p1 : (-2147483648) ≤ p1 ∧ p1 ≤ 2147483647) (q0 : gp_I s 1 2 = 0) (q1 : gp_I s 1 6 = 0) (q2 : gp_I s 1 7 = 1) (q3 : gp_I s 51 8 = 0) (q4 : gp_I s 57 1 = 0) (q5 : gp_I s 57 3 = 0) (q6 : gp_I s 6 4 = 0) (q7 : gp_R s 25 6 = none) (q8 : gp_R s 25 7 = none) (q9 : gp_R s 25 8 = none) (q10 : gp_R s 25 9 = none) (q11 : ∀ k, k < 8 → gp_R s 4 k = some 25) (q12 : gp_R s 51 6 = some 55) (q13 : gp_R s 51 7 = some 56) (q14 : gp_us s = 606895) (q15 : gp_sz s = 117) (k : ∀ (t : gH), xM z t → (gp_I t 1 2 = 0) → (gp_I t 1 6 = 0) → (gp_I t 1 7 = 1) → ((-2147483648) ≤ gp_I t 2 1 ∧ gp_I t 2 1 ≤ 2147483647) → (gp_I t 51 8 = 0) → (gp_I t 57 1 = 0) → (gp_I t 57 3 = 0) → (gp_I t 6 4 = 0) → (gp_R t 25 6 = none) → (gp_R t 25 7 = none) → (gp_R t 25 8 = none) → (gp_R t 25 9 = none) → (∀ k, k < 8 → gp_R t 4 k = some 25) → (gp_R t 51 6 = some 55) → (gp_R t 51 7 = some 56) → (gp_us t = 606895) → (gp_sz t = 117) → K (some (gp_i (-1000000001))) t) : gs_C L (d + 1) 2821 3 [gp_r (some 1), gp_i p0, gp_i p1] s K := by
  refine s_2821_e _ _ ?_
  refine zx2856_0 _ hs (by omega) (by omega) (by omega) (by omega) (by omega) (by omega) (by omega) q7 q8 q9 q10 q11 q12 q13 (⟨_, rfl, ?_⟩)
  refine ⟨fun h_1 => ?_, fun h_1 => ?_⟩
  · exfalso; omega
  · refine s_2821_17 _ _ ?_
    refine zx2855_1 hs (by omega) (by omega) (by omega) (by omega) (by omega) (by omega) (by omega) q7 q8 q9 q10 q11 q12 q13 q14 q15 (fun s_2 hs_3 q_4 q_5 q_6 q_7 q_8 q_9 q_10 q_11 q_12 q_13 q_14 q_15 q_16 q_17 q_18 q_19 q_20 => ⟨_, rfl, ?_⟩)
    exact k s_2 hs_3 (by omega) (by omega) (by omega) (by omega) (by omega) (by omega) (by omega) (by omega) q_12 q_13 q_14 q_15 q_16 q_17 q_18 q_19 q_20
set_option maxRecDepth 100000 in
/-- GatheredPoints.waits [(8, 2147483647), (-2147483648, 2147483647)] -/
theorem zx2821_1 {z : gH} {L d : Nat} {K : Option gV → gH → Prop} {s : gH} (p0 : Int) (p1 : Int) (hs : xM z s) (h_p0 : 8 ≤ p0 ∧ p0 ≤ 2147483647) (h_p1 : (-2147483648) ≤ p1 ∧ p1 ≤ 2147483647) (q0 : gp_I s 1 2 = 0) (q1 : gp_I s 1 6 = 0) (q2 : gp_I s 1 7 = 1) (q3 : gp_I s 51 8 = 0) (q4 : gp_I s 57 1 = 0) (q5 : gp_I s 57 3 = 0) (q6 : gp_I s 6 4 = 0) (q7 : gp_R s 25 6 = none) (q8 : gp_R s 25 7 = none) (q9 : gp_R s 25 8 = none) (q10 : gp_R s 25 9 = none) (q11 : ∀ k, k < 8 → gp_R s 4 k = some 25) (q12 : gp_R s 51 6 = some 55) (q13 : gp_R s 51 7 = some 56) (q14 : gp_us s = 606895) (q15 : gp_sz s = 117) (k : ∀ (t : gH), xM z t → (gp_I t 1 2 = 0) → (gp_I t 1 6 = 0) → (gp_I t 1 7 = 1) → ((-2147483648) ≤ gp_I t 2 1 ∧ gp_I t 2 1 ≤ 2147483647) → (gp_I t 51 8 = 0) → (gp_I t 57 1 = 0) → (gp_I t 57 3 = 0) → (gp_I t 6 4 = 0) → (gp_R t 25 6 = none) → (gp_R t 25 7 = none) → (gp_R t 25 8 = none) → (gp_R t 25 9 = none) → (∀ k, k < 8 → gp_R t 4 k = some 25) → (gp_R t 51 6 = some 55) → (gp_R t 51 7 = some 56) → (gp_us t = 606895) → (gp_sz t = 117) → K (some (gp_i (-1000000001))) t) : gs_C L (d + 1) 2821 3 [gp_r (some 1), gp_i p0, gp_i p1] s K := by
  refine s_2821_e _ _ ?_
  refine zx2856_1 _ hs (by omega) (by omega) (by omega) (by omega) (by omega) (by omega) (by omega) q7 q8 q9 q10 q11 q12 q13 (⟨_, rfl, ?_⟩)
  refine ⟨fun h_1 => ?_, fun h_1 => ?_⟩
  · exfalso; omega
  · refine s_2821_17 _ _ ?_
    refine zx2855_1 hs (by omega) (by omega) (by omega) (by omega) (by omega) (by omega) (by omega) q7 q8 q9 q10 q11 q12 q13 q14 q15 (fun s_2 hs_3 q_4 q_5 q_6 q_7 q_8 q_9 q_10 q_11 q_12 q_13 q_14 q_15 q_16 q_17 q_18 q_19 q_20 => ⟨_, rfl, ?_⟩)
    exact k s_2 hs_3 (by omega) (by omega) (by omega) (by omega) (by omega) (by omega) (by omega) (by omega) q_12 q_13 q_14 q_15 q_16 q_17 q_18 q_19 q_20
set_option maxRecDepth 100000 in
/-- GatheredPoints.waits [(0, 7), (-2147483648, -1)] -/
theorem zx2821_2 {z : gH} {L d : Nat} {K : Option gV → gH → Prop} {s : gH} (p0 : Int) (p1 : Int) (hs : xM z s) (h_p0 : 0 ≤ p0 ∧ p0 ≤ 7) (h_p1 : (-2147483648) ≤ p1 ∧ p1 ≤ (-1)) (q0 : gp_I s 1 2 = 0) (q1 : gp_I s 1 6 = 0) (q2 : gp_I s 1 7 = 1) (q3 : gp_I s 51 8 = 0) (q4 : gp_I s 57 1 = 0) (q5 : gp_I s 57 3 = 0) (q6 : gp_I s 6 4 = 0) (q7 : gp_R s 25 6 = none) (q8 : gp_R s 25 7 = none) (q9 : gp_R s 25 8 = none) (q10 : gp_R s 25 9 = none) (q11 : ∀ k, k < 8 → gp_R s 4 k = some 25) (q12 : gp_R s 51 6 = some 55) (q13 : gp_R s 51 7 = some 56) (q14 : gp_us s = 606895) (q15 : gp_sz s = 117) (k : ∀ (t : gH), xM z t → (gp_I t 1 2 = 0) → (gp_I t 1 6 = 0) → (gp_I t 1 7 = 1) → ((-2147483648) ≤ gp_I t 2 1 ∧ gp_I t 2 1 ≤ 2147483647) → (gp_I t 51 8 = 0) → (gp_I t 57 1 = 0) → (gp_I t 57 3 = 0) → (gp_I t 6 4 = 0) → (gp_R t 25 6 = none) → (gp_R t 25 7 = none) → (gp_R t 25 8 = none) → (gp_R t 25 9 = none) → (∀ k, k < 8 → gp_R t 4 k = some 25) → (gp_R t 51 6 = some 55) → (gp_R t 51 7 = some 56) → (gp_us t = 606895) → (gp_sz t = 117) → K (some (gp_i (-1000000001))) t) : gs_C L (d + 1) 2821 3 [gp_r (some 1), gp_i p0, gp_i p1] s K := by
  refine s_2821_e _ _ ?_
  refine zx2856_2 _ hs (by omega) (by omega) (by omega) (by omega) (by omega) (by omega) (by omega) q7 q8 q9 q10 q11 q12 q13 (⟨_, rfl, ?_⟩)
  refine ⟨fun h_1 => ?_, fun h_1 => ?_⟩
  · refine ⟨fun h_2 => ?_, fun h_2 => ?_⟩
    · refine s_2821_17 _ _ ?_
      refine zx2855_1 hs (by omega) (by omega) (by omega) (by omega) (by omega) (by omega) (by omega) q7 q8 q9 q10 q11 q12 q13 q14 q15 (fun s_3 hs_4 q_5 q_6 q_7 q_8 q_9 q_10 q_11 q_12 q_13 q_14 q_15 q_16 q_17 q_18 q_19 q_20 q_21 => ⟨_, rfl, ?_⟩)
      exact k s_3 hs_4 (by omega) (by omega) (by omega) (by omega) (by omega) (by omega) (by omega) (by omega) q_13 q_14 q_15 q_16 q_17 q_18 q_19 q_20 q_21
    · exfalso; omega
  · exfalso; omega
set_option maxRecDepth 100000 in
/-- GatheredPoints.waits [(0, 7), (21, 2147483647)] -/
theorem zx2821_3 {z : gH} {L d : Nat} {K : Option gV → gH → Prop} {s : gH} (p0 : Int) (p1 : Int) (hs : xM z s) (h_p0 : 0 ≤ p0 ∧ p0 ≤ 7) (h_p1 : 21 ≤ p1 ∧ p1 ≤ 2147483647) (q0 : gp_I s 1 2 = 0) (q1 : gp_I s 1 6 = 0) (q2 : gp_I s 1 7 = 1) (q3 : gp_I s 51 8 = 0) (q4 : gp_I s 57 1 = 0) (q5 : gp_I s 57 3 = 0) (q6 : gp_I s 6 4 = 0) (q7 : gp_R s 25 6 = none) (q8 : gp_R s 25 7 = none) (q9 : gp_R s 25 8 = none) (q10 : gp_R s 25 9 = none) (q11 : ∀ k, k < 8 → gp_R s 4 k = some 25) (q12 : gp_R s 51 6 = some 55) (q13 : gp_R s 51 7 = some 56) (q14 : gp_us s = 606895) (q15 : gp_sz s = 117) (k : ∀ (t : gH), xM z t → (gp_I t 1 2 = 0) → (gp_I t 1 6 = 0) → (gp_I t 1 7 = 1) → ((-2147483648) ≤ gp_I t 2 1 ∧ gp_I t 2 1 ≤ 2147483647) → (gp_I t 51 8 = 0) → (gp_I t 57 1 = 0) → (gp_I t 57 3 = 0) → (gp_I t 6 4 = 0) → (gp_R t 25 6 = none) → (gp_R t 25 7 = none) → (gp_R t 25 8 = none) → (gp_R t 25 9 = none) → (∀ k, k < 8 → gp_R t 4 k = some 25) → (gp_R t 51 6 = some 55) → (gp_R t 51 7 = some 56) → (gp_us t = 606895) → (gp_sz t = 117) → K (some (gp_i (-1000000001))) t) : gs_C L (d + 1) 2821 3 [gp_r (some 1), gp_i p0, gp_i p1] s K := by
  refine s_2821_e _ _ ?_
  refine zx2856_2 _ hs (by omega) (by omega) (by omega) (by omega) (by omega) (by omega) (by omega) q7 q8 q9 q10 q11 q12 q13 (⟨_, rfl, ?_⟩)
  refine ⟨fun h_1 => ?_, fun h_1 => ?_⟩
  · refine ⟨fun h_2 => ?_, fun h_2 => ?_⟩
    · exfalso; omega
    · refine ⟨fun h_3 => ?_, fun h_3 => ?_⟩
      · refine s_2821_17 _ _ ?_
        refine zx2855_1 hs (by omega) (by omega) (by omega) (by omega) (by omega) (by omega) (by omega) q7 q8 q9 q10 q11 q12 q13 q14 q15 (fun s_4 hs_5 q_6 q_7 q_8 q_9 q_10 q_11 q_12 q_13 q_14 q_15 q_16 q_17 q_18 q_19 q_20 q_21 q_22 => ⟨_, rfl, ?_⟩)
        exact k s_4 hs_5 (by omega) (by omega) (by omega) (by omega) (by omega) (by omega) (by omega) (by omega) q_14 q_15 q_16 q_17 q_18 q_19 q_20 q_21 q_22
      · exfalso; omega
  · exfalso; omega
set_option maxRecDepth 100000 in
/-- Table.<init> [117, (1, 1)] -/
theorem zx2304_0 {z : gH} {L d : Nat} {K : Option gV → gH → Prop} {s : gH}  (hs : xM z s)  (q0 : gp_I s 1 2 = 0) (q1 : gp_I s 1 6 = 0) (q2 : gp_I s 1 7 = 1) (q3 : gp_I s 117 0 = 0) (q4 : gp_I s 51 8 = 0) (q5 : gp_I s 57 1 = 0) (q6 : gp_I s 57 3 = 0) (q7 : gp_I s 6 4 = 0) (q8 : gp_R s 117 1 = none) (q9 : gp_R s 117 2 = none) (q10 : gp_R s 117 3 = none) (q11 : gp_R s 117 4 = none) (q12 : gp_R s 117 5 = none) (q13 : gp_R s 117 6 = none) (q14 : gp_R s 117 7 = none) (q15 : gp_R s 117 8 = none) (q16 : gp_R s 117 9 = none) (q17 : gp_R s 25 6 = none) (q18 : gp_R s 25 7 = none) (q19 : gp_R s 25 8 = none) (q20 : gp_R s 25 9 = none) (q21 : ∀ k, k < 8 → gp_R s 4 k = some 25) (q22 : gp_R s 51 6 = some 55) (q23 : gp_R s 51 7 = some 56) (q24 : gp_sh s 117 = (9, 10)) (q25 : gp_us s = 606905) (q26 : gp_sz s = 118) (k : ∀ (t : gH), xM z t → (gp_I t 1 2 = 0) → (gp_I t 1 6 = 0) → (gp_I t 1 7 = 1) → (gp_I t 117 0 = 1) → (gp_I t 120 0 = 0) → (gp_I t 121 0 = 0) → (gp_I t 122 0 = 0) → (gp_I t 51 8 = 0) → (gp_I t 57 1 = 0) → (gp_I t 57 3 = 0) → (gp_I t 6 4 = 0) → (gp_L t 118 0 = 0#64) → (gp_L t 119 0 = 0#64) → (gp_R t 117 1 = some 118) → (gp_R t 117 2 = some 119) → (gp_R t 117 3 = some 120) → (gp_R t 117 4 = some 121) → (gp_R t 117 5 = some 122) → (gp_R t 117 6 = none) → (gp_R t 117 7 = none) → (gp_R t 117 8 = none) → (gp_R t 117 9 = none) → (gp_R t 25 6 = none) → (gp_R t 25 7 = none) → (gp_R t 25 8 = none) → (gp_R t 25 9 = none) → (∀ k, k < 8 → gp_R t 4 k = some 25) → (gp_R t 51 6 = some 55) → (gp_R t 51 7 = some 56) → (gp_sh t 117 = (9, 10)) → (gp_sh t 118 = (101, 1)) → (gp_sh t 119 = (101, 1)) → (gp_sh t 120 = (100, 1)) → (gp_sh t 121 = (100, 1)) → (gp_sh t 122 = (100, 1)) → (gp_us t = 606910) → (gp_sz t = 123) → K none t) : gs_C L d 2304 2 [gp_r (some 117), gp_i 1] s K := by
  refine s_2304_e _ _ ?_
  refine ⟨117, rfl, ?_⟩
  refine ⟨(by show (gp_sh s 117).1 = 9; rw [q24]), ?_⟩
  intro s_1 e_2
  have hs_3 : xM z s_1 := by rw [e_2]; exact xI.wId hs _ _ _ (by omega)
  have q_4 : gp_I s_1 1 2 = 0 := by rw [e_2]; exact q0
  have q_5 : gp_I s_1 1 6 = 0 := by rw [e_2]; exact q1
  have q_6 : gp_I s_1 1 7 = 1 := by rw [e_2]; exact q2
  have q_7 : gp_I s_1 51 8 = 0 := by rw [e_2]; exact q4
  have q_8 : gp_I s_1 57 1 = 0 := by rw [e_2]; exact q5
  have q_9 : gp_I s_1 57 3 = 0 := by rw [e_2]; exact q6
  have q_10 : gp_I s_1 6 4 = 0 := by rw [e_2]; exact q7
  have q_11 : gp_R s_1 117 1 = none := by rw [e_2]; exact q8
  have q_12 : gp_R s_1 117 2 = none := by rw [e_2]; exact q9
  have q_13 : gp_R s_1 117 3 = none := by rw [e_2]; exact q10
  have q_14 : gp_R s_1 117 4 = none := by rw [e_2]; exact q11
  have q_15 : gp_R s_1 117 5 = none := by rw [e_2]; exact q12
  have q_16 : gp_R s_1 117 6 = none := by rw [e_2]; exact q13
  have q_17 : gp_R s_1 117 7 = none := by rw [e_2]; exact q14
  have q_18 : gp_R s_1 117 8 = none := by rw [e_2]; exact q15
  have q_19 : gp_R s_1 117 9 = none := by rw [e_2]; exact q16
  have q_20 : gp_R s_1 25 6 = none := by rw [e_2]; exact q17
  have q_21 : gp_R s_1 25 7 = none := by rw [e_2]; exact q18
  have q_22 : gp_R s_1 25 8 = none := by rw [e_2]; exact q19
  have q_23 : gp_R s_1 25 9 = none := by rw [e_2]; exact q20
  have q_24 : ∀ k, k < 8 → gp_R s_1 4 k = some 25 := by rw [e_2]; exact q21
  have q_25 : gp_R s_1 51 6 = some 55 := by rw [e_2]; exact q22
  have q_26 : gp_R s_1 51 7 = some 56 := by rw [e_2]; exact q23
  have q_27 : gp_sh s_1 117 = (9, 10) := by rw [e_2]; exact q24
  have q_28 : gp_us s_1 = 606905 := by rw [e_2]; exact q25
  have q_29 : gp_sz s_1 = 118 := by rw [e_2]; exact q26
  have q_30 : gp_I s_1 117 0 = 1 := by rw [e_2]; rfl
  refine ⟨by omega, ?_⟩
  refine ⟨by omega, ?_⟩
  try rw [show gp_sz s_1 = 118 from q_29]
  intro s_32 e_33
  have hs_34 : xM z s_32 := by rw [e_33]; exact xI.new hs_3 (by omega)
  have q_35 : gp_I s_32 1 2 = 0 := by rw [e_33, gz_nI q_29 (by decide)]; exact q_4
  have q_36 : gp_I s_32 1 6 = 0 := by rw [e_33, gz_nI q_29 (by decide)]; exact q_5
  have q_37 : gp_I s_32 1 7 = 1 := by rw [e_33, gz_nI q_29 (by decide)]; exact q_6
  have q_38 : gp_I s_32 51 8 = 0 := by rw [e_33, gz_nI q_29 (by decide)]; exact q_7
  have q_39 : gp_I s_32 57 1 = 0 := by rw [e_33, gz_nI q_29 (by decide)]; exact q_8
  have q_40 : gp_I s_32 57 3 = 0 := by rw [e_33, gz_nI q_29 (by decide)]; exact q_9
  have q_41 : gp_I s_32 6 4 = 0 := by rw [e_33, gz_nI q_29 (by decide)]; exact q_10
  have q_42 : gp_R s_32 117 1 = none := by rw [e_33, gz_nR q_29 (by decide)]; exact q_11
  have q_43 : gp_R s_32 117 2 = none := by rw [e_33, gz_nR q_29 (by decide)]; exact q_12
  have q_44 : gp_R s_32 117 3 = none := by rw [e_33, gz_nR q_29 (by decide)]; exact q_13
  have q_45 : gp_R s_32 117 4 = none := by rw [e_33, gz_nR q_29 (by decide)]; exact q_14
  have q_46 : gp_R s_32 117 5 = none := by rw [e_33, gz_nR q_29 (by decide)]; exact q_15
  have q_47 : gp_R s_32 117 6 = none := by rw [e_33, gz_nR q_29 (by decide)]; exact q_16
  have q_48 : gp_R s_32 117 7 = none := by rw [e_33, gz_nR q_29 (by decide)]; exact q_17
  have q_49 : gp_R s_32 117 8 = none := by rw [e_33, gz_nR q_29 (by decide)]; exact q_18
  have q_50 : gp_R s_32 117 9 = none := by rw [e_33, gz_nR q_29 (by decide)]; exact q_19
  have q_51 : gp_R s_32 25 6 = none := by rw [e_33, gz_nR q_29 (by decide)]; exact q_20
  have q_52 : gp_R s_32 25 7 = none := by rw [e_33, gz_nR q_29 (by decide)]; exact q_21
  have q_53 : gp_R s_32 25 8 = none := by rw [e_33, gz_nR q_29 (by decide)]; exact q_22
  have q_54 : gp_R s_32 25 9 = none := by rw [e_33, gz_nR q_29 (by decide)]; exact q_23
  have q_55 : ∀ k, k < 8 → gp_R s_32 4 k = some 25 := fun k hk => by rw [e_33, gz_nR q_29 (by decide)]; exact q_24 k hk
  have q_56 : gp_R s_32 51 6 = some 55 := by rw [e_33, gz_nR q_29 (by decide)]; exact q_25
  have q_57 : gp_R s_32 51 7 = some 56 := by rw [e_33, gz_nR q_29 (by decide)]; exact q_26
  have q_58 : gp_sh s_32 117 = (9, 10) := by rw [e_33, gz_nS q_29 (by decide)]; exact q_27
  have q_59 : gp_us s_32 = 606906 := by rw [e_33]; show gp_us s_1 + 1 = 606906; rw [q_28]; try rfl
  have q_60 : gp_sz s_32 = 119 := by rw [e_33]; exact congrArg Nat.succ q_29
  have q_61 : gp_I s_32 117 0 = 1 := by rw [e_33, gz_nI q_29 (by decide)]; exact q_30
  have q_62 : gp_sh s_32 118 = (101, 1) := by rw [e_33]; exact gz_nSs q_29
  have q_63 : gp_L s_32 118 0 = 0#64 := by rw [e_33]; exact gz_nLs q_29
  refine ⟨(by show (gp_sh s_32 117).1 = 9; rw [q_58]), ?_⟩
  refine ⟨rfl, ?_⟩
  intro s_64 e_65
  have hs_66 : xM z s_64 := by rw [e_65]; exact xI.wR hs_34 _ _ _
  have q_67 : gp_I s_64 1 2 = 0 := by rw [e_65]; exact q_35
  have q_68 : gp_I s_64 1 6 = 0 := by rw [e_65]; exact q_36
  have q_69 : gp_I s_64 1 7 = 1 := by rw [e_65]; exact q_37
  have q_70 : gp_I s_64 51 8 = 0 := by rw [e_65]; exact q_38
  have q_71 : gp_I s_64 57 1 = 0 := by rw [e_65]; exact q_39
  have q_72 : gp_I s_64 57 3 = 0 := by rw [e_65]; exact q_40
  have q_73 : gp_I s_64 6 4 = 0 := by rw [e_65]; exact q_41
  have q_74 : gp_R s_64 117 2 = none := by rw [e_65]; exact q_43
  have q_75 : gp_R s_64 117 3 = none := by rw [e_65]; exact q_44
  have q_76 : gp_R s_64 117 4 = none := by rw [e_65]; exact q_45
  have q_77 : gp_R s_64 117 5 = none := by rw [e_65]; exact q_46
  have q_78 : gp_R s_64 117 6 = none := by rw [e_65]; exact q_47
  have q_79 : gp_R s_64 117 7 = none := by rw [e_65]; exact q_48
  have q_80 : gp_R s_64 117 8 = none := by rw [e_65]; exact q_49
  have q_81 : gp_R s_64 117 9 = none := by rw [e_65]; exact q_50
  have q_82 : gp_R s_64 25 6 = none := by rw [e_65]; exact q_51
  have q_83 : gp_R s_64 25 7 = none := by rw [e_65]; exact q_52
  have q_84 : gp_R s_64 25 8 = none := by rw [e_65]; exact q_53
  have q_85 : gp_R s_64 25 9 = none := by rw [e_65]; exact q_54
  have q_86 : ∀ k, k < 8 → gp_R s_64 4 k = some 25 := by rw [e_65]; exact q_55
  have q_87 : gp_R s_64 51 6 = some 55 := by rw [e_65]; exact q_56
  have q_88 : gp_R s_64 51 7 = some 56 := by rw [e_65]; exact q_57
  have q_89 : gp_sh s_64 117 = (9, 10) := by rw [e_65]; exact q_58
  have q_90 : gp_us s_64 = 606906 := by rw [e_65]; exact q_59
  have q_91 : gp_sz s_64 = 119 := by rw [e_65]; exact q_60
  have q_92 : gp_I s_64 117 0 = 1 := by rw [e_65]; exact q_61
  have q_93 : gp_sh s_64 118 = (101, 1) := by rw [e_65]; exact q_62
  have q_94 : gp_L s_64 118 0 = 0#64 := by rw [e_65]; exact q_63
  have q_95 : gp_R s_64 117 1 = some 118 := by rw [e_65]; rfl
  refine ⟨by omega, ?_⟩
  refine ⟨by omega, ?_⟩
  try rw [show gp_sz s_64 = 119 from q_91]
  intro s_96 e_97
  have hs_98 : xM z s_96 := by rw [e_97]; exact xI.new hs_66 (by omega)
  have q_99 : gp_I s_96 1 2 = 0 := by rw [e_97, gz_nI q_91 (by decide)]; exact q_67
  have q_100 : gp_I s_96 1 6 = 0 := by rw [e_97, gz_nI q_91 (by decide)]; exact q_68
  have q_101 : gp_I s_96 1 7 = 1 := by rw [e_97, gz_nI q_91 (by decide)]; exact q_69
  have q_102 : gp_I s_96 51 8 = 0 := by rw [e_97, gz_nI q_91 (by decide)]; exact q_70
  have q_103 : gp_I s_96 57 1 = 0 := by rw [e_97, gz_nI q_91 (by decide)]; exact q_71
  have q_104 : gp_I s_96 57 3 = 0 := by rw [e_97, gz_nI q_91 (by decide)]; exact q_72
  have q_105 : gp_I s_96 6 4 = 0 := by rw [e_97, gz_nI q_91 (by decide)]; exact q_73
  have q_106 : gp_R s_96 117 2 = none := by rw [e_97, gz_nR q_91 (by decide)]; exact q_74
  have q_107 : gp_R s_96 117 3 = none := by rw [e_97, gz_nR q_91 (by decide)]; exact q_75
  have q_108 : gp_R s_96 117 4 = none := by rw [e_97, gz_nR q_91 (by decide)]; exact q_76
  have q_109 : gp_R s_96 117 5 = none := by rw [e_97, gz_nR q_91 (by decide)]; exact q_77
  have q_110 : gp_R s_96 117 6 = none := by rw [e_97, gz_nR q_91 (by decide)]; exact q_78
  have q_111 : gp_R s_96 117 7 = none := by rw [e_97, gz_nR q_91 (by decide)]; exact q_79
  have q_112 : gp_R s_96 117 8 = none := by rw [e_97, gz_nR q_91 (by decide)]; exact q_80
  have q_113 : gp_R s_96 117 9 = none := by rw [e_97, gz_nR q_91 (by decide)]; exact q_81
  have q_114 : gp_R s_96 25 6 = none := by rw [e_97, gz_nR q_91 (by decide)]; exact q_82
  have q_115 : gp_R s_96 25 7 = none := by rw [e_97, gz_nR q_91 (by decide)]; exact q_83
  have q_116 : gp_R s_96 25 8 = none := by rw [e_97, gz_nR q_91 (by decide)]; exact q_84
  have q_117 : gp_R s_96 25 9 = none := by rw [e_97, gz_nR q_91 (by decide)]; exact q_85
  have q_118 : ∀ k, k < 8 → gp_R s_96 4 k = some 25 := fun k hk => by rw [e_97, gz_nR q_91 (by decide)]; exact q_86 k hk
  have q_119 : gp_R s_96 51 6 = some 55 := by rw [e_97, gz_nR q_91 (by decide)]; exact q_87
  have q_120 : gp_R s_96 51 7 = some 56 := by rw [e_97, gz_nR q_91 (by decide)]; exact q_88
  have q_121 : gp_sh s_96 117 = (9, 10) := by rw [e_97, gz_nS q_91 (by decide)]; exact q_89
  have q_122 : gp_us s_96 = 606907 := by rw [e_97]; show gp_us s_64 + 1 = 606907; rw [q_90]; try rfl
  have q_123 : gp_sz s_96 = 120 := by rw [e_97]; exact congrArg Nat.succ q_91
  have q_124 : gp_I s_96 117 0 = 1 := by rw [e_97, gz_nI q_91 (by decide)]; exact q_92
  have q_125 : gp_sh s_96 118 = (101, 1) := by rw [e_97, gz_nS q_91 (by decide)]; exact q_93
  have q_126 : gp_L s_96 118 0 = 0#64 := by rw [e_97, gz_nL q_91 (by decide)]; exact q_94
  have q_127 : gp_R s_96 117 1 = some 118 := by rw [e_97, gz_nR q_91 (by decide)]; exact q_95
  have q_128 : gp_sh s_96 119 = (101, 1) := by rw [e_97]; exact gz_nSs q_91
  have q_129 : gp_L s_96 119 0 = 0#64 := by rw [e_97]; exact gz_nLs q_91
  refine ⟨(by show (gp_sh s_96 117).1 = 9; rw [q_121]), ?_⟩
  refine ⟨rfl, ?_⟩
  intro s_130 e_131
  have hs_132 : xM z s_130 := by rw [e_131]; exact xI.wR hs_98 _ _ _
  have q_133 : gp_I s_130 1 2 = 0 := by rw [e_131]; exact q_99
  have q_134 : gp_I s_130 1 6 = 0 := by rw [e_131]; exact q_100
  have q_135 : gp_I s_130 1 7 = 1 := by rw [e_131]; exact q_101
  have q_136 : gp_I s_130 51 8 = 0 := by rw [e_131]; exact q_102
  have q_137 : gp_I s_130 57 1 = 0 := by rw [e_131]; exact q_103
  have q_138 : gp_I s_130 57 3 = 0 := by rw [e_131]; exact q_104
  have q_139 : gp_I s_130 6 4 = 0 := by rw [e_131]; exact q_105
  have q_140 : gp_R s_130 117 3 = none := by rw [e_131]; exact q_107
  have q_141 : gp_R s_130 117 4 = none := by rw [e_131]; exact q_108
  have q_142 : gp_R s_130 117 5 = none := by rw [e_131]; exact q_109
  have q_143 : gp_R s_130 117 6 = none := by rw [e_131]; exact q_110
  have q_144 : gp_R s_130 117 7 = none := by rw [e_131]; exact q_111
  have q_145 : gp_R s_130 117 8 = none := by rw [e_131]; exact q_112
  have q_146 : gp_R s_130 117 9 = none := by rw [e_131]; exact q_113
  have q_147 : gp_R s_130 25 6 = none := by rw [e_131]; exact q_114
  have q_148 : gp_R s_130 25 7 = none := by rw [e_131]; exact q_115
  have q_149 : gp_R s_130 25 8 = none := by rw [e_131]; exact q_116
  have q_150 : gp_R s_130 25 9 = none := by rw [e_131]; exact q_117
  have q_151 : ∀ k, k < 8 → gp_R s_130 4 k = some 25 := by rw [e_131]; exact q_118
  have q_152 : gp_R s_130 51 6 = some 55 := by rw [e_131]; exact q_119
  have q_153 : gp_R s_130 51 7 = some 56 := by rw [e_131]; exact q_120
  have q_154 : gp_sh s_130 117 = (9, 10) := by rw [e_131]; exact q_121
  have q_155 : gp_us s_130 = 606907 := by rw [e_131]; exact q_122
  have q_156 : gp_sz s_130 = 120 := by rw [e_131]; exact q_123
  have q_157 : gp_I s_130 117 0 = 1 := by rw [e_131]; exact q_124
  have q_158 : gp_sh s_130 118 = (101, 1) := by rw [e_131]; exact q_125
  have q_159 : gp_L s_130 118 0 = 0#64 := by rw [e_131]; exact q_126
  have q_160 : gp_R s_130 117 1 = some 118 := by rw [e_131]; exact q_127
  have q_161 : gp_sh s_130 119 = (101, 1) := by rw [e_131]; exact q_128
  have q_162 : gp_L s_130 119 0 = 0#64 := by rw [e_131]; exact q_129
  have q_163 : gp_R s_130 117 2 = some 119 := by rw [e_131]; rfl
  refine ⟨by omega, ?_⟩
  refine ⟨by omega, ?_⟩
  try rw [show gp_sz s_130 = 120 from q_156]
  intro s_164 e_165
  have hs_166 : xM z s_164 := by rw [e_165]; exact xI.new hs_132 (by omega)
  have q_167 : gp_I s_164 1 2 = 0 := by rw [e_165, gz_nI q_156 (by decide)]; exact q_133
  have q_168 : gp_I s_164 1 6 = 0 := by rw [e_165, gz_nI q_156 (by decide)]; exact q_134
  have q_169 : gp_I s_164 1 7 = 1 := by rw [e_165, gz_nI q_156 (by decide)]; exact q_135
  have q_170 : gp_I s_164 51 8 = 0 := by rw [e_165, gz_nI q_156 (by decide)]; exact q_136
  have q_171 : gp_I s_164 57 1 = 0 := by rw [e_165, gz_nI q_156 (by decide)]; exact q_137
  have q_172 : gp_I s_164 57 3 = 0 := by rw [e_165, gz_nI q_156 (by decide)]; exact q_138
  have q_173 : gp_I s_164 6 4 = 0 := by rw [e_165, gz_nI q_156 (by decide)]; exact q_139
  have q_174 : gp_R s_164 117 3 = none := by rw [e_165, gz_nR q_156 (by decide)]; exact q_140
  have q_175 : gp_R s_164 117 4 = none := by rw [e_165, gz_nR q_156 (by decide)]; exact q_141
  have q_176 : gp_R s_164 117 5 = none := by rw [e_165, gz_nR q_156 (by decide)]; exact q_142
  have q_177 : gp_R s_164 117 6 = none := by rw [e_165, gz_nR q_156 (by decide)]; exact q_143
  have q_178 : gp_R s_164 117 7 = none := by rw [e_165, gz_nR q_156 (by decide)]; exact q_144
  have q_179 : gp_R s_164 117 8 = none := by rw [e_165, gz_nR q_156 (by decide)]; exact q_145
  have q_180 : gp_R s_164 117 9 = none := by rw [e_165, gz_nR q_156 (by decide)]; exact q_146
  have q_181 : gp_R s_164 25 6 = none := by rw [e_165, gz_nR q_156 (by decide)]; exact q_147
  have q_182 : gp_R s_164 25 7 = none := by rw [e_165, gz_nR q_156 (by decide)]; exact q_148
  have q_183 : gp_R s_164 25 8 = none := by rw [e_165, gz_nR q_156 (by decide)]; exact q_149
  have q_184 : gp_R s_164 25 9 = none := by rw [e_165, gz_nR q_156 (by decide)]; exact q_150
  have q_185 : ∀ k, k < 8 → gp_R s_164 4 k = some 25 := fun k hk => by rw [e_165, gz_nR q_156 (by decide)]; exact q_151 k hk
  have q_186 : gp_R s_164 51 6 = some 55 := by rw [e_165, gz_nR q_156 (by decide)]; exact q_152
  have q_187 : gp_R s_164 51 7 = some 56 := by rw [e_165, gz_nR q_156 (by decide)]; exact q_153
  have q_188 : gp_sh s_164 117 = (9, 10) := by rw [e_165, gz_nS q_156 (by decide)]; exact q_154
  have q_189 : gp_us s_164 = 606908 := by rw [e_165]; show gp_us s_130 + 1 = 606908; rw [q_155]; try rfl
  have q_190 : gp_sz s_164 = 121 := by rw [e_165]; exact congrArg Nat.succ q_156
  have q_191 : gp_I s_164 117 0 = 1 := by rw [e_165, gz_nI q_156 (by decide)]; exact q_157
  have q_192 : gp_sh s_164 118 = (101, 1) := by rw [e_165, gz_nS q_156 (by decide)]; exact q_158
  have q_193 : gp_L s_164 118 0 = 0#64 := by rw [e_165, gz_nL q_156 (by decide)]; exact q_159
  have q_194 : gp_R s_164 117 1 = some 118 := by rw [e_165, gz_nR q_156 (by decide)]; exact q_160
  have q_195 : gp_sh s_164 119 = (101, 1) := by rw [e_165, gz_nS q_156 (by decide)]; exact q_161
  have q_196 : gp_L s_164 119 0 = 0#64 := by rw [e_165, gz_nL q_156 (by decide)]; exact q_162
  have q_197 : gp_R s_164 117 2 = some 119 := by rw [e_165, gz_nR q_156 (by decide)]; exact q_163
  have q_198 : gp_sh s_164 120 = (100, 1) := by rw [e_165]; exact gz_nSs q_156
  have q_199 : gp_I s_164 120 0 = 0 := by rw [e_165]; exact gz_nIs q_156
  refine ⟨(by show (gp_sh s_164 117).1 = 9; rw [q_188]), ?_⟩
  refine ⟨rfl, ?_⟩
  intro s_200 e_201
  have hs_202 : xM z s_200 := by rw [e_201]; exact xI.wR hs_166 _ _ _
  have q_203 : gp_I s_200 1 2 = 0 := by rw [e_201]; exact q_167
  have q_204 : gp_I s_200 1 6 = 0 := by rw [e_201]; exact q_168
  have q_205 : gp_I s_200 1 7 = 1 := by rw [e_201]; exact q_169
  have q_206 : gp_I s_200 51 8 = 0 := by rw [e_201]; exact q_170
  have q_207 : gp_I s_200 57 1 = 0 := by rw [e_201]; exact q_171
  have q_208 : gp_I s_200 57 3 = 0 := by rw [e_201]; exact q_172
  have q_209 : gp_I s_200 6 4 = 0 := by rw [e_201]; exact q_173
  have q_210 : gp_R s_200 117 4 = none := by rw [e_201]; exact q_175
  have q_211 : gp_R s_200 117 5 = none := by rw [e_201]; exact q_176
  have q_212 : gp_R s_200 117 6 = none := by rw [e_201]; exact q_177
  have q_213 : gp_R s_200 117 7 = none := by rw [e_201]; exact q_178
  have q_214 : gp_R s_200 117 8 = none := by rw [e_201]; exact q_179
  have q_215 : gp_R s_200 117 9 = none := by rw [e_201]; exact q_180
  have q_216 : gp_R s_200 25 6 = none := by rw [e_201]; exact q_181
  have q_217 : gp_R s_200 25 7 = none := by rw [e_201]; exact q_182
  have q_218 : gp_R s_200 25 8 = none := by rw [e_201]; exact q_183
  have q_219 : gp_R s_200 25 9 = none := by rw [e_201]; exact q_184
  have q_220 : ∀ k, k < 8 → gp_R s_200 4 k = some 25 := by rw [e_201]; exact q_185
  have q_221 : gp_R s_200 51 6 = some 55 := by rw [e_201]; exact q_186
  have q_222 : gp_R s_200 51 7 = some 56 := by rw [e_201]; exact q_187
  have q_223 : gp_sh s_200 117 = (9, 10) := by rw [e_201]; exact q_188
  have q_224 : gp_us s_200 = 606908 := by rw [e_201]; exact q_189
  have q_225 : gp_sz s_200 = 121 := by rw [e_201]; exact q_190
  have q_226 : gp_I s_200 117 0 = 1 := by rw [e_201]; exact q_191
  have q_227 : gp_sh s_200 118 = (101, 1) := by rw [e_201]; exact q_192
  have q_228 : gp_L s_200 118 0 = 0#64 := by rw [e_201]; exact q_193
  have q_229 : gp_R s_200 117 1 = some 118 := by rw [e_201]; exact q_194
  have q_230 : gp_sh s_200 119 = (101, 1) := by rw [e_201]; exact q_195
  have q_231 : gp_L s_200 119 0 = 0#64 := by rw [e_201]; exact q_196
  have q_232 : gp_R s_200 117 2 = some 119 := by rw [e_201]; exact q_197
  have q_233 : gp_sh s_200 120 = (100, 1) := by rw [e_201]; exact q_198
  have q_234 : gp_I s_200 120 0 = 0 := by rw [e_201]; exact q_199
  have q_235 : gp_R s_200 117 3 = some 120 := by rw [e_201]; rfl
  refine ⟨by omega, ?_⟩
  refine ⟨by omega, ?_⟩
  try rw [show gp_sz s_200 = 121 from q_225]
  intro s_236 e_237
  have hs_238 : xM z s_236 := by rw [e_237]; exact xI.new hs_202 (by omega)
  have q_239 : gp_I s_236 1 2 = 0 := by rw [e_237, gz_nI q_225 (by decide)]; exact q_203
  have q_240 : gp_I s_236 1 6 = 0 := by rw [e_237, gz_nI q_225 (by decide)]; exact q_204
  have q_241 : gp_I s_236 1 7 = 1 := by rw [e_237, gz_nI q_225 (by decide)]; exact q_205
  have q_242 : gp_I s_236 51 8 = 0 := by rw [e_237, gz_nI q_225 (by decide)]; exact q_206
  have q_243 : gp_I s_236 57 1 = 0 := by rw [e_237, gz_nI q_225 (by decide)]; exact q_207
  have q_244 : gp_I s_236 57 3 = 0 := by rw [e_237, gz_nI q_225 (by decide)]; exact q_208
  have q_245 : gp_I s_236 6 4 = 0 := by rw [e_237, gz_nI q_225 (by decide)]; exact q_209
  have q_246 : gp_R s_236 117 4 = none := by rw [e_237, gz_nR q_225 (by decide)]; exact q_210
  have q_247 : gp_R s_236 117 5 = none := by rw [e_237, gz_nR q_225 (by decide)]; exact q_211
  have q_248 : gp_R s_236 117 6 = none := by rw [e_237, gz_nR q_225 (by decide)]; exact q_212
  have q_249 : gp_R s_236 117 7 = none := by rw [e_237, gz_nR q_225 (by decide)]; exact q_213
  have q_250 : gp_R s_236 117 8 = none := by rw [e_237, gz_nR q_225 (by decide)]; exact q_214
  have q_251 : gp_R s_236 117 9 = none := by rw [e_237, gz_nR q_225 (by decide)]; exact q_215
  have q_252 : gp_R s_236 25 6 = none := by rw [e_237, gz_nR q_225 (by decide)]; exact q_216
  have q_253 : gp_R s_236 25 7 = none := by rw [e_237, gz_nR q_225 (by decide)]; exact q_217
  have q_254 : gp_R s_236 25 8 = none := by rw [e_237, gz_nR q_225 (by decide)]; exact q_218
  have q_255 : gp_R s_236 25 9 = none := by rw [e_237, gz_nR q_225 (by decide)]; exact q_219
  have q_256 : ∀ k, k < 8 → gp_R s_236 4 k = some 25 := fun k hk => by rw [e_237, gz_nR q_225 (by decide)]; exact q_220 k hk
  have q_257 : gp_R s_236 51 6 = some 55 := by rw [e_237, gz_nR q_225 (by decide)]; exact q_221
  have q_258 : gp_R s_236 51 7 = some 56 := by rw [e_237, gz_nR q_225 (by decide)]; exact q_222
  have q_259 : gp_sh s_236 117 = (9, 10) := by rw [e_237, gz_nS q_225 (by decide)]; exact q_223
  have q_260 : gp_us s_236 = 606909 := by rw [e_237]; show gp_us s_200 + 1 = 606909; rw [q_224]; try rfl
  have q_261 : gp_sz s_236 = 122 := by rw [e_237]; exact congrArg Nat.succ q_225
  have q_262 : gp_I s_236 117 0 = 1 := by rw [e_237, gz_nI q_225 (by decide)]; exact q_226
  have q_263 : gp_sh s_236 118 = (101, 1) := by rw [e_237, gz_nS q_225 (by decide)]; exact q_227
  have q_264 : gp_L s_236 118 0 = 0#64 := by rw [e_237, gz_nL q_225 (by decide)]; exact q_228
  have q_265 : gp_R s_236 117 1 = some 118 := by rw [e_237, gz_nR q_225 (by decide)]; exact q_229
  have q_266 : gp_sh s_236 119 = (101, 1) := by rw [e_237, gz_nS q_225 (by decide)]; exact q_230
  have q_267 : gp_L s_236 119 0 = 0#64 := by rw [e_237, gz_nL q_225 (by decide)]; exact q_231
  have q_268 : gp_R s_236 117 2 = some 119 := by rw [e_237, gz_nR q_225 (by decide)]; exact q_232
  have q_269 : gp_sh s_236 120 = (100, 1) := by rw [e_237, gz_nS q_225 (by decide)]; exact q_233
  have q_270 : gp_I s_236 120 0 = 0 := by rw [e_237, gz_nI q_225 (by decide)]; exact q_234
  have q_271 : gp_R s_236 117 3 = some 120 := by rw [e_237, gz_nR q_225 (by decide)]; exact q_235
  have q_272 : gp_sh s_236 121 = (100, 1) := by rw [e_237]; exact gz_nSs q_225
  have q_273 : gp_I s_236 121 0 = 0 := by rw [e_237]; exact gz_nIs q_225
  refine ⟨(by show (gp_sh s_236 117).1 = 9; rw [q_259]), ?_⟩
  refine ⟨rfl, ?_⟩
  intro s_274 e_275
  have hs_276 : xM z s_274 := by rw [e_275]; exact xI.wR hs_238 _ _ _
  have q_277 : gp_I s_274 1 2 = 0 := by rw [e_275]; exact q_239
  have q_278 : gp_I s_274 1 6 = 0 := by rw [e_275]; exact q_240
  have q_279 : gp_I s_274 1 7 = 1 := by rw [e_275]; exact q_241
  have q_280 : gp_I s_274 51 8 = 0 := by rw [e_275]; exact q_242
  have q_281 : gp_I s_274 57 1 = 0 := by rw [e_275]; exact q_243
  have q_282 : gp_I s_274 57 3 = 0 := by rw [e_275]; exact q_244
  have q_283 : gp_I s_274 6 4 = 0 := by rw [e_275]; exact q_245
  have q_284 : gp_R s_274 117 5 = none := by rw [e_275]; exact q_247
  have q_285 : gp_R s_274 117 6 = none := by rw [e_275]; exact q_248
  have q_286 : gp_R s_274 117 7 = none := by rw [e_275]; exact q_249
  have q_287 : gp_R s_274 117 8 = none := by rw [e_275]; exact q_250
  have q_288 : gp_R s_274 117 9 = none := by rw [e_275]; exact q_251
  have q_289 : gp_R s_274 25 6 = none := by rw [e_275]; exact q_252
  have q_290 : gp_R s_274 25 7 = none := by rw [e_275]; exact q_253
  have q_291 : gp_R s_274 25 8 = none := by rw [e_275]; exact q_254
  have q_292 : gp_R s_274 25 9 = none := by rw [e_275]; exact q_255
  have q_293 : ∀ k, k < 8 → gp_R s_274 4 k = some 25 := by rw [e_275]; exact q_256
  have q_294 : gp_R s_274 51 6 = some 55 := by rw [e_275]; exact q_257
  have q_295 : gp_R s_274 51 7 = some 56 := by rw [e_275]; exact q_258
  have q_296 : gp_sh s_274 117 = (9, 10) := by rw [e_275]; exact q_259
  have q_297 : gp_us s_274 = 606909 := by rw [e_275]; exact q_260
  have q_298 : gp_sz s_274 = 122 := by rw [e_275]; exact q_261
  have q_299 : gp_I s_274 117 0 = 1 := by rw [e_275]; exact q_262
  have q_300 : gp_sh s_274 118 = (101, 1) := by rw [e_275]; exact q_263
  have q_301 : gp_L s_274 118 0 = 0#64 := by rw [e_275]; exact q_264
  have q_302 : gp_R s_274 117 1 = some 118 := by rw [e_275]; exact q_265
  have q_303 : gp_sh s_274 119 = (101, 1) := by rw [e_275]; exact q_266
  have q_304 : gp_L s_274 119 0 = 0#64 := by rw [e_275]; exact q_267
  have q_305 : gp_R s_274 117 2 = some 119 := by rw [e_275]; exact q_268
  have q_306 : gp_sh s_274 120 = (100, 1) := by rw [e_275]; exact q_269
  have q_307 : gp_I s_274 120 0 = 0 := by rw [e_275]; exact q_270
  have q_308 : gp_R s_274 117 3 = some 120 := by rw [e_275]; exact q_271
  have q_309 : gp_sh s_274 121 = (100, 1) := by rw [e_275]; exact q_272
  have q_310 : gp_I s_274 121 0 = 0 := by rw [e_275]; exact q_273
  have q_311 : gp_R s_274 117 4 = some 121 := by rw [e_275]; rfl
  refine ⟨by omega, ?_⟩
  refine ⟨by omega, ?_⟩
  try rw [show gp_sz s_274 = 122 from q_298]
  intro s_312 e_313
  have hs_314 : xM z s_312 := by rw [e_313]; exact xI.new hs_276 (by omega)
  have q_315 : gp_I s_312 1 2 = 0 := by rw [e_313, gz_nI q_298 (by decide)]; exact q_277
  have q_316 : gp_I s_312 1 6 = 0 := by rw [e_313, gz_nI q_298 (by decide)]; exact q_278
  have q_317 : gp_I s_312 1 7 = 1 := by rw [e_313, gz_nI q_298 (by decide)]; exact q_279
  have q_318 : gp_I s_312 51 8 = 0 := by rw [e_313, gz_nI q_298 (by decide)]; exact q_280
  have q_319 : gp_I s_312 57 1 = 0 := by rw [e_313, gz_nI q_298 (by decide)]; exact q_281
  have q_320 : gp_I s_312 57 3 = 0 := by rw [e_313, gz_nI q_298 (by decide)]; exact q_282
  have q_321 : gp_I s_312 6 4 = 0 := by rw [e_313, gz_nI q_298 (by decide)]; exact q_283
  have q_322 : gp_R s_312 117 5 = none := by rw [e_313, gz_nR q_298 (by decide)]; exact q_284
  have q_323 : gp_R s_312 117 6 = none := by rw [e_313, gz_nR q_298 (by decide)]; exact q_285
  have q_324 : gp_R s_312 117 7 = none := by rw [e_313, gz_nR q_298 (by decide)]; exact q_286
  have q_325 : gp_R s_312 117 8 = none := by rw [e_313, gz_nR q_298 (by decide)]; exact q_287
  have q_326 : gp_R s_312 117 9 = none := by rw [e_313, gz_nR q_298 (by decide)]; exact q_288
  have q_327 : gp_R s_312 25 6 = none := by rw [e_313, gz_nR q_298 (by decide)]; exact q_289
  have q_328 : gp_R s_312 25 7 = none := by rw [e_313, gz_nR q_298 (by decide)]; exact q_290
  have q_329 : gp_R s_312 25 8 = none := by rw [e_313, gz_nR q_298 (by decide)]; exact q_291
  have q_330 : gp_R s_312 25 9 = none := by rw [e_313, gz_nR q_298 (by decide)]; exact q_292
  have q_331 : ∀ k, k < 8 → gp_R s_312 4 k = some 25 := fun k hk => by rw [e_313, gz_nR q_298 (by decide)]; exact q_293 k hk
  have q_332 : gp_R s_312 51 6 = some 55 := by rw [e_313, gz_nR q_298 (by decide)]; exact q_294
  have q_333 : gp_R s_312 51 7 = some 56 := by rw [e_313, gz_nR q_298 (by decide)]; exact q_295
  have q_334 : gp_sh s_312 117 = (9, 10) := by rw [e_313, gz_nS q_298 (by decide)]; exact q_296
  have q_335 : gp_us s_312 = 606910 := by rw [e_313]; show gp_us s_274 + 1 = 606910; rw [q_297]; try rfl
  have q_336 : gp_sz s_312 = 123 := by rw [e_313]; exact congrArg Nat.succ q_298
  have q_337 : gp_I s_312 117 0 = 1 := by rw [e_313, gz_nI q_298 (by decide)]; exact q_299
  have q_338 : gp_sh s_312 118 = (101, 1) := by rw [e_313, gz_nS q_298 (by decide)]; exact q_300
  have q_339 : gp_L s_312 118 0 = 0#64 := by rw [e_313, gz_nL q_298 (by decide)]; exact q_301
  have q_340 : gp_R s_312 117 1 = some 118 := by rw [e_313, gz_nR q_298 (by decide)]; exact q_302
  have q_341 : gp_sh s_312 119 = (101, 1) := by rw [e_313, gz_nS q_298 (by decide)]; exact q_303
  have q_342 : gp_L s_312 119 0 = 0#64 := by rw [e_313, gz_nL q_298 (by decide)]; exact q_304
  have q_343 : gp_R s_312 117 2 = some 119 := by rw [e_313, gz_nR q_298 (by decide)]; exact q_305
  have q_344 : gp_sh s_312 120 = (100, 1) := by rw [e_313, gz_nS q_298 (by decide)]; exact q_306
  have q_345 : gp_I s_312 120 0 = 0 := by rw [e_313, gz_nI q_298 (by decide)]; exact q_307
  have q_346 : gp_R s_312 117 3 = some 120 := by rw [e_313, gz_nR q_298 (by decide)]; exact q_308
  have q_347 : gp_sh s_312 121 = (100, 1) := by rw [e_313, gz_nS q_298 (by decide)]; exact q_309
  have q_348 : gp_I s_312 121 0 = 0 := by rw [e_313, gz_nI q_298 (by decide)]; exact q_310
  have q_349 : gp_R s_312 117 4 = some 121 := by rw [e_313, gz_nR q_298 (by decide)]; exact q_311
  have q_350 : gp_sh s_312 122 = (100, 1) := by rw [e_313]; exact gz_nSs q_298
  have q_351 : gp_I s_312 122 0 = 0 := by rw [e_313]; exact gz_nIs q_298
  refine ⟨(by show (gp_sh s_312 117).1 = 9; rw [q_334]), ?_⟩
  refine ⟨rfl, ?_⟩
  intro s_352 e_353
  have hs_354 : xM z s_352 := by rw [e_353]; exact xI.wR hs_314 _ _ _
  have q_355 : gp_I s_352 1 2 = 0 := by rw [e_353]; exact q_315
  have q_356 : gp_I s_352 1 6 = 0 := by rw [e_353]; exact q_316
  have q_357 : gp_I s_352 1 7 = 1 := by rw [e_353]; exact q_317
  have q_358 : gp_I s_352 51 8 = 0 := by rw [e_353]; exact q_318
  have q_359 : gp_I s_352 57 1 = 0 := by rw [e_353]; exact q_319
  have q_360 : gp_I s_352 57 3 = 0 := by rw [e_353]; exact q_320
  have q_361 : gp_I s_352 6 4 = 0 := by rw [e_353]; exact q_321
  have q_362 : gp_R s_352 117 6 = none := by rw [e_353]; exact q_323
  have q_363 : gp_R s_352 117 7 = none := by rw [e_353]; exact q_324
  have q_364 : gp_R s_352 117 8 = none := by rw [e_353]; exact q_325
  have q_365 : gp_R s_352 117 9 = none := by rw [e_353]; exact q_326
  have q_366 : gp_R s_352 25 6 = none := by rw [e_353]; exact q_327
  have q_367 : gp_R s_352 25 7 = none := by rw [e_353]; exact q_328
  have q_368 : gp_R s_352 25 8 = none := by rw [e_353]; exact q_329
  have q_369 : gp_R s_352 25 9 = none := by rw [e_353]; exact q_330
  have q_370 : ∀ k, k < 8 → gp_R s_352 4 k = some 25 := by rw [e_353]; exact q_331
  have q_371 : gp_R s_352 51 6 = some 55 := by rw [e_353]; exact q_332
  have q_372 : gp_R s_352 51 7 = some 56 := by rw [e_353]; exact q_333
  have q_373 : gp_sh s_352 117 = (9, 10) := by rw [e_353]; exact q_334
  have q_374 : gp_us s_352 = 606910 := by rw [e_353]; exact q_335
  have q_375 : gp_sz s_352 = 123 := by rw [e_353]; exact q_336
  have q_376 : gp_I s_352 117 0 = 1 := by rw [e_353]; exact q_337
  have q_377 : gp_sh s_352 118 = (101, 1) := by rw [e_353]; exact q_338
  have q_378 : gp_L s_352 118 0 = 0#64 := by rw [e_353]; exact q_339
  have q_379 : gp_R s_352 117 1 = some 118 := by rw [e_353]; exact q_340
  have q_380 : gp_sh s_352 119 = (101, 1) := by rw [e_353]; exact q_341
  have q_381 : gp_L s_352 119 0 = 0#64 := by rw [e_353]; exact q_342
  have q_382 : gp_R s_352 117 2 = some 119 := by rw [e_353]; exact q_343
  have q_383 : gp_sh s_352 120 = (100, 1) := by rw [e_353]; exact q_344
  have q_384 : gp_I s_352 120 0 = 0 := by rw [e_353]; exact q_345
  have q_385 : gp_R s_352 117 3 = some 120 := by rw [e_353]; exact q_346
  have q_386 : gp_sh s_352 121 = (100, 1) := by rw [e_353]; exact q_347
  have q_387 : gp_I s_352 121 0 = 0 := by rw [e_353]; exact q_348
  have q_388 : gp_R s_352 117 4 = some 121 := by rw [e_353]; exact q_349
  have q_389 : gp_sh s_352 122 = (100, 1) := by rw [e_353]; exact q_350
  have q_390 : gp_I s_352 122 0 = 0 := by rw [e_353]; exact q_351
  have q_391 : gp_R s_352 117 5 = some 122 := by rw [e_353]; rfl
  exact k s_352 hs_354 (by omega) (by omega) (by omega) (by omega) (by omega) (by omega) (by omega) (by omega) (by omega) (by omega) (by omega) q_378 q_381 q_379 q_382 q_385 q_388 q_391 q_362 q_363 q_364 q_365 q_366 q_367 q_368 q_369 q_370 q_371 q_372 q_373 q_377 q_380 q_383 q_386 q_389 q_374 q_375
set_option maxRecDepth 100000 in
/-- Maker.pauses, the loop at 13 -/
theorem zx258_0_l13_0 {z : gH} {L d : Nat} {K : Option gV → gH → Prop}   (k : ∀ (t : gH), xM z t → (gp_I t 1 2 = 0) → (gp_I t 1 6 = 0) → (gp_I t 1 7 = 1) → (gp_I t 117 0 = 1) → (gp_I t 120 0 = 0) → (gp_I t 121 0 = 0) → (gp_I t 122 0 = 0) → (gp_I t 51 8 = 0) → (gp_I t 57 1 = 0) → (gp_I t 57 3 = 0) → (gp_I t 6 4 = 0) → (gp_L t 118 0 = 0#64) → (gp_L t 119 0 = 0#64) → (gp_R t 117 1 = some 118) → (gp_R t 117 2 = some 119) → (gp_R t 117 3 = some 120) → (gp_R t 117 4 = some 121) → (gp_R t 117 5 = some 122) → (gp_R t 117 6 = none) → (gp_R t 117 7 = none) → (gp_R t 117 8 = none) → (gp_R t 117 9 = none) → (gp_R t 25 6 = none) → (gp_R t 25 7 = none) → (gp_R t 25 8 = none) → (gp_R t 25 9 = none) → (∀ k, k < 8 → gp_R t 4 k = some 25) → (gp_R t 51 6 = some 55) → (gp_R t 51 7 = some 56) → (gp_sh t 117 = (9, 10)) → (gp_sh t 118 = (101, 1)) → (gp_sh t 119 = (101, 1)) → (gp_sh t 120 = (100, 1)) → (gp_sh t 121 = (100, 1)) → (gp_sh t 122 = (100, 1)) → (gp_us t = 606910) → (gp_sz t = 123) → K (some (gp_r (some 117))) t)  : ∀ (n : Nat) (v1 : Int) (v2 : Option Nat) (v3 : Int) (s : gH), xM z s → (2 - v3).toNat < n → (v1 = 0) → (v2 = some 117) → (v3 = 1) → (gp_I s 1 2 = 0) → (gp_I s 1 6 = 0) → (gp_I s 1 7 = 1) → (gp_I s 117 0 = 1) → (gp_I s 120 0 = 0) → (gp_I s 121 0 = 0) → (gp_I s 122 0 = 0) → (gp_I s 51 8 = 0) → (gp_I s 57 1 = 0) → (gp_I s 57 3 = 0) → (gp_I s 6 4 = 0) → (gp_L s 118 0 = 0#64) → (gp_L s 119 0 = 0#64) → (gp_R s 117 1 = some 118) → (gp_R s 117 2 = some 119) → (gp_R s 117 3 = some 120) → (gp_R s 117 4 = some 121) → (gp_R s 117 5 = some 122) → (gp_R s 117 6 = none) → (gp_R s 117 7 = none) → (gp_R s 117 8 = none) → (gp_R s 117 9 = none) → (gp_R s 25 6 = none) → (gp_R s 25 7 = none) → (gp_R s 25 8 = none) → (gp_R s 25 9 = none) → (∀ k, k < 8 → gp_R s 4 k = some 25) → (gp_R s 51 6 = some 55) → (gp_R s 51 7 = some 56) → (gp_sh s 117 = (9, 10)) → (gp_sh s 118 = (101, 1)) → (gp_sh s 119 = (101, 1)) → (gp_sh s 120 = (100, 1)) → (gp_sh s 121 = (100, 1)) → (gp_sh s 122 = (100, 1)) → (gp_us s = 606910) → (gp_sz s = 123) → gs_E L (d + 1) 258 13 [gp_r (some 20), gp_i v1, gp_r v2, gp_i v3] [] s K := by
  intro n
  induction n with
  | zero => intro v1 v2 v3 s hs hm i0 i1 i2 i3 i4 i5 i6 i7 i8 i9 i10 i11 i12 i13 i14 i15 i16 i17 i18 i19 i20 i21 i22 i23 i24 i25 i26 i27 i28 i29 i30 i31 i32 i33 i34 i35 i36 i37 i38 i39; exact absurd hm (Nat.not_lt_zero _)
  | succ n ih =>
    intro v1 v2 v3 s hs hm i0 i1 i2 i3 i4 i5 i6 i7 i8 i9 i10 i11 i12 i13 i14 i15 i16 i17 i18 i19 i20 i21 i22 i23 i24 i25 i26 i27 i28 i29 i30 i31 i32 i33 i34 i35 i36 i37 i38 i39
    subst i0
    subst i1
    subst i2
    refine s_258_13 _ _ _ ?_
    refine ⟨fun h_1 => ?_, fun h_1 => ?_⟩
    · exact k s hs (by omega) (by omega) (by omega) (by omega) (by omega) (by omega) (by omega) (by omega) (by omega) (by omega) (by omega) i14 i15 i16 i17 i18 i19 i20 i21 i22 i23 i24 i25 i26 i27 i28 i29 i30 i31 i32 i33 i34 i35 i36 i37 i38 i39
    · exfalso; omega
set_option maxRecDepth 100000 in
/-- Maker.pauses [(0, 0)] -/
theorem zx258_0 {z : gH} {L d : Nat} {K : Option gV → gH → Prop} {s : gH}  (hs : xM z s)  (q0 : gp_I s 1 2 = 0) (q1 : gp_I s 1 6 = 0) (q2 : gp_I s 1 7 = 1) (q3 : gp_I s 51 8 = 0) (q4 : gp_I s 57 1 = 0) (q5 : gp_I s 57 3 = 0) (q6 : gp_I s 6 4 = 0) (q7 : gp_R s 25 6 = none) (q8 : gp_R s 25 7 = none) (q9 : gp_R s 25 8 = none) (q10 : gp_R s 25 9 = none) (q11 : ∀ k, k < 8 → gp_R s 4 k = some 25) (q12 : gp_R s 51 6 = some 55) (q13 : gp_R s 51 7 = some 56) (q14 : gp_us s = 606895) (q15 : gp_sz s = 117) (k : ∀ (t : gH), xM z t → (gp_I t 1 2 = 0) → (gp_I t 1 6 = 0) → (gp_I t 1 7 = 1) → (gp_I t 117 0 = 1) → (gp_I t 120 0 = 0) → (gp_I t 121 0 = 0) → (gp_I t 122 0 = 0) → (gp_I t 51 8 = 0) → (gp_I t 57 1 = 0) → (gp_I t 57 3 = 0) → (gp_I t 6 4 = 0) → (gp_L t 118 0 = 0#64) → (gp_L t 119 0 = 0#64) → (gp_R t 117 1 = some 118) → (gp_R t 117 2 = some 119) → (gp_R t 117 3 = some 120) → (gp_R t 117 4 = some 121) → (gp_R t 117 5 = some 122) → (gp_R t 117 6 = none) → (gp_R t 117 7 = none) → (gp_R t 117 8 = none) → (gp_R t 117 9 = none) → (gp_R t 25 6 = none) → (gp_R t 25 7 = none) → (gp_R t 25 8 = none) → (gp_R t 25 9 = none) → (∀ k, k < 8 → gp_R t 4 k = some 25) → (gp_R t 51 6 = some 55) → (gp_R t 51 7 = some 56) → (gp_sh t 117 = (9, 10)) → (gp_sh t 118 = (101, 1)) → (gp_sh t 119 = (101, 1)) → (gp_sh t 120 = (100, 1)) → (gp_sh t 121 = (100, 1)) → (gp_sh t 122 = (100, 1)) → (gp_us t = 606910) → (gp_sz t = 123) → K (some (gp_r (some 117))) t) : gs_C L (d + 1) 258 4 [gp_r (some 20), gp_i 0] s K := by
  refine s_258_e _ ?_
  refine ⟨by omega, ?_⟩
  try rw [show gp_sz s = 117 from q15]
  intro s_1 e_2
  have hs_3 : xM z s_1 := by rw [e_2]; exact xI.new hs (by omega)
  have q_4 : gp_I s_1 1 2 = 0 := by rw [e_2, gz_nI q15 (by decide)]; exact q0
  have q_5 : gp_I s_1 1 6 = 0 := by rw [e_2, gz_nI q15 (by decide)]; exact q1
  have q_6 : gp_I s_1 1 7 = 1 := by rw [e_2, gz_nI q15 (by decide)]; exact q2
  have q_7 : gp_I s_1 51 8 = 0 := by rw [e_2, gz_nI q15 (by decide)]; exact q3
  have q_8 : gp_I s_1 57 1 = 0 := by rw [e_2, gz_nI q15 (by decide)]; exact q4
  have q_9 : gp_I s_1 57 3 = 0 := by rw [e_2, gz_nI q15 (by decide)]; exact q5
  have q_10 : gp_I s_1 6 4 = 0 := by rw [e_2, gz_nI q15 (by decide)]; exact q6
  have q_11 : gp_R s_1 25 6 = none := by rw [e_2, gz_nR q15 (by decide)]; exact q7
  have q_12 : gp_R s_1 25 7 = none := by rw [e_2, gz_nR q15 (by decide)]; exact q8
  have q_13 : gp_R s_1 25 8 = none := by rw [e_2, gz_nR q15 (by decide)]; exact q9
  have q_14 : gp_R s_1 25 9 = none := by rw [e_2, gz_nR q15 (by decide)]; exact q10
  have q_15 : ∀ k, k < 8 → gp_R s_1 4 k = some 25 := fun k hk => by rw [e_2, gz_nR q15 (by decide)]; exact q11 k hk
  have q_16 : gp_R s_1 51 6 = some 55 := by rw [e_2, gz_nR q15 (by decide)]; exact q12
  have q_17 : gp_R s_1 51 7 = some 56 := by rw [e_2, gz_nR q15 (by decide)]; exact q13
  have q_18 : gp_us s_1 = 606905 := by rw [e_2]; show gp_us s + 10 = 606905; rw [q14]; try rfl
  have q_19 : gp_sz s_1 = 118 := by rw [e_2]; exact congrArg Nat.succ q15
  have q_20 : gp_sh s_1 117 = (9, 10) := by rw [e_2]; exact gz_nSs q15
  have q_21 : gp_I s_1 117 0 = 0 := by rw [e_2]; exact gz_nIs q15
  have q_22 : gp_R s_1 117 1 = none := by rw [e_2]; exact gz_nRs q15
  have q_23 : gp_R s_1 117 2 = none := by rw [e_2]; exact gz_nRs q15
  have q_24 : gp_R s_1 117 3 = none := by rw [e_2]; exact gz_nRs q15
  have q_25 : gp_R s_1 117 4 = none := by rw [e_2]; exact gz_nRs q15
  have q_26 : gp_R s_1 117 5 = none := by rw [e_2]; exact gz_nRs q15
  have q_27 : gp_R s_1 117 6 = none := by rw [e_2]; exact gz_nRs q15
  have q_28 : gp_R s_1 117 7 = none := by rw [e_2]; exact gz_nRs q15
  have q_29 : gp_R s_1 117 8 = none := by rw [e_2]; exact gz_nRs q15
  have q_30 : gp_R s_1 117 9 = none := by rw [e_2]; exact gz_nRs q15
  have w_31 := gz_w (0 + 1)
  have e_32 : gp_wr (0 + 1) = 1 := by omega
  try rw [e_32]
  refine zx2304_0 hs_3 (by omega) (by omega) (by omega) (by omega) (by omega) (by omega) (by omega) (by omega) q_22 q_23 q_24 q_25 q_26 q_27 q_28 q_29 q_30 q_11 q_12 q_13 q_14 q_15 q_16 q_17 q_20 q_18 q_19 (fun s_33 hs_34 q_35 q_36 q_37 q_38 q_39 q_40 q_41 q_42 q_43 q_44 q_45 q_46 q_47 q_48 q_49 q_50 q_51 q_52 q_53 q_54 q_55 q_56 q_57 q_58 q_59 q_60 q_61 q_62 q_63 q_64 q_65 q_66 q_67 q_68 q_69 q_70 q_71 => ⟨rfl, ?_⟩)
  exact zx258_0_l13_0 k _ _ _ _ s_33 hs_34 (Nat.lt_succ_self _) (by omega) rfl (by omega) (by omega) (by omega) (by omega) (by omega) (by omega) (by omega) (by omega) (by omega) (by omega) (by omega) (by omega) q_46 q_47 q_48 q_49 q_50 q_51 q_52 q_53 q_54 q_55 q_56 q_57 q_58 q_59 q_60 q_61 q_62 q_63 q_64 q_65 q_66 q_67 q_68 q_69 q_70 q_71
set_option maxRecDepth 100000 in
/-- GatheredPoints.hold [(0, 7), 117] -/
theorem zx2854_0 {z : gH} {L d : Nat} {K : Option gV → gH → Prop} {s : gH} (p0 : Int) (hs : xM z s) (h_p0 : 0 ≤ p0 ∧ p0 ≤ 7) (q0 : gp_I s 1 2 = 0) (q1 : gp_I s 1 6 = 0) (q2 : gp_I s 1 7 = 1) (q3 : gp_I s 117 0 = 1) (q4 : gp_I s 120 0 = 0) (q5 : gp_I s 121 0 = 0) (q6 : gp_I s 122 0 = 0) (q7 : gp_I s 51 8 = 0) (q8 : gp_I s 57 1 = 0) (q9 : gp_I s 57 3 = 0) (q10 : gp_I s 6 4 = 0) (q11 : gp_L s 118 0 = 0#64) (q12 : gp_L s 119 0 = 0#64) (q13 : gp_R s 117 1 = some 118) (q14 : gp_R s 117 2 = some 119) (q15 : gp_R s 117 3 = some 120) (q16 : gp_R s 117 4 = some 121) (q17 : gp_R s 117 5 = some 122) (q18 : gp_R s 117 6 = none) (q19 : gp_R s 117 7 = none) (q20 : gp_R s 117 8 = none) (q21 : gp_R s 117 9 = none) (q22 : gp_R s 25 6 = none) (q23 : gp_R s 25 7 = none) (q24 : gp_R s 25 8 = none) (q25 : gp_R s 25 9 = none) (q26 : ∀ k, k < 8 → gp_R s 4 k = some 25) (q27 : gp_R s 51 6 = some 55) (q28 : gp_R s 51 7 = some 56) (q29 : gp_sh s 117 = (9, 10)) (q30 : gp_sh s 118 = (101, 1)) (q31 : gp_sh s 119 = (101, 1)) (q32 : gp_sh s 120 = (100, 1)) (q33 : gp_sh s 121 = (100, 1)) (q34 : gp_sh s 122 = (100, 1)) (q35 : gp_us s = 606910) (q36 : gp_sz s = 123) (k : ∀ (t : gH), xM z t → (gp_I t 1 2 = 0) → (gp_I t 1 6 = 0) → (gp_I t 1 7 = 1) → (gp_I t 117 0 = 1) → (gp_I t 120 0 = 0) → (gp_I t 121 0 = 0) → (gp_I t 122 0 = 0) → (gp_I t 51 8 = 0) → (gp_I t 57 1 = 0) → (gp_I t 57 3 = 0) → (gp_I t 6 4 = 0) → (gp_L t 118 0 = 0#64) → (gp_L t 119 0 = 0#64) → (gp_R t 117 1 = some 118) → (gp_R t 117 2 = some 119) → (gp_R t 117 3 = some 120) → (gp_R t 117 4 = some 121) → (gp_R t 117 5 = some 122) → (gp_R t 117 6 = none) → (gp_R t 117 7 = none) → (gp_R t 117 8 = none) → (gp_R t 117 9 = none) → (gp_R t 25 6 = none) → (gp_R t 25 7 = none) → (gp_R t 25 8 = none) → (gp_R t 25 9 = none) → (gp_R t 51 6 = some 55) → (gp_R t 51 7 = some 56) → (gp_sh t 117 = (9, 10)) → (gp_sh t 118 = (101, 1)) → (gp_sh t 119 = (101, 1)) → (gp_sh t 120 = (100, 1)) → (gp_sh t 121 = (100, 1)) → (gp_sh t 122 = (100, 1)) → (gp_us t = 606910) → (gp_sz t = 123) → K (some (gp_i 1)) t) : gs_C L d 2854 3 [gp_r (some 1), gp_i p0, gp_r (some 117)] s K := by
  refine s_2854_e _ _ ?_
  refine ⟨117, rfl, ?_⟩
  refine ⟨by omega, ?_⟩
  refine ⟨(by show (gp_sh s 117).1 = 9; rw [q29]), ?_⟩
  intro s_1 e_2
  have hs_3 : xM z s_1 := by rw [e_2]; exact xI.wR hs _ _ _
  have q_4 : gp_I s_1 1 2 = 0 := by rw [e_2]; exact q0
  have q_5 : gp_I s_1 1 6 = 0 := by rw [e_2]; exact q1
  have q_6 : gp_I s_1 1 7 = 1 := by rw [e_2]; exact q2
  have q_7 : gp_I s_1 117 0 = 1 := by rw [e_2]; exact q3
  have q_8 : gp_I s_1 120 0 = 0 := by rw [e_2]; exact q4
  have q_9 : gp_I s_1 121 0 = 0 := by rw [e_2]; exact q5
  have q_10 : gp_I s_1 122 0 = 0 := by rw [e_2]; exact q6
  have q_11 : gp_I s_1 51 8 = 0 := by rw [e_2]; exact q7
  have q_12 : gp_I s_1 57 1 = 0 := by rw [e_2]; exact q8
  have q_13 : gp_I s_1 57 3 = 0 := by rw [e_2]; exact q9
  have q_14 : gp_I s_1 6 4 = 0 := by rw [e_2]; exact q10
  have q_15 : gp_L s_1 118 0 = 0#64 := by rw [e_2]; exact q11
  have q_16 : gp_L s_1 119 0 = 0#64 := by rw [e_2]; exact q12
  have q_17 : gp_R s_1 117 1 = some 118 := by rw [e_2]; exact q13
  have q_18 : gp_R s_1 117 2 = some 119 := by rw [e_2]; exact q14
  have q_19 : gp_R s_1 117 3 = some 120 := by rw [e_2]; exact q15
  have q_20 : gp_R s_1 117 4 = some 121 := by rw [e_2]; exact q16
  have q_21 : gp_R s_1 117 5 = some 122 := by rw [e_2]; exact q17
  have q_22 : gp_R s_1 117 6 = none := by rw [e_2]; exact q18
  have q_23 : gp_R s_1 117 7 = none := by rw [e_2]; exact q19
  have q_24 : gp_R s_1 117 8 = none := by rw [e_2]; exact q20
  have q_25 : gp_R s_1 117 9 = none := by rw [e_2]; exact q21
  have q_26 : gp_R s_1 25 6 = none := by rw [e_2]; exact q22
  have q_27 : gp_R s_1 25 7 = none := by rw [e_2]; exact q23
  have q_28 : gp_R s_1 25 8 = none := by rw [e_2]; exact q24
  have q_29 : gp_R s_1 25 9 = none := by rw [e_2]; exact q25
  have q_30 : gp_R s_1 51 6 = some 55 := by rw [e_2]; exact q27
  have q_31 : gp_R s_1 51 7 = some 56 := by rw [e_2]; exact q28
  have q_32 : gp_sh s_1 117 = (9, 10) := by rw [e_2]; exact q29
  have q_33 : gp_sh s_1 118 = (101, 1) := by rw [e_2]; exact q30
  have q_34 : gp_sh s_1 119 = (101, 1) := by rw [e_2]; exact q31
  have q_35 : gp_sh s_1 120 = (100, 1) := by rw [e_2]; exact q32
  have q_36 : gp_sh s_1 121 = (100, 1) := by rw [e_2]; exact q33
  have q_37 : gp_sh s_1 122 = (100, 1) := by rw [e_2]; exact q34
  have q_38 : gp_us s_1 = 606910 := by rw [e_2]; exact q35
  have q_39 : gp_sz s_1 = 123 := by rw [e_2]; exact q36
  refine ⟨(by show (gp_sh s_1 117).1 = 9; rw [q_32]), ?_⟩
  try rw [show gp_I s_1 117 0 = 1 from q_7]
  exact k s_1 hs_3 (by omega) (by omega) (by omega) (by omega) (by omega) (by omega) (by omega) (by omega) (by omega) (by omega) (by omega) q_15 q_16 q_17 q_18 q_19 q_20 q_21 q_22 q_23 q_24 q_25 q_26 q_27 q_28 q_29 q_30 q_31 q_32 q_33 q_34 q_35 q_36 q_37 q_38 q_39
set_option maxRecDepth 100000 in
/-- GatheredPoints.waits [(0, 7), (0, 0)] -/
theorem zx2821_4 {z : gH} {L d : Nat} {K : Option gV → gH → Prop} {s : gH} (p0 : Int) (hs : xM z s) (h_p0 : 0 ≤ p0 ∧ p0 ≤ 7) (q0 : gp_I s 1 2 = 0) (q1 : gp_I s 1 6 = 0) (q2 : gp_I s 1 7 = 1) (q3 : gp_I s 51 8 = 0) (q4 : gp_I s 57 1 = 0) (q5 : gp_I s 57 3 = 0) (q6 : gp_I s 6 4 = 0) (q7 : gp_R s 25 6 = none) (q8 : gp_R s 25 7 = none) (q9 : gp_R s 25 8 = none) (q10 : gp_R s 25 9 = none) (q11 : ∀ k, k < 8 → gp_R s 4 k = some 25) (q12 : gp_R s 51 6 = some 55) (q13 : gp_R s 51 7 = some 56) (q14 : gp_us s = 606895) (q15 : gp_sz s = 117) (k : ∀ (t : gH), xM z t → (gp_I t 1 2 = 0) → (gp_I t 1 6 = 0) → (gp_I t 1 7 = 1) → (gp_I t 117 0 = 1) → (gp_I t 120 0 = 0) → (gp_I t 121 0 = 0) → (gp_I t 122 0 = 0) → (gp_I t 51 8 = 0) → (gp_I t 57 1 = 0) → (gp_I t 57 3 = 0) → (gp_I t 6 4 = 0) → (gp_L t 118 0 = 0#64) → (gp_L t 119 0 = 0#64) → (gp_R t 117 1 = some 118) → (gp_R t 117 2 = some 119) → (gp_R t 117 3 = some 120) → (gp_R t 117 4 = some 121) → (gp_R t 117 5 = some 122) → (gp_R t 117 6 = none) → (gp_R t 117 7 = none) → (gp_R t 117 8 = none) → (gp_R t 117 9 = none) → (gp_R t 25 6 = none) → (gp_R t 25 7 = none) → (gp_R t 25 8 = none) → (gp_R t 25 9 = none) → (gp_R t 51 6 = some 55) → (gp_R t 51 7 = some 56) → (gp_sh t 117 = (9, 10)) → (gp_sh t 118 = (101, 1)) → (gp_sh t 119 = (101, 1)) → (gp_sh t 120 = (100, 1)) → (gp_sh t 121 = (100, 1)) → (gp_sh t 122 = (100, 1)) → (gp_us t = 606910) → (gp_sz t = 123) → K (some (gp_i 1)) t) : gs_C L (d + 2) 2821 3 [gp_r (some 1), gp_i p0, gp_i 0] s K := by
  refine s_2821_e _ _ ?_
  refine zx2856_2 _ hs (by omega) (by omega) (by omega) (by omega) (by omega) (by omega) (by omega) q7 q8 q9 q10 q11 q12 q13 (⟨_, rfl, ?_⟩)
  refine ⟨fun h_1 => ?_, fun h_1 => ?_⟩
  · refine ⟨fun h_2 => ?_, fun h_2 => ?_⟩
    · exfalso; omega
    · refine ⟨fun h_3 => ?_, fun h_3 => ?_⟩
      · exfalso; omega
      · refine zx258_0 hs (by omega) (by omega) (by omega) (by omega) (by omega) (by omega) (by omega) q7 q8 q9 q10 q11 q12 q13 q14 q15 (fun s_5 hs_6 q_7 q_8 q_9 q_10 q_11 q_12 q_13 q_14 q_15 q_16 q_17 q_18 q_19 q_20 q_21 q_22 q_23 q_24 q_25 q_26 q_27 q_28 q_29 q_30 q_31 q_32 q_33 q_34 q_35 q_36 q_37 q_38 q_39 q_40 q_41 q_42 q_43 => ⟨_, rfl, ?_⟩)
        refine zx2854_0 _ hs_6 (by omega) (by omega) (by omega) (by omega) (by omega) (by omega) (by omega) (by omega) (by omega) (by omega) (by omega) (by omega) q_18 q_19 q_20 q_21 q_22 q_23 q_24 q_25 q_26 q_27 q_28 q_29 q_30 q_31 q_32 q_33 q_34 q_35 q_36 q_37 q_38 q_39 q_40 q_41 q_42 q_43 (fun s_44 hs_45 q_46 q_47 q_48 q_49 q_50 q_51 q_52 q_53 q_54 q_55 q_56 q_57 q_58 q_59 q_60 q_61 q_62 q_63 q_64 q_65 q_66 q_67 q_68 q_69 q_70 q_71 q_72 q_73 q_74 q_75 q_76 q_77 q_78 q_79 q_80 q_81 => ⟨_, rfl, ?_⟩)
        exact k s_44 hs_45 (by omega) (by omega) (by omega) (by omega) (by omega) (by omega) (by omega) (by omega) (by omega) (by omega) (by omega) q_57 q_58 q_59 q_60 q_61 q_62 q_63 q_64 q_65 q_66 q_67 q_68 q_69 q_70 q_71 q_72 q_73 q_74 q_75 q_76 q_77 q_78 q_79 q_80 q_81
  · exfalso; omega
set_option maxRecDepth 100000 in
/-- Table.<init> [117, (2, 2)] -/
theorem zx2304_1 {z : gH} {L d : Nat} {K : Option gV → gH → Prop} {s : gH}  (hs : xM z s)  (q0 : gp_I s 1 2 = 0) (q1 : gp_I s 1 6 = 0) (q2 : gp_I s 1 7 = 1) (q3 : gp_I s 117 0 = 0) (q4 : gp_I s 51 8 = 0) (q5 : gp_I s 57 1 = 0) (q6 : gp_I s 57 3 = 0) (q7 : gp_I s 6 4 = 0) (q8 : gp_R s 117 1 = none) (q9 : gp_R s 117 2 = none) (q10 : gp_R s 117 3 = none) (q11 : gp_R s 117 4 = none) (q12 : gp_R s 117 5 = none) (q13 : gp_R s 117 6 = none) (q14 : gp_R s 117 7 = none) (q15 : gp_R s 117 8 = none) (q16 : gp_R s 117 9 = none) (q17 : gp_R s 25 6 = none) (q18 : gp_R s 25 7 = none) (q19 : gp_R s 25 8 = none) (q20 : gp_R s 25 9 = none) (q21 : ∀ k, k < 8 → gp_R s 4 k = some 25) (q22 : gp_R s 51 6 = some 55) (q23 : gp_R s 51 7 = some 56) (q24 : gp_sh s 117 = (9, 10)) (q25 : gp_us s = 606905) (q26 : gp_sz s = 118) (k : ∀ (t : gH), xM z t → (gp_I t 1 2 = 0) → (gp_I t 1 6 = 0) → (gp_I t 1 7 = 1) → (gp_I t 117 0 = 2) → (gp_I t 51 8 = 0) → (gp_I t 57 1 = 0) → (gp_I t 57 3 = 0) → (gp_I t 6 4 = 0) → (gp_R t 117 1 = some 118) → (gp_R t 117 2 = some 119) → (gp_R t 117 3 = some 120) → (gp_R t 117 4 = some 121) → (gp_R t 117 5 = some 122) → (gp_R t 117 6 = none) → (gp_R t 117 7 = none) → (gp_R t 117 8 = none) → (gp_R t 117 9 = none) → (gp_R t 25 6 = none) → (gp_R t 25 7 = none) → (gp_R t 25 8 = none) → (gp_R t 25 9 = none) → (∀ k, k < 8 → gp_R t 4 k = some 25) → (gp_R t 51 6 = some 55) → (gp_R t 51 7 = some 56) → (gp_sh t 117 = (9, 10)) → (gp_sh t 118 = (101, 2)) → (gp_sh t 119 = (101, 2)) → (gp_sh t 120 = (100, 2)) → (gp_sh t 121 = (100, 2)) → (gp_sh t 122 = (100, 2)) → (gp_us t = 606915) → (gp_sz t = 123) → K none t) : gs_C L d 2304 2 [gp_r (some 117), gp_i 2] s K := by
  refine s_2304_e _ _ ?_
  refine ⟨117, rfl, ?_⟩
  refine ⟨(by show (gp_sh s 117).1 = 9; rw [q24]), ?_⟩
  intro s_1 e_2
  have hs_3 : xM z s_1 := by rw [e_2]; exact xI.wId hs _ _ _ (by omega)
  have q_4 : gp_I s_1 1 2 = 0 := by rw [e_2]; exact q0
  have q_5 : gp_I s_1 1 6 = 0 := by rw [e_2]; exact q1
  have q_6 : gp_I s_1 1 7 = 1 := by rw [e_2]; exact q2
  have q_7 : gp_I s_1 51 8 = 0 := by rw [e_2]; exact q4
  have q_8 : gp_I s_1 57 1 = 0 := by rw [e_2]; exact q5
  have q_9 : gp_I s_1 57 3 = 0 := by rw [e_2]; exact q6
  have q_10 : gp_I s_1 6 4 = 0 := by rw [e_2]; exact q7
  have q_11 : gp_R s_1 117 1 = none := by rw [e_2]; exact q8
  have q_12 : gp_R s_1 117 2 = none := by rw [e_2]; exact q9
  have q_13 : gp_R s_1 117 3 = none := by rw [e_2]; exact q10
  have q_14 : gp_R s_1 117 4 = none := by rw [e_2]; exact q11
  have q_15 : gp_R s_1 117 5 = none := by rw [e_2]; exact q12
  have q_16 : gp_R s_1 117 6 = none := by rw [e_2]; exact q13
  have q_17 : gp_R s_1 117 7 = none := by rw [e_2]; exact q14
  have q_18 : gp_R s_1 117 8 = none := by rw [e_2]; exact q15
  have q_19 : gp_R s_1 117 9 = none := by rw [e_2]; exact q16
  have q_20 : gp_R s_1 25 6 = none := by rw [e_2]; exact q17
  have q_21 : gp_R s_1 25 7 = none := by rw [e_2]; exact q18
  have q_22 : gp_R s_1 25 8 = none := by rw [e_2]; exact q19
  have q_23 : gp_R s_1 25 9 = none := by rw [e_2]; exact q20
  have q_24 : ∀ k, k < 8 → gp_R s_1 4 k = some 25 := by rw [e_2]; exact q21
  have q_25 : gp_R s_1 51 6 = some 55 := by rw [e_2]; exact q22
  have q_26 : gp_R s_1 51 7 = some 56 := by rw [e_2]; exact q23
  have q_27 : gp_sh s_1 117 = (9, 10) := by rw [e_2]; exact q24
  have q_28 : gp_us s_1 = 606905 := by rw [e_2]; exact q25
  have q_29 : gp_sz s_1 = 118 := by rw [e_2]; exact q26
  have q_30 : gp_I s_1 117 0 = 2 := by rw [e_2]; rfl
  refine ⟨by omega, ?_⟩
  refine ⟨by omega, ?_⟩
  try rw [show gp_sz s_1 = 118 from q_29]
  intro s_32 e_33
  have hs_34 : xM z s_32 := by rw [e_33]; exact xI.new hs_3 (by omega)
  have q_35 : gp_I s_32 1 2 = 0 := by rw [e_33, gz_nI q_29 (by decide)]; exact q_4
  have q_36 : gp_I s_32 1 6 = 0 := by rw [e_33, gz_nI q_29 (by decide)]; exact q_5
  have q_37 : gp_I s_32 1 7 = 1 := by rw [e_33, gz_nI q_29 (by decide)]; exact q_6
  have q_38 : gp_I s_32 51 8 = 0 := by rw [e_33, gz_nI q_29 (by decide)]; exact q_7
  have q_39 : gp_I s_32 57 1 = 0 := by rw [e_33, gz_nI q_29 (by decide)]; exact q_8
  have q_40 : gp_I s_32 57 3 = 0 := by rw [e_33, gz_nI q_29 (by decide)]; exact q_9
  have q_41 : gp_I s_32 6 4 = 0 := by rw [e_33, gz_nI q_29 (by decide)]; exact q_10
  have q_42 : gp_R s_32 117 1 = none := by rw [e_33, gz_nR q_29 (by decide)]; exact q_11
  have q_43 : gp_R s_32 117 2 = none := by rw [e_33, gz_nR q_29 (by decide)]; exact q_12
  have q_44 : gp_R s_32 117 3 = none := by rw [e_33, gz_nR q_29 (by decide)]; exact q_13
  have q_45 : gp_R s_32 117 4 = none := by rw [e_33, gz_nR q_29 (by decide)]; exact q_14
  have q_46 : gp_R s_32 117 5 = none := by rw [e_33, gz_nR q_29 (by decide)]; exact q_15
  have q_47 : gp_R s_32 117 6 = none := by rw [e_33, gz_nR q_29 (by decide)]; exact q_16
  have q_48 : gp_R s_32 117 7 = none := by rw [e_33, gz_nR q_29 (by decide)]; exact q_17
  have q_49 : gp_R s_32 117 8 = none := by rw [e_33, gz_nR q_29 (by decide)]; exact q_18
  have q_50 : gp_R s_32 117 9 = none := by rw [e_33, gz_nR q_29 (by decide)]; exact q_19
  have q_51 : gp_R s_32 25 6 = none := by rw [e_33, gz_nR q_29 (by decide)]; exact q_20
  have q_52 : gp_R s_32 25 7 = none := by rw [e_33, gz_nR q_29 (by decide)]; exact q_21
  have q_53 : gp_R s_32 25 8 = none := by rw [e_33, gz_nR q_29 (by decide)]; exact q_22
  have q_54 : gp_R s_32 25 9 = none := by rw [e_33, gz_nR q_29 (by decide)]; exact q_23
  have q_55 : ∀ k, k < 8 → gp_R s_32 4 k = some 25 := fun k hk => by rw [e_33, gz_nR q_29 (by decide)]; exact q_24 k hk
  have q_56 : gp_R s_32 51 6 = some 55 := by rw [e_33, gz_nR q_29 (by decide)]; exact q_25
  have q_57 : gp_R s_32 51 7 = some 56 := by rw [e_33, gz_nR q_29 (by decide)]; exact q_26
  have q_58 : gp_sh s_32 117 = (9, 10) := by rw [e_33, gz_nS q_29 (by decide)]; exact q_27
  have q_59 : gp_us s_32 = 606907 := by rw [e_33]; show gp_us s_1 + 2 = 606907; rw [q_28]; try rfl
  have q_60 : gp_sz s_32 = 119 := by rw [e_33]; exact congrArg Nat.succ q_29
  have q_61 : gp_I s_32 117 0 = 2 := by rw [e_33, gz_nI q_29 (by decide)]; exact q_30
  have q_62 : gp_sh s_32 118 = (101, 2) := by rw [e_33]; exact gz_nSs q_29
  refine ⟨(by show (gp_sh s_32 117).1 = 9; rw [q_58]), ?_⟩
  refine ⟨rfl, ?_⟩
  intro s_63 e_64
  have hs_65 : xM z s_63 := by rw [e_64]; exact xI.wR hs_34 _ _ _
  have q_66 : gp_I s_63 1 2 = 0 := by rw [e_64]; exact q_35
  have q_67 : gp_I s_63 1 6 = 0 := by rw [e_64]; exact q_36
  have q_68 : gp_I s_63 1 7 = 1 := by rw [e_64]; exact q_37
  have q_69 : gp_I s_63 51 8 = 0 := by rw [e_64]; exact q_38
  have q_70 : gp_I s_63 57 1 = 0 := by rw [e_64]; exact q_39
  have q_71 : gp_I s_63 57 3 = 0 := by rw [e_64]; exact q_40
  have q_72 : gp_I s_63 6 4 = 0 := by rw [e_64]; exact q_41
  have q_73 : gp_R s_63 117 2 = none := by rw [e_64]; exact q_43
  have q_74 : gp_R s_63 117 3 = none := by rw [e_64]; exact q_44
  have q_75 : gp_R s_63 117 4 = none := by rw [e_64]; exact q_45
  have q_76 : gp_R s_63 117 5 = none := by rw [e_64]; exact q_46
  have q_77 : gp_R s_63 117 6 = none := by rw [e_64]; exact q_47
  have q_78 : gp_R s_63 117 7 = none := by rw [e_64]; exact q_48
  have q_79 : gp_R s_63 117 8 = none := by rw [e_64]; exact q_49
  have q_80 : gp_R s_63 117 9 = none := by rw [e_64]; exact q_50
  have q_81 : gp_R s_63 25 6 = none := by rw [e_64]; exact q_51
  have q_82 : gp_R s_63 25 7 = none := by rw [e_64]; exact q_52
  have q_83 : gp_R s_63 25 8 = none := by rw [e_64]; exact q_53
  have q_84 : gp_R s_63 25 9 = none := by rw [e_64]; exact q_54
  have q_85 : ∀ k, k < 8 → gp_R s_63 4 k = some 25 := by rw [e_64]; exact q_55
  have q_86 : gp_R s_63 51 6 = some 55 := by rw [e_64]; exact q_56
  have q_87 : gp_R s_63 51 7 = some 56 := by rw [e_64]; exact q_57
  have q_88 : gp_sh s_63 117 = (9, 10) := by rw [e_64]; exact q_58
  have q_89 : gp_us s_63 = 606907 := by rw [e_64]; exact q_59
  have q_90 : gp_sz s_63 = 119 := by rw [e_64]; exact q_60
  have q_91 : gp_I s_63 117 0 = 2 := by rw [e_64]; exact q_61
  have q_92 : gp_sh s_63 118 = (101, 2) := by rw [e_64]; exact q_62
  have q_93 : gp_R s_63 117 1 = some 118 := by rw [e_64]; rfl
  refine ⟨by omega, ?_⟩
  refine ⟨by omega, ?_⟩
  try rw [show gp_sz s_63 = 119 from q_90]
  intro s_94 e_95
  have hs_96 : xM z s_94 := by rw [e_95]; exact xI.new hs_65 (by omega)
  have q_97 : gp_I s_94 1 2 = 0 := by rw [e_95, gz_nI q_90 (by decide)]; exact q_66
  have q_98 : gp_I s_94 1 6 = 0 := by rw [e_95, gz_nI q_90 (by decide)]; exact q_67
  have q_99 : gp_I s_94 1 7 = 1 := by rw [e_95, gz_nI q_90 (by decide)]; exact q_68
  have q_100 : gp_I s_94 51 8 = 0 := by rw [e_95, gz_nI q_90 (by decide)]; exact q_69
  have q_101 : gp_I s_94 57 1 = 0 := by rw [e_95, gz_nI q_90 (by decide)]; exact q_70
  have q_102 : gp_I s_94 57 3 = 0 := by rw [e_95, gz_nI q_90 (by decide)]; exact q_71
  have q_103 : gp_I s_94 6 4 = 0 := by rw [e_95, gz_nI q_90 (by decide)]; exact q_72
  have q_104 : gp_R s_94 117 2 = none := by rw [e_95, gz_nR q_90 (by decide)]; exact q_73
  have q_105 : gp_R s_94 117 3 = none := by rw [e_95, gz_nR q_90 (by decide)]; exact q_74
  have q_106 : gp_R s_94 117 4 = none := by rw [e_95, gz_nR q_90 (by decide)]; exact q_75
  have q_107 : gp_R s_94 117 5 = none := by rw [e_95, gz_nR q_90 (by decide)]; exact q_76
  have q_108 : gp_R s_94 117 6 = none := by rw [e_95, gz_nR q_90 (by decide)]; exact q_77
  have q_109 : gp_R s_94 117 7 = none := by rw [e_95, gz_nR q_90 (by decide)]; exact q_78
  have q_110 : gp_R s_94 117 8 = none := by rw [e_95, gz_nR q_90 (by decide)]; exact q_79
  have q_111 : gp_R s_94 117 9 = none := by rw [e_95, gz_nR q_90 (by decide)]; exact q_80
  have q_112 : gp_R s_94 25 6 = none := by rw [e_95, gz_nR q_90 (by decide)]; exact q_81
  have q_113 : gp_R s_94 25 7 = none := by rw [e_95, gz_nR q_90 (by decide)]; exact q_82
  have q_114 : gp_R s_94 25 8 = none := by rw [e_95, gz_nR q_90 (by decide)]; exact q_83
  have q_115 : gp_R s_94 25 9 = none := by rw [e_95, gz_nR q_90 (by decide)]; exact q_84
  have q_116 : ∀ k, k < 8 → gp_R s_94 4 k = some 25 := fun k hk => by rw [e_95, gz_nR q_90 (by decide)]; exact q_85 k hk
  have q_117 : gp_R s_94 51 6 = some 55 := by rw [e_95, gz_nR q_90 (by decide)]; exact q_86
  have q_118 : gp_R s_94 51 7 = some 56 := by rw [e_95, gz_nR q_90 (by decide)]; exact q_87
  have q_119 : gp_sh s_94 117 = (9, 10) := by rw [e_95, gz_nS q_90 (by decide)]; exact q_88
  have q_120 : gp_us s_94 = 606909 := by rw [e_95]; show gp_us s_63 + 2 = 606909; rw [q_89]; try rfl
  have q_121 : gp_sz s_94 = 120 := by rw [e_95]; exact congrArg Nat.succ q_90
  have q_122 : gp_I s_94 117 0 = 2 := by rw [e_95, gz_nI q_90 (by decide)]; exact q_91
  have q_123 : gp_sh s_94 118 = (101, 2) := by rw [e_95, gz_nS q_90 (by decide)]; exact q_92
  have q_124 : gp_R s_94 117 1 = some 118 := by rw [e_95, gz_nR q_90 (by decide)]; exact q_93
  have q_125 : gp_sh s_94 119 = (101, 2) := by rw [e_95]; exact gz_nSs q_90
  refine ⟨(by show (gp_sh s_94 117).1 = 9; rw [q_119]), ?_⟩
  refine ⟨rfl, ?_⟩
  intro s_126 e_127
  have hs_128 : xM z s_126 := by rw [e_127]; exact xI.wR hs_96 _ _ _
  have q_129 : gp_I s_126 1 2 = 0 := by rw [e_127]; exact q_97
  have q_130 : gp_I s_126 1 6 = 0 := by rw [e_127]; exact q_98
  have q_131 : gp_I s_126 1 7 = 1 := by rw [e_127]; exact q_99
  have q_132 : gp_I s_126 51 8 = 0 := by rw [e_127]; exact q_100
  have q_133 : gp_I s_126 57 1 = 0 := by rw [e_127]; exact q_101
  have q_134 : gp_I s_126 57 3 = 0 := by rw [e_127]; exact q_102
  have q_135 : gp_I s_126 6 4 = 0 := by rw [e_127]; exact q_103
  have q_136 : gp_R s_126 117 3 = none := by rw [e_127]; exact q_105
  have q_137 : gp_R s_126 117 4 = none := by rw [e_127]; exact q_106
  have q_138 : gp_R s_126 117 5 = none := by rw [e_127]; exact q_107
  have q_139 : gp_R s_126 117 6 = none := by rw [e_127]; exact q_108
  have q_140 : gp_R s_126 117 7 = none := by rw [e_127]; exact q_109
  have q_141 : gp_R s_126 117 8 = none := by rw [e_127]; exact q_110
  have q_142 : gp_R s_126 117 9 = none := by rw [e_127]; exact q_111
  have q_143 : gp_R s_126 25 6 = none := by rw [e_127]; exact q_112
  have q_144 : gp_R s_126 25 7 = none := by rw [e_127]; exact q_113
  have q_145 : gp_R s_126 25 8 = none := by rw [e_127]; exact q_114
  have q_146 : gp_R s_126 25 9 = none := by rw [e_127]; exact q_115
  have q_147 : ∀ k, k < 8 → gp_R s_126 4 k = some 25 := by rw [e_127]; exact q_116
  have q_148 : gp_R s_126 51 6 = some 55 := by rw [e_127]; exact q_117
  have q_149 : gp_R s_126 51 7 = some 56 := by rw [e_127]; exact q_118
  have q_150 : gp_sh s_126 117 = (9, 10) := by rw [e_127]; exact q_119
  have q_151 : gp_us s_126 = 606909 := by rw [e_127]; exact q_120
  have q_152 : gp_sz s_126 = 120 := by rw [e_127]; exact q_121
  have q_153 : gp_I s_126 117 0 = 2 := by rw [e_127]; exact q_122
  have q_154 : gp_sh s_126 118 = (101, 2) := by rw [e_127]; exact q_123
  have q_155 : gp_R s_126 117 1 = some 118 := by rw [e_127]; exact q_124
  have q_156 : gp_sh s_126 119 = (101, 2) := by rw [e_127]; exact q_125
  have q_157 : gp_R s_126 117 2 = some 119 := by rw [e_127]; rfl
  refine ⟨by omega, ?_⟩
  refine ⟨by omega, ?_⟩
  try rw [show gp_sz s_126 = 120 from q_152]
  intro s_158 e_159
  have hs_160 : xM z s_158 := by rw [e_159]; exact xI.new hs_128 (by omega)
  have q_161 : gp_I s_158 1 2 = 0 := by rw [e_159, gz_nI q_152 (by decide)]; exact q_129
  have q_162 : gp_I s_158 1 6 = 0 := by rw [e_159, gz_nI q_152 (by decide)]; exact q_130
  have q_163 : gp_I s_158 1 7 = 1 := by rw [e_159, gz_nI q_152 (by decide)]; exact q_131
  have q_164 : gp_I s_158 51 8 = 0 := by rw [e_159, gz_nI q_152 (by decide)]; exact q_132
  have q_165 : gp_I s_158 57 1 = 0 := by rw [e_159, gz_nI q_152 (by decide)]; exact q_133
  have q_166 : gp_I s_158 57 3 = 0 := by rw [e_159, gz_nI q_152 (by decide)]; exact q_134
  have q_167 : gp_I s_158 6 4 = 0 := by rw [e_159, gz_nI q_152 (by decide)]; exact q_135
  have q_168 : gp_R s_158 117 3 = none := by rw [e_159, gz_nR q_152 (by decide)]; exact q_136
  have q_169 : gp_R s_158 117 4 = none := by rw [e_159, gz_nR q_152 (by decide)]; exact q_137
  have q_170 : gp_R s_158 117 5 = none := by rw [e_159, gz_nR q_152 (by decide)]; exact q_138
  have q_171 : gp_R s_158 117 6 = none := by rw [e_159, gz_nR q_152 (by decide)]; exact q_139
  have q_172 : gp_R s_158 117 7 = none := by rw [e_159, gz_nR q_152 (by decide)]; exact q_140
  have q_173 : gp_R s_158 117 8 = none := by rw [e_159, gz_nR q_152 (by decide)]; exact q_141
  have q_174 : gp_R s_158 117 9 = none := by rw [e_159, gz_nR q_152 (by decide)]; exact q_142
  have q_175 : gp_R s_158 25 6 = none := by rw [e_159, gz_nR q_152 (by decide)]; exact q_143
  have q_176 : gp_R s_158 25 7 = none := by rw [e_159, gz_nR q_152 (by decide)]; exact q_144
  have q_177 : gp_R s_158 25 8 = none := by rw [e_159, gz_nR q_152 (by decide)]; exact q_145
  have q_178 : gp_R s_158 25 9 = none := by rw [e_159, gz_nR q_152 (by decide)]; exact q_146
  have q_179 : ∀ k, k < 8 → gp_R s_158 4 k = some 25 := fun k hk => by rw [e_159, gz_nR q_152 (by decide)]; exact q_147 k hk
  have q_180 : gp_R s_158 51 6 = some 55 := by rw [e_159, gz_nR q_152 (by decide)]; exact q_148
  have q_181 : gp_R s_158 51 7 = some 56 := by rw [e_159, gz_nR q_152 (by decide)]; exact q_149
  have q_182 : gp_sh s_158 117 = (9, 10) := by rw [e_159, gz_nS q_152 (by decide)]; exact q_150
  have q_183 : gp_us s_158 = 606911 := by rw [e_159]; show gp_us s_126 + 2 = 606911; rw [q_151]; try rfl
  have q_184 : gp_sz s_158 = 121 := by rw [e_159]; exact congrArg Nat.succ q_152
  have q_185 : gp_I s_158 117 0 = 2 := by rw [e_159, gz_nI q_152 (by decide)]; exact q_153
  have q_186 : gp_sh s_158 118 = (101, 2) := by rw [e_159, gz_nS q_152 (by decide)]; exact q_154
  have q_187 : gp_R s_158 117 1 = some 118 := by rw [e_159, gz_nR q_152 (by decide)]; exact q_155
  have q_188 : gp_sh s_158 119 = (101, 2) := by rw [e_159, gz_nS q_152 (by decide)]; exact q_156
  have q_189 : gp_R s_158 117 2 = some 119 := by rw [e_159, gz_nR q_152 (by decide)]; exact q_157
  have q_190 : gp_sh s_158 120 = (100, 2) := by rw [e_159]; exact gz_nSs q_152
  refine ⟨(by show (gp_sh s_158 117).1 = 9; rw [q_182]), ?_⟩
  refine ⟨rfl, ?_⟩
  intro s_191 e_192
  have hs_193 : xM z s_191 := by rw [e_192]; exact xI.wR hs_160 _ _ _
  have q_194 : gp_I s_191 1 2 = 0 := by rw [e_192]; exact q_161
  have q_195 : gp_I s_191 1 6 = 0 := by rw [e_192]; exact q_162
  have q_196 : gp_I s_191 1 7 = 1 := by rw [e_192]; exact q_163
  have q_197 : gp_I s_191 51 8 = 0 := by rw [e_192]; exact q_164
  have q_198 : gp_I s_191 57 1 = 0 := by rw [e_192]; exact q_165
  have q_199 : gp_I s_191 57 3 = 0 := by rw [e_192]; exact q_166
  have q_200 : gp_I s_191 6 4 = 0 := by rw [e_192]; exact q_167
  have q_201 : gp_R s_191 117 4 = none := by rw [e_192]; exact q_169
  have q_202 : gp_R s_191 117 5 = none := by rw [e_192]; exact q_170
  have q_203 : gp_R s_191 117 6 = none := by rw [e_192]; exact q_171
  have q_204 : gp_R s_191 117 7 = none := by rw [e_192]; exact q_172
  have q_205 : gp_R s_191 117 8 = none := by rw [e_192]; exact q_173
  have q_206 : gp_R s_191 117 9 = none := by rw [e_192]; exact q_174
  have q_207 : gp_R s_191 25 6 = none := by rw [e_192]; exact q_175
  have q_208 : gp_R s_191 25 7 = none := by rw [e_192]; exact q_176
  have q_209 : gp_R s_191 25 8 = none := by rw [e_192]; exact q_177
  have q_210 : gp_R s_191 25 9 = none := by rw [e_192]; exact q_178
  have q_211 : ∀ k, k < 8 → gp_R s_191 4 k = some 25 := by rw [e_192]; exact q_179
  have q_212 : gp_R s_191 51 6 = some 55 := by rw [e_192]; exact q_180
  have q_213 : gp_R s_191 51 7 = some 56 := by rw [e_192]; exact q_181
  have q_214 : gp_sh s_191 117 = (9, 10) := by rw [e_192]; exact q_182
  have q_215 : gp_us s_191 = 606911 := by rw [e_192]; exact q_183
  have q_216 : gp_sz s_191 = 121 := by rw [e_192]; exact q_184
  have q_217 : gp_I s_191 117 0 = 2 := by rw [e_192]; exact q_185
  have q_218 : gp_sh s_191 118 = (101, 2) := by rw [e_192]; exact q_186
  have q_219 : gp_R s_191 117 1 = some 118 := by rw [e_192]; exact q_187
  have q_220 : gp_sh s_191 119 = (101, 2) := by rw [e_192]; exact q_188
  have q_221 : gp_R s_191 117 2 = some 119 := by rw [e_192]; exact q_189
  have q_222 : gp_sh s_191 120 = (100, 2) := by rw [e_192]; exact q_190
  have q_223 : gp_R s_191 117 3 = some 120 := by rw [e_192]; rfl
  refine ⟨by omega, ?_⟩
  refine ⟨by omega, ?_⟩
  try rw [show gp_sz s_191 = 121 from q_216]
  intro s_224 e_225
  have hs_226 : xM z s_224 := by rw [e_225]; exact xI.new hs_193 (by omega)
  have q_227 : gp_I s_224 1 2 = 0 := by rw [e_225, gz_nI q_216 (by decide)]; exact q_194
  have q_228 : gp_I s_224 1 6 = 0 := by rw [e_225, gz_nI q_216 (by decide)]; exact q_195
  have q_229 : gp_I s_224 1 7 = 1 := by rw [e_225, gz_nI q_216 (by decide)]; exact q_196
  have q_230 : gp_I s_224 51 8 = 0 := by rw [e_225, gz_nI q_216 (by decide)]; exact q_197
  have q_231 : gp_I s_224 57 1 = 0 := by rw [e_225, gz_nI q_216 (by decide)]; exact q_198
  have q_232 : gp_I s_224 57 3 = 0 := by rw [e_225, gz_nI q_216 (by decide)]; exact q_199
  have q_233 : gp_I s_224 6 4 = 0 := by rw [e_225, gz_nI q_216 (by decide)]; exact q_200
  have q_234 : gp_R s_224 117 4 = none := by rw [e_225, gz_nR q_216 (by decide)]; exact q_201
  have q_235 : gp_R s_224 117 5 = none := by rw [e_225, gz_nR q_216 (by decide)]; exact q_202
  have q_236 : gp_R s_224 117 6 = none := by rw [e_225, gz_nR q_216 (by decide)]; exact q_203
  have q_237 : gp_R s_224 117 7 = none := by rw [e_225, gz_nR q_216 (by decide)]; exact q_204
  have q_238 : gp_R s_224 117 8 = none := by rw [e_225, gz_nR q_216 (by decide)]; exact q_205
  have q_239 : gp_R s_224 117 9 = none := by rw [e_225, gz_nR q_216 (by decide)]; exact q_206
  have q_240 : gp_R s_224 25 6 = none := by rw [e_225, gz_nR q_216 (by decide)]; exact q_207
  have q_241 : gp_R s_224 25 7 = none := by rw [e_225, gz_nR q_216 (by decide)]; exact q_208
  have q_242 : gp_R s_224 25 8 = none := by rw [e_225, gz_nR q_216 (by decide)]; exact q_209
  have q_243 : gp_R s_224 25 9 = none := by rw [e_225, gz_nR q_216 (by decide)]; exact q_210
  have q_244 : ∀ k, k < 8 → gp_R s_224 4 k = some 25 := fun k hk => by rw [e_225, gz_nR q_216 (by decide)]; exact q_211 k hk
  have q_245 : gp_R s_224 51 6 = some 55 := by rw [e_225, gz_nR q_216 (by decide)]; exact q_212
  have q_246 : gp_R s_224 51 7 = some 56 := by rw [e_225, gz_nR q_216 (by decide)]; exact q_213
  have q_247 : gp_sh s_224 117 = (9, 10) := by rw [e_225, gz_nS q_216 (by decide)]; exact q_214
  have q_248 : gp_us s_224 = 606913 := by rw [e_225]; show gp_us s_191 + 2 = 606913; rw [q_215]; try rfl
  have q_249 : gp_sz s_224 = 122 := by rw [e_225]; exact congrArg Nat.succ q_216
  have q_250 : gp_I s_224 117 0 = 2 := by rw [e_225, gz_nI q_216 (by decide)]; exact q_217
  have q_251 : gp_sh s_224 118 = (101, 2) := by rw [e_225, gz_nS q_216 (by decide)]; exact q_218
  have q_252 : gp_R s_224 117 1 = some 118 := by rw [e_225, gz_nR q_216 (by decide)]; exact q_219
  have q_253 : gp_sh s_224 119 = (101, 2) := by rw [e_225, gz_nS q_216 (by decide)]; exact q_220
  have q_254 : gp_R s_224 117 2 = some 119 := by rw [e_225, gz_nR q_216 (by decide)]; exact q_221
  have q_255 : gp_sh s_224 120 = (100, 2) := by rw [e_225, gz_nS q_216 (by decide)]; exact q_222
  have q_256 : gp_R s_224 117 3 = some 120 := by rw [e_225, gz_nR q_216 (by decide)]; exact q_223
  have q_257 : gp_sh s_224 121 = (100, 2) := by rw [e_225]; exact gz_nSs q_216
  refine ⟨(by show (gp_sh s_224 117).1 = 9; rw [q_247]), ?_⟩
  refine ⟨rfl, ?_⟩
  intro s_258 e_259
  have hs_260 : xM z s_258 := by rw [e_259]; exact xI.wR hs_226 _ _ _
  have q_261 : gp_I s_258 1 2 = 0 := by rw [e_259]; exact q_227
  have q_262 : gp_I s_258 1 6 = 0 := by rw [e_259]; exact q_228
  have q_263 : gp_I s_258 1 7 = 1 := by rw [e_259]; exact q_229
  have q_264 : gp_I s_258 51 8 = 0 := by rw [e_259]; exact q_230
  have q_265 : gp_I s_258 57 1 = 0 := by rw [e_259]; exact q_231
  have q_266 : gp_I s_258 57 3 = 0 := by rw [e_259]; exact q_232
  have q_267 : gp_I s_258 6 4 = 0 := by rw [e_259]; exact q_233
  have q_268 : gp_R s_258 117 5 = none := by rw [e_259]; exact q_235
  have q_269 : gp_R s_258 117 6 = none := by rw [e_259]; exact q_236
  have q_270 : gp_R s_258 117 7 = none := by rw [e_259]; exact q_237
  have q_271 : gp_R s_258 117 8 = none := by rw [e_259]; exact q_238
  have q_272 : gp_R s_258 117 9 = none := by rw [e_259]; exact q_239
  have q_273 : gp_R s_258 25 6 = none := by rw [e_259]; exact q_240
  have q_274 : gp_R s_258 25 7 = none := by rw [e_259]; exact q_241
  have q_275 : gp_R s_258 25 8 = none := by rw [e_259]; exact q_242
  have q_276 : gp_R s_258 25 9 = none := by rw [e_259]; exact q_243
  have q_277 : ∀ k, k < 8 → gp_R s_258 4 k = some 25 := by rw [e_259]; exact q_244
  have q_278 : gp_R s_258 51 6 = some 55 := by rw [e_259]; exact q_245
  have q_279 : gp_R s_258 51 7 = some 56 := by rw [e_259]; exact q_246
  have q_280 : gp_sh s_258 117 = (9, 10) := by rw [e_259]; exact q_247
  have q_281 : gp_us s_258 = 606913 := by rw [e_259]; exact q_248
  have q_282 : gp_sz s_258 = 122 := by rw [e_259]; exact q_249
  have q_283 : gp_I s_258 117 0 = 2 := by rw [e_259]; exact q_250
  have q_284 : gp_sh s_258 118 = (101, 2) := by rw [e_259]; exact q_251
  have q_285 : gp_R s_258 117 1 = some 118 := by rw [e_259]; exact q_252
  have q_286 : gp_sh s_258 119 = (101, 2) := by rw [e_259]; exact q_253
  have q_287 : gp_R s_258 117 2 = some 119 := by rw [e_259]; exact q_254
  have q_288 : gp_sh s_258 120 = (100, 2) := by rw [e_259]; exact q_255
  have q_289 : gp_R s_258 117 3 = some 120 := by rw [e_259]; exact q_256
  have q_290 : gp_sh s_258 121 = (100, 2) := by rw [e_259]; exact q_257
  have q_291 : gp_R s_258 117 4 = some 121 := by rw [e_259]; rfl
  refine ⟨by omega, ?_⟩
  refine ⟨by omega, ?_⟩
  try rw [show gp_sz s_258 = 122 from q_282]
  intro s_292 e_293
  have hs_294 : xM z s_292 := by rw [e_293]; exact xI.new hs_260 (by omega)
  have q_295 : gp_I s_292 1 2 = 0 := by rw [e_293, gz_nI q_282 (by decide)]; exact q_261
  have q_296 : gp_I s_292 1 6 = 0 := by rw [e_293, gz_nI q_282 (by decide)]; exact q_262
  have q_297 : gp_I s_292 1 7 = 1 := by rw [e_293, gz_nI q_282 (by decide)]; exact q_263
  have q_298 : gp_I s_292 51 8 = 0 := by rw [e_293, gz_nI q_282 (by decide)]; exact q_264
  have q_299 : gp_I s_292 57 1 = 0 := by rw [e_293, gz_nI q_282 (by decide)]; exact q_265
  have q_300 : gp_I s_292 57 3 = 0 := by rw [e_293, gz_nI q_282 (by decide)]; exact q_266
  have q_301 : gp_I s_292 6 4 = 0 := by rw [e_293, gz_nI q_282 (by decide)]; exact q_267
  have q_302 : gp_R s_292 117 5 = none := by rw [e_293, gz_nR q_282 (by decide)]; exact q_268
  have q_303 : gp_R s_292 117 6 = none := by rw [e_293, gz_nR q_282 (by decide)]; exact q_269
  have q_304 : gp_R s_292 117 7 = none := by rw [e_293, gz_nR q_282 (by decide)]; exact q_270
  have q_305 : gp_R s_292 117 8 = none := by rw [e_293, gz_nR q_282 (by decide)]; exact q_271
  have q_306 : gp_R s_292 117 9 = none := by rw [e_293, gz_nR q_282 (by decide)]; exact q_272
  have q_307 : gp_R s_292 25 6 = none := by rw [e_293, gz_nR q_282 (by decide)]; exact q_273
  have q_308 : gp_R s_292 25 7 = none := by rw [e_293, gz_nR q_282 (by decide)]; exact q_274
  have q_309 : gp_R s_292 25 8 = none := by rw [e_293, gz_nR q_282 (by decide)]; exact q_275
  have q_310 : gp_R s_292 25 9 = none := by rw [e_293, gz_nR q_282 (by decide)]; exact q_276
  have q_311 : ∀ k, k < 8 → gp_R s_292 4 k = some 25 := fun k hk => by rw [e_293, gz_nR q_282 (by decide)]; exact q_277 k hk
  have q_312 : gp_R s_292 51 6 = some 55 := by rw [e_293, gz_nR q_282 (by decide)]; exact q_278
  have q_313 : gp_R s_292 51 7 = some 56 := by rw [e_293, gz_nR q_282 (by decide)]; exact q_279
  have q_314 : gp_sh s_292 117 = (9, 10) := by rw [e_293, gz_nS q_282 (by decide)]; exact q_280
  have q_315 : gp_us s_292 = 606915 := by rw [e_293]; show gp_us s_258 + 2 = 606915; rw [q_281]; try rfl
  have q_316 : gp_sz s_292 = 123 := by rw [e_293]; exact congrArg Nat.succ q_282
  have q_317 : gp_I s_292 117 0 = 2 := by rw [e_293, gz_nI q_282 (by decide)]; exact q_283
  have q_318 : gp_sh s_292 118 = (101, 2) := by rw [e_293, gz_nS q_282 (by decide)]; exact q_284
  have q_319 : gp_R s_292 117 1 = some 118 := by rw [e_293, gz_nR q_282 (by decide)]; exact q_285
  have q_320 : gp_sh s_292 119 = (101, 2) := by rw [e_293, gz_nS q_282 (by decide)]; exact q_286
  have q_321 : gp_R s_292 117 2 = some 119 := by rw [e_293, gz_nR q_282 (by decide)]; exact q_287
  have q_322 : gp_sh s_292 120 = (100, 2) := by rw [e_293, gz_nS q_282 (by decide)]; exact q_288
  have q_323 : gp_R s_292 117 3 = some 120 := by rw [e_293, gz_nR q_282 (by decide)]; exact q_289
  have q_324 : gp_sh s_292 121 = (100, 2) := by rw [e_293, gz_nS q_282 (by decide)]; exact q_290
  have q_325 : gp_R s_292 117 4 = some 121 := by rw [e_293, gz_nR q_282 (by decide)]; exact q_291
  have q_326 : gp_sh s_292 122 = (100, 2) := by rw [e_293]; exact gz_nSs q_282
  refine ⟨(by show (gp_sh s_292 117).1 = 9; rw [q_314]), ?_⟩
  refine ⟨rfl, ?_⟩
  intro s_327 e_328
  have hs_329 : xM z s_327 := by rw [e_328]; exact xI.wR hs_294 _ _ _
  have q_330 : gp_I s_327 1 2 = 0 := by rw [e_328]; exact q_295
  have q_331 : gp_I s_327 1 6 = 0 := by rw [e_328]; exact q_296
  have q_332 : gp_I s_327 1 7 = 1 := by rw [e_328]; exact q_297
  have q_333 : gp_I s_327 51 8 = 0 := by rw [e_328]; exact q_298
  have q_334 : gp_I s_327 57 1 = 0 := by rw [e_328]; exact q_299
  have q_335 : gp_I s_327 57 3 = 0 := by rw [e_328]; exact q_300
  have q_336 : gp_I s_327 6 4 = 0 := by rw [e_328]; exact q_301
  have q_337 : gp_R s_327 117 6 = none := by rw [e_328]; exact q_303
  have q_338 : gp_R s_327 117 7 = none := by rw [e_328]; exact q_304
  have q_339 : gp_R s_327 117 8 = none := by rw [e_328]; exact q_305
  have q_340 : gp_R s_327 117 9 = none := by rw [e_328]; exact q_306
  have q_341 : gp_R s_327 25 6 = none := by rw [e_328]; exact q_307
  have q_342 : gp_R s_327 25 7 = none := by rw [e_328]; exact q_308
  have q_343 : gp_R s_327 25 8 = none := by rw [e_328]; exact q_309
  have q_344 : gp_R s_327 25 9 = none := by rw [e_328]; exact q_310
  have q_345 : ∀ k, k < 8 → gp_R s_327 4 k = some 25 := by rw [e_328]; exact q_311
  have q_346 : gp_R s_327 51 6 = some 55 := by rw [e_328]; exact q_312
  have q_347 : gp_R s_327 51 7 = some 56 := by rw [e_328]; exact q_313
  have q_348 : gp_sh s_327 117 = (9, 10) := by rw [e_328]; exact q_314
  have q_349 : gp_us s_327 = 606915 := by rw [e_328]; exact q_315
  have q_350 : gp_sz s_327 = 123 := by rw [e_328]; exact q_316
  have q_351 : gp_I s_327 117 0 = 2 := by rw [e_328]; exact q_317
  have q_352 : gp_sh s_327 118 = (101, 2) := by rw [e_328]; exact q_318
  have q_353 : gp_R s_327 117 1 = some 118 := by rw [e_328]; exact q_319
  have q_354 : gp_sh s_327 119 = (101, 2) := by rw [e_328]; exact q_320
  have q_355 : gp_R s_327 117 2 = some 119 := by rw [e_328]; exact q_321
  have q_356 : gp_sh s_327 120 = (100, 2) := by rw [e_328]; exact q_322
  have q_357 : gp_R s_327 117 3 = some 120 := by rw [e_328]; exact q_323
  have q_358 : gp_sh s_327 121 = (100, 2) := by rw [e_328]; exact q_324
  have q_359 : gp_R s_327 117 4 = some 121 := by rw [e_328]; exact q_325
  have q_360 : gp_sh s_327 122 = (100, 2) := by rw [e_328]; exact q_326
  have q_361 : gp_R s_327 117 5 = some 122 := by rw [e_328]; rfl
  exact k s_327 hs_329 (by omega) (by omega) (by omega) (by omega) (by omega) (by omega) (by omega) (by omega) q_353 q_355 q_357 q_359 q_361 q_337 q_338 q_339 q_340 q_341 q_342 q_343 q_344 q_345 q_346 q_347 q_348 q_352 q_354 q_356 q_358 q_360 q_349 q_350
set_option maxRecDepth 100000 in
/-- Maker.pauses, the loop at 13 -/
theorem zx258_1_l13_0 {z : gH} {L d : Nat} {K : Option gV → gH → Prop}   (k : ∀ (t : gH), xM z t → (gp_I t 1 2 = 0) → (gp_I t 1 6 = 0) → (gp_I t 1 7 = 1) → (gp_I t 117 0 = 2) → (gp_I t 51 8 = 0) → (gp_I t 57 1 = 0) → (gp_I t 57 3 = 0) → (gp_I t 6 4 = 0) → (gp_R t 117 1 = some 118) → (gp_R t 117 2 = some 119) → (gp_R t 117 3 = some 120) → (gp_R t 117 4 = some 121) → (gp_R t 117 5 = some 122) → (gp_R t 117 6 = none) → (gp_R t 117 7 = none) → (gp_R t 117 8 = none) → (gp_R t 117 9 = none) → (gp_R t 25 6 = none) → (gp_R t 25 7 = none) → (gp_R t 25 8 = none) → (gp_R t 25 9 = none) → (∀ k, k < 8 → gp_R t 4 k = some 25) → (gp_R t 51 6 = some 55) → (gp_R t 51 7 = some 56) → (gp_sh t 117 = (9, 10)) → (gp_sh t 118 = (101, 2)) → (gp_sh t 119 = (101, 2)) → (gp_sh t 120 = (100, 2)) → (gp_sh t 121 = (100, 2)) → (gp_sh t 122 = (100, 2)) → (gp_us t = 606915) → (gp_sz t = 123) → K (some (gp_r (some 117))) t)  : ∀ (n : Nat) (v1 : Int) (v2 : Option Nat) (v3 : Int) (s : gH), xM z s → (3 - v3).toNat < n → (v1 = 1) → (v2 = some 117) → (1 ≤ v3 ∧ v3 ≤ 2) → (gp_I s 1 2 = 0) → (gp_I s 1 6 = 0) → (gp_I s 1 7 = 1) → (gp_I s 117 0 = 2) → (gp_I s 51 8 = 0) → (gp_I s 57 1 = 0) → (gp_I s 57 3 = 0) → (gp_I s 6 4 = 0) → (gp_R s 117 1 = some 118) → (gp_R s 117 2 = some 119) → (gp_R s 117 3 = some 120) → (gp_R s 117 4 = some 121) → (gp_R s 117 5 = some 122) → (gp_R s 117 6 = none) → (gp_R s 117 7 = none) → (gp_R s 117 8 = none) → (gp_R s 117 9 = none) → (gp_R s 25 6 = none) → (gp_R s 25 7 = none) → (gp_R s 25 8 = none) → (gp_R s 25 9 = none) → (∀ k, k < 8 → gp_R s 4 k = some 25) → (gp_R s 51 6 = some 55) → (gp_R s 51 7 = some 56) → (gp_sh s 117 = (9, 10)) → (gp_sh s 118 = (101, 2)) → (gp_sh s 119 = (101, 2)) → (gp_sh s 120 = (100, 2)) → (gp_sh s 121 = (100, 2)) → (gp_sh s 122 = (100, 2)) → (gp_us s = 606915) → (gp_sz s = 123) → gs_E L (d + 1) 258 13 [gp_r (some 20), gp_i v1, gp_r v2, gp_i v3] [] s K := by
  intro n
  induction n with
  | zero => intro v1 v2 v3 s hs hm i0 i1 i2 i3 i4 i5 i6 i7 i8 i9 i10 i11 i12 i13 i14 i15 i16 i17 i18 i19 i20 i21 i22 i23 i24 i25 i26 i27 i28 i29 i30 i31 i32 i33 i34; exact absurd hm (Nat.not_lt_zero _)
  | succ n ih =>
    intro v1 v2 v3 s hs hm i0 i1 i2 i3 i4 i5 i6 i7 i8 i9 i10 i11 i12 i13 i14 i15 i16 i17 i18 i19 i20 i21 i22 i23 i24 i25 i26 i27 i28 i29 i30 i31 i32 i33 i34
    subst i0
    subst i1
    refine s_258_13 _ _ _ ?_
    refine ⟨fun h_1 => ?_, fun h_1 => ?_⟩
    · have e_2 : v3 = 2 := by omega
      subst e_2
      exact k s hs (by omega) (by omega) (by omega) (by omega) (by omega) (by omega) (by omega) (by omega) i11 i12 i13 i14 i15 i16 i17 i18 i19 i20 i21 i22 i23 i24 i25 i26 i27 i28 i29 i30 i31 i32 i33 i34
    · have e_3 : v3 = 1 := by omega
      subst e_3
      refine ⟨117, rfl, ?_⟩
      refine ⟨(by show (gp_sh s 117).1 = 9; rw [i27]), ?_⟩
      try rw [show gp_R (gp_mk L s) 117 1 = some 118 from i11]
      have w_4 := gz_w (1 - 1)
      have e_5 : gp_wr (1 - 1) = 0 := by omega
      try rw [e_5]
      have e_6 : (1#64) <<< ((0 : Int) % 64).toNat = 1#64 := by decide
      try rw [e_6]
      refine ⟨118, rfl, ?_⟩
      refine ⟨⟨by show (gp_sh s 118).1 = 101; rw [i28], by omega, by show 1 < ((gp_sh s 118).2 : Int); rw [i28]; show 1 < 2; omega⟩, ?_⟩
      intro s_7 e_8
      have hs_9 : xM z s_7 := by rw [e_8]; exact xI.wLd hs _ _ _ (by omega)
      have q_10 : gp_I s_7 1 2 = 0 := by rw [e_8]; exact i3
      have q_11 : gp_I s_7 1 6 = 0 := by rw [e_8]; exact i4
      have q_12 : gp_I s_7 1 7 = 1 := by rw [e_8]; exact i5
      have q_13 : gp_I s_7 117 0 = 2 := by rw [e_8]; exact i6
      have q_14 : gp_I s_7 51 8 = 0 := by rw [e_8]; exact i7
      have q_15 : gp_I s_7 57 1 = 0 := by rw [e_8]; exact i8
      have q_16 : gp_I s_7 57 3 = 0 := by rw [e_8]; exact i9
      have q_17 : gp_I s_7 6 4 = 0 := by rw [e_8]; exact i10
      have q_18 : gp_R s_7 117 1 = some 118 := by rw [e_8]; exact i11
      have q_19 : gp_R s_7 117 2 = some 119 := by rw [e_8]; exact i12
      have q_20 : gp_R s_7 117 3 = some 120 := by rw [e_8]; exact i13
      have q_21 : gp_R s_7 117 4 = some 121 := by rw [e_8]; exact i14
      have q_22 : gp_R s_7 117 5 = some 122 := by rw [e_8]; exact i15
      have q_23 : gp_R s_7 117 6 = none := by rw [e_8]; exact i16
      have q_24 : gp_R s_7 117 7 = none := by rw [e_8]; exact i17
      have q_25 : gp_R s_7 117 8 = none := by rw [e_8]; exact i18
      have q_26 : gp_R s_7 117 9 = none := by rw [e_8]; exact i19
      have q_27 : gp_R s_7 25 6 = none := by rw [e_8]; exact i20
      have q_28 : gp_R s_7 25 7 = none := by rw [e_8]; exact i21
      have q_29 : gp_R s_7 25 8 = none := by rw [e_8]; exact i22
      have q_30 : gp_R s_7 25 9 = none := by rw [e_8]; exact i23
      have q_31 : ∀ k, k < 8 → gp_R s_7 4 k = some 25 := by rw [e_8]; exact i24
      have q_32 : gp_R s_7 51 6 = some 55 := by rw [e_8]; exact i25
      have q_33 : gp_R s_7 51 7 = some 56 := by rw [e_8]; exact i26
      have q_34 : gp_sh s_7 117 = (9, 10) := by rw [e_8]; exact i27
      have q_35 : gp_sh s_7 118 = (101, 2) := by rw [e_8]; exact i28
      have q_36 : gp_sh s_7 119 = (101, 2) := by rw [e_8]; exact i29
      have q_37 : gp_sh s_7 120 = (100, 2) := by rw [e_8]; exact i30
      have q_38 : gp_sh s_7 121 = (100, 2) := by rw [e_8]; exact i31
      have q_39 : gp_sh s_7 122 = (100, 2) := by rw [e_8]; exact i32
      have q_40 : gp_us s_7 = 606915 := by rw [e_8]; exact i33
      have q_41 : gp_sz s_7 = 123 := by rw [e_8]; exact i34
      refine ⟨(by show (gp_sh s_7 117).1 = 9; rw [q_34]), ?_⟩
      try rw [show gp_R (gp_mk L s_7) 117 5 = some 122 from q_22]
      refine ⟨122, rfl, ?_⟩
      refine ⟨⟨by show (gp_sh s_7 122).1 = 100; rw [q_39], by omega, by show 1 < ((gp_sh s_7 122).2 : Int); rw [q_39]; show 1 < 2; omega⟩, ?_⟩
      intro s_42 e_43
      have hs_44 : xM z s_42 := by rw [e_43]; exact xI.wId hs_9 _ _ _ (by omega)
      have q_45 : gp_I s_42 1 2 = 0 := by rw [e_43]; exact q_10
      have q_46 : gp_I s_42 1 6 = 0 := by rw [e_43]; exact q_11
      have q_47 : gp_I s_42 1 7 = 1 := by rw [e_43]; exact q_12
      have q_48 : gp_I s_42 117 0 = 2 := by rw [e_43]; exact q_13
      have q_49 : gp_I s_42 51 8 = 0 := by rw [e_43]; exact q_14
      have q_50 : gp_I s_42 57 1 = 0 := by rw [e_43]; exact q_15
      have q_51 : gp_I s_42 57 3 = 0 := by rw [e_43]; exact q_16
      have q_52 : gp_I s_42 6 4 = 0 := by rw [e_43]; exact q_17
      have q_53 : gp_R s_42 117 1 = some 118 := by rw [e_43]; exact q_18
      have q_54 : gp_R s_42 117 2 = some 119 := by rw [e_43]; exact q_19
      have q_55 : gp_R s_42 117 3 = some 120 := by rw [e_43]; exact q_20
      have q_56 : gp_R s_42 117 4 = some 121 := by rw [e_43]; exact q_21
      have q_57 : gp_R s_42 117 5 = some 122 := by rw [e_43]; exact q_22
      have q_58 : gp_R s_42 117 6 = none := by rw [e_43]; exact q_23
      have q_59 : gp_R s_42 117 7 = none := by rw [e_43]; exact q_24
      have q_60 : gp_R s_42 117 8 = none := by rw [e_43]; exact q_25
      have q_61 : gp_R s_42 117 9 = none := by rw [e_43]; exact q_26
      have q_62 : gp_R s_42 25 6 = none := by rw [e_43]; exact q_27
      have q_63 : gp_R s_42 25 7 = none := by rw [e_43]; exact q_28
      have q_64 : gp_R s_42 25 8 = none := by rw [e_43]; exact q_29
      have q_65 : gp_R s_42 25 9 = none := by rw [e_43]; exact q_30
      have q_66 : ∀ k, k < 8 → gp_R s_42 4 k = some 25 := by rw [e_43]; exact q_31
      have q_67 : gp_R s_42 51 6 = some 55 := by rw [e_43]; exact q_32
      have q_68 : gp_R s_42 51 7 = some 56 := by rw [e_43]; exact q_33
      have q_69 : gp_sh s_42 117 = (9, 10) := by rw [e_43]; exact q_34
      have q_70 : gp_sh s_42 118 = (101, 2) := by rw [e_43]; exact q_35
      have q_71 : gp_sh s_42 119 = (101, 2) := by rw [e_43]; exact q_36
      have q_72 : gp_sh s_42 120 = (100, 2) := by rw [e_43]; exact q_37
      have q_73 : gp_sh s_42 121 = (100, 2) := by rw [e_43]; exact q_38
      have q_74 : gp_sh s_42 122 = (100, 2) := by rw [e_43]; exact q_39
      have q_75 : gp_us s_42 = 606915 := by rw [e_43]; exact q_40
      have q_76 : gp_sz s_42 = 123 := by rw [e_43]; exact q_41
      have w_77 := gz_w (1 + 1)
      have e_78 : gp_wr (1 + 1) = 2 := by omega
      try rw [e_78]
      exact ih _ _ _ s_42 hs_44 (by omega) (by omega) rfl (by omega) (by omega) (by omega) (by omega) (by omega) (by omega) (by omega) (by omega) (by omega) q_53 q_54 q_55 q_56 q_57 q_58 q_59 q_60 q_61 q_62 q_63 q_64 q_65 q_66 q_67 q_68 q_69 q_70 q_71 q_72 q_73 q_74 q_75 q_76
set_option maxRecDepth 100000 in
/-- Maker.pauses [(1, 1)] -/
theorem zx258_1 {z : gH} {L d : Nat} {K : Option gV → gH → Prop} {s : gH}  (hs : xM z s)  (q0 : gp_I s 1 2 = 0) (q1 : gp_I s 1 6 = 0) (q2 : gp_I s 1 7 = 1) (q3 : gp_I s 51 8 = 0) (q4 : gp_I s 57 1 = 0) (q5 : gp_I s 57 3 = 0) (q6 : gp_I s 6 4 = 0) (q7 : gp_R s 25 6 = none) (q8 : gp_R s 25 7 = none) (q9 : gp_R s 25 8 = none) (q10 : gp_R s 25 9 = none) (q11 : ∀ k, k < 8 → gp_R s 4 k = some 25) (q12 : gp_R s 51 6 = some 55) (q13 : gp_R s 51 7 = some 56) (q14 : gp_us s = 606895) (q15 : gp_sz s = 117) (k : ∀ (t : gH), xM z t → (gp_I t 1 2 = 0) → (gp_I t 1 6 = 0) → (gp_I t 1 7 = 1) → (gp_I t 117 0 = 2) → (gp_I t 51 8 = 0) → (gp_I t 57 1 = 0) → (gp_I t 57 3 = 0) → (gp_I t 6 4 = 0) → (gp_R t 117 1 = some 118) → (gp_R t 117 2 = some 119) → (gp_R t 117 3 = some 120) → (gp_R t 117 4 = some 121) → (gp_R t 117 5 = some 122) → (gp_R t 117 6 = none) → (gp_R t 117 7 = none) → (gp_R t 117 8 = none) → (gp_R t 117 9 = none) → (gp_R t 25 6 = none) → (gp_R t 25 7 = none) → (gp_R t 25 8 = none) → (gp_R t 25 9 = none) → (∀ k, k < 8 → gp_R t 4 k = some 25) → (gp_R t 51 6 = some 55) → (gp_R t 51 7 = some 56) → (gp_sh t 117 = (9, 10)) → (gp_sh t 118 = (101, 2)) → (gp_sh t 119 = (101, 2)) → (gp_sh t 120 = (100, 2)) → (gp_sh t 121 = (100, 2)) → (gp_sh t 122 = (100, 2)) → (gp_us t = 606915) → (gp_sz t = 123) → K (some (gp_r (some 117))) t) : gs_C L (d + 1) 258 4 [gp_r (some 20), gp_i 1] s K := by
  refine s_258_e _ ?_
  refine ⟨by omega, ?_⟩
  try rw [show gp_sz s = 117 from q15]
  intro s_1 e_2
  have hs_3 : xM z s_1 := by rw [e_2]; exact xI.new hs (by omega)
  have q_4 : gp_I s_1 1 2 = 0 := by rw [e_2, gz_nI q15 (by decide)]; exact q0
  have q_5 : gp_I s_1 1 6 = 0 := by rw [e_2, gz_nI q15 (by decide)]; exact q1
  have q_6 : gp_I s_1 1 7 = 1 := by rw [e_2, gz_nI q15 (by decide)]; exact q2
  have q_7 : gp_I s_1 51 8 = 0 := by rw [e_2, gz_nI q15 (by decide)]; exact q3
  have q_8 : gp_I s_1 57 1 = 0 := by rw [e_2, gz_nI q15 (by decide)]; exact q4
  have q_9 : gp_I s_1 57 3 = 0 := by rw [e_2, gz_nI q15 (by decide)]; exact q5
  have q_10 : gp_I s_1 6 4 = 0 := by rw [e_2, gz_nI q15 (by decide)]; exact q6
  have q_11 : gp_R s_1 25 6 = none := by rw [e_2, gz_nR q15 (by decide)]; exact q7
  have q_12 : gp_R s_1 25 7 = none := by rw [e_2, gz_nR q15 (by decide)]; exact q8
  have q_13 : gp_R s_1 25 8 = none := by rw [e_2, gz_nR q15 (by decide)]; exact q9
  have q_14 : gp_R s_1 25 9 = none := by rw [e_2, gz_nR q15 (by decide)]; exact q10
  have q_15 : ∀ k, k < 8 → gp_R s_1 4 k = some 25 := fun k hk => by rw [e_2, gz_nR q15 (by decide)]; exact q11 k hk
  have q_16 : gp_R s_1 51 6 = some 55 := by rw [e_2, gz_nR q15 (by decide)]; exact q12
  have q_17 : gp_R s_1 51 7 = some 56 := by rw [e_2, gz_nR q15 (by decide)]; exact q13
  have q_18 : gp_us s_1 = 606905 := by rw [e_2]; show gp_us s + 10 = 606905; rw [q14]; try rfl
  have q_19 : gp_sz s_1 = 118 := by rw [e_2]; exact congrArg Nat.succ q15
  have q_20 : gp_sh s_1 117 = (9, 10) := by rw [e_2]; exact gz_nSs q15
  have q_21 : gp_I s_1 117 0 = 0 := by rw [e_2]; exact gz_nIs q15
  have q_22 : gp_R s_1 117 1 = none := by rw [e_2]; exact gz_nRs q15
  have q_23 : gp_R s_1 117 2 = none := by rw [e_2]; exact gz_nRs q15
  have q_24 : gp_R s_1 117 3 = none := by rw [e_2]; exact gz_nRs q15
  have q_25 : gp_R s_1 117 4 = none := by rw [e_2]; exact gz_nRs q15
  have q_26 : gp_R s_1 117 5 = none := by rw [e_2]; exact gz_nRs q15
  have q_27 : gp_R s_1 117 6 = none := by rw [e_2]; exact gz_nRs q15
  have q_28 : gp_R s_1 117 7 = none := by rw [e_2]; exact gz_nRs q15
  have q_29 : gp_R s_1 117 8 = none := by rw [e_2]; exact gz_nRs q15
  have q_30 : gp_R s_1 117 9 = none := by rw [e_2]; exact gz_nRs q15
  have w_31 := gz_w (1 + 1)
  have e_32 : gp_wr (1 + 1) = 2 := by omega
  try rw [e_32]
  refine zx2304_1 hs_3 (by omega) (by omega) (by omega) (by omega) (by omega) (by omega) (by omega) (by omega) q_22 q_23 q_24 q_25 q_26 q_27 q_28 q_29 q_30 q_11 q_12 q_13 q_14 q_15 q_16 q_17 q_20 q_18 q_19 (fun s_33 hs_34 q_35 q_36 q_37 q_38 q_39 q_40 q_41 q_42 q_43 q_44 q_45 q_46 q_47 q_48 q_49 q_50 q_51 q_52 q_53 q_54 q_55 q_56 q_57 q_58 q_59 q_60 q_61 q_62 q_63 q_64 q_65 q_66 => ⟨rfl, ?_⟩)
  exact zx258_1_l13_0 k _ _ _ _ s_33 hs_34 (Nat.lt_succ_self _) (by omega) rfl (by omega) (by omega) (by omega) (by omega) (by omega) (by omega) (by omega) (by omega) (by omega) q_43 q_44 q_45 q_46 q_47 q_48 q_49 q_50 q_51 q_52 q_53 q_54 q_55 q_56 q_57 q_58 q_59 q_60 q_61 q_62 q_63 q_64 q_65 q_66
