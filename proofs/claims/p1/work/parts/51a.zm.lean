set_option maxRecDepth 100000 in
/-- GatheredPointsModel.isIn [('r', -2147483648, 0), 1, 8] -/
theorem zm3073_0 {z : gH} {L d : Nat} {K : Option gV → gH → Prop} {s : gH} (p0 : BitVec 64) (hs : zM z s) (h_p0 : (-2147483648) ≤ p0.toInt ∧ p0.toInt ≤ 0)  (k : K (some (gp_i 0)) s) : gs_C L d 3073 6 [gp_l p0, gp_l (1#64), gp_l (8#64)] s K := by
  refine s_3073_e _ _ _ ?_
  have w_1 : (1#64).toInt = 1 := by decide
  have w_2 := gz_cmp p0 (1#64)
  have e_3 : gp_cmp p0 (1#64) = (-1) := by omega
  try rw [e_3]
  refine ⟨fun h_4 => ?_, fun h_4 => ?_⟩
  · refine s_3073_17 _ _ _ ?_
    refine s_3073_18 _ _ _ _ ?_
    refine ⟨by omega, ?_⟩
    exact k
  · exfalso; omega
set_option maxRecDepth 100000 in
/-- GatheredPointsModel.finds [(1, 1)] -/
theorem zm3074_0 {z : gH} {L d : Nat} {K : Option gV → gH → Prop} {s : gH}  (hs : zM z s)  (q0 : gp_I s 74 11 = 0) (q1 : gp_I s 74 43 = 0) (q2 : gp_I s 74 57 = 0) (q3 : gp_I s 74 58 = 0) (q4 : gp_I s 74 7 = 1) (q5 : gp_I s 74 9 = 0) (k : ∀ (t : gH), zM z t → (gp_I t 74 11 = 0) → (gp_I t 74 43 = 0) → (gp_I t 74 57 = 0) → (gp_I t 74 58 = 0) → (gp_I t 74 7 = 1) → (gp_I t 74 9 = 0) → ((-2147483648) ≤ gp_I t 75 1 ∧ gp_I t 75 1 ≤ 2147483647) → K (some (gp_i (-1000000001))) t) : gs_C L d 3074 2 [gp_r (some 74), gp_i 1] s K := by
  refine s_3074_e _ ?_
  refine ⟨by omega, ?_⟩
  have w_1 := gz_w ((gp_I s 75 (1 : Int).toNat) + 1)
  refine ⟨by omega, ?_⟩
  intro s_2 e_3
  have hs_4 : zM z s_2 := by rw [e_3]; exact zw75 hs _ _
  have q_5 : gp_I s_2 74 11 = 0 := by rw [e_3]; exact q0
  have q_6 : gp_I s_2 74 43 = 0 := by rw [e_3]; exact q1
  have q_7 : gp_I s_2 74 57 = 0 := by rw [e_3]; exact q2
  have q_8 : gp_I s_2 74 58 = 0 := by rw [e_3]; exact q3
  have q_9 : gp_I s_2 74 7 = 1 := by rw [e_3]; exact q4
  have q_10 : gp_I s_2 74 9 = 0 := by rw [e_3]; exact q5
  have q_11 : (-2147483648) ≤ gp_I s_2 75 1 ∧ gp_I s_2 75 1 ≤ 2147483647 := by have x_12 : gp_I s_2 75 1 = gp_wr ((gp_I s 75 (1 : Int).toNat) + 1) := (by rw [e_3]; rfl); omega
  have w_13 := gz_w ((-1000000000) - 1)
  have e_14 : gp_wr ((-1000000000) - 1) = (-1000000001) := by omega
  try rw [e_14]
  exact k s_2 hs_4 (by omega) (by omega) (by omega) (by omega) (by omega) (by omega) (by omega)
set_option maxRecDepth 100000 in
/-- GatheredPointsModel.feed [None, (-2147483648, 0)] -/
theorem zm3124_0 {z : gH} {L d : Nat} {K : Option gV → gH → Prop} {s : gH} (p0 : BitVec 64) (p1 : Int) (hs : zM z s) (h_p1 : (-2147483648) ≤ p1 ∧ p1 ≤ 0) (q0 : gp_I s 74 11 = 0) (q1 : gp_I s 74 43 = 0) (q2 : gp_I s 74 57 = 0) (q3 : gp_I s 74 58 = 0) (q4 : gp_I s 74 7 = 1) (q5 : gp_I s 74 9 = 0) (k : ∀ (t : gH), zM z t → (gp_I t 74 11 = 0) → (gp_I t 74 43 = 0) → (gp_I t 74 57 = 0) → (gp_I t 74 58 = 0) → (gp_I t 74 7 = 1) → (gp_I t 74 9 = 0) → ((-2147483648) ≤ gp_I t 75 1 ∧ gp_I t 75 1 ≤ 2147483647) → K (some (gp_i (-1000000001))) t) : gs_C L (d + 1) 3124 5 [gp_r (some 74), gp_l p0, gp_i p1] s K := by
  refine s_3124_e _ _ ?_
  have w_1 := gz_oi (p1) (by omega)
  have e_2 : BitVec.ofInt 64 8 = 8#64 := by decide
  try rw [e_2]
  refine zm3073_0 _ hs (by omega) (⟨_, rfl, ?_⟩)
  refine ⟨fun h_3 => ?_, fun h_3 => ?_⟩
  · refine zm3074_0 hs (by omega) (by omega) (by omega) (by omega) (by omega) (by omega) (fun s_4 hs_5 q_6 q_7 q_8 q_9 q_10 q_11 q_12 => ⟨_, rfl, ?_⟩)
    exact k s_4 hs_5 (by omega) (by omega) (by omega) (by omega) (by omega) (by omega) (by omega)
  · exfalso; omega
set_option maxRecDepth 100000 in
/-- GatheredPointsModel.isIn [1, 1, 8] -/
theorem zm3073_1 {z : gH} {L d : Nat} {K : Option gV → gH → Prop} {s : gH}  (hs : zM z s)   (k : K (some (gp_i 1)) s) : gs_C L d 3073 6 [gp_l (1#64), gp_l (1#64), gp_l (8#64)] s K := by
  refine s_3073_e _ _ _ ?_
  have e_1 : gp_cmp (1#64) (1#64) = 0 := by decide
  try rw [e_1]
  refine ⟨fun h_2 => ?_, fun h_2 => ?_⟩
  · exfalso; omega
  · have e_3 : gp_cmp (1#64) (8#64) = (-1) := by decide
    try rw [e_3]
    refine ⟨fun h_4 => ?_, fun h_4 => ?_⟩
    · exfalso; omega
    · refine s_3073_18 _ _ _ _ ?_
      refine ⟨by omega, ?_⟩
      exact k
set_option maxRecDepth 100000 in
/-- GatheredPointsModel.feed [None, (1, 1)] -/
theorem zm3124_1 {z : gH} {L d : Nat} {K : Option gV → gH → Prop} {s : gH} (p0 : BitVec 64) (hs : zM z s)  (q0 : gp_I s 74 11 = 0) (q1 : gp_I s 74 43 = 0) (q2 : gp_I s 74 57 = 0) (q3 : gp_I s 74 58 = 0) (q4 : gp_I s 74 7 = 1) (q5 : gp_I s 74 9 = 0) (k : ∀ (t : gH), zM z t → (gp_I t 74 11 = 1) → (gp_I t 74 43 = 0) → (gp_I t 74 57 = 0) → (gp_I t 74 58 = 0) → (gp_I t 74 7 = 1) → (gp_I t 74 9 = 0) → K (some (gp_i 1)) t) : gs_C L (d + 1) 3124 5 [gp_r (some 74), gp_l p0, gp_i 1] s K := by
  refine s_3124_e _ _ ?_
  have e_1 : BitVec.ofInt 64 1 = 1#64 := by decide
  try rw [e_1]
  have e_2 : BitVec.ofInt 64 8 = 8#64 := by decide
  try rw [e_2]
  refine zm3073_1 hs (⟨_, rfl, ?_⟩)
  refine ⟨fun h_3 => ?_, fun h_3 => ?_⟩
  · exfalso; omega
  · try rw [show gp_I s 74 11 = 0 from q0]
    have w_4 := gz_w (0 + 1)
    have e_5 : gp_wr (0 + 1) = 1 := by omega
    try rw [e_5]
    refine ⟨fun h_6 => ?_, fun h_6 => ?_⟩
    · exfalso; omega
    · refine s_3124_38 _ _ _ ?_
      refine ⟨fun h_7 => ?_, fun h_7 => ?_⟩
      · try rw [show gp_I s 74 11 = 0 from q0]
        have w_8 := gz_w (8 * 0)
        have e_9 : gp_wr (8 * 0) = 0 := by omega
        try rw [e_9]
        have e_10 : BitVec.ofInt 64 255 = 255#64 := by decide
        try rw [e_10]
        refine ⟨by omega, ?_⟩
        intro s_11 e_12
        have hs_13 : zM z s_11 := by rw [e_12]; exact zw82 hs _ _
        have q_14 : gp_I s_11 74 11 = 0 := by rw [e_12]; exact q0
        have q_15 : gp_I s_11 74 43 = 0 := by rw [e_12]; exact q1
        have q_16 : gp_I s_11 74 57 = 0 := by rw [e_12]; exact q2
        have q_17 : gp_I s_11 74 58 = 0 := by rw [e_12]; exact q3
        have q_18 : gp_I s_11 74 7 = 1 := by rw [e_12]; exact q4
        have q_19 : gp_I s_11 74 9 = 0 := by rw [e_12]; exact q5
        try rw [show gp_I s_11 74 11 = 0 from q_14]
        have w_20 := gz_w (0 + 1)
        have e_21 : gp_wr (0 + 1) = 1 := by omega
        try rw [e_21]
        intro s_22 e_23
        have hs_24 : zM z s_22 := by rw [e_23]; exact zw74_11 hs_13 0 _
        have q_25 : gp_I s_22 74 43 = 0 := by rw [e_23]; exact q_15
        have q_26 : gp_I s_22 74 57 = 0 := by rw [e_23]; exact q_16
        have q_27 : gp_I s_22 74 58 = 0 := by rw [e_23]; exact q_17
        have q_28 : gp_I s_22 74 7 = 1 := by rw [e_23]; exact q_18
        have q_29 : gp_I s_22 74 9 = 0 := by rw [e_23]; exact q_19
        have q_30 : gp_I s_22 74 11 = 1 := by rw [e_23]; rfl
        have w_32 := gz_w (0 + 1)
        have e_33 : gp_wr (0 + 1) = 1 := by omega
        try rw [e_33]
        refine s_3124_38 _ _ _ ?_
        refine ⟨fun h_34 => ?_, fun h_34 => ?_⟩
        · exfalso; omega
        · try rw [show gp_I s_22 74 11 = 1 from q_30]
          exact k s_22 hs_24 (by omega) (by omega) (by omega) (by omega) (by omega) (by omega)
      · exfalso; omega
set_option maxRecDepth 100000 in
/-- GatheredPointsModel.isIn [2, 1, 8] -/
theorem zm3073_2 {z : gH} {L d : Nat} {K : Option gV → gH → Prop} {s : gH}  (hs : zM z s)   (k : K (some (gp_i 1)) s) : gs_C L d 3073 6 [gp_l (2#64), gp_l (1#64), gp_l (8#64)] s K := by
  refine s_3073_e _ _ _ ?_
  have e_1 : gp_cmp (2#64) (1#64) = 1 := by decide
  try rw [e_1]
  refine ⟨fun h_2 => ?_, fun h_2 => ?_⟩
  · exfalso; omega
  · have e_3 : gp_cmp (2#64) (8#64) = (-1) := by decide
    try rw [e_3]
    refine ⟨fun h_4 => ?_, fun h_4 => ?_⟩
    · exfalso; omega
    · refine s_3073_18 _ _ _ _ ?_
      refine ⟨by omega, ?_⟩
      exact k
set_option maxRecDepth 100000 in
/-- GatheredPointsModel.feed [None, (2, 2)] -/
theorem zm3124_2 {z : gH} {L d : Nat} {K : Option gV → gH → Prop} {s : gH} (p0 : BitVec 64) (hs : zM z s)  (q0 : gp_I s 74 11 = 0) (q1 : gp_I s 74 43 = 0) (q2 : gp_I s 74 57 = 0) (q3 : gp_I s 74 58 = 0) (q4 : gp_I s 74 7 = 1) (q5 : gp_I s 74 9 = 0) (k : ∀ (t : gH), zM z t → (gp_I t 74 11 = 2) → (gp_I t 74 43 = 0) → (gp_I t 74 57 = 0) → (gp_I t 74 58 = 0) → (gp_I t 74 7 = 1) → (gp_I t 74 9 = 0) → K (some (gp_i 2)) t) : gs_C L (d + 1) 3124 5 [gp_r (some 74), gp_l p0, gp_i 2] s K := by
  refine s_3124_e _ _ ?_
  have e_1 : BitVec.ofInt 64 2 = 2#64 := by decide
  try rw [e_1]
  have e_2 : BitVec.ofInt 64 8 = 8#64 := by decide
  try rw [e_2]
  refine zm3073_2 hs (⟨_, rfl, ?_⟩)
  refine ⟨fun h_3 => ?_, fun h_3 => ?_⟩
  · exfalso; omega
  · try rw [show gp_I s 74 11 = 0 from q0]
    have w_4 := gz_w (0 + 2)
    have e_5 : gp_wr (0 + 2) = 2 := by omega
    try rw [e_5]
    refine ⟨fun h_6 => ?_, fun h_6 => ?_⟩
    · exfalso; omega
    · refine s_3124_38 _ _ _ ?_
      refine ⟨fun h_7 => ?_, fun h_7 => ?_⟩
      · try rw [show gp_I s 74 11 = 0 from q0]
        have w_8 := gz_w (8 * 0)
        have e_9 : gp_wr (8 * 0) = 0 := by omega
        try rw [e_9]
        have e_10 : BitVec.ofInt 64 255 = 255#64 := by decide
        try rw [e_10]
        refine ⟨by omega, ?_⟩
        intro s_11 e_12
        have hs_13 : zM z s_11 := by rw [e_12]; exact zw82 hs _ _
        have q_14 : gp_I s_11 74 11 = 0 := by rw [e_12]; exact q0
        have q_15 : gp_I s_11 74 43 = 0 := by rw [e_12]; exact q1
        have q_16 : gp_I s_11 74 57 = 0 := by rw [e_12]; exact q2
        have q_17 : gp_I s_11 74 58 = 0 := by rw [e_12]; exact q3
        have q_18 : gp_I s_11 74 7 = 1 := by rw [e_12]; exact q4
        have q_19 : gp_I s_11 74 9 = 0 := by rw [e_12]; exact q5
        try rw [show gp_I s_11 74 11 = 0 from q_14]
        have w_20 := gz_w (0 + 1)
        have e_21 : gp_wr (0 + 1) = 1 := by omega
        try rw [e_21]
        intro s_22 e_23
        have hs_24 : zM z s_22 := by rw [e_23]; exact zw74_11 hs_13 0 _
        have q_25 : gp_I s_22 74 43 = 0 := by rw [e_23]; exact q_15
        have q_26 : gp_I s_22 74 57 = 0 := by rw [e_23]; exact q_16
        have q_27 : gp_I s_22 74 58 = 0 := by rw [e_23]; exact q_17
        have q_28 : gp_I s_22 74 7 = 1 := by rw [e_23]; exact q_18
        have q_29 : gp_I s_22 74 9 = 0 := by rw [e_23]; exact q_19
        have q_30 : gp_I s_22 74 11 = 1 := by rw [e_23]; rfl
        have w_32 := gz_w (0 + 1)
        have e_33 : gp_wr (0 + 1) = 1 := by omega
        try rw [e_33]
        refine s_3124_38 _ _ _ ?_
        refine ⟨fun h_34 => ?_, fun h_34 => ?_⟩
        · try rw [show gp_I s_22 74 11 = 1 from q_30]
          have w_35 := gz_w (8 * 1)
          have e_36 : gp_wr (8 * 1) = 8 := by omega
          try rw [e_36]
          have e_37 : BitVec.ofInt 64 255 = 255#64 := by decide
          try rw [e_37]
          refine ⟨by omega, ?_⟩
          intro s_38 e_39
          have hs_40 : zM z s_38 := by rw [e_39]; exact zw82 hs_24 _ _
          have q_41 : gp_I s_38 74 43 = 0 := by rw [e_39]; exact q_25
          have q_42 : gp_I s_38 74 57 = 0 := by rw [e_39]; exact q_26
          have q_43 : gp_I s_38 74 58 = 0 := by rw [e_39]; exact q_27
          have q_44 : gp_I s_38 74 7 = 1 := by rw [e_39]; exact q_28
          have q_45 : gp_I s_38 74 9 = 0 := by rw [e_39]; exact q_29
          have q_46 : gp_I s_38 74 11 = 1 := by rw [e_39]; exact q_30
          try rw [show gp_I s_38 74 11 = 1 from q_46]
          have w_47 := gz_w (1 + 1)
          have e_48 : gp_wr (1 + 1) = 2 := by omega
          try rw [e_48]
          intro s_49 e_50
          have hs_51 : zM z s_49 := by rw [e_50]; exact zw74_11 hs_40 0 _
          have q_52 : gp_I s_49 74 43 = 0 := by rw [e_50]; exact q_41
          have q_53 : gp_I s_49 74 57 = 0 := by rw [e_50]; exact q_42
          have q_54 : gp_I s_49 74 58 = 0 := by rw [e_50]; exact q_43
          have q_55 : gp_I s_49 74 7 = 1 := by rw [e_50]; exact q_44
          have q_56 : gp_I s_49 74 9 = 0 := by rw [e_50]; exact q_45
          have q_57 : gp_I s_49 74 11 = 2 := by rw [e_50]; rfl
          have w_59 := gz_w (1 + 1)
          have e_60 : gp_wr (1 + 1) = 2 := by omega
          try rw [e_60]
          refine s_3124_38 _ _ _ ?_
          refine ⟨fun h_61 => ?_, fun h_61 => ?_⟩
          · exfalso; omega
          · try rw [show gp_I s_49 74 11 = 2 from q_57]
            exact k s_49 hs_51 (by omega) (by omega) (by omega) (by omega) (by omega) (by omega)
        · exfalso; omega
      · exfalso; omega
set_option maxRecDepth 100000 in
/-- GatheredPointsModel.isIn [3, 1, 8] -/
theorem zm3073_3 {z : gH} {L d : Nat} {K : Option gV → gH → Prop} {s : gH}  (hs : zM z s)   (k : K (some (gp_i 1)) s) : gs_C L d 3073 6 [gp_l (3#64), gp_l (1#64), gp_l (8#64)] s K := by
  refine s_3073_e _ _ _ ?_
  have e_1 : gp_cmp (3#64) (1#64) = 1 := by decide
  try rw [e_1]
  refine ⟨fun h_2 => ?_, fun h_2 => ?_⟩
  · exfalso; omega
  · have e_3 : gp_cmp (3#64) (8#64) = (-1) := by decide
    try rw [e_3]
    refine ⟨fun h_4 => ?_, fun h_4 => ?_⟩
    · exfalso; omega
    · refine s_3073_18 _ _ _ _ ?_
      refine ⟨by omega, ?_⟩
      exact k
set_option maxRecDepth 100000 in
/-- GatheredPointsModel.feed [None, (3, 3)] -/
theorem zm3124_3 {z : gH} {L d : Nat} {K : Option gV → gH → Prop} {s : gH} (p0 : BitVec 64) (hs : zM z s)  (q0 : gp_I s 74 11 = 0) (q1 : gp_I s 74 43 = 0) (q2 : gp_I s 74 57 = 0) (q3 : gp_I s 74 58 = 0) (q4 : gp_I s 74 7 = 1) (q5 : gp_I s 74 9 = 0) (k : ∀ (t : gH), zM z t → (gp_I t 74 11 = 3) → (gp_I t 74 43 = 0) → (gp_I t 74 57 = 0) → (gp_I t 74 58 = 0) → (gp_I t 74 7 = 1) → (gp_I t 74 9 = 0) → K (some (gp_i 3)) t) : gs_C L (d + 1) 3124 5 [gp_r (some 74), gp_l p0, gp_i 3] s K := by
  refine s_3124_e _ _ ?_
  have e_1 : BitVec.ofInt 64 3 = 3#64 := by decide
  try rw [e_1]
  have e_2 : BitVec.ofInt 64 8 = 8#64 := by decide
  try rw [e_2]
  refine zm3073_3 hs (⟨_, rfl, ?_⟩)
  refine ⟨fun h_3 => ?_, fun h_3 => ?_⟩
  · exfalso; omega
  · try rw [show gp_I s 74 11 = 0 from q0]
    have w_4 := gz_w (0 + 3)
    have e_5 : gp_wr (0 + 3) = 3 := by omega
    try rw [e_5]
    refine ⟨fun h_6 => ?_, fun h_6 => ?_⟩
    · exfalso; omega
    · refine s_3124_38 _ _ _ ?_
      refine ⟨fun h_7 => ?_, fun h_7 => ?_⟩
      · try rw [show gp_I s 74 11 = 0 from q0]
        have w_8 := gz_w (8 * 0)
        have e_9 : gp_wr (8 * 0) = 0 := by omega
        try rw [e_9]
        have e_10 : BitVec.ofInt 64 255 = 255#64 := by decide
        try rw [e_10]
        refine ⟨by omega, ?_⟩
        intro s_11 e_12
        have hs_13 : zM z s_11 := by rw [e_12]; exact zw82 hs _ _
        have q_14 : gp_I s_11 74 11 = 0 := by rw [e_12]; exact q0
        have q_15 : gp_I s_11 74 43 = 0 := by rw [e_12]; exact q1
        have q_16 : gp_I s_11 74 57 = 0 := by rw [e_12]; exact q2
        have q_17 : gp_I s_11 74 58 = 0 := by rw [e_12]; exact q3
        have q_18 : gp_I s_11 74 7 = 1 := by rw [e_12]; exact q4
        have q_19 : gp_I s_11 74 9 = 0 := by rw [e_12]; exact q5
        try rw [show gp_I s_11 74 11 = 0 from q_14]
        have w_20 := gz_w (0 + 1)
        have e_21 : gp_wr (0 + 1) = 1 := by omega
        try rw [e_21]
        intro s_22 e_23
        have hs_24 : zM z s_22 := by rw [e_23]; exact zw74_11 hs_13 0 _
        have q_25 : gp_I s_22 74 43 = 0 := by rw [e_23]; exact q_15
        have q_26 : gp_I s_22 74 57 = 0 := by rw [e_23]; exact q_16
        have q_27 : gp_I s_22 74 58 = 0 := by rw [e_23]; exact q_17
        have q_28 : gp_I s_22 74 7 = 1 := by rw [e_23]; exact q_18
        have q_29 : gp_I s_22 74 9 = 0 := by rw [e_23]; exact q_19
        have q_30 : gp_I s_22 74 11 = 1 := by rw [e_23]; rfl
        have w_32 := gz_w (0 + 1)
        have e_33 : gp_wr (0 + 1) = 1 := by omega
        try rw [e_33]
        refine s_3124_38 _ _ _ ?_
        refine ⟨fun h_34 => ?_, fun h_34 => ?_⟩
        · try rw [show gp_I s_22 74 11 = 1 from q_30]
          have w_35 := gz_w (8 * 1)
          have e_36 : gp_wr (8 * 1) = 8 := by omega
          try rw [e_36]
          have e_37 : BitVec.ofInt 64 255 = 255#64 := by decide
          try rw [e_37]
          refine ⟨by omega, ?_⟩
          intro s_38 e_39
          have hs_40 : zM z s_38 := by rw [e_39]; exact zw82 hs_24 _ _
          have q_41 : gp_I s_38 74 43 = 0 := by rw [e_39]; exact q_25
          have q_42 : gp_I s_38 74 57 = 0 := by rw [e_39]; exact q_26
          have q_43 : gp_I s_38 74 58 = 0 := by rw [e_39]; exact q_27
          have q_44 : gp_I s_38 74 7 = 1 := by rw [e_39]; exact q_28
          have q_45 : gp_I s_38 74 9 = 0 := by rw [e_39]; exact q_29
          have q_46 : gp_I s_38 74 11 = 1 := by rw [e_39]; exact q_30
          try rw [show gp_I s_38 74 11 = 1 from q_46]
          have w_47 := gz_w (1 + 1)
          have e_48 : gp_wr (1 + 1) = 2 := by omega
          try rw [e_48]
          intro s_49 e_50
          have hs_51 : zM z s_49 := by rw [e_50]; exact zw74_11 hs_40 0 _
          have q_52 : gp_I s_49 74 43 = 0 := by rw [e_50]; exact q_41
          have q_53 : gp_I s_49 74 57 = 0 := by rw [e_50]; exact q_42
          have q_54 : gp_I s_49 74 58 = 0 := by rw [e_50]; exact q_43
          have q_55 : gp_I s_49 74 7 = 1 := by rw [e_50]; exact q_44
          have q_56 : gp_I s_49 74 9 = 0 := by rw [e_50]; exact q_45
          have q_57 : gp_I s_49 74 11 = 2 := by rw [e_50]; rfl
          have w_59 := gz_w (1 + 1)
          have e_60 : gp_wr (1 + 1) = 2 := by omega
          try rw [e_60]
          refine s_3124_38 _ _ _ ?_
          refine ⟨fun h_61 => ?_, fun h_61 => ?_⟩
          · try rw [show gp_I s_49 74 11 = 2 from q_57]
            have w_62 := gz_w (8 * 2)
            have e_63 : gp_wr (8 * 2) = 16 := by omega
            try rw [e_63]
            have e_64 : BitVec.ofInt 64 255 = 255#64 := by decide
            try rw [e_64]
            refine ⟨by omega, ?_⟩
            intro s_65 e_66
            have hs_67 : zM z s_65 := by rw [e_66]; exact zw82 hs_51 _ _
            have q_68 : gp_I s_65 74 43 = 0 := by rw [e_66]; exact q_52
            have q_69 : gp_I s_65 74 57 = 0 := by rw [e_66]; exact q_53
            have q_70 : gp_I s_65 74 58 = 0 := by rw [e_66]; exact q_54
            have q_71 : gp_I s_65 74 7 = 1 := by rw [e_66]; exact q_55
            have q_72 : gp_I s_65 74 9 = 0 := by rw [e_66]; exact q_56
            have q_73 : gp_I s_65 74 11 = 2 := by rw [e_66]; exact q_57
            try rw [show gp_I s_65 74 11 = 2 from q_73]
            have w_74 := gz_w (2 + 1)
            have e_75 : gp_wr (2 + 1) = 3 := by omega
            try rw [e_75]
            intro s_76 e_77
            have hs_78 : zM z s_76 := by rw [e_77]; exact zw74_11 hs_67 0 _
            have q_79 : gp_I s_76 74 43 = 0 := by rw [e_77]; exact q_68
            have q_80 : gp_I s_76 74 57 = 0 := by rw [e_77]; exact q_69
            have q_81 : gp_I s_76 74 58 = 0 := by rw [e_77]; exact q_70
            have q_82 : gp_I s_76 74 7 = 1 := by rw [e_77]; exact q_71
            have q_83 : gp_I s_76 74 9 = 0 := by rw [e_77]; exact q_72
            have q_84 : gp_I s_76 74 11 = 3 := by rw [e_77]; rfl
            have w_86 := gz_w (2 + 1)
            have e_87 : gp_wr (2 + 1) = 3 := by omega
            try rw [e_87]
            refine s_3124_38 _ _ _ ?_
            refine ⟨fun h_88 => ?_, fun h_88 => ?_⟩
            · exfalso; omega
            · try rw [show gp_I s_76 74 11 = 3 from q_84]
              exact k s_76 hs_78 (by omega) (by omega) (by omega) (by omega) (by omega) (by omega)
          · exfalso; omega
        · exfalso; omega
      · exfalso; omega
set_option maxRecDepth 100000 in
/-- GatheredPointsModel.isIn [4, 1, 8] -/
theorem zm3073_4 {z : gH} {L d : Nat} {K : Option gV → gH → Prop} {s : gH}  (hs : zM z s)   (k : K (some (gp_i 1)) s) : gs_C L d 3073 6 [gp_l (4#64), gp_l (1#64), gp_l (8#64)] s K := by
  refine s_3073_e _ _ _ ?_
  have e_1 : gp_cmp (4#64) (1#64) = 1 := by decide
  try rw [e_1]
  refine ⟨fun h_2 => ?_, fun h_2 => ?_⟩
  · exfalso; omega
  · have e_3 : gp_cmp (4#64) (8#64) = (-1) := by decide
    try rw [e_3]
    refine ⟨fun h_4 => ?_, fun h_4 => ?_⟩
    · exfalso; omega
    · refine s_3073_18 _ _ _ _ ?_
      refine ⟨by omega, ?_⟩
      exact k
set_option maxRecDepth 100000 in
/-- GatheredPointsModel.feed [None, (4, 4)] -/
theorem zm3124_4 {z : gH} {L d : Nat} {K : Option gV → gH → Prop} {s : gH} (p0 : BitVec 64) (hs : zM z s)  (q0 : gp_I s 74 11 = 0) (q1 : gp_I s 74 43 = 0) (q2 : gp_I s 74 57 = 0) (q3 : gp_I s 74 58 = 0) (q4 : gp_I s 74 7 = 1) (q5 : gp_I s 74 9 = 0) (k : ∀ (t : gH), zM z t → (gp_I t 74 11 = 4) → (gp_I t 74 43 = 0) → (gp_I t 74 57 = 0) → (gp_I t 74 58 = 0) → (gp_I t 74 7 = 1) → (gp_I t 74 9 = 0) → K (some (gp_i 4)) t) : gs_C L (d + 1) 3124 5 [gp_r (some 74), gp_l p0, gp_i 4] s K := by
  refine s_3124_e _ _ ?_
  have e_1 : BitVec.ofInt 64 4 = 4#64 := by decide
  try rw [e_1]
  have e_2 : BitVec.ofInt 64 8 = 8#64 := by decide
  try rw [e_2]
  refine zm3073_4 hs (⟨_, rfl, ?_⟩)
  refine ⟨fun h_3 => ?_, fun h_3 => ?_⟩
  · exfalso; omega
  · try rw [show gp_I s 74 11 = 0 from q0]
    have w_4 := gz_w (0 + 4)
    have e_5 : gp_wr (0 + 4) = 4 := by omega
    try rw [e_5]
    refine ⟨fun h_6 => ?_, fun h_6 => ?_⟩
    · exfalso; omega
    · refine s_3124_38 _ _ _ ?_
      refine ⟨fun h_7 => ?_, fun h_7 => ?_⟩
      · try rw [show gp_I s 74 11 = 0 from q0]
        have w_8 := gz_w (8 * 0)
        have e_9 : gp_wr (8 * 0) = 0 := by omega
        try rw [e_9]
        have e_10 : BitVec.ofInt 64 255 = 255#64 := by decide
        try rw [e_10]
        refine ⟨by omega, ?_⟩
        intro s_11 e_12
        have hs_13 : zM z s_11 := by rw [e_12]; exact zw82 hs _ _
        have q_14 : gp_I s_11 74 11 = 0 := by rw [e_12]; exact q0
        have q_15 : gp_I s_11 74 43 = 0 := by rw [e_12]; exact q1
        have q_16 : gp_I s_11 74 57 = 0 := by rw [e_12]; exact q2
        have q_17 : gp_I s_11 74 58 = 0 := by rw [e_12]; exact q3
        have q_18 : gp_I s_11 74 7 = 1 := by rw [e_12]; exact q4
        have q_19 : gp_I s_11 74 9 = 0 := by rw [e_12]; exact q5
        try rw [show gp_I s_11 74 11 = 0 from q_14]
        have w_20 := gz_w (0 + 1)
        have e_21 : gp_wr (0 + 1) = 1 := by omega
        try rw [e_21]
        intro s_22 e_23
        have hs_24 : zM z s_22 := by rw [e_23]; exact zw74_11 hs_13 0 _
        have q_25 : gp_I s_22 74 43 = 0 := by rw [e_23]; exact q_15
        have q_26 : gp_I s_22 74 57 = 0 := by rw [e_23]; exact q_16
        have q_27 : gp_I s_22 74 58 = 0 := by rw [e_23]; exact q_17
        have q_28 : gp_I s_22 74 7 = 1 := by rw [e_23]; exact q_18
        have q_29 : gp_I s_22 74 9 = 0 := by rw [e_23]; exact q_19
        have q_30 : gp_I s_22 74 11 = 1 := by rw [e_23]; rfl
        have w_32 := gz_w (0 + 1)
        have e_33 : gp_wr (0 + 1) = 1 := by omega
        try rw [e_33]
        refine s_3124_38 _ _ _ ?_
        refine ⟨fun h_34 => ?_, fun h_34 => ?_⟩
        · try rw [show gp_I s_22 74 11 = 1 from q_30]
          have w_35 := gz_w (8 * 1)
          have e_36 : gp_wr (8 * 1) = 8 := by omega
          try rw [e_36]
          have e_37 : BitVec.ofInt 64 255 = 255#64 := by decide
          try rw [e_37]
          refine ⟨by omega, ?_⟩
          intro s_38 e_39
          have hs_40 : zM z s_38 := by rw [e_39]; exact zw82 hs_24 _ _
          have q_41 : gp_I s_38 74 43 = 0 := by rw [e_39]; exact q_25
          have q_42 : gp_I s_38 74 57 = 0 := by rw [e_39]; exact q_26
          have q_43 : gp_I s_38 74 58 = 0 := by rw [e_39]; exact q_27
          have q_44 : gp_I s_38 74 7 = 1 := by rw [e_39]; exact q_28
          have q_45 : gp_I s_38 74 9 = 0 := by rw [e_39]; exact q_29
          have q_46 : gp_I s_38 74 11 = 1 := by rw [e_39]; exact q_30
          try rw [show gp_I s_38 74 11 = 1 from q_46]
          have w_47 := gz_w (1 + 1)
          have e_48 : gp_wr (1 + 1) = 2 := by omega
          try rw [e_48]
          intro s_49 e_50
          have hs_51 : zM z s_49 := by rw [e_50]; exact zw74_11 hs_40 0 _
          have q_52 : gp_I s_49 74 43 = 0 := by rw [e_50]; exact q_41
          have q_53 : gp_I s_49 74 57 = 0 := by rw [e_50]; exact q_42
          have q_54 : gp_I s_49 74 58 = 0 := by rw [e_50]; exact q_43
          have q_55 : gp_I s_49 74 7 = 1 := by rw [e_50]; exact q_44
          have q_56 : gp_I s_49 74 9 = 0 := by rw [e_50]; exact q_45
          have q_57 : gp_I s_49 74 11 = 2 := by rw [e_50]; rfl
          have w_59 := gz_w (1 + 1)
          have e_60 : gp_wr (1 + 1) = 2 := by omega
          try rw [e_60]
          refine s_3124_38 _ _ _ ?_
          refine ⟨fun h_61 => ?_, fun h_61 => ?_⟩
          · try rw [show gp_I s_49 74 11 = 2 from q_57]
            have w_62 := gz_w (8 * 2)
            have e_63 : gp_wr (8 * 2) = 16 := by omega
            try rw [e_63]
            have e_64 : BitVec.ofInt 64 255 = 255#64 := by decide
            try rw [e_64]
            refine ⟨by omega, ?_⟩
            intro s_65 e_66
            have hs_67 : zM z s_65 := by rw [e_66]; exact zw82 hs_51 _ _
            have q_68 : gp_I s_65 74 43 = 0 := by rw [e_66]; exact q_52
            have q_69 : gp_I s_65 74 57 = 0 := by rw [e_66]; exact q_53
            have q_70 : gp_I s_65 74 58 = 0 := by rw [e_66]; exact q_54
            have q_71 : gp_I s_65 74 7 = 1 := by rw [e_66]; exact q_55
            have q_72 : gp_I s_65 74 9 = 0 := by rw [e_66]; exact q_56
            have q_73 : gp_I s_65 74 11 = 2 := by rw [e_66]; exact q_57
            try rw [show gp_I s_65 74 11 = 2 from q_73]
            have w_74 := gz_w (2 + 1)
            have e_75 : gp_wr (2 + 1) = 3 := by omega
            try rw [e_75]
            intro s_76 e_77
            have hs_78 : zM z s_76 := by rw [e_77]; exact zw74_11 hs_67 0 _
            have q_79 : gp_I s_76 74 43 = 0 := by rw [e_77]; exact q_68
            have q_80 : gp_I s_76 74 57 = 0 := by rw [e_77]; exact q_69
            have q_81 : gp_I s_76 74 58 = 0 := by rw [e_77]; exact q_70
            have q_82 : gp_I s_76 74 7 = 1 := by rw [e_77]; exact q_71
            have q_83 : gp_I s_76 74 9 = 0 := by rw [e_77]; exact q_72
            have q_84 : gp_I s_76 74 11 = 3 := by rw [e_77]; rfl
            have w_86 := gz_w (2 + 1)
            have e_87 : gp_wr (2 + 1) = 3 := by omega
            try rw [e_87]
            refine s_3124_38 _ _ _ ?_
            refine ⟨fun h_88 => ?_, fun h_88 => ?_⟩
            · try rw [show gp_I s_76 74 11 = 3 from q_84]
              have w_89 := gz_w (8 * 3)
              have e_90 : gp_wr (8 * 3) = 24 := by omega
              try rw [e_90]
              have e_91 : BitVec.ofInt 64 255 = 255#64 := by decide
              try rw [e_91]
              refine ⟨by omega, ?_⟩
              intro s_92 e_93
              have hs_94 : zM z s_92 := by rw [e_93]; exact zw82 hs_78 _ _
              have q_95 : gp_I s_92 74 43 = 0 := by rw [e_93]; exact q_79
              have q_96 : gp_I s_92 74 57 = 0 := by rw [e_93]; exact q_80
              have q_97 : gp_I s_92 74 58 = 0 := by rw [e_93]; exact q_81
              have q_98 : gp_I s_92 74 7 = 1 := by rw [e_93]; exact q_82
              have q_99 : gp_I s_92 74 9 = 0 := by rw [e_93]; exact q_83
              have q_100 : gp_I s_92 74 11 = 3 := by rw [e_93]; exact q_84
              try rw [show gp_I s_92 74 11 = 3 from q_100]
              have w_101 := gz_w (3 + 1)
              have e_102 : gp_wr (3 + 1) = 4 := by omega
              try rw [e_102]
              intro s_103 e_104
              have hs_105 : zM z s_103 := by rw [e_104]; exact zw74_11 hs_94 0 _
              have q_106 : gp_I s_103 74 43 = 0 := by rw [e_104]; exact q_95
              have q_107 : gp_I s_103 74 57 = 0 := by rw [e_104]; exact q_96
              have q_108 : gp_I s_103 74 58 = 0 := by rw [e_104]; exact q_97
              have q_109 : gp_I s_103 74 7 = 1 := by rw [e_104]; exact q_98
              have q_110 : gp_I s_103 74 9 = 0 := by rw [e_104]; exact q_99
              have q_111 : gp_I s_103 74 11 = 4 := by rw [e_104]; rfl
              have w_113 := gz_w (3 + 1)
              have e_114 : gp_wr (3 + 1) = 4 := by omega
              try rw [e_114]
              refine s_3124_38 _ _ _ ?_
              refine ⟨fun h_115 => ?_, fun h_115 => ?_⟩
              · exfalso; omega
              · try rw [show gp_I s_103 74 11 = 4 from q_111]
                exact k s_103 hs_105 (by omega) (by omega) (by omega) (by omega) (by omega) (by omega)
            · exfalso; omega
          · exfalso; omega
        · exfalso; omega
      · exfalso; omega
set_option maxRecDepth 100000 in
/-- GatheredPointsModel.isIn [5, 1, 8] -/
theorem zm3073_5 {z : gH} {L d : Nat} {K : Option gV → gH → Prop} {s : gH}  (hs : zM z s)   (k : K (some (gp_i 1)) s) : gs_C L d 3073 6 [gp_l (5#64), gp_l (1#64), gp_l (8#64)] s K := by
  refine s_3073_e _ _ _ ?_
  have e_1 : gp_cmp (5#64) (1#64) = 1 := by decide
  try rw [e_1]
  refine ⟨fun h_2 => ?_, fun h_2 => ?_⟩
  · exfalso; omega
  · have e_3 : gp_cmp (5#64) (8#64) = (-1) := by decide
    try rw [e_3]
    refine ⟨fun h_4 => ?_, fun h_4 => ?_⟩
    · exfalso; omega
    · refine s_3073_18 _ _ _ _ ?_
      refine ⟨by omega, ?_⟩
      exact k
set_option maxRecDepth 100000 in
/-- GatheredPointsModel.feed [None, (5, 5)] -/
theorem zm3124_5 {z : gH} {L d : Nat} {K : Option gV → gH → Prop} {s : gH} (p0 : BitVec 64) (hs : zM z s)  (q0 : gp_I s 74 11 = 0) (q1 : gp_I s 74 43 = 0) (q2 : gp_I s 74 57 = 0) (q3 : gp_I s 74 58 = 0) (q4 : gp_I s 74 7 = 1) (q5 : gp_I s 74 9 = 0) (k : ∀ (t : gH), zM z t → (gp_I t 74 11 = 5) → (gp_I t 74 43 = 0) → (gp_I t 74 57 = 0) → (gp_I t 74 58 = 0) → (gp_I t 74 7 = 1) → (gp_I t 74 9 = 0) → K (some (gp_i 5)) t) : gs_C L (d + 1) 3124 5 [gp_r (some 74), gp_l p0, gp_i 5] s K := by
  refine s_3124_e _ _ ?_
  have e_1 : BitVec.ofInt 64 5 = 5#64 := by decide
  try rw [e_1]
  have e_2 : BitVec.ofInt 64 8 = 8#64 := by decide
  try rw [e_2]
  refine zm3073_5 hs (⟨_, rfl, ?_⟩)
  refine ⟨fun h_3 => ?_, fun h_3 => ?_⟩
  · exfalso; omega
  · try rw [show gp_I s 74 11 = 0 from q0]
    have w_4 := gz_w (0 + 5)
    have e_5 : gp_wr (0 + 5) = 5 := by omega
    try rw [e_5]
    refine ⟨fun h_6 => ?_, fun h_6 => ?_⟩
    · exfalso; omega
    · refine s_3124_38 _ _ _ ?_
      refine ⟨fun h_7 => ?_, fun h_7 => ?_⟩
      · try rw [show gp_I s 74 11 = 0 from q0]
        have w_8 := gz_w (8 * 0)
        have e_9 : gp_wr (8 * 0) = 0 := by omega
        try rw [e_9]
        have e_10 : BitVec.ofInt 64 255 = 255#64 := by decide
        try rw [e_10]
        refine ⟨by omega, ?_⟩
        intro s_11 e_12
        have hs_13 : zM z s_11 := by rw [e_12]; exact zw82 hs _ _
        have q_14 : gp_I s_11 74 11 = 0 := by rw [e_12]; exact q0
        have q_15 : gp_I s_11 74 43 = 0 := by rw [e_12]; exact q1
        have q_16 : gp_I s_11 74 57 = 0 := by rw [e_12]; exact q2
        have q_17 : gp_I s_11 74 58 = 0 := by rw [e_12]; exact q3
        have q_18 : gp_I s_11 74 7 = 1 := by rw [e_12]; exact q4
        have q_19 : gp_I s_11 74 9 = 0 := by rw [e_12]; exact q5
        try rw [show gp_I s_11 74 11 = 0 from q_14]
        have w_20 := gz_w (0 + 1)
        have e_21 : gp_wr (0 + 1) = 1 := by omega
        try rw [e_21]
        intro s_22 e_23
        have hs_24 : zM z s_22 := by rw [e_23]; exact zw74_11 hs_13 0 _
        have q_25 : gp_I s_22 74 43 = 0 := by rw [e_23]; exact q_15
        have q_26 : gp_I s_22 74 57 = 0 := by rw [e_23]; exact q_16
        have q_27 : gp_I s_22 74 58 = 0 := by rw [e_23]; exact q_17
        have q_28 : gp_I s_22 74 7 = 1 := by rw [e_23]; exact q_18
        have q_29 : gp_I s_22 74 9 = 0 := by rw [e_23]; exact q_19
        have q_30 : gp_I s_22 74 11 = 1 := by rw [e_23]; rfl
        have w_32 := gz_w (0 + 1)
        have e_33 : gp_wr (0 + 1) = 1 := by omega
        try rw [e_33]
        refine s_3124_38 _ _ _ ?_
        refine ⟨fun h_34 => ?_, fun h_34 => ?_⟩
        · try rw [show gp_I s_22 74 11 = 1 from q_30]
          have w_35 := gz_w (8 * 1)
          have e_36 : gp_wr (8 * 1) = 8 := by omega
          try rw [e_36]
          have e_37 : BitVec.ofInt 64 255 = 255#64 := by decide
          try rw [e_37]
          refine ⟨by omega, ?_⟩
          intro s_38 e_39
          have hs_40 : zM z s_38 := by rw [e_39]; exact zw82 hs_24 _ _
          have q_41 : gp_I s_38 74 43 = 0 := by rw [e_39]; exact q_25
          have q_42 : gp_I s_38 74 57 = 0 := by rw [e_39]; exact q_26
          have q_43 : gp_I s_38 74 58 = 0 := by rw [e_39]; exact q_27
          have q_44 : gp_I s_38 74 7 = 1 := by rw [e_39]; exact q_28
          have q_45 : gp_I s_38 74 9 = 0 := by rw [e_39]; exact q_29
          have q_46 : gp_I s_38 74 11 = 1 := by rw [e_39]; exact q_30
          try rw [show gp_I s_38 74 11 = 1 from q_46]
          have w_47 := gz_w (1 + 1)
          have e_48 : gp_wr (1 + 1) = 2 := by omega
          try rw [e_48]
          intro s_49 e_50
          have hs_51 : zM z s_49 := by rw [e_50]; exact zw74_11 hs_40 0 _
          have q_52 : gp_I s_49 74 43 = 0 := by rw [e_50]; exact q_41
          have q_53 : gp_I s_49 74 57 = 0 := by rw [e_50]; exact q_42
          have q_54 : gp_I s_49 74 58 = 0 := by rw [e_50]; exact q_43
          have q_55 : gp_I s_49 74 7 = 1 := by rw [e_50]; exact q_44
          have q_56 : gp_I s_49 74 9 = 0 := by rw [e_50]; exact q_45
          have q_57 : gp_I s_49 74 11 = 2 := by rw [e_50]; rfl
          have w_59 := gz_w (1 + 1)
          have e_60 : gp_wr (1 + 1) = 2 := by omega
          try rw [e_60]
          refine s_3124_38 _ _ _ ?_
          refine ⟨fun h_61 => ?_, fun h_61 => ?_⟩
          · try rw [show gp_I s_49 74 11 = 2 from q_57]
            have w_62 := gz_w (8 * 2)
            have e_63 : gp_wr (8 * 2) = 16 := by omega
            try rw [e_63]
            have e_64 : BitVec.ofInt 64 255 = 255#64 := by decide
            try rw [e_64]
            refine ⟨by omega, ?_⟩
            intro s_65 e_66
            have hs_67 : zM z s_65 := by rw [e_66]; exact zw82 hs_51 _ _
            have q_68 : gp_I s_65 74 43 = 0 := by rw [e_66]; exact q_52
            have q_69 : gp_I s_65 74 57 = 0 := by rw [e_66]; exact q_53
            have q_70 : gp_I s_65 74 58 = 0 := by rw [e_66]; exact q_54
            have q_71 : gp_I s_65 74 7 = 1 := by rw [e_66]; exact q_55
            have q_72 : gp_I s_65 74 9 = 0 := by rw [e_66]; exact q_56
            have q_73 : gp_I s_65 74 11 = 2 := by rw [e_66]; exact q_57
            try rw [show gp_I s_65 74 11 = 2 from q_73]
            have w_74 := gz_w (2 + 1)
            have e_75 : gp_wr (2 + 1) = 3 := by omega
            try rw [e_75]
            intro s_76 e_77
            have hs_78 : zM z s_76 := by rw [e_77]; exact zw74_11 hs_67 0 _
            have q_79 : gp_I s_76 74 43 = 0 := by rw [e_77]; exact q_68
            have q_80 : gp_I s_76 74 57 = 0 := by rw [e_77]; exact q_69
            have q_81 : gp_I s_76 74 58 = 0 := by rw [e_77]; exact q_70
            have q_82 : gp_I s_76 74 7 = 1 := by rw [e_77]; exact q_71
            have q_83 : gp_I s_76 74 9 = 0 := by rw [e_77]; exact q_72
            have q_84 : gp_I s_76 74 11 = 3 := by rw [e_77]; rfl
            have w_86 := gz_w (2 + 1)
            have e_87 : gp_wr (2 + 1) = 3 := by omega
            try rw [e_87]
            refine s_3124_38 _ _ _ ?_
            refine ⟨fun h_88 => ?_, fun h_88 => ?_⟩
            · try rw [show gp_I s_76 74 11 = 3 from q_84]
              have w_89 := gz_w (8 * 3)
              have e_90 : gp_wr (8 * 3) = 24 := by omega
              try rw [e_90]
              have e_91 : BitVec.ofInt 64 255 = 255#64 := by decide
              try rw [e_91]
              refine ⟨by omega, ?_⟩
              intro s_92 e_93
              have hs_94 : zM z s_92 := by rw [e_93]; exact zw82 hs_78 _ _
              have q_95 : gp_I s_92 74 43 = 0 := by rw [e_93]; exact q_79
              have q_96 : gp_I s_92 74 57 = 0 := by rw [e_93]; exact q_80
              have q_97 : gp_I s_92 74 58 = 0 := by rw [e_93]; exact q_81
              have q_98 : gp_I s_92 74 7 = 1 := by rw [e_93]; exact q_82
              have q_99 : gp_I s_92 74 9 = 0 := by rw [e_93]; exact q_83
              have q_100 : gp_I s_92 74 11 = 3 := by rw [e_93]; exact q_84
              try rw [show gp_I s_92 74 11 = 3 from q_100]
              have w_101 := gz_w (3 + 1)
              have e_102 : gp_wr (3 + 1) = 4 := by omega
              try rw [e_102]
              intro s_103 e_104
              have hs_105 : zM z s_103 := by rw [e_104]; exact zw74_11 hs_94 0 _
              have q_106 : gp_I s_103 74 43 = 0 := by rw [e_104]; exact q_95
              have q_107 : gp_I s_103 74 57 = 0 := by rw [e_104]; exact q_96
              have q_108 : gp_I s_103 74 58 = 0 := by rw [e_104]; exact q_97
              have q_109 : gp_I s_103 74 7 = 1 := by rw [e_104]; exact q_98
              have q_110 : gp_I s_103 74 9 = 0 := by rw [e_104]; exact q_99
              have q_111 : gp_I s_103 74 11 = 4 := by rw [e_104]; rfl
              have w_113 := gz_w (3 + 1)
              have e_114 : gp_wr (3 + 1) = 4 := by omega
              try rw [e_114]
              refine s_3124_38 _ _ _ ?_
              refine ⟨fun h_115 => ?_, fun h_115 => ?_⟩
              · try rw [show gp_I s_103 74 11 = 4 from q_111]
                have w_116 := gz_w (8 * 4)
                have e_117 : gp_wr (8 * 4) = 32 := by omega
                try rw [e_117]
                have e_118 : BitVec.ofInt 64 255 = 255#64 := by decide
                try rw [e_118]
                refine ⟨by omega, ?_⟩
                intro s_119 e_120
                have hs_121 : zM z s_119 := by rw [e_120]; exact zw82 hs_105 _ _
                have q_122 : gp_I s_119 74 43 = 0 := by rw [e_120]; exact q_106
                have q_123 : gp_I s_119 74 57 = 0 := by rw [e_120]; exact q_107
                have q_124 : gp_I s_119 74 58 = 0 := by rw [e_120]; exact q_108
                have q_125 : gp_I s_119 74 7 = 1 := by rw [e_120]; exact q_109
                have q_126 : gp_I s_119 74 9 = 0 := by rw [e_120]; exact q_110
                have q_127 : gp_I s_119 74 11 = 4 := by rw [e_120]; exact q_111
                try rw [show gp_I s_119 74 11 = 4 from q_127]
                have w_128 := gz_w (4 + 1)
                have e_129 : gp_wr (4 + 1) = 5 := by omega
                try rw [e_129]
                intro s_130 e_131
                have hs_132 : zM z s_130 := by rw [e_131]; exact zw74_11 hs_121 0 _
                have q_133 : gp_I s_130 74 43 = 0 := by rw [e_131]; exact q_122
                have q_134 : gp_I s_130 74 57 = 0 := by rw [e_131]; exact q_123
                have q_135 : gp_I s_130 74 58 = 0 := by rw [e_131]; exact q_124
                have q_136 : gp_I s_130 74 7 = 1 := by rw [e_131]; exact q_125
                have q_137 : gp_I s_130 74 9 = 0 := by rw [e_131]; exact q_126
                have q_138 : gp_I s_130 74 11 = 5 := by rw [e_131]; rfl
                have w_140 := gz_w (4 + 1)
                have e_141 : gp_wr (4 + 1) = 5 := by omega
                try rw [e_141]
                refine s_3124_38 _ _ _ ?_
                refine ⟨fun h_142 => ?_, fun h_142 => ?_⟩
                · exfalso; omega
                · try rw [show gp_I s_130 74 11 = 5 from q_138]
                  exact k s_130 hs_132 (by omega) (by omega) (by omega) (by omega) (by omega) (by omega)
              · exfalso; omega
            · exfalso; omega
          · exfalso; omega
        · exfalso; omega
      · exfalso; omega
set_option maxRecDepth 100000 in
/-- GatheredPointsModel.isIn [6, 1, 8] -/
theorem zm3073_6 {z : gH} {L d : Nat} {K : Option gV → gH → Prop} {s : gH}  (hs : zM z s)   (k : K (some (gp_i 1)) s) : gs_C L d 3073 6 [gp_l (6#64), gp_l (1#64), gp_l (8#64)] s K := by
  refine s_3073_e _ _ _ ?_
  have e_1 : gp_cmp (6#64) (1#64) = 1 := by decide
  try rw [e_1]
  refine ⟨fun h_2 => ?_, fun h_2 => ?_⟩
  · exfalso; omega
  · have e_3 : gp_cmp (6#64) (8#64) = (-1) := by decide
    try rw [e_3]
    refine ⟨fun h_4 => ?_, fun h_4 => ?_⟩
    · exfalso; omega
    · refine s_3073_18 _ _ _ _ ?_
      refine ⟨by omega, ?_⟩
      exact k
set_option maxRecDepth 100000 in
/-- GatheredPointsModel.feed [None, (6, 6)] -/
theorem zm3124_6 {z : gH} {L d : Nat} {K : Option gV → gH → Prop} {s : gH} (p0 : BitVec 64) (hs : zM z s)  (q0 : gp_I s 74 11 = 0) (q1 : gp_I s 74 43 = 0) (q2 : gp_I s 74 57 = 0) (q3 : gp_I s 74 58 = 0) (q4 : gp_I s 74 7 = 1) (q5 : gp_I s 74 9 = 0) (k : ∀ (t : gH), zM z t → (gp_I t 74 11 = 6) → (gp_I t 74 43 = 0) → (gp_I t 74 57 = 0) → (gp_I t 74 58 = 0) → (gp_I t 74 7 = 1) → (gp_I t 74 9 = 0) → K (some (gp_i 6)) t) : gs_C L (d + 1) 3124 5 [gp_r (some 74), gp_l p0, gp_i 6] s K := by
  refine s_3124_e _ _ ?_
  have e_1 : BitVec.ofInt 64 6 = 6#64 := by decide
  try rw [e_1]
  have e_2 : BitVec.ofInt 64 8 = 8#64 := by decide
  try rw [e_2]
  refine zm3073_6 hs (⟨_, rfl, ?_⟩)
  refine ⟨fun h_3 => ?_, fun h_3 => ?_⟩
  · exfalso; omega
  · try rw [show gp_I s 74 11 = 0 from q0]
    have w_4 := gz_w (0 + 6)
    have e_5 : gp_wr (0 + 6) = 6 := by omega
    try rw [e_5]
    refine ⟨fun h_6 => ?_, fun h_6 => ?_⟩
    · exfalso; omega
    · refine s_3124_38 _ _ _ ?_
      refine ⟨fun h_7 => ?_, fun h_7 => ?_⟩
      · try rw [show gp_I s 74 11 = 0 from q0]
        have w_8 := gz_w (8 * 0)
        have e_9 : gp_wr (8 * 0) = 0 := by omega
        try rw [e_9]
        have e_10 : BitVec.ofInt 64 255 = 255#64 := by decide
        try rw [e_10]
        refine ⟨by omega, ?_⟩
        intro s_11 e_12
        have hs_13 : zM z s_11 := by rw [e_12]; exact zw82 hs _ _
        have q_14 : gp_I s_11 74 11 = 0 := by rw [e_12]; exact q0
        have q_15 : gp_I s_11 74 43 = 0 := by rw [e_12]; exact q1
        have q_16 : gp_I s_11 74 57 = 0 := by rw [e_12]; exact q2
        have q_17 : gp_I s_11 74 58 = 0 := by rw [e_12]; exact q3
        have q_18 : gp_I s_11 74 7 = 1 := by rw [e_12]; exact q4
        have q_19 : gp_I s_11 74 9 = 0 := by rw [e_12]; exact q5
        try rw [show gp_I s_11 74 11 = 0 from q_14]
        have w_20 := gz_w (0 + 1)
        have e_21 : gp_wr (0 + 1) = 1 := by omega
        try rw [e_21]
        intro s_22 e_23
        have hs_24 : zM z s_22 := by rw [e_23]; exact zw74_11 hs_13 0 _
        have q_25 : gp_I s_22 74 43 = 0 := by rw [e_23]; exact q_15
        have q_26 : gp_I s_22 74 57 = 0 := by rw [e_23]; exact q_16
        have q_27 : gp_I s_22 74 58 = 0 := by rw [e_23]; exact q_17
        have q_28 : gp_I s_22 74 7 = 1 := by rw [e_23]; exact q_18
        have q_29 : gp_I s_22 74 9 = 0 := by rw [e_23]; exact q_19
        have q_30 : gp_I s_22 74 11 = 1 := by rw [e_23]; rfl
        have w_32 := gz_w (0 + 1)
        have e_33 : gp_wr (0 + 1) = 1 := by omega
        try rw [e_33]
        refine s_3124_38 _ _ _ ?_
        refine ⟨fun h_34 => ?_, fun h_34 => ?_⟩
        · try rw [show gp_I s_22 74 11 = 1 from q_30]
          have w_35 := gz_w (8 * 1)
          have e_36 : gp_wr (8 * 1) = 8 := by omega
          try rw [e_36]
          have e_37 : BitVec.ofInt 64 255 = 255#64 := by decide
          try rw [e_37]
          refine ⟨by omega, ?_⟩
          intro s_38 e_39
          have hs_40 : zM z s_38 := by rw [e_39]; exact zw82 hs_24 _ _
          have q_41 : gp_I s_38 74 43 = 0 := by rw [e_39]; exact q_25
          have q_42 : gp_I s_38 74 57 = 0 := by rw [e_39]; exact q_26
          have q_43 : gp_I s_38 74 58 = 0 := by rw [e_39]; exact q_27
          have q_44 : gp_I s_38 74 7 = 1 := by rw [e_39]; exact q_28
          have q_45 : gp_I s_38 74 9 = 0 := by rw [e_39]; exact q_29
          have q_46 : gp_I s_38 74 11 = 1 := by rw [e_39]; exact q_30
          try rw [show gp_I s_38 74 11 = 1 from q_46]
          have w_47 := gz_w (1 + 1)
          have e_48 : gp_wr (1 + 1) = 2 := by omega
          try rw [e_48]
          intro s_49 e_50
          have hs_51 : zM z s_49 := by rw [e_50]; exact zw74_11 hs_40 0 _
          have q_52 : gp_I s_49 74 43 = 0 := by rw [e_50]; exact q_41
          have q_53 : gp_I s_49 74 57 = 0 := by rw [e_50]; exact q_42
          have q_54 : gp_I s_49 74 58 = 0 := by rw [e_50]; exact q_43
          have q_55 : gp_I s_49 74 7 = 1 := by rw [e_50]; exact q_44
          have q_56 : gp_I s_49 74 9 = 0 := by rw [e_50]; exact q_45
          have q_57 : gp_I s_49 74 11 = 2 := by rw [e_50]; rfl
          have w_59 := gz_w (1 + 1)
          have e_60 : gp_wr (1 + 1) = 2 := by omega
          try rw [e_60]
          refine s_3124_38 _ _ _ ?_
          refine ⟨fun h_61 => ?_, fun h_61 => ?_⟩
          · try rw [show gp_I s_49 74 11 = 2 from q_57]
            have w_62 := gz_w (8 * 2)
            have e_63 : gp_wr (8 * 2) = 16 := by omega
            try rw [e_63]
            have e_64 : BitVec.ofInt 64 255 = 255#64 := by decide
            try rw [e_64]
            refine ⟨by omega, ?_⟩
            intro s_65 e_66
            have hs_67 : zM z s_65 := by rw [e_66]; exact zw82 hs_51 _ _
            have q_68 : gp_I s_65 74 43 = 0 := by rw [e_66]; exact q_52
            have q_69 : gp_I s_65 74 57 = 0 := by rw [e_66]; exact q_53
            have q_70 : gp_I s_65 74 58 = 0 := by rw [e_66]; exact q_54
            have q_71 : gp_I s_65 74 7 = 1 := by rw [e_66]; exact q_55
            have q_72 : gp_I s_65 74 9 = 0 := by rw [e_66]; exact q_56
            have q_73 : gp_I s_65 74 11 = 2 := by rw [e_66]; exact q_57
            try rw [show gp_I s_65 74 11 = 2 from q_73]
            have w_74 := gz_w (2 + 1)
            have e_75 : gp_wr (2 + 1) = 3 := by omega
            try rw [e_75]
            intro s_76 e_77
            have hs_78 : zM z s_76 := by rw [e_77]; exact zw74_11 hs_67 0 _
            have q_79 : gp_I s_76 74 43 = 0 := by rw [e_77]; exact q_68
            have q_80 : gp_I s_76 74 57 = 0 := by rw [e_77]; exact q_69
            have q_81 : gp_I s_76 74 58 = 0 := by rw [e_77]; exact q_70
            have q_82 : gp_I s_76 74 7 = 1 := by rw [e_77]; exact q_71
            have q_83 : gp_I s_76 74 9 = 0 := by rw [e_77]; exact q_72
            have q_84 : gp_I s_76 74 11 = 3 := by rw [e_77]; rfl
            have w_86 := gz_w (2 + 1)
            have e_87 : gp_wr (2 + 1) = 3 := by omega
            try rw [e_87]
            refine s_3124_38 _ _ _ ?_
            refine ⟨fun h_88 => ?_, fun h_88 => ?_⟩
            · try rw [show gp_I s_76 74 11 = 3 from q_84]
              have w_89 := gz_w (8 * 3)
              have e_90 : gp_wr (8 * 3) = 24 := by omega
              try rw [e_90]
              have e_91 : BitVec.ofInt 64 255 = 255#64 := by decide
              try rw [e_91]
              refine ⟨by omega, ?_⟩
              intro s_92 e_93
              have hs_94 : zM z s_92 := by rw [e_93]; exact zw82 hs_78 _ _
              have q_95 : gp_I s_92 74 43 = 0 := by rw [e_93]; exact q_79
              have q_96 : gp_I s_92 74 57 = 0 := by rw [e_93]; exact q_80
              have q_97 : gp_I s_92 74 58 = 0 := by rw [e_93]; exact q_81
              have q_98 : gp_I s_92 74 7 = 1 := by rw [e_93]; exact q_82
              have q_99 : gp_I s_92 74 9 = 0 := by rw [e_93]; exact q_83
              have q_100 : gp_I s_92 74 11 = 3 := by rw [e_93]; exact q_84
              try rw [show gp_I s_92 74 11 = 3 from q_100]
              have w_101 := gz_w (3 + 1)
              have e_102 : gp_wr (3 + 1) = 4 := by omega
              try rw [e_102]
              intro s_103 e_104
              have hs_105 : zM z s_103 := by rw [e_104]; exact zw74_11 hs_94 0 _
              have q_106 : gp_I s_103 74 43 = 0 := by rw [e_104]; exact q_95
              have q_107 : gp_I s_103 74 57 = 0 := by rw [e_104]; exact q_96
              have q_108 : gp_I s_103 74 58 = 0 := by rw [e_104]; exact q_97
              have q_109 : gp_I s_103 74 7 = 1 := by rw [e_104]; exact q_98
              have q_110 : gp_I s_103 74 9 = 0 := by rw [e_104]; exact q_99
              have q_111 : gp_I s_103 74 11 = 4 := by rw [e_104]; rfl
              have w_113 := gz_w (3 + 1)
              have e_114 : gp_wr (3 + 1) = 4 := by omega
              try rw [e_114]
              refine s_3124_38 _ _ _ ?_
              refine ⟨fun h_115 => ?_, fun h_115 => ?_⟩
              · try rw [show gp_I s_103 74 11 = 4 from q_111]
                have w_116 := gz_w (8 * 4)
                have e_117 : gp_wr (8 * 4) = 32 := by omega
                try rw [e_117]
                have e_118 : BitVec.ofInt 64 255 = 255#64 := by decide
                try rw [e_118]
                refine ⟨by omega, ?_⟩
                intro s_119 e_120
                have hs_121 : zM z s_119 := by rw [e_120]; exact zw82 hs_105 _ _
                have q_122 : gp_I s_119 74 43 = 0 := by rw [e_120]; exact q_106
                have q_123 : gp_I s_119 74 57 = 0 := by rw [e_120]; exact q_107
                have q_124 : gp_I s_119 74 58 = 0 := by rw [e_120]; exact q_108
                have q_125 : gp_I s_119 74 7 = 1 := by rw [e_120]; exact q_109
                have q_126 : gp_I s_119 74 9 = 0 := by rw [e_120]; exact q_110
                have q_127 : gp_I s_119 74 11 = 4 := by rw [e_120]; exact q_111
                try rw [show gp_I s_119 74 11 = 4 from q_127]
                have w_128 := gz_w (4 + 1)
                have e_129 : gp_wr (4 + 1) = 5 := by omega
                try rw [e_129]
                intro s_130 e_131
                have hs_132 : zM z s_130 := by rw [e_131]; exact zw74_11 hs_121 0 _
                have q_133 : gp_I s_130 74 43 = 0 := by rw [e_131]; exact q_122
                have q_134 : gp_I s_130 74 57 = 0 := by rw [e_131]; exact q_123
                have q_135 : gp_I s_130 74 58 = 0 := by rw [e_131]; exact q_124
                have q_136 : gp_I s_130 74 7 = 1 := by rw [e_131]; exact q_125
                have q_137 : gp_I s_130 74 9 = 0 := by rw [e_131]; exact q_126
                have q_138 : gp_I s_130 74 11 = 5 := by rw [e_131]; rfl
                have w_140 := gz_w (4 + 1)
                have e_141 : gp_wr (4 + 1) = 5 := by omega
                try rw [e_141]
                refine s_3124_38 _ _ _ ?_
                refine ⟨fun h_142 => ?_, fun h_142 => ?_⟩
                · try rw [show gp_I s_130 74 11 = 5 from q_138]
                  have w_143 := gz_w (8 * 5)
                  have e_144 : gp_wr (8 * 5) = 40 := by omega
                  try rw [e_144]
                  have e_145 : BitVec.ofInt 64 255 = 255#64 := by decide
                  try rw [e_145]
                  refine ⟨by omega, ?_⟩
                  intro s_146 e_147
                  have hs_148 : zM z s_146 := by rw [e_147]; exact zw82 hs_132 _ _
                  have q_149 : gp_I s_146 74 43 = 0 := by rw [e_147]; exact q_133
                  have q_150 : gp_I s_146 74 57 = 0 := by rw [e_147]; exact q_134
                  have q_151 : gp_I s_146 74 58 = 0 := by rw [e_147]; exact q_135
                  have q_152 : gp_I s_146 74 7 = 1 := by rw [e_147]; exact q_136
                  have q_153 : gp_I s_146 74 9 = 0 := by rw [e_147]; exact q_137
                  have q_154 : gp_I s_146 74 11 = 5 := by rw [e_147]; exact q_138
                  try rw [show gp_I s_146 74 11 = 5 from q_154]
                  have w_155 := gz_w (5 + 1)
                  have e_156 : gp_wr (5 + 1) = 6 := by omega
                  try rw [e_156]
                  intro s_157 e_158
                  have hs_159 : zM z s_157 := by rw [e_158]; exact zw74_11 hs_148 0 _
                  have q_160 : gp_I s_157 74 43 = 0 := by rw [e_158]; exact q_149
                  have q_161 : gp_I s_157 74 57 = 0 := by rw [e_158]; exact q_150
                  have q_162 : gp_I s_157 74 58 = 0 := by rw [e_158]; exact q_151
                  have q_163 : gp_I s_157 74 7 = 1 := by rw [e_158]; exact q_152
                  have q_164 : gp_I s_157 74 9 = 0 := by rw [e_158]; exact q_153
                  have q_165 : gp_I s_157 74 11 = 6 := by rw [e_158]; rfl
                  have w_167 := gz_w (5 + 1)
                  have e_168 : gp_wr (5 + 1) = 6 := by omega
                  try rw [e_168]
                  refine s_3124_38 _ _ _ ?_
                  refine ⟨fun h_169 => ?_, fun h_169 => ?_⟩
                  · exfalso; omega
                  · try rw [show gp_I s_157 74 11 = 6 from q_165]
                    exact k s_157 hs_159 (by omega) (by omega) (by omega) (by omega) (by omega) (by omega)
                · exfalso; omega
              · exfalso; omega
            · exfalso; omega
          · exfalso; omega
        · exfalso; omega
      · exfalso; omega
set_option maxRecDepth 100000 in
/-- GatheredPointsModel.isIn [7, 1, 8] -/
theorem zm3073_7 {z : gH} {L d : Nat} {K : Option gV → gH → Prop} {s : gH}  (hs : zM z s)   (k : K (some (gp_i 1)) s) : gs_C L d 3073 6 [gp_l (7#64), gp_l (1#64), gp_l (8#64)] s K := by
  refine s_3073_e _ _ _ ?_
  have e_1 : gp_cmp (7#64) (1#64) = 1 := by decide
  try rw [e_1]
  refine ⟨fun h_2 => ?_, fun h_2 => ?_⟩
  · exfalso; omega
  · have e_3 : gp_cmp (7#64) (8#64) = (-1) := by decide
    try rw [e_3]
    refine ⟨fun h_4 => ?_, fun h_4 => ?_⟩
    · exfalso; omega
    · refine s_3073_18 _ _ _ _ ?_
      refine ⟨by omega, ?_⟩
      exact k
set_option maxRecDepth 100000 in
/-- GatheredPointsModel.feed [None, (7, 7)] -/
theorem zm3124_7 {z : gH} {L d : Nat} {K : Option gV → gH → Prop} {s : gH} (p0 : BitVec 64) (hs : zM z s)  (q0 : gp_I s 74 11 = 0) (q1 : gp_I s 74 43 = 0) (q2 : gp_I s 74 57 = 0) (q3 : gp_I s 74 58 = 0) (q4 : gp_I s 74 7 = 1) (q5 : gp_I s 74 9 = 0) (k : ∀ (t : gH), zM z t → (gp_I t 74 11 = 7) → (gp_I t 74 43 = 0) → (gp_I t 74 57 = 0) → (gp_I t 74 58 = 0) → (gp_I t 74 7 = 1) → (gp_I t 74 9 = 0) → K (some (gp_i 7)) t) : gs_C L (d + 1) 3124 5 [gp_r (some 74), gp_l p0, gp_i 7] s K := by
  refine s_3124_e _ _ ?_
  have e_1 : BitVec.ofInt 64 7 = 7#64 := by decide
  try rw [e_1]
  have e_2 : BitVec.ofInt 64 8 = 8#64 := by decide
  try rw [e_2]
  refine zm3073_7 hs (⟨_, rfl, ?_⟩)
  refine ⟨fun h_3 => ?_, fun h_3 => ?_⟩
  · exfalso; omega
  · try rw [show gp_I s 74 11 = 0 from q0]
    have w_4 := gz_w (0 + 7)
    have e_5 : gp_wr (0 + 7) = 7 := by omega
    try rw [e_5]
    refine ⟨fun h_6 => ?_, fun h_6 => ?_⟩
    · exfalso; omega
    · refine s_3124_38 _ _ _ ?_
      refine ⟨fun h_7 => ?_, fun h_7 => ?_⟩
      · try rw [show gp_I s 74 11 = 0 from q0]
        have w_8 := gz_w (8 * 0)
        have e_9 : gp_wr (8 * 0) = 0 := by omega
        try rw [e_9]
        have e_10 : BitVec.ofInt 64 255 = 255#64 := by decide
        try rw [e_10]
        refine ⟨by omega, ?_⟩
        intro s_11 e_12
        have hs_13 : zM z s_11 := by rw [e_12]; exact zw82 hs _ _
        have q_14 : gp_I s_11 74 11 = 0 := by rw [e_12]; exact q0
        have q_15 : gp_I s_11 74 43 = 0 := by rw [e_12]; exact q1
        have q_16 : gp_I s_11 74 57 = 0 := by rw [e_12]; exact q2
        have q_17 : gp_I s_11 74 58 = 0 := by rw [e_12]; exact q3
        have q_18 : gp_I s_11 74 7 = 1 := by rw [e_12]; exact q4
        have q_19 : gp_I s_11 74 9 = 0 := by rw [e_12]; exact q5
        try rw [show gp_I s_11 74 11 = 0 from q_14]
        have w_20 := gz_w (0 + 1)
        have e_21 : gp_wr (0 + 1) = 1 := by omega
        try rw [e_21]
        intro s_22 e_23
        have hs_24 : zM z s_22 := by rw [e_23]; exact zw74_11 hs_13 0 _
        have q_25 : gp_I s_22 74 43 = 0 := by rw [e_23]; exact q_15
        have q_26 : gp_I s_22 74 57 = 0 := by rw [e_23]; exact q_16
        have q_27 : gp_I s_22 74 58 = 0 := by rw [e_23]; exact q_17
        have q_28 : gp_I s_22 74 7 = 1 := by rw [e_23]; exact q_18
        have q_29 : gp_I s_22 74 9 = 0 := by rw [e_23]; exact q_19
        have q_30 : gp_I s_22 74 11 = 1 := by rw [e_23]; rfl
        have w_32 := gz_w (0 + 1)
        have e_33 : gp_wr (0 + 1) = 1 := by omega
        try rw [e_33]
        refine s_3124_38 _ _ _ ?_
        refine ⟨fun h_34 => ?_, fun h_34 => ?_⟩
        · try rw [show gp_I s_22 74 11 = 1 from q_30]
          have w_35 := gz_w (8 * 1)
          have e_36 : gp_wr (8 * 1) = 8 := by omega
          try rw [e_36]
          have e_37 : BitVec.ofInt 64 255 = 255#64 := by decide
          try rw [e_37]
          refine ⟨by omega, ?_⟩
          intro s_38 e_39
          have hs_40 : zM z s_38 := by rw [e_39]; exact zw82 hs_24 _ _
          have q_41 : gp_I s_38 74 43 = 0 := by rw [e_39]; exact q_25
          have q_42 : gp_I s_38 74 57 = 0 := by rw [e_39]; exact q_26
          have q_43 : gp_I s_38 74 58 = 0 := by rw [e_39]; exact q_27
          have q_44 : gp_I s_38 74 7 = 1 := by rw [e_39]; exact q_28
          have q_45 : gp_I s_38 74 9 = 0 := by rw [e_39]; exact q_29
          have q_46 : gp_I s_38 74 11 = 1 := by rw [e_39]; exact q_30
          try rw [show gp_I s_38 74 11 = 1 from q_46]
          have w_47 := gz_w (1 + 1)
          have e_48 : gp_wr (1 + 1) = 2 := by omega
          try rw [e_48]
          intro s_49 e_50
          have hs_51 : zM z s_49 := by rw [e_50]; exact zw74_11 hs_40 0 _
          have q_52 : gp_I s_49 74 43 = 0 := by rw [e_50]; exact q_41
          have q_53 : gp_I s_49 74 57 = 0 := by rw [e_50]; exact q_42
          have q_54 : gp_I s_49 74 58 = 0 := by rw [e_50]; exact q_43
          have q_55 : gp_I s_49 74 7 = 1 := by rw [e_50]; exact q_44
          have q_56 : gp_I s_49 74 9 = 0 := by rw [e_50]; exact q_45
          have q_57 : gp_I s_49 74 11 = 2 := by rw [e_50]; rfl
          have w_59 := gz_w (1 + 1)
          have e_60 : gp_wr (1 + 1) = 2 := by omega
          try rw [e_60]
          refine s_3124_38 _ _ _ ?_
          refine ⟨fun h_61 => ?_, fun h_61 => ?_⟩
          · try rw [show gp_I s_49 74 11 = 2 from q_57]
            have w_62 := gz_w (8 * 2)
            have e_63 : gp_wr (8 * 2) = 16 := by omega
            try rw [e_63]
            have e_64 : BitVec.ofInt 64 255 = 255#64 := by decide
            try rw [e_64]
            refine ⟨by omega, ?_⟩
            intro s_65 e_66
            have hs_67 : zM z s_65 := by rw [e_66]; exact zw82 hs_51 _ _
            have q_68 : gp_I s_65 74 43 = 0 := by rw [e_66]; exact q_52
            have q_69 : gp_I s_65 74 57 = 0 := by rw [e_66]; exact q_53
            have q_70 : gp_I s_65 74 58 = 0 := by rw [e_66]; exact q_54
            have q_71 : gp_I s_65 74 7 = 1 := by rw [e_66]; exact q_55
            have q_72 : gp_I s_65 74 9 = 0 := by rw [e_66]; exact q_56
            have q_73 : gp_I s_65 74 11 = 2 := by rw [e_66]; exact q_57
            try rw [show gp_I s_65 74 11 = 2 from q_73]
            have w_74 := gz_w (2 + 1)
            have e_75 : gp_wr (2 + 1) = 3 := by omega
            try rw [e_75]
            intro s_76 e_77
            have hs_78 : zM z s_76 := by rw [e_77]; exact zw74_11 hs_67 0 _
            have q_79 : gp_I s_76 74 43 = 0 := by rw [e_77]; exact q_68
            have q_80 : gp_I s_76 74 57 = 0 := by rw [e_77]; exact q_69
            have q_81 : gp_I s_76 74 58 = 0 := by rw [e_77]; exact q_70
            have q_82 : gp_I s_76 74 7 = 1 := by rw [e_77]; exact q_71
            have q_83 : gp_I s_76 74 9 = 0 := by rw [e_77]; exact q_72
            have q_84 : gp_I s_76 74 11 = 3 := by rw [e_77]; rfl
            have w_86 := gz_w (2 + 1)
            have e_87 : gp_wr (2 + 1) = 3 := by omega
            try rw [e_87]
            refine s_3124_38 _ _ _ ?_
            refine ⟨fun h_88 => ?_, fun h_88 => ?_⟩
            · try rw [show gp_I s_76 74 11 = 3 from q_84]
              have w_89 := gz_w (8 * 3)
              have e_90 : gp_wr (8 * 3) = 24 := by omega
              try rw [e_90]
              have e_91 : BitVec.ofInt 64 255 = 255#64 := by decide
              try rw [e_91]
              refine ⟨by omega, ?_⟩
              intro s_92 e_93
              have hs_94 : zM z s_92 := by rw [e_93]; exact zw82 hs_78 _ _
              have q_95 : gp_I s_92 74 43 = 0 := by rw [e_93]; exact q_79
              have q_96 : gp_I s_92 74 57 = 0 := by rw [e_93]; exact q_80
              have q_97 : gp_I s_92 74 58 = 0 := by rw [e_93]; exact q_81
              have q_98 : gp_I s_92 74 7 = 1 := by rw [e_93]; exact q_82
              have q_99 : gp_I s_92 74 9 = 0 := by rw [e_93]; exact q_83
              have q_100 : gp_I s_92 74 11 = 3 := by rw [e_93]; exact q_84
              try rw [show gp_I s_92 74 11 = 3 from q_100]
              have w_101 := gz_w (3 + 1)
              have e_102 : gp_wr (3 + 1) = 4 := by omega
              try rw [e_102]
              intro s_103 e_104
              have hs_105 : zM z s_103 := by rw [e_104]; exact zw74_11 hs_94 0 _
              have q_106 : gp_I s_103 74 43 = 0 := by rw [e_104]; exact q_95
              have q_107 : gp_I s_103 74 57 = 0 := by rw [e_104]; exact q_96
              have q_108 : gp_I s_103 74 58 = 0 := by rw [e_104]; exact q_97
              have q_109 : gp_I s_103 74 7 = 1 := by rw [e_104]; exact q_98
              have q_110 : gp_I s_103 74 9 = 0 := by rw [e_104]; exact q_99
              have q_111 : gp_I s_103 74 11 = 4 := by rw [e_104]; rfl
              have w_113 := gz_w (3 + 1)
              have e_114 : gp_wr (3 + 1) = 4 := by omega
              try rw [e_114]
              refine s_3124_38 _ _ _ ?_
              refine ⟨fun h_115 => ?_, fun h_115 => ?_⟩
              · try rw [show gp_I s_103 74 11 = 4 from q_111]
                have w_116 := gz_w (8 * 4)
                have e_117 : gp_wr (8 * 4) = 32 := by omega
                try rw [e_117]
                have e_118 : BitVec.ofInt 64 255 = 255#64 := by decide
                try rw [e_118]
                refine ⟨by omega, ?_⟩
                intro s_119 e_120
                have hs_121 : zM z s_119 := by rw [e_120]; exact zw82 hs_105 _ _
                have q_122 : gp_I s_119 74 43 = 0 := by rw [e_120]; exact q_106
                have q_123 : gp_I s_119 74 57 = 0 := by rw [e_120]; exact q_107
                have q_124 : gp_I s_119 74 58 = 0 := by rw [e_120]; exact q_108
                have q_125 : gp_I s_119 74 7 = 1 := by rw [e_120]; exact q_109
                have q_126 : gp_I s_119 74 9 = 0 := by rw [e_120]; exact q_110
                have q_127 : gp_I s_119 74 11 = 4 := by rw [e_120]; exact q_111
                try rw [show gp_I s_119 74 11 = 4 from q_127]
                have w_128 := gz_w (4 + 1)
                have e_129 : gp_wr (4 + 1) = 5 := by omega
                try rw [e_129]
                intro s_130 e_131
                have hs_132 : zM z s_130 := by rw [e_131]; exact zw74_11 hs_121 0 _
                have q_133 : gp_I s_130 74 43 = 0 := by rw [e_131]; exact q_122
                have q_134 : gp_I s_130 74 57 = 0 := by rw [e_131]; exact q_123
                have q_135 : gp_I s_130 74 58 = 0 := by rw [e_131]; exact q_124
                have q_136 : gp_I s_130 74 7 = 1 := by rw [e_131]; exact q_125
                have q_137 : gp_I s_130 74 9 = 0 := by rw [e_131]; exact q_126
                have q_138 : gp_I s_130 74 11 = 5 := by rw [e_131]; rfl
                have w_140 := gz_w (4 + 1)
                have e_141 : gp_wr (4 + 1) = 5 := by omega
                try rw [e_141]
                refine s_3124_38 _ _ _ ?_
                refine ⟨fun h_142 => ?_, fun h_142 => ?_⟩
                · try rw [show gp_I s_130 74 11 = 5 from q_138]
                  have w_143 := gz_w (8 * 5)
                  have e_144 : gp_wr (8 * 5) = 40 := by omega
                  try rw [e_144]
                  have e_145 : BitVec.ofInt 64 255 = 255#64 := by decide
                  try rw [e_145]
                  refine ⟨by omega, ?_⟩
                  intro s_146 e_147
                  have hs_148 : zM z s_146 := by rw [e_147]; exact zw82 hs_132 _ _
                  have q_149 : gp_I s_146 74 43 = 0 := by rw [e_147]; exact q_133
                  have q_150 : gp_I s_146 74 57 = 0 := by rw [e_147]; exact q_134
                  have q_151 : gp_I s_146 74 58 = 0 := by rw [e_147]; exact q_135
                  have q_152 : gp_I s_146 74 7 = 1 := by rw [e_147]; exact q_136
                  have q_153 : gp_I s_146 74 9 = 0 := by rw [e_147]; exact q_137
                  have q_154 : gp_I s_146 74 11 = 5 := by rw [e_147]; exact q_138
                  try rw [show gp_I s_146 74 11 = 5 from q_154]
                  have w_155 := gz_w (5 + 1)
                  have e_156 : gp_wr (5 + 1) = 6 := by omega
                  try rw [e_156]
                  intro s_157 e_158
                  have hs_159 : zM z s_157 := by rw [e_158]; exact zw74_11 hs_148 0 _
                  have q_160 : gp_I s_157 74 43 = 0 := by rw [e_158]; exact q_149
                  have q_161 : gp_I s_157 74 57 = 0 := by rw [e_158]; exact q_150
                  have q_162 : gp_I s_157 74 58 = 0 := by rw [e_158]; exact q_151
                  have q_163 : gp_I s_157 74 7 = 1 := by rw [e_158]; exact q_152
                  have q_164 : gp_I s_157 74 9 = 0 := by rw [e_158]; exact q_153
                  have q_165 : gp_I s_157 74 11 = 6 := by rw [e_158]; rfl
                  have w_167 := gz_w (5 + 1)
                  have e_168 : gp_wr (5 + 1) = 6 := by omega
                  try rw [e_168]
                  refine s_3124_38 _ _ _ ?_
                  refine ⟨fun h_169 => ?_, fun h_169 => ?_⟩
                  · try rw [show gp_I s_157 74 11 = 6 from q_165]
                    have w_170 := gz_w (8 * 6)
                    have e_171 : gp_wr (8 * 6) = 48 := by omega
                    try rw [e_171]
                    have e_172 : BitVec.ofInt 64 255 = 255#64 := by decide
                    try rw [e_172]
                    refine ⟨by omega, ?_⟩
                    intro s_173 e_174
                    have hs_175 : zM z s_173 := by rw [e_174]; exact zw82 hs_159 _ _
                    have q_176 : gp_I s_173 74 43 = 0 := by rw [e_174]; exact q_160
                    have q_177 : gp_I s_173 74 57 = 0 := by rw [e_174]; exact q_161
                    have q_178 : gp_I s_173 74 58 = 0 := by rw [e_174]; exact q_162
                    have q_179 : gp_I s_173 74 7 = 1 := by rw [e_174]; exact q_163
                    have q_180 : gp_I s_173 74 9 = 0 := by rw [e_174]; exact q_164
                    have q_181 : gp_I s_173 74 11 = 6 := by rw [e_174]; exact q_165
                    try rw [show gp_I s_173 74 11 = 6 from q_181]
                    have w_182 := gz_w (6 + 1)
                    have e_183 : gp_wr (6 + 1) = 7 := by omega
                    try rw [e_183]
                    intro s_184 e_185
                    have hs_186 : zM z s_184 := by rw [e_185]; exact zw74_11 hs_175 0 _
                    have q_187 : gp_I s_184 74 43 = 0 := by rw [e_185]; exact q_176
                    have q_188 : gp_I s_184 74 57 = 0 := by rw [e_185]; exact q_177
                    have q_189 : gp_I s_184 74 58 = 0 := by rw [e_185]; exact q_178
                    have q_190 : gp_I s_184 74 7 = 1 := by rw [e_185]; exact q_179
                    have q_191 : gp_I s_184 74 9 = 0 := by rw [e_185]; exact q_180
                    have q_192 : gp_I s_184 74 11 = 7 := by rw [e_185]; rfl
                    have w_194 := gz_w (6 + 1)
                    have e_195 : gp_wr (6 + 1) = 7 := by omega
                    try rw [e_195]
                    refine s_3124_38 _ _ _ ?_
                    refine ⟨fun h_196 => ?_, fun h_196 => ?_⟩
                    · exfalso; omega
                    · try rw [show gp_I s_184 74 11 = 7 from q_192]
                      exact k s_184 hs_186 (by omega) (by omega) (by omega) (by omega) (by omega) (by omega)
                  · exfalso; omega
                · exfalso; omega
              · exfalso; omega
            · exfalso; omega
          · exfalso; omega
        · exfalso; omega
      · exfalso; omega
set_option maxRecDepth 100000 in
/-- GatheredPointsModel.isIn [8, 1, 8] -/
theorem zm3073_8 {z : gH} {L d : Nat} {K : Option gV → gH → Prop} {s : gH}  (hs : zM z s)   (k : K (some (gp_i 1)) s) : gs_C L d 3073 6 [gp_l (8#64), gp_l (1#64), gp_l (8#64)] s K := by
  refine s_3073_e _ _ _ ?_
  have e_1 : gp_cmp (8#64) (1#64) = 1 := by decide
  try rw [e_1]
  refine ⟨fun h_2 => ?_, fun h_2 => ?_⟩
  · exfalso; omega
  · have e_3 : gp_cmp (8#64) (8#64) = 0 := by decide
    try rw [e_3]
    refine ⟨fun h_4 => ?_, fun h_4 => ?_⟩
    · exfalso; omega
    · refine s_3073_18 _ _ _ _ ?_
      refine ⟨by omega, ?_⟩
      exact k
set_option maxRecDepth 100000 in
/-- GatheredPointsModel.feed [None, (8, 8)] -/
theorem zm3124_8 {z : gH} {L d : Nat} {K : Option gV → gH → Prop} {s : gH} (p0 : BitVec 64) (hs : zM z s)  (q0 : gp_I s 74 11 = 0) (q1 : gp_I s 74 43 = 0) (q2 : gp_I s 74 57 = 0) (q3 : gp_I s 74 58 = 0) (q4 : gp_I s 74 7 = 1) (q5 : gp_I s 74 9 = 0) (k : ∀ (t : gH), zM z t → (gp_I t 74 11 = 8) → (gp_I t 74 43 = 0) → (gp_I t 74 57 = 0) → (gp_I t 74 58 = 0) → (gp_I t 74 7 = 1) → (gp_I t 74 9 = 0) → K (some (gp_i 8)) t) : gs_C L (d + 1) 3124 5 [gp_r (some 74), gp_l p0, gp_i 8] s K := by
  refine s_3124_e _ _ ?_
  have e_1 : BitVec.ofInt 64 8 = 8#64 := by decide
  try rw [e_1]
  have e_2 : BitVec.ofInt 64 8 = 8#64 := by decide
  try rw [e_2]
  refine zm3073_8 hs (⟨_, rfl, ?_⟩)
  refine ⟨fun h_3 => ?_, fun h_3 => ?_⟩
  · exfalso; omega
  · try rw [show gp_I s 74 11 = 0 from q0]
    have w_4 := gz_w (0 + 8)
    have e_5 : gp_wr (0 + 8) = 8 := by omega
    try rw [e_5]
    refine ⟨fun h_6 => ?_, fun h_6 => ?_⟩
    · exfalso; omega
    · refine s_3124_38 _ _ _ ?_
      refine ⟨fun h_7 => ?_, fun h_7 => ?_⟩
      · try rw [show gp_I s 74 11 = 0 from q0]
        have w_8 := gz_w (8 * 0)
        have e_9 : gp_wr (8 * 0) = 0 := by omega
        try rw [e_9]
        have e_10 : BitVec.ofInt 64 255 = 255#64 := by decide
        try rw [e_10]
        refine ⟨by omega, ?_⟩
        intro s_11 e_12
        have hs_13 : zM z s_11 := by rw [e_12]; exact zw82 hs _ _
        have q_14 : gp_I s_11 74 11 = 0 := by rw [e_12]; exact q0
        have q_15 : gp_I s_11 74 43 = 0 := by rw [e_12]; exact q1
        have q_16 : gp_I s_11 74 57 = 0 := by rw [e_12]; exact q2
        have q_17 : gp_I s_11 74 58 = 0 := by rw [e_12]; exact q3
        have q_18 : gp_I s_11 74 7 = 1 := by rw [e_12]; exact q4
        have q_19 : gp_I s_11 74 9 = 0 := by rw [e_12]; exact q5
        try rw [show gp_I s_11 74 11 = 0 from q_14]
        have w_20 := gz_w (0 + 1)
        have e_21 : gp_wr (0 + 1) = 1 := by omega
        try rw [e_21]
        intro s_22 e_23
        have hs_24 : zM z s_22 := by rw [e_23]; exact zw74_11 hs_13 0 _
        have q_25 : gp_I s_22 74 43 = 0 := by rw [e_23]; exact q_15
        have q_26 : gp_I s_22 74 57 = 0 := by rw [e_23]; exact q_16
        have q_27 : gp_I s_22 74 58 = 0 := by rw [e_23]; exact q_17
        have q_28 : gp_I s_22 74 7 = 1 := by rw [e_23]; exact q_18
        have q_29 : gp_I s_22 74 9 = 0 := by rw [e_23]; exact q_19
        have q_30 : gp_I s_22 74 11 = 1 := by rw [e_23]; rfl
        have w_32 := gz_w (0 + 1)
        have e_33 : gp_wr (0 + 1) = 1 := by omega
        try rw [e_33]
        refine s_3124_38 _ _ _ ?_
        refine ⟨fun h_34 => ?_, fun h_34 => ?_⟩
        · try rw [show gp_I s_22 74 11 = 1 from q_30]
          have w_35 := gz_w (8 * 1)
          have e_36 : gp_wr (8 * 1) = 8 := by omega
          try rw [e_36]
          have e_37 : BitVec.ofInt 64 255 = 255#64 := by decide
          try rw [e_37]
          refine ⟨by omega, ?_⟩
          intro s_38 e_39
          have hs_40 : zM z s_38 := by rw [e_39]; exact zw82 hs_24 _ _
          have q_41 : gp_I s_38 74 43 = 0 := by rw [e_39]; exact q_25
          have q_42 : gp_I s_38 74 57 = 0 := by rw [e_39]; exact q_26
          have q_43 : gp_I s_38 74 58 = 0 := by rw [e_39]; exact q_27
          have q_44 : gp_I s_38 74 7 = 1 := by rw [e_39]; exact q_28
          have q_45 : gp_I s_38 74 9 = 0 := by rw [e_39]; exact q_29
          have q_46 : gp_I s_38 74 11 = 1 := by rw [e_39]; exact q_30
          try rw [show gp_I s_38 74 11 = 1 from q_46]
          have w_47 := gz_w (1 + 1)
          have e_48 : gp_wr (1 + 1) = 2 := by omega
          try rw [e_48]
          intro s_49 e_50
          have hs_51 : zM z s_49 := by rw [e_50]; exact zw74_11 hs_40 0 _
          have q_52 : gp_I s_49 74 43 = 0 := by rw [e_50]; exact q_41
          have q_53 : gp_I s_49 74 57 = 0 := by rw [e_50]; exact q_42
          have q_54 : gp_I s_49 74 58 = 0 := by rw [e_50]; exact q_43
          have q_55 : gp_I s_49 74 7 = 1 := by rw [e_50]; exact q_44
          have q_56 : gp_I s_49 74 9 = 0 := by rw [e_50]; exact q_45
          have q_57 : gp_I s_49 74 11 = 2 := by rw [e_50]; rfl
          have w_59 := gz_w (1 + 1)
          have e_60 : gp_wr (1 + 1) = 2 := by omega
          try rw [e_60]
          refine s_3124_38 _ _ _ ?_
          refine ⟨fun h_61 => ?_, fun h_61 => ?_⟩
          · try rw [show gp_I s_49 74 11 = 2 from q_57]
            have w_62 := gz_w (8 * 2)
            have e_63 : gp_wr (8 * 2) = 16 := by omega
            try rw [e_63]
            have e_64 : BitVec.ofInt 64 255 = 255#64 := by decide
            try rw [e_64]
            refine ⟨by omega, ?_⟩
            intro s_65 e_66
            have hs_67 : zM z s_65 := by rw [e_66]; exact zw82 hs_51 _ _
            have q_68 : gp_I s_65 74 43 = 0 := by rw [e_66]; exact q_52
            have q_69 : gp_I s_65 74 57 = 0 := by rw [e_66]; exact q_53
            have q_70 : gp_I s_65 74 58 = 0 := by rw [e_66]; exact q_54
            have q_71 : gp_I s_65 74 7 = 1 := by rw [e_66]; exact q_55
            have q_72 : gp_I s_65 74 9 = 0 := by rw [e_66]; exact q_56
            have q_73 : gp_I s_65 74 11 = 2 := by rw [e_66]; exact q_57
            try rw [show gp_I s_65 74 11 = 2 from q_73]
            have w_74 := gz_w (2 + 1)
            have e_75 : gp_wr (2 + 1) = 3 := by omega
            try rw [e_75]
            intro s_76 e_77
            have hs_78 : zM z s_76 := by rw [e_77]; exact zw74_11 hs_67 0 _
            have q_79 : gp_I s_76 74 43 = 0 := by rw [e_77]; exact q_68
            have q_80 : gp_I s_76 74 57 = 0 := by rw [e_77]; exact q_69
            have q_81 : gp_I s_76 74 58 = 0 := by rw [e_77]; exact q_70
            have q_82 : gp_I s_76 74 7 = 1 := by rw [e_77]; exact q_71
            have q_83 : gp_I s_76 74 9 = 0 := by rw [e_77]; exact q_72
            have q_84 : gp_I s_76 74 11 = 3 := by rw [e_77]; rfl
            have w_86 := gz_w (2 + 1)
            have e_87 : gp_wr (2 + 1) = 3 := by omega
            try rw [e_87]
            refine s_3124_38 _ _ _ ?_
            refine ⟨fun h_88 => ?_, fun h_88 => ?_⟩
            · try rw [show gp_I s_76 74 11 = 3 from q_84]
              have w_89 := gz_w (8 * 3)
              have e_90 : gp_wr (8 * 3) = 24 := by omega
              try rw [e_90]
              have e_91 : BitVec.ofInt 64 255 = 255#64 := by decide
              try rw [e_91]
              refine ⟨by omega, ?_⟩
              intro s_92 e_93
              have hs_94 : zM z s_92 := by rw [e_93]; exact zw82 hs_78 _ _
              have q_95 : gp_I s_92 74 43 = 0 := by rw [e_93]; exact q_79
              have q_96 : gp_I s_92 74 57 = 0 := by rw [e_93]; exact q_80
              have q_97 : gp_I s_92 74 58 = 0 := by rw [e_93]; exact q_81
              have q_98 : gp_I s_92 74 7 = 1 := by rw [e_93]; exact q_82
              have q_99 : gp_I s_92 74 9 = 0 := by rw [e_93]; exact q_83
              have q_100 : gp_I s_92 74 11 = 3 := by rw [e_93]; exact q_84
              try rw [show gp_I s_92 74 11 = 3 from q_100]
              have w_101 := gz_w (3 + 1)
              have e_102 : gp_wr (3 + 1) = 4 := by omega
              try rw [e_102]
              intro s_103 e_104
              have hs_105 : zM z s_103 := by rw [e_104]; exact zw74_11 hs_94 0 _
              have q_106 : gp_I s_103 74 43 = 0 := by rw [e_104]; exact q_95
              have q_107 : gp_I s_103 74 57 = 0 := by rw [e_104]; exact q_96
              have q_108 : gp_I s_103 74 58 = 0 := by rw [e_104]; exact q_97
              have q_109 : gp_I s_103 74 7 = 1 := by rw [e_104]; exact q_98
              have q_110 : gp_I s_103 74 9 = 0 := by rw [e_104]; exact q_99
              have q_111 : gp_I s_103 74 11 = 4 := by rw [e_104]; rfl
              have w_113 := gz_w (3 + 1)
              have e_114 : gp_wr (3 + 1) = 4 := by omega
              try rw [e_114]
              refine s_3124_38 _ _ _ ?_
              refine ⟨fun h_115 => ?_, fun h_115 => ?_⟩
              · try rw [show gp_I s_103 74 11 = 4 from q_111]
                have w_116 := gz_w (8 * 4)
                have e_117 : gp_wr (8 * 4) = 32 := by omega
                try rw [e_117]
                have e_118 : BitVec.ofInt 64 255 = 255#64 := by decide
                try rw [e_118]
                refine ⟨by omega, ?_⟩
                intro s_119 e_120
                have hs_121 : zM z s_119 := by rw [e_120]; exact zw82 hs_105 _ _
                have q_122 : gp_I s_119 74 43 = 0 := by rw [e_120]; exact q_106
                have q_123 : gp_I s_119 74 57 = 0 := by rw [e_120]; exact q_107
                have q_124 : gp_I s_119 74 58 = 0 := by rw [e_120]; exact q_108
                have q_125 : gp_I s_119 74 7 = 1 := by rw [e_120]; exact q_109
                have q_126 : gp_I s_119 74 9 = 0 := by rw [e_120]; exact q_110
                have q_127 : gp_I s_119 74 11 = 4 := by rw [e_120]; exact q_111
                try rw [show gp_I s_119 74 11 = 4 from q_127]
                have w_128 := gz_w (4 + 1)
                have e_129 : gp_wr (4 + 1) = 5 := by omega
                try rw [e_129]
                intro s_130 e_131
                have hs_132 : zM z s_130 := by rw [e_131]; exact zw74_11 hs_121 0 _
                have q_133 : gp_I s_130 74 43 = 0 := by rw [e_131]; exact q_122
                have q_134 : gp_I s_130 74 57 = 0 := by rw [e_131]; exact q_123
                have q_135 : gp_I s_130 74 58 = 0 := by rw [e_131]; exact q_124
                have q_136 : gp_I s_130 74 7 = 1 := by rw [e_131]; exact q_125
                have q_137 : gp_I s_130 74 9 = 0 := by rw [e_131]; exact q_126
                have q_138 : gp_I s_130 74 11 = 5 := by rw [e_131]; rfl
                have w_140 := gz_w (4 + 1)
                have e_141 : gp_wr (4 + 1) = 5 := by omega
                try rw [e_141]
                refine s_3124_38 _ _ _ ?_
                refine ⟨fun h_142 => ?_, fun h_142 => ?_⟩
                · try rw [show gp_I s_130 74 11 = 5 from q_138]
                  have w_143 := gz_w (8 * 5)
                  have e_144 : gp_wr (8 * 5) = 40 := by omega
                  try rw [e_144]
                  have e_145 : BitVec.ofInt 64 255 = 255#64 := by decide
                  try rw [e_145]
                  refine ⟨by omega, ?_⟩
                  intro s_146 e_147
                  have hs_148 : zM z s_146 := by rw [e_147]; exact zw82 hs_132 _ _
                  have q_149 : gp_I s_146 74 43 = 0 := by rw [e_147]; exact q_133
                  have q_150 : gp_I s_146 74 57 = 0 := by rw [e_147]; exact q_134
                  have q_151 : gp_I s_146 74 58 = 0 := by rw [e_147]; exact q_135
                  have q_152 : gp_I s_146 74 7 = 1 := by rw [e_147]; exact q_136
                  have q_153 : gp_I s_146 74 9 = 0 := by rw [e_147]; exact q_137
                  have q_154 : gp_I s_146 74 11 = 5 := by rw [e_147]; exact q_138
                  try rw [show gp_I s_146 74 11 = 5 from q_154]
                  have w_155 := gz_w (5 + 1)
                  have e_156 : gp_wr (5 + 1) = 6 := by omega
                  try rw [e_156]
                  intro s_157 e_158
                  have hs_159 : zM z s_157 := by rw [e_158]; exact zw74_11 hs_148 0 _
                  have q_160 : gp_I s_157 74 43 = 0 := by rw [e_158]; exact q_149
                  have q_161 : gp_I s_157 74 57 = 0 := by rw [e_158]; exact q_150
                  have q_162 : gp_I s_157 74 58 = 0 := by rw [e_158]; exact q_151
                  have q_163 : gp_I s_157 74 7 = 1 := by rw [e_158]; exact q_152
                  have q_164 : gp_I s_157 74 9 = 0 := by rw [e_158]; exact q_153
                  have q_165 : gp_I s_157 74 11 = 6 := by rw [e_158]; rfl
                  have w_167 := gz_w (5 + 1)
                  have e_168 : gp_wr (5 + 1) = 6 := by omega
                  try rw [e_168]
                  refine s_3124_38 _ _ _ ?_
                  refine ⟨fun h_169 => ?_, fun h_169 => ?_⟩
                  · try rw [show gp_I s_157 74 11 = 6 from q_165]
                    have w_170 := gz_w (8 * 6)
                    have e_171 : gp_wr (8 * 6) = 48 := by omega
                    try rw [e_171]
                    have e_172 : BitVec.ofInt 64 255 = 255#64 := by decide
                    try rw [e_172]
                    refine ⟨by omega, ?_⟩
                    intro s_173 e_174
                    have hs_175 : zM z s_173 := by rw [e_174]; exact zw82 hs_159 _ _
                    have q_176 : gp_I s_173 74 43 = 0 := by rw [e_174]; exact q_160
                    have q_177 : gp_I s_173 74 57 = 0 := by rw [e_174]; exact q_161
                    have q_178 : gp_I s_173 74 58 = 0 := by rw [e_174]; exact q_162
                    have q_179 : gp_I s_173 74 7 = 1 := by rw [e_174]; exact q_163
                    have q_180 : gp_I s_173 74 9 = 0 := by rw [e_174]; exact q_164
                    have q_181 : gp_I s_173 74 11 = 6 := by rw [e_174]; exact q_165
                    try rw [show gp_I s_173 74 11 = 6 from q_181]
                    have w_182 := gz_w (6 + 1)
                    have e_183 : gp_wr (6 + 1) = 7 := by omega
                    try rw [e_183]
                    intro s_184 e_185
                    have hs_186 : zM z s_184 := by rw [e_185]; exact zw74_11 hs_175 0 _
                    have q_187 : gp_I s_184 74 43 = 0 := by rw [e_185]; exact q_176
                    have q_188 : gp_I s_184 74 57 = 0 := by rw [e_185]; exact q_177
                    have q_189 : gp_I s_184 74 58 = 0 := by rw [e_185]; exact q_178
                    have q_190 : gp_I s_184 74 7 = 1 := by rw [e_185]; exact q_179
                    have q_191 : gp_I s_184 74 9 = 0 := by rw [e_185]; exact q_180
                    have q_192 : gp_I s_184 74 11 = 7 := by rw [e_185]; rfl
                    have w_194 := gz_w (6 + 1)
                    have e_195 : gp_wr (6 + 1) = 7 := by omega
                    try rw [e_195]
                    refine s_3124_38 _ _ _ ?_
                    refine ⟨fun h_196 => ?_, fun h_196 => ?_⟩
                    · try rw [show gp_I s_184 74 11 = 7 from q_192]
                      have w_197 := gz_w (8 * 7)
                      have e_198 : gp_wr (8 * 7) = 56 := by omega
                      try rw [e_198]
                      have e_199 : BitVec.ofInt 64 255 = 255#64 := by decide
                      try rw [e_199]
                      refine ⟨by omega, ?_⟩
                      intro s_200 e_201
                      have hs_202 : zM z s_200 := by rw [e_201]; exact zw82 hs_186 _ _
                      have q_203 : gp_I s_200 74 43 = 0 := by rw [e_201]; exact q_187
                      have q_204 : gp_I s_200 74 57 = 0 := by rw [e_201]; exact q_188
                      have q_205 : gp_I s_200 74 58 = 0 := by rw [e_201]; exact q_189
                      have q_206 : gp_I s_200 74 7 = 1 := by rw [e_201]; exact q_190
                      have q_207 : gp_I s_200 74 9 = 0 := by rw [e_201]; exact q_191
                      have q_208 : gp_I s_200 74 11 = 7 := by rw [e_201]; exact q_192
                      try rw [show gp_I s_200 74 11 = 7 from q_208]
                      have w_209 := gz_w (7 + 1)
                      have e_210 : gp_wr (7 + 1) = 8 := by omega
                      try rw [e_210]
                      intro s_211 e_212
                      have hs_213 : zM z s_211 := by rw [e_212]; exact zw74_11 hs_202 0 _
                      have q_214 : gp_I s_211 74 43 = 0 := by rw [e_212]; exact q_203
                      have q_215 : gp_I s_211 74 57 = 0 := by rw [e_212]; exact q_204
                      have q_216 : gp_I s_211 74 58 = 0 := by rw [e_212]; exact q_205
                      have q_217 : gp_I s_211 74 7 = 1 := by rw [e_212]; exact q_206
                      have q_218 : gp_I s_211 74 9 = 0 := by rw [e_212]; exact q_207
                      have q_219 : gp_I s_211 74 11 = 8 := by rw [e_212]; rfl
                      have w_221 := gz_w (7 + 1)
                      have e_222 : gp_wr (7 + 1) = 8 := by omega
                      try rw [e_222]
                      refine s_3124_38 _ _ _ ?_
                      refine ⟨fun h_223 => ?_, fun h_223 => ?_⟩
                      · exfalso; omega
                      · try rw [show gp_I s_211 74 11 = 8 from q_219]
                        exact k s_211 hs_213 (by omega) (by omega) (by omega) (by omega) (by omega) (by omega)
                    · exfalso; omega
                  · exfalso; omega
                · exfalso; omega
              · exfalso; omega
            · exfalso; omega
          · exfalso; omega
        · exfalso; omega
      · exfalso; omega
set_option maxRecDepth 100000 in
/-- GatheredPointsModel.isIn [('r', 9, 2147483647), 1, 8] -/
theorem zm3073_9 {z : gH} {L d : Nat} {K : Option gV → gH → Prop} {s : gH} (p0 : BitVec 64) (hs : zM z s) (h_p0 : 9 ≤ p0.toInt ∧ p0.toInt ≤ 2147483647)  (k : K (some (gp_i 0)) s) : gs_C L d 3073 6 [gp_l p0, gp_l (1#64), gp_l (8#64)] s K := by
  refine s_3073_e _ _ _ ?_
  have w_1 : (1#64).toInt = 1 := by decide
  have w_2 := gz_cmp p0 (1#64)
  have e_3 : gp_cmp p0 (1#64) = 1 := by omega
  try rw [e_3]
  refine ⟨fun h_4 => ?_, fun h_4 => ?_⟩
  · exfalso; omega
  · have w_5 : (8#64).toInt = 8 := by decide
    have w_6 := gz_cmp p0 (8#64)
    have e_7 : gp_cmp p0 (8#64) = 1 := by omega
    try rw [e_7]
    refine ⟨fun h_8 => ?_, fun h_8 => ?_⟩
    · refine s_3073_17 _ _ _ ?_
      refine s_3073_18 _ _ _ _ ?_
      refine ⟨by omega, ?_⟩
      exact k
    · exfalso; omega
set_option maxRecDepth 100000 in
/-- GatheredPointsModel.feed [None, (9, 2147483647)] -/
theorem zm3124_9 {z : gH} {L d : Nat} {K : Option gV → gH → Prop} {s : gH} (p0 : BitVec 64) (p1 : Int) (hs : zM z s) (h_p1 : 9 ≤ p1 ∧ p1 ≤ 2147483647) (q0 : gp_I s 74 11 = 0) (q1 : gp_I s 74 43 = 0) (q2 : gp_I s 74 57 = 0) (q3 : gp_I s 74 58 = 0) (q4 : gp_I s 74 7 = 1) (q5 : gp_I s 74 9 = 0) (k : ∀ (t : gH), zM z t → (gp_I t 74 11 = 0) → (gp_I t 74 43 = 0) → (gp_I t 74 57 = 0) → (gp_I t 74 58 = 0) → (gp_I t 74 7 = 1) → (gp_I t 74 9 = 0) → ((-2147483648) ≤ gp_I t 75 1 ∧ gp_I t 75 1 ≤ 2147483647) → K (some (gp_i (-1000000001))) t) : gs_C L (d + 1) 3124 5 [gp_r (some 74), gp_l p0, gp_i p1] s K := by
  refine s_3124_e _ _ ?_
  have w_1 := gz_oi (p1) (by omega)
  have e_2 : BitVec.ofInt 64 8 = 8#64 := by decide
  try rw [e_2]
  refine zm3073_9 _ hs (by omega) (⟨_, rfl, ?_⟩)
  refine ⟨fun h_3 => ?_, fun h_3 => ?_⟩
  · refine zm3074_0 hs (by omega) (by omega) (by omega) (by omega) (by omega) (by omega) (fun s_4 hs_5 q_6 q_7 q_8 q_9 q_10 q_11 q_12 => ⟨_, rfl, ?_⟩)
    exact k s_4 hs_5 (by omega) (by omega) (by omega) (by omega) (by omega) (by omega) (by omega)
  · exfalso; omega
set_option maxRecDepth 100000 in
/-- GatheredPointsModel.isSlot [(-2147483648, -1)] -/
theorem zm3075_0 {z : gH} {L d : Nat} {K : Option gV → gH → Prop} {s : gH} (p0 : Int) (hs : zM z s) (h_p0 : (-2147483648) ≤ p0 ∧ p0 ≤ (-1))  (k : K (some (gp_i 0)) s) : gs_C L d 3075 1 [gp_i p0] s K := by
  refine s_3075_e _ ?_
  refine ⟨fun h_1 => ?_, fun h_1 => ?_⟩
  · refine s_3075_14 _ ?_
    refine s_3075_15 _ _ ?_
    refine ⟨by omega, ?_⟩
    exact k
  · exfalso; omega
set_option maxRecDepth 100000 in
/-- GatheredPointsModel.finds [(1, 1)] -/
theorem zm3074_1 {z : gH} {L d : Nat} {K : Option gV → gH → Prop} {s : gH}  (hs : zM z s)  (q0 : gp_I s 74 11 = 0) (q1 : gp_I s 74 43 = 0) (q2 : gp_I s 74 57 = 0) (q3 : gp_I s 74 58 = 0) (q4 : gp_I s 74 7 = 1) (q5 : gp_I s 74 9 = 0) (q6 : gp_I s 81 20 = 0) (k : ∀ (t : gH), zM z t → (gp_I t 74 11 = 0) → (gp_I t 74 43 = 0) → (gp_I t 74 57 = 0) → (gp_I t 74 58 = 0) → (gp_I t 74 7 = 1) → (gp_I t 74 9 = 0) → ((-2147483648) ≤ gp_I t 75 1 ∧ gp_I t 75 1 ≤ 2147483647) → (gp_I t 81 20 = 0) → K (some (gp_i (-1000000001))) t) : gs_C L d 3074 2 [gp_r (some 74), gp_i 1] s K := by
  refine s_3074_e _ ?_
  refine ⟨by omega, ?_⟩
  have w_1 := gz_w ((gp_I s 75 (1 : Int).toNat) + 1)
  refine ⟨by omega, ?_⟩
  intro s_2 e_3
  have hs_4 : zM z s_2 := by rw [e_3]; exact zw75 hs _ _
  have q_5 : gp_I s_2 74 11 = 0 := by rw [e_3]; exact q0
  have q_6 : gp_I s_2 74 43 = 0 := by rw [e_3]; exact q1
  have q_7 : gp_I s_2 74 57 = 0 := by rw [e_3]; exact q2
  have q_8 : gp_I s_2 74 58 = 0 := by rw [e_3]; exact q3
  have q_9 : gp_I s_2 74 7 = 1 := by rw [e_3]; exact q4
  have q_10 : gp_I s_2 74 9 = 0 := by rw [e_3]; exact q5
  have q_11 : gp_I s_2 81 20 = 0 := by rw [e_3]; exact q6
  have q_12 : (-2147483648) ≤ gp_I s_2 75 1 ∧ gp_I s_2 75 1 ≤ 2147483647 := by have x_13 : gp_I s_2 75 1 = gp_wr ((gp_I s 75 (1 : Int).toNat) + 1) := (by rw [e_3]; rfl); omega
  have w_14 := gz_w ((-1000000000) - 1)
  have e_15 : gp_wr ((-1000000000) - 1) = (-1000000001) := by omega
  try rw [e_15]
  exact k s_2 hs_4 (by omega) (by omega) (by omega) (by omega) (by omega) (by omega) (by omega) (by omega)
set_option maxRecDepth 100000 in
/-- GatheredPointsModel.game [(-2147483648, -1)] -/
theorem zm3139_0 {z : gH} {L d : Nat} {K : Option gV → gH → Prop} {s : gH} (p0 : Int) (hs : zM z s) (h_p0 : (-2147483648) ≤ p0 ∧ p0 ≤ (-1)) (q0 : gp_I s 74 11 = 0) (q1 : gp_I s 74 43 = 0) (q2 : gp_I s 74 57 = 0) (q3 : gp_I s 74 58 = 0) (q4 : gp_I s 74 7 = 1) (q5 : gp_I s 74 9 = 0) (q6 : gp_I s 81 20 = 0) (k : ∀ (t : gH), zM z t → (gp_I t 74 11 = 0) → (gp_I t 74 43 = 0) → (gp_I t 74 57 = 0) → (gp_I t 74 58 = 0) → (gp_I t 74 7 = 1) → (gp_I t 74 9 = 0) → ((-2147483648) ≤ gp_I t 75 1 ∧ gp_I t 75 1 ≤ 2147483647) → (gp_I t 81 20 = 0) → K (some (gp_i (-1000000001))) t) : gs_C L (d + 1) 3139 2 [gp_r (some 74), gp_i p0] s K := by
  refine s_3139_e _ ?_
  refine zm3075_0 _ hs (by omega) (⟨_, rfl, ?_⟩)
  refine ⟨fun h_1 => ?_, fun h_1 => ?_⟩
  · refine zm3074_1 hs (by omega) (by omega) (by omega) (by omega) (by omega) (by omega) (by omega) (fun s_2 hs_3 q_4 q_5 q_6 q_7 q_8 q_9 q_10 q_11 => ⟨_, rfl, ?_⟩)
    exact k s_2 hs_3 (by omega) (by omega) (by omega) (by omega) (by omega) (by omega) (by omega) (by omega)
  · exfalso; omega
set_option maxRecDepth 100000 in
/-- GatheredPointsModel.isSlot [(8, 2147483647)] -/
theorem zm3075_1 {z : gH} {L d : Nat} {K : Option gV → gH → Prop} {s : gH} (p0 : Int) (hs : zM z s) (h_p0 : 8 ≤ p0 ∧ p0 ≤ 2147483647)  (k : K (some (gp_i 0)) s) : gs_C L d 3075 1 [gp_i p0] s K := by
  refine s_3075_e _ ?_
  refine ⟨fun h_1 => ?_, fun h_1 => ?_⟩
  · exfalso; omega
  · refine ⟨fun h_2 => ?_, fun h_2 => ?_⟩
    · exfalso; omega
    · refine s_3075_14 _ ?_
      refine s_3075_15 _ _ ?_
      refine ⟨by omega, ?_⟩
      exact k
set_option maxRecDepth 100000 in
/-- GatheredPointsModel.game [(8, 2147483647)] -/
theorem zm3139_1 {z : gH} {L d : Nat} {K : Option gV → gH → Prop} {s : gH} (p0 : Int) (hs : zM z s) (h_p0 : 8 ≤ p0 ∧ p0 ≤ 2147483647) (q0 : gp_I s 74 11 = 0) (q1 : gp_I s 74 43 = 0) (q2 : gp_I s 74 57 = 0) (q3 : gp_I s 74 58 = 0) (q4 : gp_I s 74 7 = 1) (q5 : gp_I s 74 9 = 0) (q6 : gp_I s 81 20 = 0) (k : ∀ (t : gH), zM z t → (gp_I t 74 11 = 0) → (gp_I t 74 43 = 0) → (gp_I t 74 57 = 0) → (gp_I t 74 58 = 0) → (gp_I t 74 7 = 1) → (gp_I t 74 9 = 0) → ((-2147483648) ≤ gp_I t 75 1 ∧ gp_I t 75 1 ≤ 2147483647) → (gp_I t 81 20 = 0) → K (some (gp_i (-1000000001))) t) : gs_C L (d + 1) 3139 2 [gp_r (some 74), gp_i p0] s K := by
  refine s_3139_e _ ?_
  refine zm3075_1 _ hs (by omega) (⟨_, rfl, ?_⟩)
  refine ⟨fun h_1 => ?_, fun h_1 => ?_⟩
  · refine zm3074_1 hs (by omega) (by omega) (by omega) (by omega) (by omega) (by omega) (by omega) (fun s_2 hs_3 q_4 q_5 q_6 q_7 q_8 q_9 q_10 q_11 => ⟨_, rfl, ?_⟩)
    exact k s_2 hs_3 (by omega) (by omega) (by omega) (by omega) (by omega) (by omega) (by omega) (by omega)
  · exfalso; omega
set_option maxRecDepth 100000 in
/-- GatheredPointsModel.isSlot [(0, 7)] -/
theorem zm3075_2 {z : gH} {L d : Nat} {K : Option gV → gH → Prop} {s : gH} (p0 : Int) (hs : zM z s) (h_p0 : 0 ≤ p0 ∧ p0 ≤ 7)  (k : K (some (gp_i 1)) s) : gs_C L d 3075 1 [gp_i p0] s K := by
  refine s_3075_e _ ?_
  refine ⟨fun h_1 => ?_, fun h_1 => ?_⟩
  · exfalso; omega
  · refine ⟨fun h_2 => ?_, fun h_2 => ?_⟩
    · refine s_3075_15 _ _ ?_
      refine ⟨by omega, ?_⟩
      exact k
    · exfalso; omega
set_option maxRecDepth 100000 in
/-- GatheredPointsModel.goesOn [] -/
theorem zm3127_0 {z : gH} {L d : Nat} {K : Option gV → gH → Prop} {s : gH}  (hs : zM z s)  (q0 : gp_I s 74 11 = 0) (q1 : gp_I s 74 38 = 0) (q2 : gp_I s 74 39 = 0) (q3 : gp_I s 74 40 = (-1)) (q4 : gp_I s 74 41 = 0) (q5 : gp_I s 74 42 = 0) (q6 : gp_I s 74 43 = 0) (q7 : gp_I s 74 57 = 0) (q8 : gp_I s 74 58 = 0) (q9 : gp_I s 74 7 = 1) (q10 : gp_I s 74 9 = 0) (k : K (some (gp_i 1)) s) : gs_C L d 3127 1 [gp_r (some 74)] s K := by
  refine s_3127_e ?_
  try rw [show gp_I s 74 40 = (-1) from q3]
  refine ⟨fun h_1 => ?_, fun h_1 => ?_⟩
  · try rw [show gp_I s 74 43 = 0 from q6]
    refine ⟨fun h_2 => ?_, fun h_2 => ?_⟩
    · refine s_3127_19 _ ?_
      refine ⟨by omega, ?_⟩
      exact k
    · exfalso; omega
  · exfalso; omega
set_option maxRecDepth 100000 in
/-- GatheredPointsModel.byteAt [] -/
theorem zm3125_0 {z : gH} {L d : Nat} {K : Option gV → gH → Prop} {s : gH}  (hs : zM z s)  (q0 : gp_I s 74 11 = 0) (q1 : gp_I s 74 38 = 0) (q2 : gp_I s 74 39 = 0) (q3 : gp_I s 74 40 = (-1)) (q4 : gp_I s 74 41 = 0) (q5 : gp_I s 74 42 = 0) (q6 : gp_I s 74 43 = 0) (q7 : gp_I s 74 57 = 0) (q8 : gp_I s 74 58 = 0) (q9 : gp_I s 74 7 = 1) (q10 : gp_I s 74 9 = 0) (k : K (some (gp_i (-1))) s) : gs_C L d 3125 1 [gp_r (some 74)] s K := by
  refine s_3125_e ?_
  try rw [show gp_I s 74 38 = 0 from q1]
  try rw [show gp_I s 74 39 = 0 from q2]
  refine ⟨fun h_1 => ?_, fun h_1 => ?_⟩
  · exfalso; omega
  · refine s_3125_24 _ ?_
    exact k
set_option maxRecDepth 100000 in
/-- GatheredPointsModel.isDigit [] -/
theorem zm3126_0 {z : gH} {L d : Nat} {K : Option gV → gH → Prop} {s : gH}  (hs : zM z s)  (q0 : gp_I s 74 11 = 0) (q1 : gp_I s 74 38 = 0) (q2 : gp_I s 74 39 = 0) (q3 : gp_I s 74 40 = (-1)) (q4 : gp_I s 74 41 = 0) (q5 : gp_I s 74 42 = 0) (q6 : gp_I s 74 43 = 0) (q7 : gp_I s 74 57 = 0) (q8 : gp_I s 74 58 = 0) (q9 : gp_I s 74 7 = 1) (q10 : gp_I s 74 9 = 0) (k : K (some (gp_i 0)) s) : gs_C L (d + 1) 3126 1 [gp_r (some 74)] s K := by
  refine s_3126_e ?_
  refine zm3125_0 hs (by omega) (by omega) (by omega) (by omega) (by omega) (by omega) (by omega) (by omega) (by omega) (by omega) (by omega) (⟨_, rfl, ?_⟩)
  refine ⟨fun h_1 => ?_, fun h_1 => ?_⟩
  · refine s_3126_22 ?_
    refine s_3126_23 _ ?_
    refine ⟨by omega, ?_⟩
    exact k
  · exfalso; omega
set_option maxRecDepth 100000 in
/-- GatheredPointsModel.takes [(119, 119)] -/
theorem zm3129_0 {z : gH} {L d : Nat} {K : Option gV → gH → Prop} {s : gH}  (hs : zM z s)  (q0 : gp_I s 74 11 = 0) (q1 : gp_I s 74 38 = 0) (q2 : gp_I s 74 39 = 0) (q3 : gp_I s 74 40 = (-1)) (q4 : gp_I s 74 41 = 0) (q5 : gp_I s 74 42 = 0) (q6 : gp_I s 74 43 = 0) (q7 : gp_I s 74 57 = 0) (q8 : gp_I s 74 58 = 0) (q9 : gp_I s 74 7 = 1) (q10 : gp_I s 74 9 = 0) (q11 : gp_I s 81 20 = 0) (k : ∀ (t : gH), zM z t → (gp_I t 74 11 = 0) → (gp_I t 74 38 = 0) → (gp_I t 74 39 = 0) → (gp_I t 74 40 = (-1)) → (gp_I t 74 41 = 0) → (gp_I t 74 42 = 0) → (gp_I t 74 43 = 0) → (gp_I t 74 57 = 0) → (gp_I t 74 58 = 0) → (gp_I t 74 7 = 1) → (gp_I t 74 9 = 0) → (gp_I t 81 20 = 0) → K (some (gp_i 0)) t) : gs_C L (d + 1) 3129 3 [gp_r (some 74), gp_i 119] s K := by
  refine s_3129_e _ ?_
  refine zm3127_0 hs (by omega) (by omega) (by omega) (by omega) (by omega) (by omega) (by omega) (by omega) (by omega) (by omega) (by omega) (⟨_, rfl, ?_⟩)
  refine ⟨fun h_1 => ?_, fun h_1 => ?_⟩
  · exfalso; omega
  · refine zm3125_0 hs (by omega) (by omega) (by omega) (by omega) (by omega) (by omega) (by omega) (by omega) (by omega) (by omega) (by omega) (⟨_, rfl, ?_⟩)
    refine ⟨fun h_2 => ?_, fun h_2 => ?_⟩
    · exfalso; omega
    · refine s_3129_19 _ _ ?_
      refine s_3129_20 _ _ _ ?_
      try rw [show gp_I s 74 38 = 0 from q1]
      refine ⟨fun h_3 => ?_, fun h_3 => ?_⟩
      · refine s_3129_35 _ _ _ _ ?_
        have w_4 := gz_w (0 + 0)
        have e_5 : gp_wr (0 + 0) = 0 := by omega
        try rw [e_5]
        intro s_6 e_7
        have hs_8 : zM z s_6 := by rw [e_7]; exact zw74_38 hs 0 _
        have q_9 : gp_I s_6 74 11 = 0 := by rw [e_7]; exact q0
        have q_10 : gp_I s_6 74 39 = 0 := by rw [e_7]; exact q2
        have q_11 : gp_I s_6 74 40 = (-1) := by rw [e_7]; exact q3
        have q_12 : gp_I s_6 74 41 = 0 := by rw [e_7]; exact q4
        have q_13 : gp_I s_6 74 42 = 0 := by rw [e_7]; exact q5
        have q_14 : gp_I s_6 74 43 = 0 := by rw [e_7]; exact q6
        have q_15 : gp_I s_6 74 57 = 0 := by rw [e_7]; exact q7
        have q_16 : gp_I s_6 74 58 = 0 := by rw [e_7]; exact q8
        have q_17 : gp_I s_6 74 7 = 1 := by rw [e_7]; exact q9
        have q_18 : gp_I s_6 74 9 = 0 := by rw [e_7]; exact q10
        have q_19 : gp_I s_6 81 20 = 0 := by rw [e_7]; exact q11
        have q_20 : gp_I s_6 74 38 = 0 := by rw [e_7]; rfl
        refine ⟨by omega, ?_⟩
        exact k s_6 hs_8 (by omega) (by omega) (by omega) (by omega) (by omega) (by omega) (by omega) (by omega) (by omega) (by omega) (by omega) (by omega)
      · exfalso; omega
set_option maxRecDepth 100000 in
/-- GatheredPointsModel.fails [] -/
theorem zm3128_0 {z : gH} {L d : Nat} {K : Option gV → gH → Prop} {s : gH}  (hs : zM z s)  (q0 : gp_I s 74 11 = 0) (q1 : gp_I s 74 38 = 0) (q2 : gp_I s 74 39 = 0) (q3 : gp_I s 74 40 = (-1)) (q4 : gp_I s 74 41 = 0) (q5 : gp_I s 74 42 = 0) (q6 : gp_I s 74 43 = 0) (q7 : gp_I s 74 57 = 0) (q8 : gp_I s 74 58 = 0) (q9 : gp_I s 74 7 = 1) (q10 : gp_I s 74 9 = 0) (q11 : gp_I s 81 20 = 0) (k : ∀ (t : gH), zM z t → (gp_I t 74 11 = 0) → (gp_I t 74 38 = 0) → (gp_I t 74 39 = 0) → (gp_I t 74 40 = 0) → (gp_I t 74 41 = 0) → (gp_I t 74 42 = 0) → (gp_I t 74 43 = 0) → (gp_I t 74 57 = 0) → (gp_I t 74 58 = 0) → (gp_I t 74 7 = 1) → (gp_I t 74 9 = 0) → (gp_I t 81 20 = 0) → K none t) : gs_C L d 3128 1 [gp_r (some 74)] s K := by
  refine s_3128_e ?_
  try rw [show gp_I s 74 40 = (-1) from q3]
  refine ⟨fun h_1 => ?_, fun h_1 => ?_⟩
  · try rw [show gp_I s 74 38 = 0 from q1]
    refine s_3128_19 _ ?_
    intro s_2 e_3
    have hs_4 : zM z s_2 := by rw [e_3]; exact zw74_40 hs 0 _
    have q_5 : gp_I s_2 74 11 = 0 := by rw [e_3]; exact q0
    have q_6 : gp_I s_2 74 38 = 0 := by rw [e_3]; exact q1
    have q_7 : gp_I s_2 74 39 = 0 := by rw [e_3]; exact q2
    have q_8 : gp_I s_2 74 41 = 0 := by rw [e_3]; exact q4
    have q_9 : gp_I s_2 74 42 = 0 := by rw [e_3]; exact q5
    have q_10 : gp_I s_2 74 43 = 0 := by rw [e_3]; exact q6
    have q_11 : gp_I s_2 74 57 = 0 := by rw [e_3]; exact q7
    have q_12 : gp_I s_2 74 58 = 0 := by rw [e_3]; exact q8
    have q_13 : gp_I s_2 74 7 = 1 := by rw [e_3]; exact q9
    have q_14 : gp_I s_2 74 9 = 0 := by rw [e_3]; exact q10
    have q_15 : gp_I s_2 81 20 = 0 := by rw [e_3]; exact q11
    have q_16 : gp_I s_2 74 40 = 0 := by rw [e_3]; rfl
    exact k s_2 hs_4 (by omega) (by omega) (by omega) (by omega) (by omega) (by omega) (by omega) (by omega) (by omega) (by omega) (by omega) (by omega)
  · exfalso; omega
set_option maxRecDepth 100000 in
/-- GatheredPointsModel.unit [] -/
theorem zm3134_0 {z : gH} {L d : Nat} {K : Option gV → gH → Prop} {s : gH}  (hs : zM z s)  (q0 : gp_I s 74 11 = 0) (q1 : gp_I s 74 38 = 0) (q2 : gp_I s 74 39 = 0) (q3 : gp_I s 74 40 = (-1)) (q4 : gp_I s 74 41 = 0) (q5 : gp_I s 74 42 = 0) (q6 : gp_I s 74 43 = 0) (q7 : gp_I s 74 57 = 0) (q8 : gp_I s 74 58 = 0) (q9 : gp_I s 74 7 = 1) (q10 : gp_I s 74 9 = 0) (q11 : gp_I s 81 20 = 0) (k : ∀ (t : gH), zM z t → (gp_I t 74 11 = 0) → (gp_I t 74 38 = 0) → (gp_I t 74 39 = 0) → (gp_I t 74 40 = 0) → (gp_I t 74 41 = 0) → (gp_I t 74 42 = 0) → (gp_I t 74 43 = 0) → (gp_I t 74 57 = 0) → (gp_I t 74 58 = 0) → (gp_I t 74 7 = 1) → (gp_I t 74 9 = 0) → (gp_I t 81 20 = 0) → K none t) : gs_C L (d + 2) 3134 2 [gp_r (some 74)] s K := by
  refine s_3134_e ?_
  refine zm3127_0 hs (by omega) (by omega) (by omega) (by omega) (by omega) (by omega) (by omega) (by omega) (by omega) (by omega) (by omega) (⟨_, rfl, ?_⟩)
  refine ⟨fun h_1 => ?_, fun h_1 => ?_⟩
  · exfalso; omega
  · refine zm3126_0 hs (by omega) (by omega) (by omega) (by omega) (by omega) (by omega) (by omega) (by omega) (by omega) (by omega) (by omega) (⟨_, rfl, ?_⟩)
    refine ⟨fun h_2 => ?_, fun h_2 => ?_⟩
    · refine zm3129_0 hs (by omega) (by omega) (by omega) (by omega) (by omega) (by omega) (by omega) (by omega) (by omega) (by omega) (by omega) (by omega) (fun s_3 hs_4 q_5 q_6 q_7 q_8 q_9 q_10 q_11 q_12 q_13 q_14 q_15 q_16 => ⟨_, rfl, ?_⟩)
      refine ⟨fun h_17 => ?_, fun h_17 => ?_⟩
      · refine zm3125_0 hs_4 (by omega) (by omega) (by omega) (by omega) (by omega) (by omega) (by omega) (by omega) (by omega) (by omega) (by omega) (⟨_, rfl, ?_⟩)
        refine ⟨fun h_18 => ?_, fun h_18 => ?_⟩
        · exfalso; omega
        · refine s_3134_103 _ _ ?_
          refine ⟨fun h_19 => ?_, fun h_19 => ?_⟩
          · refine zm3125_0 hs_4 (by omega) (by omega) (by omega) (by omega) (by omega) (by omega) (by omega) (by omega) (by omega) (by omega) (by omega) (⟨_, rfl, ?_⟩)
            refine ⟨fun h_20 => ?_, fun h_20 => ?_⟩
            · exfalso; omega
            · refine s_3134_126 _ ?_
              refine zm3128_0 hs_4 (by omega) (by omega) (by omega) (by omega) (by omega) (by omega) (by omega) (by omega) (by omega) (by omega) (by omega) (by omega) (fun s_21 hs_22 q_23 q_24 q_25 q_26 q_27 q_28 q_29 q_30 q_31 q_32 q_33 q_34 => ⟨rfl, ?_⟩)
              exact k s_21 hs_22 (by omega) (by omega) (by omega) (by omega) (by omega) (by omega) (by omega) (by omega) (by omega) (by omega) (by omega) (by omega)
          · exfalso; omega
      · exfalso; omega
    · exfalso; omega
set_option maxRecDepth 100000 in
/-- GatheredPointsModel.goesOn [] -/
theorem zm3127_1 {z : gH} {L d : Nat} {K : Option gV → gH → Prop} {s : gH}  (hs : zM z s)  (q0 : gp_I s 74 11 = 0) (q1 : gp_I s 74 38 = 0) (q2 : gp_I s 74 39 = 0) (q3 : gp_I s 74 40 = 0) (q4 : gp_I s 74 41 = 0) (q5 : gp_I s 74 42 = 0) (q6 : gp_I s 74 43 = 0) (q7 : gp_I s 74 57 = 0) (q8 : gp_I s 74 58 = 0) (q9 : gp_I s 74 7 = 1) (q10 : gp_I s 74 9 = 0) (k : K (some (gp_i 0)) s) : gs_C L d 3127 1 [gp_r (some 74)] s K := by
  refine s_3127_e ?_
  try rw [show gp_I s 74 40 = 0 from q3]
  refine ⟨fun h_1 => ?_, fun h_1 => ?_⟩
  · exfalso; omega
  · refine s_3127_18 ?_
    refine s_3127_19 _ ?_
    refine ⟨by omega, ?_⟩
    exact k
set_option maxRecDepth 100000 in
/-- GatheredPointsModel.takes [(43, 43)] -/
theorem zm3129_1 {z : gH} {L d : Nat} {K : Option gV → gH → Prop} {s : gH}  (hs : zM z s)  (q0 : gp_I s 74 11 = 0) (q1 : gp_I s 74 38 = 0) (q2 : gp_I s 74 39 = 0) (q3 : gp_I s 74 40 = 0) (q4 : gp_I s 74 41 = 0) (q5 : gp_I s 74 42 = 0) (q6 : gp_I s 74 43 = 0) (q7 : gp_I s 74 57 = 0) (q8 : gp_I s 74 58 = 0) (q9 : gp_I s 74 7 = 1) (q10 : gp_I s 74 9 = 0) (q11 : gp_I s 81 20 = 0) (k : ∀ (t : gH), zM z t → (gp_I t 74 11 = 0) → (gp_I t 74 38 = 0) → (gp_I t 74 39 = 0) → (gp_I t 74 40 = 0) → (gp_I t 74 41 = 0) → (gp_I t 74 42 = 0) → (gp_I t 74 43 = 0) → (gp_I t 74 57 = 0) → (gp_I t 74 58 = 0) → (gp_I t 74 7 = 1) → (gp_I t 74 9 = 0) → (gp_I t 81 20 = 0) → K (some (gp_i 0)) t) : gs_C L (d + 1) 3129 3 [gp_r (some 74), gp_i 43] s K := by
  refine s_3129_e _ ?_
  refine zm3127_1 hs (by omega) (by omega) (by omega) (by omega) (by omega) (by omega) (by omega) (by omega) (by omega) (by omega) (by omega) (⟨_, rfl, ?_⟩)
  refine ⟨fun h_1 => ?_, fun h_1 => ?_⟩
  · refine s_3129_19 _ _ ?_
    refine s_3129_20 _ _ _ ?_
    try rw [show gp_I s 74 38 = 0 from q1]
    refine ⟨fun h_2 => ?_, fun h_2 => ?_⟩
    · refine s_3129_35 _ _ _ _ ?_
      have w_3 := gz_w (0 + 0)
      have e_4 : gp_wr (0 + 0) = 0 := by omega
      try rw [e_4]
      intro s_5 e_6
      have hs_7 : zM z s_5 := by rw [e_6]; exact zw74_38 hs 0 _
      have q_8 : gp_I s_5 74 11 = 0 := by rw [e_6]; exact q0
      have q_9 : gp_I s_5 74 39 = 0 := by rw [e_6]; exact q2
      have q_10 : gp_I s_5 74 40 = 0 := by rw [e_6]; exact q3
      have q_11 : gp_I s_5 74 41 = 0 := by rw [e_6]; exact q4
      have q_12 : gp_I s_5 74 42 = 0 := by rw [e_6]; exact q5
      have q_13 : gp_I s_5 74 43 = 0 := by rw [e_6]; exact q6
      have q_14 : gp_I s_5 74 57 = 0 := by rw [e_6]; exact q7
      have q_15 : gp_I s_5 74 58 = 0 := by rw [e_6]; exact q8
      have q_16 : gp_I s_5 74 7 = 1 := by rw [e_6]; exact q9
      have q_17 : gp_I s_5 74 9 = 0 := by rw [e_6]; exact q10
      have q_18 : gp_I s_5 81 20 = 0 := by rw [e_6]; exact q11
      have q_19 : gp_I s_5 74 38 = 0 := by rw [e_6]; rfl
      refine ⟨by omega, ?_⟩
      exact k s_5 hs_7 (by omega) (by omega) (by omega) (by omega) (by omega) (by omega) (by omega) (by omega) (by omega) (by omega) (by omega) (by omega)
    · exfalso; omega
  · exfalso; omega
set_option maxRecDepth 100000 in
/-- GatheredPointsModel.expression [] -/
theorem zm3137_0 {z : gH} {L d : Nat} {K : Option gV → gH → Prop} {s : gH}  (hs : zM z s)  (q0 : gp_I s 74 11 = 0) (q1 : gp_I s 74 38 = 0) (q2 : gp_I s 74 39 = 0) (q3 : gp_I s 74 40 = (-1)) (q4 : gp_I s 74 41 = 0) (q5 : gp_I s 74 42 = 0) (q6 : gp_I s 74 43 = 0) (q7 : gp_I s 74 57 = 0) (q8 : gp_I s 74 58 = 0) (q9 : gp_I s 74 7 = 1) (q10 : gp_I s 74 9 = 0) (q11 : gp_I s 81 20 = 0) (k : ∀ (t : gH), zM z t → (gp_I t 74 11 = 0) → (gp_I t 74 38 = 0) → (gp_I t 74 39 = 0) → (gp_I t 74 40 = 0) → (gp_I t 74 41 = 0) → (gp_I t 74 42 = 0) → (gp_I t 74 43 = 0) → (gp_I t 74 57 = 0) → (gp_I t 74 58 = 0) → (gp_I t 74 7 = 1) → (gp_I t 74 9 = 0) → (gp_I t 81 20 = 0) → K none t) : gs_C L (d + 3) 3137 1 [gp_r (some 74)] s K := by
  refine s_3137_e ?_
  refine zm3134_0 hs (by omega) (by omega) (by omega) (by omega) (by omega) (by omega) (by omega) (by omega) (by omega) (by omega) (by omega) (by omega) (fun s_1 hs_2 q_3 q_4 q_5 q_6 q_7 q_8 q_9 q_10 q_11 q_12 q_13 q_14 => ⟨rfl, ?_⟩)
  refine s_3137_4 ?_
  refine zm3129_1 hs_2 (by omega) (by omega) (by omega) (by omega) (by omega) (by omega) (by omega) (by omega) (by omega) (by omega) (by omega) (by omega) (fun s_15 hs_16 q_17 q_18 q_19 q_20 q_21 q_22 q_23 q_24 q_25 q_26 q_27 q_28 => ⟨_, rfl, ?_⟩)
  refine ⟨fun h_29 => ?_, fun h_29 => ?_⟩
  · exact k s_15 hs_16 (by omega) (by omega) (by omega) (by omega) (by omega) (by omega) (by omega) (by omega) (by omega) (by omega) (by omega) (by omega)
  · exfalso; omega
set_option maxRecDepth 100000 in
/-- GatheredPointsModel.reads [(0, 0)] -/
theorem zm3138_0 {z : gH} {L d : Nat} {K : Option gV → gH → Prop} {s : gH}  (hs : zM z s)  (q0 : gp_I s 74 11 = 0) (q1 : gp_I s 74 39 = 0) (q2 : gp_I s 74 43 = 0) (q3 : gp_I s 74 57 = 0) (q4 : gp_I s 74 58 = 0) (q5 : gp_I s 74 7 = 1) (q6 : gp_I s 74 9 = 0) (q7 : gp_I s 81 20 = 0) (k : ∀ (t : gH), zM z t → (gp_I t 74 11 = 0) → (gp_I t 74 38 = 0) → (gp_I t 74 39 = 0) → (gp_I t 74 40 = 0) → (gp_I t 74 41 = 0) → (gp_I t 74 42 = 0) → (gp_I t 74 43 = 0) → (gp_I t 74 57 = 0) → (gp_I t 74 58 = 0) → (gp_I t 74 7 = 1) → (gp_I t 74 9 = 0) → (gp_I t 81 20 = 0) → K none t) : gs_C L (d + 4) 3138 2 [gp_r (some 74), gp_i 0] s K := by
  refine s_3138_e _ ?_
  refine ⟨by omega, ?_⟩
  intro s_1 e_2
  have hs_3 : zM z s_1 := by rw [e_2]; exact zw74_44 hs 0 _ (by omega)
  have q_4 : gp_I s_1 74 11 = 0 := by rw [e_2]; exact q0
  have q_5 : gp_I s_1 74 39 = 0 := by rw [e_2]; exact q1
  have q_6 : gp_I s_1 74 43 = 0 := by rw [e_2]; exact q2
  have q_7 : gp_I s_1 74 57 = 0 := by rw [e_2]; exact q3
  have q_8 : gp_I s_1 74 58 = 0 := by rw [e_2]; exact q4
  have q_9 : gp_I s_1 74 7 = 1 := by rw [e_2]; exact q5
  have q_10 : gp_I s_1 74 9 = 0 := by rw [e_2]; exact q6
  have q_11 : gp_I s_1 81 20 = 0 := by rw [e_2]; exact q7
  intro s_12 e_13
  have hs_14 : zM z s_12 := by rw [e_13]; exact zw74_38 hs_3 0 _
  have q_15 : gp_I s_12 74 11 = 0 := by rw [e_13]; exact q_4
  have q_16 : gp_I s_12 74 39 = 0 := by rw [e_13]; exact q_5
  have q_17 : gp_I s_12 74 43 = 0 := by rw [e_13]; exact q_6
  have q_18 : gp_I s_12 74 57 = 0 := by rw [e_13]; exact q_7
  have q_19 : gp_I s_12 74 58 = 0 := by rw [e_13]; exact q_8
  have q_20 : gp_I s_12 74 7 = 1 := by rw [e_13]; exact q_9
  have q_21 : gp_I s_12 74 9 = 0 := by rw [e_13]; exact q_10
  have q_22 : gp_I s_12 81 20 = 0 := by rw [e_13]; exact q_11
  have q_23 : gp_I s_12 74 38 = 0 := by rw [e_13]; rfl
  intro s_25 e_26
  have hs_27 : zM z s_25 := by rw [e_26]; exact zw74_40 hs_14 0 _
  have q_28 : gp_I s_25 74 11 = 0 := by rw [e_26]; exact q_15
  have q_29 : gp_I s_25 74 39 = 0 := by rw [e_26]; exact q_16
  have q_30 : gp_I s_25 74 43 = 0 := by rw [e_26]; exact q_17
  have q_31 : gp_I s_25 74 57 = 0 := by rw [e_26]; exact q_18
  have q_32 : gp_I s_25 74 58 = 0 := by rw [e_26]; exact q_19
  have q_33 : gp_I s_25 74 7 = 1 := by rw [e_26]; exact q_20
  have q_34 : gp_I s_25 74 9 = 0 := by rw [e_26]; exact q_21
  have q_35 : gp_I s_25 81 20 = 0 := by rw [e_26]; exact q_22
  have q_36 : gp_I s_25 74 38 = 0 := by rw [e_26]; exact q_23
  have q_37 : gp_I s_25 74 40 = (-1) := by rw [e_26]; rfl
  intro s_39 e_40
  have hs_41 : zM z s_39 := by rw [e_40]; exact zw74_41 hs_27 0 _
  have q_42 : gp_I s_39 74 11 = 0 := by rw [e_40]; exact q_28
  have q_43 : gp_I s_39 74 39 = 0 := by rw [e_40]; exact q_29
  have q_44 : gp_I s_39 74 43 = 0 := by rw [e_40]; exact q_30
  have q_45 : gp_I s_39 74 57 = 0 := by rw [e_40]; exact q_31
  have q_46 : gp_I s_39 74 58 = 0 := by rw [e_40]; exact q_32
  have q_47 : gp_I s_39 74 7 = 1 := by rw [e_40]; exact q_33
  have q_48 : gp_I s_39 74 9 = 0 := by rw [e_40]; exact q_34
  have q_49 : gp_I s_39 81 20 = 0 := by rw [e_40]; exact q_35
  have q_50 : gp_I s_39 74 38 = 0 := by rw [e_40]; exact q_36
  have q_51 : gp_I s_39 74 40 = (-1) := by rw [e_40]; exact q_37
  have q_52 : gp_I s_39 74 41 = 0 := by rw [e_40]; rfl
  intro s_54 e_55
  have hs_56 : zM z s_54 := by rw [e_55]; exact zw74_42 hs_41 0 _
  have q_57 : gp_I s_54 74 11 = 0 := by rw [e_55]; exact q_42
  have q_58 : gp_I s_54 74 39 = 0 := by rw [e_55]; exact q_43
  have q_59 : gp_I s_54 74 43 = 0 := by rw [e_55]; exact q_44
  have q_60 : gp_I s_54 74 57 = 0 := by rw [e_55]; exact q_45
  have q_61 : gp_I s_54 74 58 = 0 := by rw [e_55]; exact q_46
  have q_62 : gp_I s_54 74 7 = 1 := by rw [e_55]; exact q_47
  have q_63 : gp_I s_54 74 9 = 0 := by rw [e_55]; exact q_48
  have q_64 : gp_I s_54 81 20 = 0 := by rw [e_55]; exact q_49
  have q_65 : gp_I s_54 74 38 = 0 := by rw [e_55]; exact q_50
  have q_66 : gp_I s_54 74 40 = (-1) := by rw [e_55]; exact q_51
  have q_67 : gp_I s_54 74 41 = 0 := by rw [e_55]; exact q_52
  have q_68 : gp_I s_54 74 42 = 0 := by rw [e_55]; rfl
  intro s_70 e_71
  have hs_72 : zM z s_70 := by rw [e_71]; exact zw74_43 hs_56 0 _
  have q_73 : gp_I s_70 74 11 = 0 := by rw [e_71]; exact q_57
  have q_74 : gp_I s_70 74 39 = 0 := by rw [e_71]; exact q_58
  have q_75 : gp_I s_70 74 57 = 0 := by rw [e_71]; exact q_60
  have q_76 : gp_I s_70 74 58 = 0 := by rw [e_71]; exact q_61
  have q_77 : gp_I s_70 74 7 = 1 := by rw [e_71]; exact q_62
  have q_78 : gp_I s_70 74 9 = 0 := by rw [e_71]; exact q_63
  have q_79 : gp_I s_70 81 20 = 0 := by rw [e_71]; exact q_64
  have q_80 : gp_I s_70 74 38 = 0 := by rw [e_71]; exact q_65
  have q_81 : gp_I s_70 74 40 = (-1) := by rw [e_71]; exact q_66
  have q_82 : gp_I s_70 74 41 = 0 := by rw [e_71]; exact q_67
  have q_83 : gp_I s_70 74 42 = 0 := by rw [e_71]; exact q_68
  have q_84 : gp_I s_70 74 43 = 0 := by rw [e_71]; rfl
  refine zm3137_0 hs_72 (by omega) (by omega) (by omega) (by omega) (by omega) (by omega) (by omega) (by omega) (by omega) (by omega) (by omega) (by omega) (fun s_86 hs_87 q_88 q_89 q_90 q_91 q_92 q_93 q_94 q_95 q_96 q_97 q_98 q_99 => ⟨rfl, ?_⟩)
  refine zm3127_1 hs_87 (by omega) (by omega) (by omega) (by omega) (by omega) (by omega) (by omega) (by omega) (by omega) (by omega) (by omega) (⟨_, rfl, ?_⟩)
  refine ⟨fun h_100 => ?_, fun h_100 => ?_⟩
  · refine s_3138_56 _ ?_
    exact k s_86 hs_87 (by omega) (by omega) (by omega) (by omega) (by omega) (by omega) (by omega) (by omega) (by omega) (by omega) (by omega) (by omega)
  · exfalso; omega
set_option maxRecDepth 100000 in
/-- GatheredPointsModel.game [(0, 7)] -/
theorem zm3139_2 {z : gH} {L d : Nat} {K : Option gV → gH → Prop} {s : gH} (p0 : Int) (hs : zM z s) (h_p0 : 0 ≤ p0 ∧ p0 ≤ 7) (q0 : gp_I s 74 11 = 0) (q1 : gp_I s 74 43 = 0) (q2 : gp_I s 74 57 = 0) (q3 : gp_I s 74 58 = 0) (q4 : gp_I s 74 7 = 1) (q5 : gp_I s 74 9 = 0) (q6 : gp_I s 81 20 = 0) (k : ∀ (t : gH), zM z t → (gp_I t 74 11 = 0) → (gp_I t 74 38 = 0) → (gp_I t 74 39 = 0) → (gp_I t 74 40 = 0) → (gp_I t 74 41 = 0) → (gp_I t 74 42 = 0) → (gp_I t 74 43 = 0) → (gp_I t 74 57 = 0) → (gp_I t 74 58 = 0) → (gp_I t 74 7 = 1) → (gp_I t 74 9 = 0) → (gp_I t 81 20 = 0) → K (some (gp_i (-10))) t) : gs_C L (d + 5) 3139 2 [gp_r (some 74), gp_i p0] s K := by
  refine s_3139_e _ ?_
  refine zm3075_2 _ hs (by omega) (⟨_, rfl, ?_⟩)
  refine ⟨fun h_1 => ?_, fun h_1 => ?_⟩
  · exfalso; omega
  · try rw [show gp_I s 74 11 = 0 from q0]
    intro s_2 e_3
    have hs_4 : zM z s_2 := by rw [e_3]; exact zw74_39 hs 0 _
    have q_5 : gp_I s_2 74 11 = 0 := by rw [e_3]; exact q0
    have q_6 : gp_I s_2 74 43 = 0 := by rw [e_3]; exact q1
    have q_7 : gp_I s_2 74 57 = 0 := by rw [e_3]; exact q2
    have q_8 : gp_I s_2 74 58 = 0 := by rw [e_3]; exact q3
    have q_9 : gp_I s_2 74 7 = 1 := by rw [e_3]; exact q4
    have q_10 : gp_I s_2 74 9 = 0 := by rw [e_3]; exact q5
    have q_11 : gp_I s_2 81 20 = 0 := by rw [e_3]; exact q6
    have q_12 : gp_I s_2 74 39 = 0 := by rw [e_3]; rfl
    intro s_14 e_15
    have hs_16 : zM z s_14 := by rw [e_15]; exact zw74_11 hs_4 0 _
    have q_17 : gp_I s_14 74 43 = 0 := by rw [e_15]; exact q_6
    have q_18 : gp_I s_14 74 57 = 0 := by rw [e_15]; exact q_7
    have q_19 : gp_I s_14 74 58 = 0 := by rw [e_15]; exact q_8
    have q_20 : gp_I s_14 74 7 = 1 := by rw [e_15]; exact q_9
    have q_21 : gp_I s_14 74 9 = 0 := by rw [e_15]; exact q_10
    have q_22 : gp_I s_14 81 20 = 0 := by rw [e_15]; exact q_11
    have q_23 : gp_I s_14 74 39 = 0 := by rw [e_15]; exact q_12
    have q_24 : gp_I s_14 74 11 = 0 := by rw [e_15]; rfl
    refine zm3138_0 hs_16 (by omega) (by omega) (by omega) (by omega) (by omega) (by omega) (by omega) (by omega) (fun s_26 hs_27 q_28 q_29 q_30 q_31 q_32 q_33 q_34 q_35 q_36 q_37 q_38 q_39 => ⟨rfl, ?_⟩)
    try rw [show gp_I s_26 74 40 = 0 from q_31]
    refine ⟨fun h_40 => ?_, fun h_40 => ?_⟩
    · exfalso; omega
    · try rw [show gp_I s_26 74 40 = 0 from q_31]
      have w_41 := gz_w ((-10) - 0)
      have e_42 : gp_wr ((-10) - 0) = (-10) := by omega
      try rw [e_42]
      exact k s_26 hs_27 (by omega) (by omega) (by omega) (by omega) (by omega) (by omega) (by omega) (by omega) (by omega) (by omega) (by omega) (by omega)
set_option maxRecDepth 100000 in
/-- GatheredPointsModel.strip [(-2147483648, -1)] -/
theorem zm3143_0 {z : gH} {L d : Nat} {K : Option gV → gH → Prop} {s : gH} (p0 : Int) (hs : zM z s) (h_p0 : (-2147483648) ≤ p0 ∧ p0 ≤ (-1)) (q0 : gp_I s 74 11 = 0) (q1 : gp_I s 74 43 = 0) (q2 : gp_I s 74 57 = 0) (q3 : gp_I s 74 58 = 0) (q4 : gp_I s 74 7 = 1) (q5 : gp_I s 74 9 = 0) (q6 : gp_I s 81 20 = 0) (k : ∀ (t : gH), zM z t → (gp_I t 74 11 = 0) → (gp_I t 74 43 = 0) → (gp_I t 74 57 = 0) → (gp_I t 74 58 = 0) → (gp_I t 74 7 = 1) → (gp_I t 74 9 = 0) → ((-2147483648) ≤ gp_I t 75 1 ∧ gp_I t 75 1 ≤ 2147483647) → (gp_I t 81 20 = 0) → K (some (gp_i (-1000000001))) t) : gs_C L (d + 1) 3143 8 [gp_r (some 74), gp_i p0] s K := by
  refine s_3143_e _ ?_
  refine zm3075_0 _ hs (by omega) (⟨_, rfl, ?_⟩)
  refine ⟨fun h_1 => ?_, fun h_1 => ?_⟩
  · refine zm3074_1 hs (by omega) (by omega) (by omega) (by omega) (by omega) (by omega) (by omega) (fun s_2 hs_3 q_4 q_5 q_6 q_7 q_8 q_9 q_10 q_11 => ⟨_, rfl, ?_⟩)
    exact k s_2 hs_3 (by omega) (by omega) (by omega) (by omega) (by omega) (by omega) (by omega) (by omega)
  · exfalso; omega
set_option maxRecDepth 100000 in
/-- GatheredPointsModel.strip [(8, 2147483647)] -/
theorem zm3143_1 {z : gH} {L d : Nat} {K : Option gV → gH → Prop} {s : gH} (p0 : Int) (hs : zM z s) (h_p0 : 8 ≤ p0 ∧ p0 ≤ 2147483647) (q0 : gp_I s 74 11 = 0) (q1 : gp_I s 74 43 = 0) (q2 : gp_I s 74 57 = 0) (q3 : gp_I s 74 58 = 0) (q4 : gp_I s 74 7 = 1) (q5 : gp_I s 74 9 = 0) (q6 : gp_I s 81 20 = 0) (k : ∀ (t : gH), zM z t → (gp_I t 74 11 = 0) → (gp_I t 74 43 = 0) → (gp_I t 74 57 = 0) → (gp_I t 74 58 = 0) → (gp_I t 74 7 = 1) → (gp_I t 74 9 = 0) → ((-2147483648) ≤ gp_I t 75 1 ∧ gp_I t 75 1 ≤ 2147483647) → (gp_I t 81 20 = 0) → K (some (gp_i (-1000000001))) t) : gs_C L (d + 1) 3143 8 [gp_r (some 74), gp_i p0] s K := by
  refine s_3143_e _ ?_
  refine zm3075_1 _ hs (by omega) (⟨_, rfl, ?_⟩)
  refine ⟨fun h_1 => ?_, fun h_1 => ?_⟩
  · refine zm3074_1 hs (by omega) (by omega) (by omega) (by omega) (by omega) (by omega) (by omega) (fun s_2 hs_3 q_4 q_5 q_6 q_7 q_8 q_9 q_10 q_11 => ⟨_, rfl, ?_⟩)
    exact k s_2 hs_3 (by omega) (by omega) (by omega) (by omega) (by omega) (by omega) (by omega) (by omega)
  · exfalso; omega
set_option maxRecDepth 100000 in
/-- GatheredPointsModel.strip [(0, 7)] -/
theorem zm3143_2 {z : gH} {L d : Nat} {K : Option gV → gH → Prop} {s : gH} (p0 : Int) (hs : zM z s) (h_p0 : 0 ≤ p0 ∧ p0 ≤ 7) (q0 : gp_I s 74 11 = 0) (q1 : gp_I s 74 43 = 0) (q2 : gp_I s 74 57 = 0) (q3 : gp_I s 74 58 = 0) (q4 : gp_I s 74 7 = 1) (q5 : gp_I s 74 9 = 0) (q6 : gp_I s 81 20 = 0) (k : ∀ (t : gH), zM z t → (gp_I t 74 11 = 0) → (gp_I t 74 43 = 0) → (gp_I t 74 57 = 0) → (gp_I t 74 58 = 0) → (gp_I t 74 7 = 1) → (gp_I t 74 9 = 0) → (gp_I t 81 20 = 0) → K (some (gp_i (-10))) t) : gs_C L (d + 1) 3143 8 [gp_r (some 74), gp_i p0] s K := by
  refine s_3143_e _ ?_
  refine zm3075_2 _ hs (by omega) (⟨_, rfl, ?_⟩)
  refine ⟨fun h_1 => ?_, fun h_1 => ?_⟩
  · exfalso; omega
  · try rw [show gp_I s 74 11 = 0 from q0]
    intro s_2 e_3
    have hs_4 : zM z s_2 := by rw [e_3]; exact zw74_11 hs 0 _
    have q_5 : gp_I s_2 74 43 = 0 := by rw [e_3]; exact q1
    have q_6 : gp_I s_2 74 57 = 0 := by rw [e_3]; exact q2
    have q_7 : gp_I s_2 74 58 = 0 := by rw [e_3]; exact q3
    have q_8 : gp_I s_2 74 7 = 1 := by rw [e_3]; exact q4
    have q_9 : gp_I s_2 74 9 = 0 := by rw [e_3]; exact q5
    have q_10 : gp_I s_2 81 20 = 0 := by rw [e_3]; exact q6
    have q_11 : gp_I s_2 74 11 = 0 := by rw [e_3]; rfl
    refine s_3143_28 _ _ _ _ _ _ ?_
    refine ⟨fun h_13 => ?_, fun h_13 => ?_⟩
    · exfalso; omega
    · refine ⟨fun h_14 => ?_, fun h_14 => ?_⟩
      · refine s_3143_39 _ _ _ _ _ _ ?_
        refine ⟨fun h_15 => ?_, fun h_15 => ?_⟩
        · exfalso; omega
        · refine s_3143_56 _ _ _ _ _ _ _ ?_
          refine ⟨fun h_16 => ?_, fun h_16 => ?_⟩
          · exfalso; omega
          · refine ⟨fun h_17 => ?_, fun h_17 => ?_⟩
            · exfalso; omega
            · refine ⟨fun h_18 => ?_, fun h_18 => ?_⟩
              · refine s_3143_90 _ _ _ _ _ _ ?_
                refine s_3143_91 _ _ _ _ _ _ _ ?_
                refine ⟨fun h_19 => ?_, fun h_19 => ?_⟩
                · refine s_3143_105 _ _ _ _ _ _ ?_
                  have w_20 := gz_w ((-10) - 0)
                  have e_21 : gp_wr ((-10) - 0) = (-10) := by omega
                  try rw [e_21]
                  exact k s_2 hs_4 (by omega) (by omega) (by omega) (by omega) (by omega) (by omega) (by omega)
                · exfalso; omega
              · exfalso; omega
      · exfalso; omega
set_option maxRecDepth 100000 in
/-- GatheredPointsModel.finds [(1, 1)] -/
theorem zm3074_2 {z : gH} {L d : Nat} {K : Option gV → gH → Prop} {s : gH}  (hs : zM z s)  (q0 : gp_I s 74 11 = 0) (q1 : gp_I s 74 43 = 0) (q2 : gp_I s 74 57 = 0) (q3 : gp_I s 74 58 = 0) (q4 : gp_I s 74 7 = 1) (q5 : gp_I s 74 9 = 0) (q6 : gp_I s 81 20 = 0) (q7 : gp_I s 84 0 = 0) (q8 : gp_I s 84 1 = 0) (q9 : gp_I s 84 2 = 0) (q10 : gp_I s 84 3 = 0) (q11 : gp_I s 85 0 = 0) (q12 : gp_I s 85 1 = 0) (q13 : gp_I s 85 2 = 0) (q14 : gp_I s 85 3 = 0) (k : ∀ (t : gH), zM z t → (gp_I t 74 11 = 0) → (gp_I t 74 43 = 0) → (gp_I t 74 57 = 0) → (gp_I t 74 58 = 0) → (gp_I t 74 7 = 1) → (gp_I t 74 9 = 0) → ((-2147483648) ≤ gp_I t 75 1 ∧ gp_I t 75 1 ≤ 2147483647) → (gp_I t 81 20 = 0) → (gp_I t 84 0 = 0) → (gp_I t 84 1 = 0) → (gp_I t 84 2 = 0) → (gp_I t 84 3 = 0) → (gp_I t 85 0 = 0) → (gp_I t 85 1 = 0) → (gp_I t 85 2 = 0) → (gp_I t 85 3 = 0) → K (some (gp_i (-1000000001))) t) : gs_C L d 3074 2 [gp_r (some 74), gp_i 1] s K := by
  refine s_3074_e _ ?_
  refine ⟨by omega, ?_⟩
  have w_1 := gz_w ((gp_I s 75 (1 : Int).toNat) + 1)
  refine ⟨by omega, ?_⟩
  intro s_2 e_3
  have hs_4 : zM z s_2 := by rw [e_3]; exact zw75 hs _ _
  have q_5 : gp_I s_2 74 11 = 0 := by rw [e_3]; exact q0
  have q_6 : gp_I s_2 74 43 = 0 := by rw [e_3]; exact q1
  have q_7 : gp_I s_2 74 57 = 0 := by rw [e_3]; exact q2
  have q_8 : gp_I s_2 74 58 = 0 := by rw [e_3]; exact q3
  have q_9 : gp_I s_2 74 7 = 1 := by rw [e_3]; exact q4
  have q_10 : gp_I s_2 74 9 = 0 := by rw [e_3]; exact q5
  have q_11 : gp_I s_2 81 20 = 0 := by rw [e_3]; exact q6
  have q_12 : gp_I s_2 84 0 = 0 := by rw [e_3]; exact q7
  have q_13 : gp_I s_2 84 1 = 0 := by rw [e_3]; exact q8
  have q_14 : gp_I s_2 84 2 = 0 := by rw [e_3]; exact q9
  have q_15 : gp_I s_2 84 3 = 0 := by rw [e_3]; exact q10
  have q_16 : gp_I s_2 85 0 = 0 := by rw [e_3]; exact q11
  have q_17 : gp_I s_2 85 1 = 0 := by rw [e_3]; exact q12
  have q_18 : gp_I s_2 85 2 = 0 := by rw [e_3]; exact q13
  have q_19 : gp_I s_2 85 3 = 0 := by rw [e_3]; exact q14
  have q_20 : (-2147483648) ≤ gp_I s_2 75 1 ∧ gp_I s_2 75 1 ≤ 2147483647 := by have x_21 : gp_I s_2 75 1 = gp_wr ((gp_I s 75 (1 : Int).toNat) + 1) := (by rw [e_3]; rfl); omega
  have w_22 := gz_w ((-1000000000) - 1)
  have e_23 : gp_wr ((-1000000000) - 1) = (-1000000001) := by omega
  try rw [e_23]
  exact k s_2 hs_4 (by omega) (by omega) (by omega) (by omega) (by omega) (by omega) (by omega) (by omega) (by omega) (by omega) (by omega) (by omega) (by omega) (by omega) (by omega) (by omega)
set_option maxRecDepth 100000 in
/-- GatheredPointsModel.ladder [(-2147483648, -1), (-2147483648, 2147483647)] -/
theorem zm3144_0 {z : gH} {L d : Nat} {K : Option gV → gH → Prop} {s : gH} (p0 : Int) (p1 : Int) (hs : zM z s) (h_p0 : (-2147483648) ≤ p0 ∧ p0 ≤ (-1)) (h_p1 : (-2147483648) ≤ p1 ∧ p1 ≤ 2147483647) (q0 : gp_I s 74 11 = 0) (q1 : gp_I s 74 43 = 0) (q2 : gp_I s 74 57 = 0) (q3 : gp_I s 74 58 = 0) (q4 : gp_I s 74 7 = 1) (q5 : gp_I s 74 9 = 0) (q6 : gp_I s 81 20 = 0) (q7 : gp_I s 84 0 = 0) (q8 : gp_I s 84 1 = 0) (q9 : gp_I s 84 2 = 0) (q10 : gp_I s 84 3 = 0) (q11 : gp_I s 85 0 = 0) (q12 : gp_I s 85 1 = 0) (q13 : gp_I s 85 2 = 0) (q14 : gp_I s 85 3 = 0) (k : ∀ (t : gH), zM z t → (gp_I t 74 11 = 0) → (gp_I t 74 43 = 0) → (gp_I t 74 57 = 0) → (gp_I t 74 58 = 0) → (gp_I t 74 7 = 1) → (gp_I t 74 9 = 0) → ((-2147483648) ≤ gp_I t 75 1 ∧ gp_I t 75 1 ≤ 2147483647) → (gp_I t 81 20 = 0) → (gp_I t 84 0 = 0) → (gp_I t 84 1 = 0) → (gp_I t 84 2 = 0) → (gp_I t 84 3 = 0) → (gp_I t 85 0 = 0) → (gp_I t 85 1 = 0) → (gp_I t 85 2 = 0) → (gp_I t 85 3 = 0) → K (some (gp_i (-1000000001))) t) : gs_C L (d + 1) 3144 9 [gp_r (some 74), gp_i p0, gp_i p1] s K := by
  refine s_3144_e _ _ ?_
  refine zm3075_0 _ hs (by omega) (⟨_, rfl, ?_⟩)
  refine ⟨fun h_1 => ?_, fun h_1 => ?_⟩
  · refine s_3144_14 _ _ _ _ _ _ _ _ ?_
    refine zm3074_2 hs (by omega) (by omega) (by omega) (by omega) (by omega) (by omega) (by omega) (by omega) (by omega) (by omega) (by omega) (by omega) (by omega) (by omega) (by omega) (fun s_2 hs_3 q_4 q_5 q_6 q_7 q_8 q_9 q_10 q_11 q_12 q_13 q_14 q_15 q_16 q_17 q_18 q_19 => ⟨_, rfl, ?_⟩)
    exact k s_2 hs_3 (by omega) (by omega) (by omega) (by omega) (by omega) (by omega) (by omega) (by omega) (by omega) (by omega) (by omega) (by omega) (by omega) (by omega) (by omega) (by omega)
  · exfalso; omega
set_option maxRecDepth 100000 in
/-- GatheredPointsModel.ladder [(8, 2147483647), (-2147483648, 2147483647)] -/
theorem zm3144_1 {z : gH} {L d : Nat} {K : Option gV → gH → Prop} {s : gH} (p0 : Int) (p1 : Int) (hs : zM z s) (h_p0 : 8 ≤ p0 ∧ p0 ≤ 2147483647) (h_p1 : (-2147483648) ≤ p1 ∧ p1 ≤ 2147483647) (q0 : gp_I s 74 11 = 0) (q1 : gp_I s 74 43 = 0) (q2 : gp_I s 74 57 = 0) (q3 : gp_I s 74 58 = 0) (q4 : gp_I s 74 7 = 1) (q5 : gp_I s 74 9 = 0) (q6 : gp_I s 81 20 = 0) (q7 : gp_I s 84 0 = 0) (q8 : gp_I s 84 1 = 0) (q9 : gp_I s 84 2 = 0) (q10 : gp_I s 84 3 = 0) (q11 : gp_I s 85 0 = 0) (q12 : gp_I s 85 1 = 0) (q13 : gp_I s 85 2 = 0) (q14 : gp_I s 85 3 = 0) (k : ∀ (t : gH), zM z t → (gp_I t 74 11 = 0) → (gp_I t 74 43 = 0) → (gp_I t 74 57 = 0) → (gp_I t 74 58 = 0) → (gp_I t 74 7 = 1) → (gp_I t 74 9 = 0) → ((-2147483648) ≤ gp_I t 75 1 ∧ gp_I t 75 1 ≤ 2147483647) → (gp_I t 81 20 = 0) → (gp_I t 84 0 = 0) → (gp_I t 84 1 = 0) → (gp_I t 84 2 = 0) → (gp_I t 84 3 = 0) → (gp_I t 85 0 = 0) → (gp_I t 85 1 = 0) → (gp_I t 85 2 = 0) → (gp_I t 85 3 = 0) → K (some (gp_i (-1000000001))) t) : gs_C L (d + 1) 3144 9 [gp_r (some 74), gp_i p0, gp_i p1] s K := by
  refine s_3144_e _ _ ?_
  refine zm3075_1 _ hs (by omega) (⟨_, rfl, ?_⟩)
  refine ⟨fun h_1 => ?_, fun h_1 => ?_⟩
  · refine s_3144_14 _ _ _ _ _ _ _ _ ?_
    refine zm3074_2 hs (by omega) (by omega) (by omega) (by omega) (by omega) (by omega) (by omega) (by omega) (by omega) (by omega) (by omega) (by omega) (by omega) (by omega) (by omega) (fun s_2 hs_3 q_4 q_5 q_6 q_7 q_8 q_9 q_10 q_11 q_12 q_13 q_14 q_15 q_16 q_17 q_18 q_19 => ⟨_, rfl, ?_⟩)
    exact k s_2 hs_3 (by omega) (by omega) (by omega) (by omega) (by omega) (by omega) (by omega) (by omega) (by omega) (by omega) (by omega) (by omega) (by omega) (by omega) (by omega) (by omega)
  · exfalso; omega
set_option maxRecDepth 100000 in
/-- GatheredPointsModel.isSheet [(-2147483648, -1)] -/
theorem zm3076_0 {z : gH} {L d : Nat} {K : Option gV → gH → Prop} {s : gH} (p0 : Int) (hs : zM z s) (h_p0 : (-2147483648) ≤ p0 ∧ p0 ≤ (-1))  (k : K (some (gp_i 0)) s) : gs_C L d 3076 1 [gp_i p0] s K := by
  refine s_3076_e _ ?_
  refine ⟨fun h_1 => ?_, fun h_1 => ?_⟩
  · refine s_3076_13 _ ?_
    refine s_3076_14 _ _ ?_
    refine ⟨by omega, ?_⟩
    exact k
  · exfalso; omega
set_option maxRecDepth 100000 in
/-- GatheredPointsModel.ladder [(0, 7), (-2147483648, -1)] -/
theorem zm3144_2 {z : gH} {L d : Nat} {K : Option gV → gH → Prop} {s : gH} (p0 : Int) (p1 : Int) (hs : zM z s) (h_p0 : 0 ≤ p0 ∧ p0 ≤ 7) (h_p1 : (-2147483648) ≤ p1 ∧ p1 ≤ (-1)) (q0 : gp_I s 74 11 = 0) (q1 : gp_I s 74 43 = 0) (q2 : gp_I s 74 57 = 0) (q3 : gp_I s 74 58 = 0) (q4 : gp_I s 74 7 = 1) (q5 : gp_I s 74 9 = 0) (q6 : gp_I s 81 20 = 0) (q7 : gp_I s 84 0 = 0) (q8 : gp_I s 84 1 = 0) (q9 : gp_I s 84 2 = 0) (q10 : gp_I s 84 3 = 0) (q11 : gp_I s 85 0 = 0) (q12 : gp_I s 85 1 = 0) (q13 : gp_I s 85 2 = 0) (q14 : gp_I s 85 3 = 0) (k : ∀ (t : gH), zM z t → (gp_I t 74 11 = 0) → (gp_I t 74 43 = 0) → (gp_I t 74 57 = 0) → (gp_I t 74 58 = 0) → (gp_I t 74 7 = 1) → (gp_I t 74 9 = 0) → ((-2147483648) ≤ gp_I t 75 1 ∧ gp_I t 75 1 ≤ 2147483647) → (gp_I t 81 20 = 0) → (gp_I t 84 0 = 0) → (gp_I t 84 1 = 0) → (gp_I t 84 2 = 0) → (gp_I t 84 3 = 0) → (gp_I t 85 0 = 0) → (gp_I t 85 1 = 0) → (gp_I t 85 2 = 0) → (gp_I t 85 3 = 0) → K (some (gp_i (-1000000001))) t) : gs_C L (d + 1) 3144 9 [gp_r (some 74), gp_i p0, gp_i p1] s K := by
  refine s_3144_e _ _ ?_
  refine zm3075_2 _ hs (by omega) (⟨_, rfl, ?_⟩)
  refine ⟨fun h_1 => ?_, fun h_1 => ?_⟩
  · exfalso; omega
  · refine zm3076_0 _ hs (by omega) (⟨_, rfl, ?_⟩)
    refine ⟨fun h_2 => ?_, fun h_2 => ?_⟩
    · refine s_3144_14 _ _ _ _ _ _ _ _ ?_
      refine zm3074_2 hs (by omega) (by omega) (by omega) (by omega) (by omega) (by omega) (by omega) (by omega) (by omega) (by omega) (by omega) (by omega) (by omega) (by omega) (by omega) (fun s_3 hs_4 q_5 q_6 q_7 q_8 q_9 q_10 q_11 q_12 q_13 q_14 q_15 q_16 q_17 q_18 q_19 q_20 => ⟨_, rfl, ?_⟩)
      exact k s_3 hs_4 (by omega) (by omega) (by omega) (by omega) (by omega) (by omega) (by omega) (by omega) (by omega) (by omega) (by omega) (by omega) (by omega) (by omega) (by omega) (by omega)
    · exfalso; omega
set_option maxRecDepth 100000 in
/-- GatheredPointsModel.isSheet [(4, 2147483647)] -/
theorem zm3076_1 {z : gH} {L d : Nat} {K : Option gV → gH → Prop} {s : gH} (p0 : Int) (hs : zM z s) (h_p0 : 4 ≤ p0 ∧ p0 ≤ 2147483647)  (k : K (some (gp_i 0)) s) : gs_C L d 3076 1 [gp_i p0] s K := by
  refine s_3076_e _ ?_
  refine ⟨fun h_1 => ?_, fun h_1 => ?_⟩
  · exfalso; omega
  · refine ⟨fun h_2 => ?_, fun h_2 => ?_⟩
    · exfalso; omega
    · refine s_3076_13 _ ?_
      refine s_3076_14 _ _ ?_
      refine ⟨by omega, ?_⟩
      exact k
set_option maxRecDepth 100000 in
/-- GatheredPointsModel.ladder [(0, 7), (4, 2147483647)] -/
theorem zm3144_3 {z : gH} {L d : Nat} {K : Option gV → gH → Prop} {s : gH} (p0 : Int) (p1 : Int) (hs : zM z s) (h_p0 : 0 ≤ p0 ∧ p0 ≤ 7) (h_p1 : 4 ≤ p1 ∧ p1 ≤ 2147483647) (q0 : gp_I s 74 11 = 0) (q1 : gp_I s 74 43 = 0) (q2 : gp_I s 74 57 = 0) (q3 : gp_I s 74 58 = 0) (q4 : gp_I s 74 7 = 1) (q5 : gp_I s 74 9 = 0) (q6 : gp_I s 81 20 = 0) (q7 : gp_I s 84 0 = 0) (q8 : gp_I s 84 1 = 0) (q9 : gp_I s 84 2 = 0) (q10 : gp_I s 84 3 = 0) (q11 : gp_I s 85 0 = 0) (q12 : gp_I s 85 1 = 0) (q13 : gp_I s 85 2 = 0) (q14 : gp_I s 85 3 = 0) (k : ∀ (t : gH), zM z t → (gp_I t 74 11 = 0) → (gp_I t 74 43 = 0) → (gp_I t 74 57 = 0) → (gp_I t 74 58 = 0) → (gp_I t 74 7 = 1) → (gp_I t 74 9 = 0) → ((-2147483648) ≤ gp_I t 75 1 ∧ gp_I t 75 1 ≤ 2147483647) → (gp_I t 81 20 = 0) → (gp_I t 84 0 = 0) → (gp_I t 84 1 = 0) → (gp_I t 84 2 = 0) → (gp_I t 84 3 = 0) → (gp_I t 85 0 = 0) → (gp_I t 85 1 = 0) → (gp_I t 85 2 = 0) → (gp_I t 85 3 = 0) → K (some (gp_i (-1000000001))) t) : gs_C L (d + 1) 3144 9 [gp_r (some 74), gp_i p0, gp_i p1] s K := by
  refine s_3144_e _ _ ?_
  refine zm3075_2 _ hs (by omega) (⟨_, rfl, ?_⟩)
  refine ⟨fun h_1 => ?_, fun h_1 => ?_⟩
  · exfalso; omega
  · refine zm3076_1 _ hs (by omega) (⟨_, rfl, ?_⟩)
    refine ⟨fun h_2 => ?_, fun h_2 => ?_⟩
    · refine s_3144_14 _ _ _ _ _ _ _ _ ?_
      refine zm3074_2 hs (by omega) (by omega) (by omega) (by omega) (by omega) (by omega) (by omega) (by omega) (by omega) (by omega) (by omega) (by omega) (by omega) (by omega) (by omega) (fun s_3 hs_4 q_5 q_6 q_7 q_8 q_9 q_10 q_11 q_12 q_13 q_14 q_15 q_16 q_17 q_18 q_19 q_20 => ⟨_, rfl, ?_⟩)
      exact k s_3 hs_4 (by omega) (by omega) (by omega) (by omega) (by omega) (by omega) (by omega) (by omega) (by omega) (by omega) (by omega) (by omega) (by omega) (by omega) (by omega) (by omega)
    · exfalso; omega
set_option maxRecDepth 100000 in
/-- GatheredPointsModel.isSheet [(0, 0)] -/
theorem zm3076_2 {z : gH} {L d : Nat} {K : Option gV → gH → Prop} {s : gH}  (hs : zM z s)   (k : K (some (gp_i 1)) s) : gs_C L d 3076 1 [gp_i 0] s K := by
  refine s_3076_e _ ?_
  refine ⟨fun h_1 => ?_, fun h_1 => ?_⟩
  · exfalso; omega
  · refine ⟨fun h_2 => ?_, fun h_2 => ?_⟩
    · refine s_3076_14 _ _ ?_
      refine ⟨by omega, ?_⟩
      exact k
    · exfalso; omega
set_option maxRecDepth 100000 in
/-- GatheredPointsModel.finds [(2, 2)] -/
theorem zm3074_3 {z : gH} {L d : Nat} {K : Option gV → gH → Prop} {s : gH}  (hs : zM z s)  (q0 : gp_I s 74 11 = 0) (q1 : gp_I s 74 43 = 0) (q2 : gp_I s 74 57 = 0) (q3 : gp_I s 74 58 = 0) (q4 : gp_I s 74 7 = 1) (q5 : gp_I s 74 9 = 0) (q6 : gp_I s 81 20 = 0) (q7 : gp_I s 84 0 = 0) (q8 : gp_I s 84 1 = 0) (q9 : gp_I s 84 2 = 0) (q10 : gp_I s 84 3 = 0) (q11 : gp_I s 85 0 = 0) (q12 : gp_I s 85 1 = 0) (q13 : gp_I s 85 2 = 0) (q14 : gp_I s 85 3 = 0) (k : ∀ (t : gH), zM z t → (gp_I t 74 11 = 0) → (gp_I t 74 43 = 0) → (gp_I t 74 57 = 0) → (gp_I t 74 58 = 0) → (gp_I t 74 7 = 1) → (gp_I t 74 9 = 0) → ((-2147483648) ≤ gp_I t 75 2 ∧ gp_I t 75 2 ≤ 2147483647) → (gp_I t 81 20 = 0) → (gp_I t 84 0 = 0) → (gp_I t 84 1 = 0) → (gp_I t 84 2 = 0) → (gp_I t 84 3 = 0) → (gp_I t 85 0 = 0) → (gp_I t 85 1 = 0) → (gp_I t 85 2 = 0) → (gp_I t 85 3 = 0) → K (some (gp_i (-1000000002))) t) : gs_C L d 3074 2 [gp_r (some 74), gp_i 2] s K := by
  refine s_3074_e _ ?_
  refine ⟨by omega, ?_⟩
  have w_1 := gz_w ((gp_I s 75 (2 : Int).toNat) + 1)
  refine ⟨by omega, ?_⟩
  intro s_2 e_3
  have hs_4 : zM z s_2 := by rw [e_3]; exact zw75 hs _ _
  have q_5 : gp_I s_2 74 11 = 0 := by rw [e_3]; exact q0
  have q_6 : gp_I s_2 74 43 = 0 := by rw [e_3]; exact q1
  have q_7 : gp_I s_2 74 57 = 0 := by rw [e_3]; exact q2
  have q_8 : gp_I s_2 74 58 = 0 := by rw [e_3]; exact q3
  have q_9 : gp_I s_2 74 7 = 1 := by rw [e_3]; exact q4
  have q_10 : gp_I s_2 74 9 = 0 := by rw [e_3]; exact q5
  have q_11 : gp_I s_2 81 20 = 0 := by rw [e_3]; exact q6
  have q_12 : gp_I s_2 84 0 = 0 := by rw [e_3]; exact q7
  have q_13 : gp_I s_2 84 1 = 0 := by rw [e_3]; exact q8
  have q_14 : gp_I s_2 84 2 = 0 := by rw [e_3]; exact q9
  have q_15 : gp_I s_2 84 3 = 0 := by rw [e_3]; exact q10
  have q_16 : gp_I s_2 85 0 = 0 := by rw [e_3]; exact q11
  have q_17 : gp_I s_2 85 1 = 0 := by rw [e_3]; exact q12
  have q_18 : gp_I s_2 85 2 = 0 := by rw [e_3]; exact q13
  have q_19 : gp_I s_2 85 3 = 0 := by rw [e_3]; exact q14
  have q_20 : (-2147483648) ≤ gp_I s_2 75 2 ∧ gp_I s_2 75 2 ≤ 2147483647 := by have x_21 : gp_I s_2 75 2 = gp_wr ((gp_I s 75 (2 : Int).toNat) + 1) := (by rw [e_3]; rfl); omega
  have w_22 := gz_w ((-1000000000) - 2)
  have e_23 : gp_wr ((-1000000000) - 2) = (-1000000002) := by omega
  try rw [e_23]
  exact k s_2 hs_4 (by omega) (by omega) (by omega) (by omega) (by omega) (by omega) (by omega) (by omega) (by omega) (by omega) (by omega) (by omega) (by omega) (by omega) (by omega) (by omega)
set_option maxRecDepth 100000 in
/-- GatheredPointsModel.ladder [(0, 7), (0, 0)] -/
theorem zm3144_4 {z : gH} {L d : Nat} {K : Option gV → gH → Prop} {s : gH} (p0 : Int) (hs : zM z s) (h_p0 : 0 ≤ p0 ∧ p0 ≤ 7) (q0 : gp_I s 74 11 = 0) (q1 : gp_I s 74 43 = 0) (q2 : gp_I s 74 57 = 0) (q3 : gp_I s 74 58 = 0) (q4 : gp_I s 74 7 = 1) (q5 : gp_I s 74 9 = 0) (q6 : gp_I s 81 20 = 0) (q7 : gp_I s 84 0 = 0) (q8 : gp_I s 84 1 = 0) (q9 : gp_I s 84 2 = 0) (q10 : gp_I s 84 3 = 0) (q11 : gp_I s 85 0 = 0) (q12 : gp_I s 85 1 = 0) (q13 : gp_I s 85 2 = 0) (q14 : gp_I s 85 3 = 0) (k : ∀ (t : gH), zM z t → (gp_I t 74 11 = 0) → (gp_I t 74 43 = 0) → (gp_I t 74 57 = 0) → (gp_I t 74 58 = 0) → (gp_I t 74 7 = 1) → (gp_I t 74 9 = 0) → ((-2147483648) ≤ gp_I t 75 2 ∧ gp_I t 75 2 ≤ 2147483647) → (gp_I t 81 20 = 0) → (gp_I t 84 0 = 0) → (gp_I t 84 1 = 0) → (gp_I t 84 2 = 0) → (gp_I t 84 3 = 0) → (gp_I t 85 0 = 0) → (gp_I t 85 1 = 0) → (gp_I t 85 2 = 0) → (gp_I t 85 3 = 0) → K (some (gp_i (-1000000002))) t) : gs_C L (d + 1) 3144 9 [gp_r (some 74), gp_i p0, gp_i 0] s K := by
  refine s_3144_e _ _ ?_
  refine zm3075_2 _ hs (by omega) (⟨_, rfl, ?_⟩)
  refine ⟨fun h_1 => ?_, fun h_1 => ?_⟩
  · exfalso; omega
  · refine zm3076_2 hs (⟨_, rfl, ?_⟩)
    refine ⟨fun h_2 => ?_, fun h_2 => ?_⟩
    · exfalso; omega
    · refine ⟨by omega, ?_⟩
      try rw [show gp_I s 85 (0 : Int).toNat = 0 from q11]
      refine ⟨by omega, ?_⟩
      try rw [show gp_I s 84 (0 : Int).toNat = 0 from q7]
      refine ⟨fun h_3 => ?_, fun h_3 => ?_⟩
      · refine s_3144_40 _ _ _ _ _ _ _ _ ?_
        refine zm3074_3 hs (by omega) (by omega) (by omega) (by omega) (by omega) (by omega) (by omega) (by omega) (by omega) (by omega) (by omega) (by omega) (by omega) (by omega) (by omega) (fun s_4 hs_5 q_6 q_7 q_8 q_9 q_10 q_11 q_12 q_13 q_14 q_15 q_16 q_17 q_18 q_19 q_20 q_21 => ⟨_, rfl, ?_⟩)
        exact k s_4 hs_5 (by omega) (by omega) (by omega) (by omega) (by omega) (by omega) (by omega) (by omega) (by omega) (by omega) (by omega) (by omega) (by omega) (by omega) (by omega) (by omega)
      · exfalso; omega
set_option maxRecDepth 100000 in
/-- GatheredPointsModel.isSheet [(1, 1)] -/
theorem zm3076_3 {z : gH} {L d : Nat} {K : Option gV → gH → Prop} {s : gH}  (hs : zM z s)   (k : K (some (gp_i 1)) s) : gs_C L d 3076 1 [gp_i 1] s K := by
  refine s_3076_e _ ?_
  refine ⟨fun h_1 => ?_, fun h_1 => ?_⟩
  · exfalso; omega
  · refine ⟨fun h_2 => ?_, fun h_2 => ?_⟩
    · refine s_3076_14 _ _ ?_
      refine ⟨by omega, ?_⟩
      exact k
    · exfalso; omega
set_option maxRecDepth 100000 in
/-- GatheredPointsModel.ladder [(0, 7), (1, 1)] -/
theorem zm3144_5 {z : gH} {L d : Nat} {K : Option gV → gH → Prop} {s : gH} (p0 : Int) (hs : zM z s) (h_p0 : 0 ≤ p0 ∧ p0 ≤ 7) (q0 : gp_I s 74 11 = 0) (q1 : gp_I s 74 43 = 0) (q2 : gp_I s 74 57 = 0) (q3 : gp_I s 74 58 = 0) (q4 : gp_I s 74 7 = 1) (q5 : gp_I s 74 9 = 0) (q6 : gp_I s 81 20 = 0) (q7 : gp_I s 84 0 = 0) (q8 : gp_I s 84 1 = 0) (q9 : gp_I s 84 2 = 0) (q10 : gp_I s 84 3 = 0) (q11 : gp_I s 85 0 = 0) (q12 : gp_I s 85 1 = 0) (q13 : gp_I s 85 2 = 0) (q14 : gp_I s 85 3 = 0) (k : ∀ (t : gH), zM z t → (gp_I t 74 11 = 0) → (gp_I t 74 43 = 0) → (gp_I t 74 57 = 0) → (gp_I t 74 58 = 0) → (gp_I t 74 7 = 1) → (gp_I t 74 9 = 0) → ((-2147483648) ≤ gp_I t 75 2 ∧ gp_I t 75 2 ≤ 2147483647) → (gp_I t 81 20 = 0) → (gp_I t 84 0 = 0) → (gp_I t 84 1 = 0) → (gp_I t 84 2 = 0) → (gp_I t 84 3 = 0) → (gp_I t 85 0 = 0) → (gp_I t 85 1 = 0) → (gp_I t 85 2 = 0) → (gp_I t 85 3 = 0) → K (some (gp_i (-1000000002))) t) : gs_C L (d + 1) 3144 9 [gp_r (some 74), gp_i p0, gp_i 1] s K := by
  refine s_3144_e _ _ ?_
  refine zm3075_2 _ hs (by omega) (⟨_, rfl, ?_⟩)
  refine ⟨fun h_1 => ?_, fun h_1 => ?_⟩
  · exfalso; omega
  · refine zm3076_3 hs (⟨_, rfl, ?_⟩)
    refine ⟨fun h_2 => ?_, fun h_2 => ?_⟩
    · exfalso; omega
    · refine ⟨by omega, ?_⟩
      try rw [show gp_I s 85 (1 : Int).toNat = 0 from q12]
      refine ⟨by omega, ?_⟩
      try rw [show gp_I s 84 (1 : Int).toNat = 0 from q8]
      refine ⟨fun h_3 => ?_, fun h_3 => ?_⟩
      · refine s_3144_40 _ _ _ _ _ _ _ _ ?_
        refine zm3074_3 hs (by omega) (by omega) (by omega) (by omega) (by omega) (by omega) (by omega) (by omega) (by omega) (by omega) (by omega) (by omega) (by omega) (by omega) (by omega) (fun s_4 hs_5 q_6 q_7 q_8 q_9 q_10 q_11 q_12 q_13 q_14 q_15 q_16 q_17 q_18 q_19 q_20 q_21 => ⟨_, rfl, ?_⟩)
        exact k s_4 hs_5 (by omega) (by omega) (by omega) (by omega) (by omega) (by omega) (by omega) (by omega) (by omega) (by omega) (by omega) (by omega) (by omega) (by omega) (by omega) (by omega)
      · exfalso; omega
set_option maxRecDepth 100000 in
/-- GatheredPointsModel.isSheet [(2, 2)] -/
theorem zm3076_4 {z : gH} {L d : Nat} {K : Option gV → gH → Prop} {s : gH}  (hs : zM z s)   (k : K (some (gp_i 1)) s) : gs_C L d 3076 1 [gp_i 2] s K := by
  refine s_3076_e _ ?_
  refine ⟨fun h_1 => ?_, fun h_1 => ?_⟩
  · exfalso; omega
  · refine ⟨fun h_2 => ?_, fun h_2 => ?_⟩
    · refine s_3076_14 _ _ ?_
      refine ⟨by omega, ?_⟩
      exact k
    · exfalso; omega
set_option maxRecDepth 100000 in
/-- GatheredPointsModel.ladder [(0, 7), (2, 2)] -/
theorem zm3144_6 {z : gH} {L d : Nat} {K : Option gV → gH → Prop} {s : gH} (p0 : Int) (hs : zM z s) (h_p0 : 0 ≤ p0 ∧ p0 ≤ 7) (q0 : gp_I s 74 11 = 0) (q1 : gp_I s 74 43 = 0) (q2 : gp_I s 74 57 = 0) (q3 : gp_I s 74 58 = 0) (q4 : gp_I s 74 7 = 1) (q5 : gp_I s 74 9 = 0) (q6 : gp_I s 81 20 = 0) (q7 : gp_I s 84 0 = 0) (q8 : gp_I s 84 1 = 0) (q9 : gp_I s 84 2 = 0) (q10 : gp_I s 84 3 = 0) (q11 : gp_I s 85 0 = 0) (q12 : gp_I s 85 1 = 0) (q13 : gp_I s 85 2 = 0) (q14 : gp_I s 85 3 = 0) (k : ∀ (t : gH), zM z t → (gp_I t 74 11 = 0) → (gp_I t 74 43 = 0) → (gp_I t 74 57 = 0) → (gp_I t 74 58 = 0) → (gp_I t 74 7 = 1) → (gp_I t 74 9 = 0) → ((-2147483648) ≤ gp_I t 75 2 ∧ gp_I t 75 2 ≤ 2147483647) → (gp_I t 81 20 = 0) → (gp_I t 84 0 = 0) → (gp_I t 84 1 = 0) → (gp_I t 84 2 = 0) → (gp_I t 84 3 = 0) → (gp_I t 85 0 = 0) → (gp_I t 85 1 = 0) → (gp_I t 85 2 = 0) → (gp_I t 85 3 = 0) → K (some (gp_i (-1000000002))) t) : gs_C L (d + 1) 3144 9 [gp_r (some 74), gp_i p0, gp_i 2] s K := by
  refine s_3144_e _ _ ?_
  refine zm3075_2 _ hs (by omega) (⟨_, rfl, ?_⟩)
  refine ⟨fun h_1 => ?_, fun h_1 => ?_⟩
  · exfalso; omega
  · refine zm3076_4 hs (⟨_, rfl, ?_⟩)
    refine ⟨fun h_2 => ?_, fun h_2 => ?_⟩
    · exfalso; omega
    · refine ⟨by omega, ?_⟩
      try rw [show gp_I s 85 (2 : Int).toNat = 0 from q13]
      refine ⟨by omega, ?_⟩
      try rw [show gp_I s 84 (2 : Int).toNat = 0 from q9]
      refine ⟨fun h_3 => ?_, fun h_3 => ?_⟩
      · refine s_3144_40 _ _ _ _ _ _ _ _ ?_
        refine zm3074_3 hs (by omega) (by omega) (by omega) (by omega) (by omega) (by omega) (by omega) (by omega) (by omega) (by omega) (by omega) (by omega) (by omega) (by omega) (by omega) (fun s_4 hs_5 q_6 q_7 q_8 q_9 q_10 q_11 q_12 q_13 q_14 q_15 q_16 q_17 q_18 q_19 q_20 q_21 => ⟨_, rfl, ?_⟩)
        exact k s_4 hs_5 (by omega) (by omega) (by omega) (by omega) (by omega) (by omega) (by omega) (by omega) (by omega) (by omega) (by omega) (by omega) (by omega) (by omega) (by omega) (by omega)
      · exfalso; omega
set_option maxRecDepth 100000 in
/-- GatheredPointsModel.isSheet [(3, 3)] -/
theorem zm3076_5 {z : gH} {L d : Nat} {K : Option gV → gH → Prop} {s : gH}  (hs : zM z s)   (k : K (some (gp_i 1)) s) : gs_C L d 3076 1 [gp_i 3] s K := by
  refine s_3076_e _ ?_
  refine ⟨fun h_1 => ?_, fun h_1 => ?_⟩
  · exfalso; omega
  · refine ⟨fun h_2 => ?_, fun h_2 => ?_⟩
    · refine s_3076_14 _ _ ?_
      refine ⟨by omega, ?_⟩
      exact k
    · exfalso; omega
set_option maxRecDepth 100000 in
/-- GatheredPointsModel.ladder [(0, 7), (3, 3)] -/
theorem zm3144_7 {z : gH} {L d : Nat} {K : Option gV → gH → Prop} {s : gH} (p0 : Int) (hs : zM z s) (h_p0 : 0 ≤ p0 ∧ p0 ≤ 7) (q0 : gp_I s 74 11 = 0) (q1 : gp_I s 74 43 = 0) (q2 : gp_I s 74 57 = 0) (q3 : gp_I s 74 58 = 0) (q4 : gp_I s 74 7 = 1) (q5 : gp_I s 74 9 = 0) (q6 : gp_I s 81 20 = 0) (q7 : gp_I s 84 0 = 0) (q8 : gp_I s 84 1 = 0) (q9 : gp_I s 84 2 = 0) (q10 : gp_I s 84 3 = 0) (q11 : gp_I s 85 0 = 0) (q12 : gp_I s 85 1 = 0) (q13 : gp_I s 85 2 = 0) (q14 : gp_I s 85 3 = 0) (k : ∀ (t : gH), zM z t → (gp_I t 74 11 = 0) → (gp_I t 74 43 = 0) → (gp_I t 74 57 = 0) → (gp_I t 74 58 = 0) → (gp_I t 74 7 = 1) → (gp_I t 74 9 = 0) → ((-2147483648) ≤ gp_I t 75 2 ∧ gp_I t 75 2 ≤ 2147483647) → (gp_I t 81 20 = 0) → (gp_I t 84 0 = 0) → (gp_I t 84 1 = 0) → (gp_I t 84 2 = 0) → (gp_I t 84 3 = 0) → (gp_I t 85 0 = 0) → (gp_I t 85 1 = 0) → (gp_I t 85 2 = 0) → (gp_I t 85 3 = 0) → K (some (gp_i (-1000000002))) t) : gs_C L (d + 1) 3144 9 [gp_r (some 74), gp_i p0, gp_i 3] s K := by
  refine s_3144_e _ _ ?_
  refine zm3075_2 _ hs (by omega) (⟨_, rfl, ?_⟩)
  refine ⟨fun h_1 => ?_, fun h_1 => ?_⟩
  · exfalso; omega
  · refine zm3076_5 hs (⟨_, rfl, ?_⟩)
    refine ⟨fun h_2 => ?_, fun h_2 => ?_⟩
    · exfalso; omega
    · refine ⟨by omega, ?_⟩
      try rw [show gp_I s 85 (3 : Int).toNat = 0 from q14]
      refine ⟨by omega, ?_⟩
      try rw [show gp_I s 84 (3 : Int).toNat = 0 from q10]
      refine ⟨fun h_3 => ?_, fun h_3 => ?_⟩
      · refine s_3144_40 _ _ _ _ _ _ _ _ ?_
        refine zm3074_3 hs (by omega) (by omega) (by omega) (by omega) (by omega) (by omega) (by omega) (by omega) (by omega) (by omega) (by omega) (by omega) (by omega) (by omega) (by omega) (fun s_4 hs_5 q_6 q_7 q_8 q_9 q_10 q_11 q_12 q_13 q_14 q_15 q_16 q_17 q_18 q_19 q_20 q_21 => ⟨_, rfl, ?_⟩)
        exact k s_4 hs_5 (by omega) (by omega) (by omega) (by omega) (by omega) (by omega) (by omega) (by omega) (by omega) (by omega) (by omega) (by omega) (by omega) (by omega) (by omega) (by omega)
      · exfalso; omega
set_option maxRecDepth 100000 in
/-- GatheredPointsModel.waits [(-2147483648, -1), (-2147483648, 2147483647)] -/
theorem zm3145_0 {z : gH} {L d : Nat} {K : Option gV → gH → Prop} {s : gH} (p0 : Int) (p1 : Int) (hs : zM z s) (h_p0 : (-2147483648) ≤ p0 ∧ p0 ≤ (-1)) (h_p1 : (-2147483648) ≤ p1 ∧ p1 ≤ 2147483647) (q0 : gp_I s 74 11 = 0) (q1 : gp_I s 74 43 = 0) (q2 : gp_I s 74 57 = 0) (q3 : gp_I s 74 58 = 0) (q4 : gp_I s 74 7 = 1) (q5 : gp_I s 74 9 = 0) (q6 : gp_I s 81 20 = 0) (k : ∀ (t : gH), zM z t → (gp_I t 74 11 = 0) → (gp_I t 74 43 = 0) → (gp_I t 74 57 = 0) → (gp_I t 74 58 = 0) → (gp_I t 74 7 = 1) → (gp_I t 74 9 = 0) → ((-2147483648) ≤ gp_I t 75 1 ∧ gp_I t 75 1 ≤ 2147483647) → (gp_I t 81 20 = 0) → K (some (gp_i (-1000000001))) t) : gs_C L (d + 1) 3145 3 [gp_r (some 74), gp_i p0, gp_i p1] s K := by
  refine s_3145_e _ _ ?_
  refine zm3075_0 _ hs (by omega) (⟨_, rfl, ?_⟩)
  refine ⟨fun h_1 => ?_, fun h_1 => ?_⟩
  · refine s_3145_19 _ _ ?_
    refine zm3074_1 hs (by omega) (by omega) (by omega) (by omega) (by omega) (by omega) (by omega) (fun s_2 hs_3 q_4 q_5 q_6 q_7 q_8 q_9 q_10 q_11 => ⟨_, rfl, ?_⟩)
    exact k s_2 hs_3 (by omega) (by omega) (by omega) (by omega) (by omega) (by omega) (by omega) (by omega)
  · exfalso; omega
set_option maxRecDepth 100000 in
/-- GatheredPointsModel.waits [(8, 2147483647), (-2147483648, 2147483647)] -/
theorem zm3145_1 {z : gH} {L d : Nat} {K : Option gV → gH → Prop} {s : gH} (p0 : Int) (p1 : Int) (hs : zM z s) (h_p0 : 8 ≤ p0 ∧ p0 ≤ 2147483647) (h_p1 : (-2147483648) ≤ p1 ∧ p1 ≤ 2147483647) (q0 : gp_I s 74 11 = 0) (q1 : gp_I s 74 43 = 0) (q2 : gp_I s 74 57 = 0) (q3 : gp_I s 74 58 = 0) (q4 : gp_I s 74 7 = 1) (q5 : gp_I s 74 9 = 0) (q6 : gp_I s 81 20 = 0) (k : ∀ (t : gH), zM z t → (gp_I t 74 11 = 0) → (gp_I t 74 43 = 0) → (gp_I t 74 57 = 0) → (gp_I t 74 58 = 0) → (gp_I t 74 7 = 1) → (gp_I t 74 9 = 0) → ((-2147483648) ≤ gp_I t 75 1 ∧ gp_I t 75 1 ≤ 2147483647) → (gp_I t 81 20 = 0) → K (some (gp_i (-1000000001))) t) : gs_C L (d + 1) 3145 3 [gp_r (some 74), gp_i p0, gp_i p1] s K := by
  refine s_3145_e _ _ ?_
  refine zm3075_1 _ hs (by omega) (⟨_, rfl, ?_⟩)
  refine ⟨fun h_1 => ?_, fun h_1 => ?_⟩
  · refine s_3145_19 _ _ ?_
    refine zm3074_1 hs (by omega) (by omega) (by omega) (by omega) (by omega) (by omega) (by omega) (fun s_2 hs_3 q_4 q_5 q_6 q_7 q_8 q_9 q_10 q_11 => ⟨_, rfl, ?_⟩)
    exact k s_2 hs_3 (by omega) (by omega) (by omega) (by omega) (by omega) (by omega) (by omega) (by omega)
  · exfalso; omega
set_option maxRecDepth 100000 in
/-- GatheredPointsModel.isIn [('r', -2147483648, -1), 0, 20] -/
theorem zm3073_10 {z : gH} {L d : Nat} {K : Option gV → gH → Prop} {s : gH} (p0 : BitVec 64) (hs : zM z s) (h_p0 : (-2147483648) ≤ p0.toInt ∧ p0.toInt ≤ (-1))  (k : K (some (gp_i 0)) s) : gs_C L d 3073 6 [gp_l p0, gp_l (0#64), gp_l (20#64)] s K := by
  refine s_3073_e _ _ _ ?_
  have w_1 : (0#64).toInt = 0 := by decide
  have w_2 := gz_cmp p0 (0#64)
  have e_3 : gp_cmp p0 (0#64) = (-1) := by omega
  try rw [e_3]
  refine ⟨fun h_4 => ?_, fun h_4 => ?_⟩
  · refine s_3073_17 _ _ _ ?_
    refine s_3073_18 _ _ _ _ ?_
    refine ⟨by omega, ?_⟩
    exact k
  · exfalso; omega
set_option maxRecDepth 100000 in
/-- GatheredPointsModel.waits [(0, 7), (-2147483648, -1)] -/
theorem zm3145_2 {z : gH} {L d : Nat} {K : Option gV → gH → Prop} {s : gH} (p0 : Int) (p1 : Int) (hs : zM z s) (h_p0 : 0 ≤ p0 ∧ p0 ≤ 7) (h_p1 : (-2147483648) ≤ p1 ∧ p1 ≤ (-1)) (q0 : gp_I s 74 11 = 0) (q1 : gp_I s 74 43 = 0) (q2 : gp_I s 74 57 = 0) (q3 : gp_I s 74 58 = 0) (q4 : gp_I s 74 7 = 1) (q5 : gp_I s 74 9 = 0) (q6 : gp_I s 81 20 = 0) (k : ∀ (t : gH), zM z t → (gp_I t 74 11 = 0) → (gp_I t 74 43 = 0) → (gp_I t 74 57 = 0) → (gp_I t 74 58 = 0) → (gp_I t 74 7 = 1) → (gp_I t 74 9 = 0) → ((-2147483648) ≤ gp_I t 75 1 ∧ gp_I t 75 1 ≤ 2147483647) → (gp_I t 81 20 = 0) → K (some (gp_i (-1000000001))) t) : gs_C L (d + 1) 3145 3 [gp_r (some 74), gp_i p0, gp_i p1] s K := by
  refine s_3145_e _ _ ?_
  refine zm3075_2 _ hs (by omega) (⟨_, rfl, ?_⟩)
  refine ⟨fun h_1 => ?_, fun h_1 => ?_⟩
  · exfalso; omega
  · have w_2 := gz_oi (p1) (by omega)
    have e_3 : BitVec.ofInt 64 20 = 20#64 := by decide
    try rw [e_3]
    refine zm3073_10 _ hs (by omega) (⟨_, rfl, ?_⟩)
    refine ⟨fun h_4 => ?_, fun h_4 => ?_⟩
    · refine s_3145_19 _ _ ?_
      refine zm3074_1 hs (by omega) (by omega) (by omega) (by omega) (by omega) (by omega) (by omega) (fun s_5 hs_6 q_7 q_8 q_9 q_10 q_11 q_12 q_13 q_14 => ⟨_, rfl, ?_⟩)
      exact k s_5 hs_6 (by omega) (by omega) (by omega) (by omega) (by omega) (by omega) (by omega) (by omega)
    · exfalso; omega
set_option maxRecDepth 100000 in
/-- GatheredPointsModel.isIn [('r', 21, 2147483647), 0, 20] -/
theorem zm3073_11 {z : gH} {L d : Nat} {K : Option gV → gH → Prop} {s : gH} (p0 : BitVec 64) (hs : zM z s) (h_p0 : 21 ≤ p0.toInt ∧ p0.toInt ≤ 2147483647)  (k : K (some (gp_i 0)) s) : gs_C L d 3073 6 [gp_l p0, gp_l (0#64), gp_l (20#64)] s K := by
  refine s_3073_e _ _ _ ?_
  have w_1 : (0#64).toInt = 0 := by decide
  have w_2 := gz_cmp p0 (0#64)
  have e_3 : gp_cmp p0 (0#64) = 1 := by omega
  try rw [e_3]
  refine ⟨fun h_4 => ?_, fun h_4 => ?_⟩
  · exfalso; omega
  · have w_5 : (20#64).toInt = 20 := by decide
    have w_6 := gz_cmp p0 (20#64)
    have e_7 : gp_cmp p0 (20#64) = 1 := by omega
    try rw [e_7]
    refine ⟨fun h_8 => ?_, fun h_8 => ?_⟩
    · refine s_3073_17 _ _ _ ?_
      refine s_3073_18 _ _ _ _ ?_
      refine ⟨by omega, ?_⟩
      exact k
    · exfalso; omega
set_option maxRecDepth 100000 in
/-- GatheredPointsModel.waits [(0, 7), (21, 2147483647)] -/
theorem zm3145_3 {z : gH} {L d : Nat} {K : Option gV → gH → Prop} {s : gH} (p0 : Int) (p1 : Int) (hs : zM z s) (h_p0 : 0 ≤ p0 ∧ p0 ≤ 7) (h_p1 : 21 ≤ p1 ∧ p1 ≤ 2147483647) (q0 : gp_I s 74 11 = 0) (q1 : gp_I s 74 43 = 0) (q2 : gp_I s 74 57 = 0) (q3 : gp_I s 74 58 = 0) (q4 : gp_I s 74 7 = 1) (q5 : gp_I s 74 9 = 0) (q6 : gp_I s 81 20 = 0) (k : ∀ (t : gH), zM z t → (gp_I t 74 11 = 0) → (gp_I t 74 43 = 0) → (gp_I t 74 57 = 0) → (gp_I t 74 58 = 0) → (gp_I t 74 7 = 1) → (gp_I t 74 9 = 0) → ((-2147483648) ≤ gp_I t 75 1 ∧ gp_I t 75 1 ≤ 2147483647) → (gp_I t 81 20 = 0) → K (some (gp_i (-1000000001))) t) : gs_C L (d + 1) 3145 3 [gp_r (some 74), gp_i p0, gp_i p1] s K := by
  refine s_3145_e _ _ ?_
  refine zm3075_2 _ hs (by omega) (⟨_, rfl, ?_⟩)
  refine ⟨fun h_1 => ?_, fun h_1 => ?_⟩
  · exfalso; omega
  · have w_2 := gz_oi (p1) (by omega)
    have e_3 : BitVec.ofInt 64 20 = 20#64 := by decide
    try rw [e_3]
    refine zm3073_11 _ hs (by omega) (⟨_, rfl, ?_⟩)
    refine ⟨fun h_4 => ?_, fun h_4 => ?_⟩
    · refine s_3145_19 _ _ ?_
      refine zm3074_1 hs (by omega) (by omega) (by omega) (by omega) (by omega) (by omega) (by omega) (fun s_5 hs_6 q_7 q_8 q_9 q_10 q_11 q_12 q_13 q_14 => ⟨_, rfl, ?_⟩)
      exact k s_5 hs_6 (by omega) (by omega) (by omega) (by omega) (by omega) (by omega) (by omega) (by omega)
    · exfalso; omega
set_option maxRecDepth 100000 in
/-- GatheredPointsModel.join [(-2147483648, -1), (-2147483648, 2147483647), (-2147483648, 2147483647)] -/
theorem zm3146_0 {z : gH} {L d : Nat} {K : Option gV → gH → Prop} {s : gH} (p0 : Int) (p1 : Int) (p2 : Int) (hs : zM z s) (h_p0 : (-2147483648) ≤ p0 ∧ p0 ≤ (-1)) (h_p1 : (-2147483648) ≤ p1 ∧ p1 ≤ 2147483647) (h_p2 : (-2147483648) ≤ p2 ∧ p2 ≤ 2147483647) (q0 : gp_I s 74 11 = 0) (q1 : gp_I s 74 43 = 0) (q2 : gp_I s 74 57 = 0) (q3 : gp_I s 74 58 = 0) (q4 : gp_I s 74 7 = 1) (q5 : gp_I s 74 9 = 0) (q6 : gp_I s 81 20 = 0) (k : ∀ (t : gH), zM z t → (gp_I t 74 11 = 0) → (gp_I t 74 43 = 0) → (gp_I t 74 57 = 0) → (gp_I t 74 58 = 0) → (gp_I t 74 7 = 1) → (gp_I t 74 9 = 0) → ((-2147483648) ≤ gp_I t 75 1 ∧ gp_I t 75 1 ≤ 2147483647) → (gp_I t 81 20 = 0) → K (some (gp_i (-1000000001))) t) : gs_C L (d + 1) 3146 5 [gp_r (some 74), gp_i p0, gp_i p1, gp_i p2] s K := by
  refine s_3146_e _ _ _ ?_
  refine zm3075_0 _ hs (by omega) (⟨_, rfl, ?_⟩)
  refine ⟨fun h_1 => ?_, fun h_1 => ?_⟩
  · refine s_3146_21 _ _ _ _ ?_
    refine zm3074_1 hs (by omega) (by omega) (by omega) (by omega) (by omega) (by omega) (by omega) (fun s_2 hs_3 q_4 q_5 q_6 q_7 q_8 q_9 q_10 q_11 => ⟨_, rfl, ?_⟩)
    exact k s_2 hs_3 (by omega) (by omega) (by omega) (by omega) (by omega) (by omega) (by omega) (by omega)
  · exfalso; omega
set_option maxRecDepth 100000 in
/-- GatheredPointsModel.join [(8, 2147483647), (-2147483648, 2147483647), (-2147483648, 2147483647)] -/
theorem zm3146_1 {z : gH} {L d : Nat} {K : Option gV → gH → Prop} {s : gH} (p0 : Int) (p1 : Int) (p2 : Int) (hs : zM z s) (h_p0 : 8 ≤ p0 ∧ p0 ≤ 2147483647) (h_p1 : (-2147483648) ≤ p1 ∧ p1 ≤ 2147483647) (h_p2 : (-2147483648) ≤ p2 ∧ p2 ≤ 2147483647) (q0 : gp_I s 74 11 = 0) (q1 : gp_I s 74 43 = 0) (q2 : gp_I s 74 57 = 0) (q3 : gp_I s 74 58 = 0) (q4 : gp_I s 74 7 = 1) (q5 : gp_I s 74 9 = 0) (q6 : gp_I s 81 20 = 0) (k : ∀ (t : gH), zM z t → (gp_I t 74 11 = 0) → (gp_I t 74 43 = 0) → (gp_I t 74 57 = 0) → (gp_I t 74 58 = 0) → (gp_I t 74 7 = 1) → (gp_I t 74 9 = 0) → ((-2147483648) ≤ gp_I t 75 1 ∧ gp_I t 75 1 ≤ 2147483647) → (gp_I t 81 20 = 0) → K (some (gp_i (-1000000001))) t) : gs_C L (d + 1) 3146 5 [gp_r (some 74), gp_i p0, gp_i p1, gp_i p2] s K := by
  refine s_3146_e _ _ _ ?_
  refine zm3075_1 _ hs (by omega) (⟨_, rfl, ?_⟩)
  refine ⟨fun h_1 => ?_, fun h_1 => ?_⟩
  · refine s_3146_21 _ _ _ _ ?_
    refine zm3074_1 hs (by omega) (by omega) (by omega) (by omega) (by omega) (by omega) (by omega) (fun s_2 hs_3 q_4 q_5 q_6 q_7 q_8 q_9 q_10 q_11 => ⟨_, rfl, ?_⟩)
    exact k s_2 hs_3 (by omega) (by omega) (by omega) (by omega) (by omega) (by omega) (by omega) (by omega)
  · exfalso; omega
set_option maxRecDepth 100000 in
/-- GatheredPointsModel.join [(0, 7), (-2147483648, -1), (-2147483648, 2147483647)] -/
theorem zm3146_2 {z : gH} {L d : Nat} {K : Option gV → gH → Prop} {s : gH} (p0 : Int) (p1 : Int) (p2 : Int) (hs : zM z s) (h_p0 : 0 ≤ p0 ∧ p0 ≤ 7) (h_p1 : (-2147483648) ≤ p1 ∧ p1 ≤ (-1)) (h_p2 : (-2147483648) ≤ p2 ∧ p2 ≤ 2147483647) (q0 : gp_I s 74 11 = 0) (q1 : gp_I s 74 43 = 0) (q2 : gp_I s 74 57 = 0) (q3 : gp_I s 74 58 = 0) (q4 : gp_I s 74 7 = 1) (q5 : gp_I s 74 9 = 0) (q6 : gp_I s 81 20 = 0) (k : ∀ (t : gH), zM z t → (gp_I t 74 11 = 0) → (gp_I t 74 43 = 0) → (gp_I t 74 57 = 0) → (gp_I t 74 58 = 0) → (gp_I t 74 7 = 1) → (gp_I t 74 9 = 0) → ((-2147483648) ≤ gp_I t 75 1 ∧ gp_I t 75 1 ≤ 2147483647) → (gp_I t 81 20 = 0) → K (some (gp_i (-1000000001))) t) : gs_C L (d + 1) 3146 5 [gp_r (some 74), gp_i p0, gp_i p1, gp_i p2] s K := by
  refine s_3146_e _ _ _ ?_
  refine zm3075_2 _ hs (by omega) (⟨_, rfl, ?_⟩)
  refine ⟨fun h_1 => ?_, fun h_1 => ?_⟩
  · exfalso; omega
  · refine zm3075_0 _ hs (by omega) (⟨_, rfl, ?_⟩)
    refine ⟨fun h_2 => ?_, fun h_2 => ?_⟩
    · refine s_3146_21 _ _ _ _ ?_
      refine zm3074_1 hs (by omega) (by omega) (by omega) (by omega) (by omega) (by omega) (by omega) (fun s_3 hs_4 q_5 q_6 q_7 q_8 q_9 q_10 q_11 q_12 => ⟨_, rfl, ?_⟩)
      exact k s_3 hs_4 (by omega) (by omega) (by omega) (by omega) (by omega) (by omega) (by omega) (by omega)
    · exfalso; omega
set_option maxRecDepth 100000 in
/-- GatheredPointsModel.join [(0, 7), (8, 2147483647), (-2147483648, 2147483647)] -/
theorem zm3146_3 {z : gH} {L d : Nat} {K : Option gV → gH → Prop} {s : gH} (p0 : Int) (p1 : Int) (p2 : Int) (hs : zM z s) (h_p0 : 0 ≤ p0 ∧ p0 ≤ 7) (h_p1 : 8 ≤ p1 ∧ p1 ≤ 2147483647) (h_p2 : (-2147483648) ≤ p2 ∧ p2 ≤ 2147483647) (q0 : gp_I s 74 11 = 0) (q1 : gp_I s 74 43 = 0) (q2 : gp_I s 74 57 = 0) (q3 : gp_I s 74 58 = 0) (q4 : gp_I s 74 7 = 1) (q5 : gp_I s 74 9 = 0) (q6 : gp_I s 81 20 = 0) (k : ∀ (t : gH), zM z t → (gp_I t 74 11 = 0) → (gp_I t 74 43 = 0) → (gp_I t 74 57 = 0) → (gp_I t 74 58 = 0) → (gp_I t 74 7 = 1) → (gp_I t 74 9 = 0) → ((-2147483648) ≤ gp_I t 75 1 ∧ gp_I t 75 1 ≤ 2147483647) → (gp_I t 81 20 = 0) → K (some (gp_i (-1000000001))) t) : gs_C L (d + 1) 3146 5 [gp_r (some 74), gp_i p0, gp_i p1, gp_i p2] s K := by
  refine s_3146_e _ _ _ ?_
  refine zm3075_2 _ hs (by omega) (⟨_, rfl, ?_⟩)
  refine ⟨fun h_1 => ?_, fun h_1 => ?_⟩
  · exfalso; omega
  · refine zm3075_1 _ hs (by omega) (⟨_, rfl, ?_⟩)
    refine ⟨fun h_2 => ?_, fun h_2 => ?_⟩
    · refine s_3146_21 _ _ _ _ ?_
      refine zm3074_1 hs (by omega) (by omega) (by omega) (by omega) (by omega) (by omega) (by omega) (fun s_3 hs_4 q_5 q_6 q_7 q_8 q_9 q_10 q_11 q_12 => ⟨_, rfl, ?_⟩)
      exact k s_3 hs_4 (by omega) (by omega) (by omega) (by omega) (by omega) (by omega) (by omega) (by omega)
    · exfalso; omega
set_option maxRecDepth 100000 in
/-- GatheredPointsModel.join [(0, 7), (0, 7), (-2147483648, -1)] -/
theorem zm3146_4 {z : gH} {L d : Nat} {K : Option gV → gH → Prop} {s : gH} (p0 : Int) (p1 : Int) (p2 : Int) (hs : zM z s) (h_p0 : 0 ≤ p0 ∧ p0 ≤ 7) (h_p1 : 0 ≤ p1 ∧ p1 ≤ 7) (h_p2 : (-2147483648) ≤ p2 ∧ p2 ≤ (-1)) (q0 : gp_I s 74 11 = 0) (q1 : gp_I s 74 43 = 0) (q2 : gp_I s 74 57 = 0) (q3 : gp_I s 74 58 = 0) (q4 : gp_I s 74 7 = 1) (q5 : gp_I s 74 9 = 0) (q6 : gp_I s 81 20 = 0) (k : ∀ (t : gH), zM z t → (gp_I t 74 11 = 0) → (gp_I t 74 43 = 0) → (gp_I t 74 57 = 0) → (gp_I t 74 58 = 0) → (gp_I t 74 7 = 1) → (gp_I t 74 9 = 0) → ((-2147483648) ≤ gp_I t 75 1 ∧ gp_I t 75 1 ≤ 2147483647) → (gp_I t 81 20 = 0) → K (some (gp_i (-1000000001))) t) : gs_C L (d + 1) 3146 5 [gp_r (some 74), gp_i p0, gp_i p1, gp_i p2] s K := by
  refine s_3146_e _ _ _ ?_
  refine zm3075_2 _ hs (by omega) (⟨_, rfl, ?_⟩)
  refine ⟨fun h_1 => ?_, fun h_1 => ?_⟩
  · exfalso; omega
  · refine zm3075_2 _ hs (by omega) (⟨_, rfl, ?_⟩)
    refine ⟨fun h_2 => ?_, fun h_2 => ?_⟩
    · exfalso; omega
    · refine zm3075_0 _ hs (by omega) (⟨_, rfl, ?_⟩)
      refine ⟨fun h_3 => ?_, fun h_3 => ?_⟩
      · refine s_3146_21 _ _ _ _ ?_
        refine zm3074_1 hs (by omega) (by omega) (by omega) (by omega) (by omega) (by omega) (by omega) (fun s_4 hs_5 q_6 q_7 q_8 q_9 q_10 q_11 q_12 q_13 => ⟨_, rfl, ?_⟩)
        exact k s_4 hs_5 (by omega) (by omega) (by omega) (by omega) (by omega) (by omega) (by omega) (by omega)
      · exfalso; omega
set_option maxRecDepth 100000 in
/-- GatheredPointsModel.join [(0, 7), (0, 7), (8, 2147483647)] -/
theorem zm3146_5 {z : gH} {L d : Nat} {K : Option gV → gH → Prop} {s : gH} (p0 : Int) (p1 : Int) (p2 : Int) (hs : zM z s) (h_p0 : 0 ≤ p0 ∧ p0 ≤ 7) (h_p1 : 0 ≤ p1 ∧ p1 ≤ 7) (h_p2 : 8 ≤ p2 ∧ p2 ≤ 2147483647) (q0 : gp_I s 74 11 = 0) (q1 : gp_I s 74 43 = 0) (q2 : gp_I s 74 57 = 0) (q3 : gp_I s 74 58 = 0) (q4 : gp_I s 74 7 = 1) (q5 : gp_I s 74 9 = 0) (q6 : gp_I s 81 20 = 0) (k : ∀ (t : gH), zM z t → (gp_I t 74 11 = 0) → (gp_I t 74 43 = 0) → (gp_I t 74 57 = 0) → (gp_I t 74 58 = 0) → (gp_I t 74 7 = 1) → (gp_I t 74 9 = 0) → ((-2147483648) ≤ gp_I t 75 1 ∧ gp_I t 75 1 ≤ 2147483647) → (gp_I t 81 20 = 0) → K (some (gp_i (-1000000001))) t) : gs_C L (d + 1) 3146 5 [gp_r (some 74), gp_i p0, gp_i p1, gp_i p2] s K := by
  refine s_3146_e _ _ _ ?_
  refine zm3075_2 _ hs (by omega) (⟨_, rfl, ?_⟩)
  refine ⟨fun h_1 => ?_, fun h_1 => ?_⟩
  · exfalso; omega
  · refine zm3075_2 _ hs (by omega) (⟨_, rfl, ?_⟩)
    refine ⟨fun h_2 => ?_, fun h_2 => ?_⟩
    · exfalso; omega
    · refine zm3075_1 _ hs (by omega) (⟨_, rfl, ?_⟩)
      refine ⟨fun h_3 => ?_, fun h_3 => ?_⟩
      · refine s_3146_21 _ _ _ _ ?_
        refine zm3074_1 hs (by omega) (by omega) (by omega) (by omega) (by omega) (by omega) (by omega) (fun s_4 hs_5 q_6 q_7 q_8 q_9 q_10 q_11 q_12 q_13 => ⟨_, rfl, ?_⟩)
        exact k s_4 hs_5 (by omega) (by omega) (by omega) (by omega) (by omega) (by omega) (by omega) (by omega)
      · exfalso; omega
set_option maxRecDepth 100000 in
/-- GatheredPointsModel.forgets, the loop at 2 -/
theorem zm3089_0_l2_0 {z : gH} {L d : Nat} {K : Option gV → gH → Prop}   (k : ∀ (t : gH), zM z t → (gp_I t 74 11 = 0) → (gp_I t 74 43 = 0) → (gp_I t 74 57 = 0) → (gp_I t 74 58 = 0) → (gp_I t 74 7 = 1) → (gp_I t 74 9 = 0) → (gp_I t 81 20 = 0) → K none t)  : ∀ (n : Nat) (v1 : Int) (s : gH), zM z s → (4097 - v1).toNat < n → (0 ≤ v1 ∧ v1 ≤ 4096) → (gp_I s 74 11 = 0) → (gp_I s 74 43 = 0) → (gp_I s 74 57 = 0) → (gp_I s 74 58 = 0) → (gp_I s 74 7 = 1) → (gp_I s 74 9 = 0) → (gp_I s 81 20 = 0) → gs_E L d 3089 2 [gp_r (some 74), gp_i v1] [] s K := by
  intro n
  induction n with
  | zero => intro v1 s hs hm i0 i1 i2 i3 i4 i5 i6 i7; exact absurd hm (Nat.not_lt_zero _)
  | succ n ih =>
    intro v1 s hs hm i0 i1 i2 i3 i4 i5 i6 i7
    refine s_3089_2 _ ?_
    refine ⟨fun h_1 => ?_, fun h_1 => ?_⟩
    · refine ⟨by omega, ?_⟩
      intro s_2 e_3
      have hs_4 : zM z s_2 := by rw [e_3]; exact zw86 hs _ _ (by omega)
      have q_5 : gp_I s_2 74 11 = 0 := by rw [e_3]; exact i1
      have q_6 : gp_I s_2 74 43 = 0 := by rw [e_3]; exact i2
      have q_7 : gp_I s_2 74 57 = 0 := by rw [e_3]; exact i3
      have q_8 : gp_I s_2 74 58 = 0 := by rw [e_3]; exact i4
      have q_9 : gp_I s_2 74 7 = 1 := by rw [e_3]; exact i5
      have q_10 : gp_I s_2 74 9 = 0 := by rw [e_3]; exact i6
      have q_11 : gp_I s_2 81 20 = 0 := by rw [e_3]; exact i7
      have w_12 := gz_w (v1 + 1)
      exact ih _ s_2 hs_4 (by omega) (by omega) (by omega) (by omega) (by omega) (by omega) (by omega) (by omega) (by omega)
    · have e_13 : v1 = 4096 := by omega
      subst e_13
      exact k s hs (by omega) (by omega) (by omega) (by omega) (by omega) (by omega) (by omega)
set_option maxRecDepth 100000 in
/-- GatheredPointsModel.forgets [] -/
theorem zm3089_0 {z : gH} {L d : Nat} {K : Option gV → gH → Prop} {s : gH}  (hs : zM z s)  (q0 : gp_I s 74 11 = 0) (q1 : gp_I s 74 43 = 0) (q2 : gp_I s 74 57 = 0) (q3 : gp_I s 74 58 = 0) (q4 : gp_I s 74 7 = 1) (q5 : gp_I s 74 9 = 0) (q6 : gp_I s 81 20 = 0) (k : ∀ (t : gH), zM z t → (gp_I t 74 11 = 0) → (gp_I t 74 43 = 0) → (gp_I t 74 57 = 0) → (gp_I t 74 58 = 0) → (gp_I t 74 7 = 1) → (gp_I t 74 9 = 0) → (gp_I t 81 20 = 0) → K none t) : gs_C L d 3089 2 [gp_r (some 74)] s K := by
  refine s_3089_e ?_
  exact zm3089_0_l2_0 k _ _ s hs (Nat.lt_succ_self _) (by omega) (by omega) (by omega) (by omega) (by omega) (by omega) (by omega) (by omega)
set_option maxRecDepth 100000 in
/-- GatheredPointsModel.begins [] -/
theorem zm3085_0 {z : gH} {L d : Nat} {K : Option gV → gH → Prop} {s : gH}  (hs : zM z s)  (q0 : gp_I s 74 11 = 0) (q1 : gp_I s 74 43 = 0) (q2 : gp_I s 74 57 = 0) (q3 : gp_I s 74 58 = 0) (q4 : gp_I s 74 7 = 1) (q5 : gp_I s 74 9 = 0) (q6 : gp_I s 81 20 = 0) (k : ∀ (t : gH), zM z t → (gp_I t 74 11 = 0) → (gp_I t 74 43 = 0) → (gp_I t 74 57 = 0) → (gp_I t 74 58 = 0) → (gp_I t 74 7 = 1) → (gp_I t 74 9 = 0) → (gp_I t 81 20 = 0) → K none t) : gs_C L (d + 1) 3085 1 [gp_r (some 74)] s K := by
  refine s_3085_e ?_
  intro s_1 e_2
  have hs_3 : zM z s_1 := by rw [e_2]; exact zw81 hs _ _ (by omega)
  have q_4 : gp_I s_1 74 11 = 0 := by rw [e_2]; exact q0
  have q_5 : gp_I s_1 74 43 = 0 := by rw [e_2]; exact q1
  have q_6 : gp_I s_1 74 57 = 0 := by rw [e_2]; exact q2
  have q_7 : gp_I s_1 74 58 = 0 := by rw [e_2]; exact q3
  have q_8 : gp_I s_1 74 7 = 1 := by rw [e_2]; exact q4
  have q_9 : gp_I s_1 74 9 = 0 := by rw [e_2]; exact q5
  have q_10 : gp_I s_1 81 20 = 0 := by rw [e_2]; rfl
  intro s_12 e_13
  have hs_14 : zM z s_12 := by rw [e_13]; exact zw74_15 hs_3 0 _ (by omega)
  have q_15 : gp_I s_12 74 11 = 0 := by rw [e_13]; exact q_4
  have q_16 : gp_I s_12 74 43 = 0 := by rw [e_13]; exact q_5
  have q_17 : gp_I s_12 74 57 = 0 := by rw [e_13]; exact q_6
  have q_18 : gp_I s_12 74 58 = 0 := by rw [e_13]; exact q_7
  have q_19 : gp_I s_12 74 7 = 1 := by rw [e_13]; exact q_8
  have q_20 : gp_I s_12 74 9 = 0 := by rw [e_13]; exact q_9
  have q_21 : gp_I s_12 81 20 = 0 := by rw [e_13]; exact q_10
  refine zm3089_0 hs_14 (by omega) (by omega) (by omega) (by omega) (by omega) (by omega) (by omega) (fun s_22 hs_23 q_24 q_25 q_26 q_27 q_28 q_29 q_30 => ⟨rfl, ?_⟩)
  exact k s_22 hs_23 (by omega) (by omega) (by omega) (by omega) (by omega) (by omega) (by omega)
set_option maxRecDepth 100000 in
/-- GatheredPointsModel.root [(0, 7)] -/
theorem zm3081_0 {z : gH} {L d : Nat} {K : Option gV → gH → Prop} {s : gH} (p0 : Int) (hs : zM z s) (h_p0 : 0 ≤ p0 ∧ p0 ≤ 7) (q0 : gp_I s 81 20 = 0) (k : K (some (gp_i 0)) s) : gs_C L d 3081 2 [gp_r (some 74), gp_i p0] s K := by
  refine s_3081_e _ ?_
  refine ⟨by omega, ?_⟩
  have f_1 := zr81 hs p0.toNat
  have e_2 : gp_I s 81 p0.toNat = 1 := by omega
  try rw [e_2]
  have w_3 := gz_w (1 - 1)
  have e_4 : gp_wr (1 - 1) = 0 := by omega
  try rw [e_4]
  exact k
set_option maxRecDepth 100000 in
/-- GatheredPointsModel.has [0, (0, 0)] -/
theorem zm3078_0 {z : gH} {L d : Nat} {K : Option gV → gH → Prop} {s : gH}  (hs : zM z s)   (k : K (some (gp_i 0)) s) : gs_C L d 3078 3 [gp_l (0#64), gp_i 0] s K := by
  refine s_3078_e _ _ ?_
  have e_1 : (0#64) >>> ((0 : Int) % 64).toNat = 0#64 := by decide
  try rw [e_1]
  have e_2 : (0#64) &&& (1#64) = 0#64 := by decide
  try rw [e_2]
  have e_3 : gp_cmp (0#64) (1#64) = (-1) := by decide
  try rw [e_3]
  refine ⟨fun h_4 => ?_, fun h_4 => ?_⟩
  · exfalso; omega
  · refine s_3078_15 _ _ _ ?_
    refine ⟨by omega, ?_⟩
    exact k
set_option maxRecDepth 100000 in
/-- GatheredPointsModel.has [0, (0, 1)] -/
theorem zm3078_1 {z : gH} {L d : Nat} {K : Option gV → gH → Prop} {s : gH} (p1 : Int) (hs : zM z s) (h_p1 : 0 ≤ p1 ∧ p1 ≤ 1)  (k : K (some (gp_i 0)) s) : gs_C L d 3078 3 [gp_l (0#64), gp_i p1] s K := by
  refine s_3078_e _ _ ?_
  have e_1 : (0#64) >>> (p1 % 64).toNat = 0#64 := gz_0sh _
  try rw [e_1]
  have e_2 : (0#64) &&& (1#64) = 0#64 := by decide
  try rw [e_2]
  have e_3 : gp_cmp (0#64) (1#64) = (-1) := by decide
  try rw [e_3]
  refine ⟨fun h_4 => ?_, fun h_4 => ?_⟩
  · exfalso; omega
  · refine s_3078_15 _ _ _ ?_
    refine ⟨by omega, ?_⟩
    exact k
set_option maxRecDepth 100000 in
/-- GatheredPointsModel.has [0, (0, 2)] -/
theorem zm3078_2 {z : gH} {L d : Nat} {K : Option gV → gH → Prop} {s : gH} (p1 : Int) (hs : zM z s) (h_p1 : 0 ≤ p1 ∧ p1 ≤ 2)  (k : K (some (gp_i 0)) s) : gs_C L d 3078 3 [gp_l (0#64), gp_i p1] s K := by
  refine s_3078_e _ _ ?_
  have e_1 : (0#64) >>> (p1 % 64).toNat = 0#64 := gz_0sh _
  try rw [e_1]
  have e_2 : (0#64) &&& (1#64) = 0#64 := by decide
  try rw [e_2]
  have e_3 : gp_cmp (0#64) (1#64) = (-1) := by decide
  try rw [e_3]
  refine ⟨fun h_4 => ?_, fun h_4 => ?_⟩
  · exfalso; omega
  · refine s_3078_15 _ _ _ ?_
    refine ⟨by omega, ?_⟩
    exact k
set_option maxRecDepth 100000 in
/-- GatheredPointsModel.has [0, (0, 60)] -/
theorem zm3078_3 {z : gH} {L d : Nat} {K : Option gV → gH → Prop} {s : gH} (p1 : Int) (hs : zM z s) (h_p1 : 0 ≤ p1 ∧ p1 ≤ 60)  (k : K (some (gp_i 0)) s) : gs_C L d 3078 3 [gp_l (0#64), gp_i p1] s K := by
  refine s_3078_e _ _ ?_
  have e_1 : (0#64) >>> (p1 % 64).toNat = 0#64 := gz_0sh _
  try rw [e_1]
  have e_2 : (0#64) &&& (1#64) = 0#64 := by decide
  try rw [e_2]
  have e_3 : gp_cmp (0#64) (1#64) = (-1) := by decide
  try rw [e_3]
  refine ⟨fun h_4 => ?_, fun h_4 => ?_⟩
  · exfalso; omega
  · refine s_3078_15 _ _ _ ?_
    refine ⟨by omega, ?_⟩
    exact k
set_option maxRecDepth 100000 in
/-- GatheredPointsModel.has [0, (0, 63)] -/
theorem zm3078_4 {z : gH} {L d : Nat} {K : Option gV → gH → Prop} {s : gH} (p1 : Int) (hs : zM z s) (h_p1 : 0 ≤ p1 ∧ p1 ≤ 63)  (k : K (some (gp_i 0)) s) : gs_C L d 3078 3 [gp_l (0#64), gp_i p1] s K := by
  refine s_3078_e _ _ ?_
  have e_1 : (0#64) >>> (p1 % 64).toNat = 0#64 := gz_0sh _
  try rw [e_1]
  have e_2 : (0#64) &&& (1#64) = 0#64 := by decide
  try rw [e_2]
  have e_3 : gp_cmp (0#64) (1#64) = (-1) := by decide
  try rw [e_3]
  refine ⟨fun h_4 => ?_, fun h_4 => ?_⟩
  · exfalso; omega
  · refine s_3078_15 _ _ _ ?_
    refine ⟨by omega, ?_⟩
    exact k
set_option maxRecDepth 100000 in
/-- GatheredPointsModel.depthOf, the loop at 6 -/
theorem zm3086_0_l6_0 {z : gH} {L d : Nat} {K : Option gV → gH → Prop}  {s : gH} (hs : zM z s)  (k : K (some (gp_i 0)) s)  : ∀ (n : Nat) (v1 : Int) (v2 : BitVec 64) (v4 : Int) (v5 : Int), (65 - v5).toNat < n → (v1 = 20) → (v2 = 0#64) → (v4 = (-1)) → (0 ≤ v5 ∧ v5 ≤ 64) → gs_E L (d + 1) 3086 6 [gp_r (some 74), gp_i v1, gp_l v2, gp_n, gp_i v4, gp_i v5] [] s K := by
  intro n
  induction n with
  | zero => intro v1 v2 v4 v5 hm i0 i1 i2 i3; exact absurd hm (Nat.not_lt_zero _)
  | succ n ih =>
    intro v1 v2 v4 v5 hm i0 i1 i2 i3
    subst i0
    subst i1
    subst i2
    refine s_3086_6 _ _ _ _ ?_
    refine ⟨fun h_1 => ?_, fun h_1 => ?_⟩
    · refine zm3078_4 _ hs (by omega) (⟨_, rfl, ?_⟩)
      refine ⟨fun h_2 => ?_, fun h_2 => ?_⟩
      · refine s_3086_54 _ _ _ _ ?_
        refine s_3086_56 _ _ _ _ _ ?_
        have w_3 := gz_w (v5 + 1)
        exact ih _ _ _ _ (by omega) (by omega) rfl (by omega) (by omega)
      · exfalso; omega
    · have e_4 : v5 = 64 := by omega
      subst e_4
      have w_5 := gz_w ((-1) + 1)
      have e_6 : gp_wr ((-1) + 1) = 0 := by omega
      try rw [e_6]
      exact k
set_option maxRecDepth 100000 in
/-- GatheredPointsModel.depthOf [(20, 20), 0] -/
theorem zm3086_0 {z : gH} {L d : Nat} {K : Option gV → gH → Prop} {s : gH}  (hs : zM z s)   (k : K (some (gp_i 0)) s) : gs_C L (d + 1) 3086 6 [gp_r (some 74), gp_i 20, gp_l (0#64)] s K := by
  refine s_3086_e _ _ ?_
  exact zm3086_0_l6_0 hs k _ _ _ _ _ (Nat.lt_succ_self _) (by omega) rfl (by omega) (by omega)
set_option maxRecDepth 100000 in
/-- GatheredPointsModel.lays [(0, 0), 0, 0, (0, 0), (0, 0)] -/
theorem zm3087_0 {z : gH} {L d : Nat} {K : Option gV → gH → Prop} {s : gH}  (hs : zM z s)  (q0 : gp_I s 105 0 = 0) (q1 : gp_I s 74 11 = 0) (q2 : gp_I s 74 43 = 0) (q3 : gp_I s 74 57 = 0) (q4 : gp_I s 74 58 = 0) (q5 : gp_I s 74 7 = 1) (q6 : gp_I s 74 9 = 0) (q7 : gp_I s 81 20 = 0) (k : ∀ (t : gH), zM z t → (gp_I t 105 0 = 0) → (gp_I t 74 11 = 0) → (gp_I t 74 43 = 0) → (gp_I t 74 57 = 0) → (gp_I t 74 58 = 0) → (gp_I t 74 7 = 1) → (gp_I t 74 9 = 0) → (gp_I t 81 20 = 0) → K none t) : gs_C L (d + 2) 3087 9 [gp_r (some 74), gp_i 0, gp_l (0#64), gp_l (0#64), gp_i 0, gp_i 0] s K := by
  refine s_3087_e _ _ _ _ _ ?_
  have w_1 := gz_w (1280 + 0)
  have e_2 : gp_wr (1280 + 0) = 1280 := by omega
  try rw [e_2]
  refine ⟨by omega, ?_⟩
  intro s_3 e_4
  have hs_5 : zM z s_3 := by rw [e_4]; exact zw76 hs _ _ rfl
  have q_6 : gp_I s_3 105 0 = 0 := by rw [e_4]; exact q0
  have q_7 : gp_I s_3 74 11 = 0 := by rw [e_4]; exact q1
  have q_8 : gp_I s_3 74 43 = 0 := by rw [e_4]; exact q2
  have q_9 : gp_I s_3 74 57 = 0 := by rw [e_4]; exact q3
  have q_10 : gp_I s_3 74 58 = 0 := by rw [e_4]; exact q4
  have q_11 : gp_I s_3 74 7 = 1 := by rw [e_4]; exact q5
  have q_12 : gp_I s_3 74 9 = 0 := by rw [e_4]; exact q6
  have q_13 : gp_I s_3 81 20 = 0 := by rw [e_4]; exact q7
  refine ⟨by omega, ?_⟩
  intro s_14 e_15
  have hs_16 : zM z s_14 := by rw [e_15]; exact zw77 hs_5 _ _ rfl
  have q_17 : gp_I s_14 105 0 = 0 := by rw [e_15]; exact q_6
  have q_18 : gp_I s_14 74 11 = 0 := by rw [e_15]; exact q_7
  have q_19 : gp_I s_14 74 43 = 0 := by rw [e_15]; exact q_8
  have q_20 : gp_I s_14 74 57 = 0 := by rw [e_15]; exact q_9
  have q_21 : gp_I s_14 74 58 = 0 := by rw [e_15]; exact q_10
  have q_22 : gp_I s_14 74 7 = 1 := by rw [e_15]; exact q_11
  have q_23 : gp_I s_14 74 9 = 0 := by rw [e_15]; exact q_12
  have q_24 : gp_I s_14 81 20 = 0 := by rw [e_15]; exact q_13
  have e_25 : gp_cmp (0#64) (0#64) = 0 := by decide
  try rw [e_25]
  refine ⟨fun h_26 => ?_, fun h_26 => ?_⟩
  · refine s_3087_42 _ _ _ _ _ _ _ _ ?_
    refine ⟨by omega, ?_⟩
    intro s_27 e_28
    have hs_29 : zM z s_27 := by rw [e_28]; exact zw78 hs_16 _ _ (by omega)
    have q_30 : gp_I s_27 105 0 = 0 := by rw [e_28]; exact q_17
    have q_31 : gp_I s_27 74 11 = 0 := by rw [e_28]; exact q_18
    have q_32 : gp_I s_27 74 43 = 0 := by rw [e_28]; exact q_19
    have q_33 : gp_I s_27 74 57 = 0 := by rw [e_28]; exact q_20
    have q_34 : gp_I s_27 74 58 = 0 := by rw [e_28]; exact q_21
    have q_35 : gp_I s_27 74 7 = 1 := by rw [e_28]; exact q_22
    have q_36 : gp_I s_27 74 9 = 0 := by rw [e_28]; exact q_23
    have q_37 : gp_I s_27 81 20 = 0 := by rw [e_28]; exact q_24
    have e_38 : gp_cmp (0#64) (0#64) = 0 := by decide
    try rw [e_38]
    refine ⟨fun h_39 => ?_, fun h_39 => ?_⟩
    · refine s_3087_62 _ _ _ _ _ _ _ _ ?_
      refine ⟨by omega, ?_⟩
      intro s_40 e_41
      have hs_42 : zM z s_40 := by rw [e_41]; exact zw79 hs_29 _ _ (by omega)
      have q_43 : gp_I s_40 105 0 = 0 := by rw [e_41]; exact q_30
      have q_44 : gp_I s_40 74 11 = 0 := by rw [e_41]; exact q_31
      have q_45 : gp_I s_40 74 43 = 0 := by rw [e_41]; exact q_32
      have q_46 : gp_I s_40 74 57 = 0 := by rw [e_41]; exact q_33
      have q_47 : gp_I s_40 74 58 = 0 := by rw [e_41]; exact q_34
      have q_48 : gp_I s_40 74 7 = 1 := by rw [e_41]; exact q_35
      have q_49 : gp_I s_40 74 9 = 0 := by rw [e_41]; exact q_36
      have q_50 : gp_I s_40 81 20 = 0 := by rw [e_41]; exact q_37
      have e_51 : (0#64) ||| (0#64) = 0#64 := by decide
      try rw [e_51]
      refine zm3086_0 hs_42 (⟨_, rfl, ?_⟩)
      refine ⟨by omega, ?_⟩
      intro s_52 e_53
      have hs_54 : zM z s_52 := by rw [e_53]; exact zw80 hs_42 _ _ (by omega)
      have q_55 : gp_I s_52 105 0 = 0 := by rw [e_53]; exact q_43
      have q_56 : gp_I s_52 74 11 = 0 := by rw [e_53]; exact q_44
      have q_57 : gp_I s_52 74 43 = 0 := by rw [e_53]; exact q_45
      have q_58 : gp_I s_52 74 57 = 0 := by rw [e_53]; exact q_46
      have q_59 : gp_I s_52 74 58 = 0 := by rw [e_53]; exact q_47
      have q_60 : gp_I s_52 74 7 = 1 := by rw [e_53]; exact q_48
      have q_61 : gp_I s_52 74 9 = 0 := by rw [e_53]; exact q_49
      have q_62 : gp_I s_52 81 20 = 0 := by rw [e_53]; exact q_50
      exact k s_52 hs_54 (by omega) (by omega) (by omega) (by omega) (by omega) (by omega) (by omega) (by omega)
    · exfalso; omega
  · exfalso; omega
set_option maxRecDepth 100000 in
/-- GatheredPointsModel.made [0, 0, (0, 0), (0, 0)] -/
theorem zm3088_0 {z : gH} {L d : Nat} {K : Option gV → gH → Prop} {s : gH}  (hs : zM z s)  (q0 : gp_I s 105 0 = 0) (q1 : gp_I s 74 11 = 0) (q2 : gp_I s 74 43 = 0) (q3 : gp_I s 74 57 = 0) (q4 : gp_I s 74 58 = 0) (q5 : gp_I s 74 7 = 1) (q6 : gp_I s 74 9 = 0) (q7 : gp_I s 81 20 = 0) (k : ∀ (t : gH), zM z t → (gp_I t 105 0 = 0) → (gp_I t 74 11 = 0) → (gp_I t 74 43 = 0) → (gp_I t 74 57 = 0) → (gp_I t 74 58 = 0) → (gp_I t 74 7 = 1) → (gp_I t 74 9 = 0) → (gp_I t 81 20 = 1) → K (some (gp_i 0)) t) : gs_C L (d + 3) 3088 9 [gp_r (some 74), gp_l (0#64), gp_l (0#64), gp_i 0, gp_i 0] s K := by
  refine s_3088_e _ _ _ _ ?_
  refine s_3088_3 _ _ _ _ _ _ ?_
  try rw [show gp_I s 81 20 = 0 from q7]
  refine ⟨fun h_1 => ?_, fun h_1 => ?_⟩
  · exfalso; omega
  · try rw [show gp_I s 81 20 = 0 from q7]
    refine ⟨fun h_2 => ?_, fun h_2 => ?_⟩
    · exfalso; omega
    · try rw [show gp_I s 81 20 = 0 from q7]
      refine zm3087_0 hs (by omega) (by omega) (by omega) (by omega) (by omega) (by omega) (by omega) (by omega) (fun s_3 hs_4 q_5 q_6 q_7 q_8 q_9 q_10 q_11 q_12 => ⟨rfl, ?_⟩)
      try rw [show gp_I s_3 81 20 = 0 from q_12]
      have w_13 := gz_w (0 + 1)
      have e_14 : gp_wr (0 + 1) = 1 := by omega
      try rw [e_14]
      intro s_15 e_16
      have hs_17 : zM z s_15 := by rw [e_16]; exact zw81 hs_4 _ _ (by omega)
      have q_18 : gp_I s_15 105 0 = 0 := by rw [e_16]; exact q_5
      have q_19 : gp_I s_15 74 11 = 0 := by rw [e_16]; exact q_6
      have q_20 : gp_I s_15 74 43 = 0 := by rw [e_16]; exact q_7
      have q_21 : gp_I s_15 74 57 = 0 := by rw [e_16]; exact q_8
      have q_22 : gp_I s_15 74 58 = 0 := by rw [e_16]; exact q_9
      have q_23 : gp_I s_15 74 7 = 1 := by rw [e_16]; exact q_10
      have q_24 : gp_I s_15 74 9 = 0 := by rw [e_16]; exact q_11
      have q_25 : gp_I s_15 81 20 = 1 := by rw [e_16]; rfl
      try rw [show gp_I s_15 81 20 = 1 from q_25]
      have w_27 := gz_w (1 - 1)
      have e_28 : gp_wr (1 - 1) = 0 := by omega
      try rw [e_28]
      exact k s_15 hs_17 (by omega) (by omega) (by omega) (by omega) (by omega) (by omega) (by omega) (by omega)
set_option maxRecDepth 100000 in
/-- GatheredPointsModel.sum [(0, 7), (0, 0), (0, 7), (0, 0)] -/
theorem zm3118_0 {z : gH} {L d : Nat} {K : Option gV → gH → Prop} {s : gH} (p0 : Int) (p2 : Int) (hs : zM z s) (h_p0 : 0 ≤ p0 ∧ p0 ≤ 7) (h_p2 : 0 ≤ p2 ∧ p2 ≤ 7) (q0 : gp_I s 74 11 = 0) (q1 : gp_I s 74 43 = 0) (q2 : gp_I s 74 57 = 0) (q3 : gp_I s 74 58 = 0) (q4 : gp_I s 74 7 = 1) (q5 : gp_I s 74 9 = 0) (q6 : gp_I s 81 20 = 0) (k : ∀ (t : gH), zM z t → (gp_I t 105 0 = 1) → (gp_I t 74 11 = 0) → (gp_I t 74 43 = 0) → (gp_I t 74 57 = 0) → (gp_I t 74 58 = 0) → (gp_I t 74 7 = 1) → (gp_I t 74 9 = 0) → (0 ≤ gp_I t 81 20 ∧ gp_I t 81 20 ≤ 1) → K (some (gp_i 0)) t) : gs_C L (d + 4) 3118 11 [gp_r (some 74), gp_i p0, gp_i 0, gp_i p2, gp_i 0] s K := by
  refine s_3118_e _ _ _ _ ?_
  have w_1 := gz_w (64 * 0)
  have e_2 : gp_wr (64 * 0) = 0 := by omega
  try rw [e_2]
  have w_3 := gz_w (0 + 0)
  have e_4 : gp_wr (0 + 0) = 0 := by omega
  try rw [e_4]
  refine ⟨by omega, ?_⟩
  have f_5 := zr105 hs ((0 : Int).toNat)
  refine ⟨fun h_6 => ?_, fun h_6 => ?_⟩
  · have q_8 : gp_I s 105 (0 : Int).toNat = 0 := by omega
    have q_7 : gp_I s 105 0 = 0 := q_8
    have e_9 : gp_I s 105 (0 : Int).toNat = 0 := by omega
    try rw [e_9]
    refine s_3118_24 _ _ _ _ _ _ _ _ ?_
    refine ⟨fun h_10 => ?_, fun h_10 => ?_⟩
    · exfalso; omega
    · refine s_3118_119 _ _ _ _ _ _ _ _ ?_
      refine ⟨fun h_11 => ?_, fun h_11 => ?_⟩
      · exfalso; omega
      · have w_12 := gz_w (64 * p0)
        have w_13 := gz_w ((gp_wr (64 * p0)) + 0)
        refine ⟨by omega, ?_⟩
        have f_14 := zr78 hs ((gp_wr ((gp_wr (64 * p0)) + 0)).toNat)
        have e_15 : gp_I s 78 (gp_wr ((gp_wr (64 * p0)) + 0)).toNat = 0 := by omega
        try rw [e_15]
        have w_16 := gz_w (64 * p2)
        have w_17 := gz_w ((gp_wr (64 * p2)) + 0)
        refine ⟨by omega, ?_⟩
        have f_18 := zr78 hs ((gp_wr ((gp_wr (64 * p2)) + 0)).toNat)
        have e_19 : gp_I s 78 (gp_wr ((gp_wr (64 * p2)) + 0)).toNat = 0 := by omega
        try rw [e_19]
        have w_20 := gz_w (0 + 0)
        have e_21 : gp_wr (0 + 0) = 0 := by omega
        try rw [e_21]
        have w_22 := gz_w (64 * p0)
        have w_23 := gz_w ((gp_wr (64 * p0)) + 0)
        refine ⟨by omega, ?_⟩
        have f_24 := zr79 hs ((gp_wr ((gp_wr (64 * p0)) + 0)).toNat)
        have e_25 : gp_I s 79 (gp_wr ((gp_wr (64 * p0)) + 0)).toNat = 0 := by omega
        try rw [e_25]
        have w_26 := gz_w (64 * p2)
        have w_27 := gz_w ((gp_wr (64 * p2)) + 0)
        refine ⟨by omega, ?_⟩
        have f_28 := zr79 hs ((gp_wr ((gp_wr (64 * p2)) + 0)).toNat)
        have e_29 : gp_I s 79 (gp_wr ((gp_wr (64 * p2)) + 0)).toNat = 0 := by omega
        try rw [e_29]
        have w_30 := gz_w (0 + 0)
        have e_31 : gp_wr (0 + 0) = 0 := by omega
        try rw [e_31]
        have w_32 := gz_w (64 * 0)
        have e_33 : gp_wr (64 * 0) = 0 := by omega
        try rw [e_33]
        have w_34 := gz_w (0 + 0)
        have e_35 : gp_wr (0 + 0) = 0 := by omega
        try rw [e_35]
        have f_36 := zr74_15 hs 15
        have e_37 : gp_I s 74 15 = 0 := by omega
        try rw [e_37]
        refine ⟨fun h_38 => ?_, fun h_38 => ?_⟩
        · refine zm3088_0 hs (by omega) (by omega) (by omega) (by omega) (by omega) (by omega) (by omega) (by omega) (fun s_39 hs_40 q_41 q_42 q_43 q_44 q_45 q_46 q_47 q_48 => ⟨_, rfl, ?_⟩)
          refine s_3118_299 _ _ _ _ _ _ _ _ _ _ _ ?_
          have w_49 := gz_w (1 + 0)
          have e_50 : gp_wr (1 + 0) = 1 := by omega
          try rw [e_50]
          refine ⟨by omega, ?_⟩
          intro s_51 e_52
          have hs_53 : zM z s_51 := by rw [e_52]; exact zw105 hs_40 _ _ (by omega)
          have q_54 : gp_I s_51 74 11 = 0 := by rw [e_52]; exact q_42
          have q_55 : gp_I s_51 74 43 = 0 := by rw [e_52]; exact q_43
          have q_56 : gp_I s_51 74 57 = 0 := by rw [e_52]; exact q_44
          have q_57 : gp_I s_51 74 58 = 0 := by rw [e_52]; exact q_45
          have q_58 : gp_I s_51 74 7 = 1 := by rw [e_52]; exact q_46
          have q_59 : gp_I s_51 74 9 = 0 := by rw [e_52]; exact q_47
          have q_60 : gp_I s_51 81 20 = 1 := by rw [e_52]; exact q_48
          have q_61 : gp_I s_51 105 0 = 1 := by rw [e_52]; rfl
          refine s_3118_301 _ _ _ _ _ _ _ _ _ _ ?_
          have w_63 := gz_w (64 * 0)
          have e_64 : gp_wr (64 * 0) = 0 := by omega
          try rw [e_64]
          have w_65 := gz_w (0 + 0)
          have e_66 : gp_wr (0 + 0) = 0 := by omega
          try rw [e_66]
          refine ⟨by omega, ?_⟩
          try rw [show gp_I s_51 105 (0 : Int).toNat = 1 from q_61]
          have w_67 := gz_w (1 - 1)
          have e_68 : gp_wr (1 - 1) = 0 := by omega
          try rw [e_68]
          exact k s_51 hs_53 (by omega) (by omega) (by omega) (by omega) (by omega) (by omega) (by omega) (by omega)
        · exfalso; omega
  · have q_70 : gp_I s 105 (0 : Int).toNat = 1 := by omega
    have q_69 : gp_I s 105 0 = 1 := q_70
    have e_71 : gp_I s 105 (0 : Int).toNat = 1 := by omega
    try rw [e_71]
    refine s_3118_301 _ _ _ _ _ _ _ _ _ _ ?_
    have w_72 := gz_w (64 * 0)
    have e_73 : gp_wr (64 * 0) = 0 := by omega
    try rw [e_73]
    have w_74 := gz_w (0 + 0)
    have e_75 : gp_wr (0 + 0) = 0 := by omega
    try rw [e_75]
    refine ⟨by omega, ?_⟩
    try rw [show gp_I s 105 (0 : Int).toNat = 1 from q_69]
    have w_76 := gz_w (1 - 1)
    have e_77 : gp_wr (1 - 1) = 0 := by omega
    try rw [e_77]
    exact k s hs (by omega) (by omega) (by omega) (by omega) (by omega) (by omega) (by omega) (by omega)
set_option maxRecDepth 100000 in
/-- GatheredPointsModel.forgets, the loop at 2 -/
theorem zm3089_1_l2_0 {z : gH} {L d : Nat} {K : Option gV → gH → Prop}   (k : ∀ (t : gH), zM z t → (gp_I t 105 0 = 1) → (gp_I t 74 11 = 0) → (gp_I t 74 43 = 0) → (gp_I t 74 57 = 0) → (gp_I t 74 58 = 0) → (gp_I t 74 7 = 1) → (gp_I t 74 9 = 0) → (0 ≤ gp_I t 81 20 ∧ gp_I t 81 20 ≤ 1) → K none t)  : ∀ (n : Nat) (v1 : Int) (s : gH), zM z s → (4097 - v1).toNat < n → (0 ≤ v1 ∧ v1 ≤ 4096) → (gp_I s 105 0 = 1) → (gp_I s 74 11 = 0) → (gp_I s 74 43 = 0) → (gp_I s 74 57 = 0) → (gp_I s 74 58 = 0) → (gp_I s 74 7 = 1) → (gp_I s 74 9 = 0) → (0 ≤ gp_I s 81 20 ∧ gp_I s 81 20 ≤ 1) → gs_E L d 3089 2 [gp_r (some 74), gp_i v1] [] s K := by
  intro n
  induction n with
  | zero => intro v1 s hs hm i0 i1 i2 i3 i4 i5 i6 i7 i8; exact absurd hm (Nat.not_lt_zero _)
  | succ n ih =>
    intro v1 s hs hm i0 i1 i2 i3 i4 i5 i6 i7 i8
    refine s_3089_2 _ ?_
    refine ⟨fun h_1 => ?_, fun h_1 => ?_⟩
    · refine ⟨by omega, ?_⟩
      intro s_2 e_3
      have hs_4 : zM z s_2 := by rw [e_3]; exact zw86 hs _ _ (by omega)
      have q_5 : gp_I s_2 105 0 = 1 := by rw [e_3]; exact i1
      have q_6 : gp_I s_2 74 11 = 0 := by rw [e_3]; exact i2
      have q_7 : gp_I s_2 74 43 = 0 := by rw [e_3]; exact i3
      have q_8 : gp_I s_2 74 57 = 0 := by rw [e_3]; exact i4
      have q_9 : gp_I s_2 74 58 = 0 := by rw [e_3]; exact i5
      have q_10 : gp_I s_2 74 7 = 1 := by rw [e_3]; exact i6
      have q_11 : gp_I s_2 74 9 = 0 := by rw [e_3]; exact i7
      have q_12 : 0 ≤ gp_I s_2 81 20 ∧ gp_I s_2 81 20 ≤ 1 := by rw [e_3]; exact i8
      have w_13 := gz_w (v1 + 1)
      exact ih _ s_2 hs_4 (by omega) (by omega) (by omega) (by omega) (by omega) (by omega) (by omega) (by omega) (by omega) (by omega)
    · have e_14 : v1 = 4096 := by omega
      subst e_14
      exact k s hs (by omega) (by omega) (by omega) (by omega) (by omega) (by omega) (by omega) (by omega)
set_option maxRecDepth 100000 in
/-- GatheredPointsModel.forgets [] -/
theorem zm3089_1 {z : gH} {L d : Nat} {K : Option gV → gH → Prop} {s : gH}  (hs : zM z s)  (q0 : gp_I s 105 0 = 1) (q1 : gp_I s 74 11 = 0) (q2 : gp_I s 74 43 = 0) (q3 : gp_I s 74 57 = 0) (q4 : gp_I s 74 58 = 0) (q5 : gp_I s 74 7 = 1) (q6 : gp_I s 74 9 = 0) (q7 : 0 ≤ gp_I s 81 20 ∧ gp_I s 81 20 ≤ 1) (k : ∀ (t : gH), zM z t → (gp_I t 105 0 = 1) → (gp_I t 74 11 = 0) → (gp_I t 74 43 = 0) → (gp_I t 74 57 = 0) → (gp_I t 74 58 = 0) → (gp_I t 74 7 = 1) → (gp_I t 74 9 = 0) → (0 ≤ gp_I t 81 20 ∧ gp_I t 81 20 ≤ 1) → K none t) : gs_C L d 3089 2 [gp_r (some 74)] s K := by
  refine s_3089_e ?_
  exact zm3089_1_l2_0 k _ _ s hs (Nat.lt_succ_self _) (by omega) (by omega) (by omega) (by omega) (by omega) (by omega) (by omega) (by omega) (by omega)
set_option maxRecDepth 100000 in
/-- GatheredPointsModel.has [1, (0, 0)] -/
theorem zm3078_5 {z : gH} {L d : Nat} {K : Option gV → gH → Prop} {s : gH}  (hs : zM z s)   (k : K (some (gp_i 1)) s) : gs_C L d 3078 3 [gp_l (1#64), gp_i 0] s K := by
  refine s_3078_e _ _ ?_
  have e_1 : (1#64) >>> ((0 : Int) % 64).toNat = 1#64 := by decide
  try rw [e_1]
  have e_2 : (1#64) &&& (1#64) = 1#64 := by decide
  try rw [e_2]
  have e_3 : gp_cmp (1#64) (1#64) = 0 := by decide
  try rw [e_3]
  refine ⟨fun h_4 => ?_, fun h_4 => ?_⟩
  · refine s_3078_15 _ _ _ ?_
    refine ⟨by omega, ?_⟩
    exact k
  · exfalso; omega
set_option maxRecDepth 100000 in
/-- GatheredPointsModel.has [1, (1, 1)] -/
theorem zm3078_6 {z : gH} {L d : Nat} {K : Option gV → gH → Prop} {s : gH}  (hs : zM z s)   (k : K (some (gp_i 0)) s) : gs_C L d 3078 3 [gp_l (1#64), gp_i 1] s K := by
  refine s_3078_e _ _ ?_
  have e_1 : (1#64) >>> ((1 : Int) % 64).toNat = 0#64 := by decide
  try rw [e_1]
  have e_2 : (0#64) &&& (1#64) = 0#64 := by decide
  try rw [e_2]
  have e_3 : gp_cmp (0#64) (1#64) = (-1) := by decide
  try rw [e_3]
  refine ⟨fun h_4 => ?_, fun h_4 => ?_⟩
  · exfalso; omega
  · refine s_3078_15 _ _ _ ?_
    refine ⟨by omega, ?_⟩
    exact k
set_option maxRecDepth 100000 in
/-- GatheredPointsModel.has [1, (1, 2)] -/
theorem zm3078_7 {z : gH} {L d : Nat} {K : Option gV → gH → Prop} {s : gH} (p1 : Int) (hs : zM z s) (h_p1 : 1 ≤ p1 ∧ p1 ≤ 2)  (k : K (some (gp_i 0)) s) : gs_C L d 3078 3 [gp_l (1#64), gp_i p1] s K := by
  refine s_3078_e _ _ ?_
  have e_1 : (1#64) >>> (p1 % 64).toNat = 0#64 := gz_1sh (by omega)
  try rw [e_1]
  have e_2 : (0#64) &&& (1#64) = 0#64 := by decide
  try rw [e_2]
  have e_3 : gp_cmp (0#64) (1#64) = (-1) := by decide
  try rw [e_3]
  refine ⟨fun h_4 => ?_, fun h_4 => ?_⟩
  · exfalso; omega
  · refine s_3078_15 _ _ _ ?_
    refine ⟨by omega, ?_⟩
    exact k
set_option maxRecDepth 100000 in
/-- GatheredPointsModel.has [1, (1, 60)] -/
theorem zm3078_8 {z : gH} {L d : Nat} {K : Option gV → gH → Prop} {s : gH} (p1 : Int) (hs : zM z s) (h_p1 : 1 ≤ p1 ∧ p1 ≤ 60)  (k : K (some (gp_i 0)) s) : gs_C L d 3078 3 [gp_l (1#64), gp_i p1] s K := by
  refine s_3078_e _ _ ?_
  have e_1 : (1#64) >>> (p1 % 64).toNat = 0#64 := gz_1sh (by omega)
  try rw [e_1]
  have e_2 : (0#64) &&& (1#64) = 0#64 := by decide
  try rw [e_2]
  have e_3 : gp_cmp (0#64) (1#64) = (-1) := by decide
  try rw [e_3]
  refine ⟨fun h_4 => ?_, fun h_4 => ?_⟩
  · exfalso; omega
  · refine s_3078_15 _ _ _ ?_
    refine ⟨by omega, ?_⟩
    exact k
set_option maxRecDepth 100000 in
/-- GatheredPointsModel.has [1, (1, 63)] -/
theorem zm3078_9 {z : gH} {L d : Nat} {K : Option gV → gH → Prop} {s : gH} (p1 : Int) (hs : zM z s) (h_p1 : 1 ≤ p1 ∧ p1 ≤ 63)  (k : K (some (gp_i 0)) s) : gs_C L d 3078 3 [gp_l (1#64), gp_i p1] s K := by
  refine s_3078_e _ _ ?_
  have e_1 : (1#64) >>> (p1 % 64).toNat = 0#64 := gz_1sh (by omega)
  try rw [e_1]
  have e_2 : (0#64) &&& (1#64) = 0#64 := by decide
  try rw [e_2]
  have e_3 : gp_cmp (0#64) (1#64) = (-1) := by decide
  try rw [e_3]
  refine ⟨fun h_4 => ?_, fun h_4 => ?_⟩
  · exfalso; omega
  · refine s_3078_15 _ _ _ ?_
    refine ⟨by omega, ?_⟩
    exact k
set_option maxRecDepth 100000 in
/-- GatheredPointsModel.size, the loop at 4 -/
theorem zm3079_0_l4_0 {z : gH} {L d : Nat} {K : Option gV → gH → Prop}  {s : gH} (hs : zM z s)  (k : K (some (gp_i 1)) s)  : ∀ (n : Nat) (v0 : BitVec 64) (v2 : Int) (v3 : Int), (65 - v3).toNat < n → (v0 = 1#64) → (v2 = 1) → (1 ≤ v3 ∧ v3 ≤ 64) → gs_E L (d + 1) 3079 4 [gp_l v0, gp_n, gp_i v2, gp_i v3] [] s K := by
  intro n
  induction n with
  | zero => intro v0 v2 v3 hm i0 i1 i2; exact absurd hm (Nat.not_lt_zero _)
  | succ n ih =>
    intro v0 v2 v3 hm i0 i1 i2
    subst i0
    subst i1
    refine s_3079_4 _ _ _ ?_
    refine ⟨fun h_1 => ?_, fun h_1 => ?_⟩
    · refine zm3078_9 _ hs (by omega) (⟨_, rfl, ?_⟩)
      refine ⟨fun h_2 => ?_, fun h_2 => ?_⟩
      · refine s_3079_24 _ _ _ _ _ ?_
        have w_3 := gz_w (1 + 0)
        have e_4 : gp_wr (1 + 0) = 1 := by omega
        try rw [e_4]
        have w_5 := gz_w (v3 + 1)
        exact ih _ _ _ (by omega) rfl (by omega) (by omega)
      · exfalso; omega
    · have e_6 : v3 = 64 := by omega
      subst e_6
      exact k
set_option maxRecDepth 100000 in
/-- GatheredPointsModel.size [1] -/
theorem zm3079_0 {z : gH} {L d : Nat} {K : Option gV → gH → Prop} {s : gH}  (hs : zM z s)   (k : K (some (gp_i 1)) s) : gs_C L (d + 1) 3079 4 [gp_l (1#64)] s K := by
  refine s_3079_e _ ?_
  refine s_3079_4 _ _ _ ?_
  refine ⟨fun h_1 => ?_, fun h_1 => ?_⟩
  · refine zm3078_5 hs (⟨_, rfl, ?_⟩)
    refine ⟨fun h_2 => ?_, fun h_2 => ?_⟩
    · exfalso; omega
    · refine s_3079_24 _ _ _ _ _ ?_
      have w_3 := gz_w (0 + 1)
      have e_4 : gp_wr (0 + 1) = 1 := by omega
      try rw [e_4]
      have w_5 := gz_w (0 + 1)
      have e_6 : gp_wr (0 + 1) = 1 := by omega
      try rw [e_6]
      exact zm3079_0_l4_0 hs k _ _ _ _ (Nat.lt_succ_self _) rfl (by omega) (by omega)
  · exfalso; omega
set_option maxRecDepth 100000 in
/-- GatheredPointsModel.has [1, (1, 19)] -/
theorem zm3078_10 {z : gH} {L d : Nat} {K : Option gV → gH → Prop} {s : gH} (p1 : Int) (hs : zM z s) (h_p1 : 1 ≤ p1 ∧ p1 ≤ 19)  (k : K (some (gp_i 0)) s) : gs_C L d 3078 3 [gp_l (1#64), gp_i p1] s K := by
  refine s_3078_e _ _ ?_
  have e_1 : (1#64) >>> (p1 % 64).toNat = 0#64 := gz_1sh (by omega)
  try rw [e_1]
  have e_2 : (0#64) &&& (1#64) = 0#64 := by decide
  try rw [e_2]
  have e_3 : gp_cmp (0#64) (1#64) = (-1) := by decide
  try rw [e_3]
  refine ⟨fun h_4 => ?_, fun h_4 => ?_⟩
  · exfalso; omega
  · refine s_3078_15 _ _ _ ?_
    refine ⟨by omega, ?_⟩
    exact k
set_option maxRecDepth 100000 in
/-- GatheredPointsModel.has [1, (1, 20)] -/
theorem zm3078_11 {z : gH} {L d : Nat} {K : Option gV → gH → Prop} {s : gH} (p1 : Int) (hs : zM z s) (h_p1 : 1 ≤ p1 ∧ p1 ≤ 20)  (k : K (some (gp_i 0)) s) : gs_C L d 3078 3 [gp_l (1#64), gp_i p1] s K := by
  refine s_3078_e _ _ ?_
  have e_1 : (1#64) >>> (p1 % 64).toNat = 0#64 := gz_1sh (by omega)
  try rw [e_1]
  have e_2 : (0#64) &&& (1#64) = 0#64 := by decide
  try rw [e_2]
  have e_3 : gp_cmp (0#64) (1#64) = (-1) := by decide
  try rw [e_3]
  refine ⟨fun h_4 => ?_, fun h_4 => ?_⟩
  · exfalso; omega
  · refine s_3078_15 _ _ _ ?_
    refine ⟨by omega, ?_⟩
    exact k
set_option maxRecDepth 100000 in
/-- GatheredPointsModel.has [1, (1, 21)] -/
theorem zm3078_12 {z : gH} {L d : Nat} {K : Option gV → gH → Prop} {s : gH} (p1 : Int) (hs : zM z s) (h_p1 : 1 ≤ p1 ∧ p1 ≤ 21)  (k : K (some (gp_i 0)) s) : gs_C L d 3078 3 [gp_l (1#64), gp_i p1] s K := by
  refine s_3078_e _ _ ?_
  have e_1 : (1#64) >>> (p1 % 64).toNat = 0#64 := gz_1sh (by omega)
  try rw [e_1]
  have e_2 : (0#64) &&& (1#64) = 0#64 := by decide
  try rw [e_2]
  have e_3 : gp_cmp (0#64) (1#64) = (-1) := by decide
  try rw [e_3]
  refine ⟨fun h_4 => ?_, fun h_4 => ?_⟩
  · exfalso; omega
  · refine s_3078_15 _ _ _ ?_
    refine ⟨by omega, ?_⟩
    exact k
set_option maxRecDepth 100000 in
/-- GatheredPointsModel.option, the loop at 41 -/
theorem zm3092_0_l41_0 {z : gH} {L d : Nat} {K : Option gV → gH → Prop}  {s : gH} (hs : zM z s)  (k : K (some (gp_i 0)) s)  : ∀ (n : Nat) (v1 : Int) (v2 : BitVec 64) (v4 : Int) (v5 : Int) (v6 : Int) (v7 : Int), (65 - v7).toNat < n → (v1 = 20) → (v2 = 1#64) → (v4 = 0) → (v5 = 0) → (v6 = 0) → (1 ≤ v7 ∧ v7 ≤ 64) → (gp_I s 105 0 = 1) → (gp_I s 74 11 = 0) → (gp_I s 74 43 = 0) → (gp_I s 74 57 = 0) → (gp_I s 74 58 = 0) → (gp_I s 74 7 = 1) → (gp_I s 74 9 = 0) → (0 ≤ gp_I s 81 20 ∧ gp_I s 81 20 ≤ 1) → gs_E L (d + 1) 3092 41 [gp_r (some 74), gp_i v1, gp_l v2, gp_n, gp_i v4, gp_i v5, gp_i v6, gp_i v7] [] s K := by
  intro n
  induction n with
  | zero => intro v1 v2 v4 v5 v6 v7 hm i0 i1 i2 i3 i4 i5 i6 i7 i8 i9 i10 i11 i12 i13; exact absurd hm (Nat.not_lt_zero _)
  | succ n ih =>
    intro v1 v2 v4 v5 v6 v7 hm i0 i1 i2 i3 i4 i5 i6 i7 i8 i9 i10 i11 i12 i13
    subst i0
    subst i1
    subst i2
    subst i3
    subst i4
    refine s_3092_41 _ _ _ _ _ _ ?_
    refine ⟨fun h_1 => ?_, fun h_1 => ?_⟩
    · refine zm3078_9 _ hs (by omega) (⟨_, rfl, ?_⟩)
      refine ⟨fun h_2 => ?_, fun h_2 => ?_⟩
      · refine s_3092_85 _ _ _ _ _ _ _ ?_
        refine s_3092_86 _ _ _ _ _ _ _ _ ?_
        have w_3 := gz_w (0 + 0)
        have e_4 : gp_wr (0 + 0) = 0 := by omega
        try rw [e_4]
        have w_5 := gz_w (v7 + 1)
        exact ih _ _ _ _ _ _ (by omega) (by omega) rfl (by omega) (by omega) (by omega) (by omega) (by omega) (by omega) (by omega) (by omega) (by omega) (by omega) (by omega) (by omega)
      · exfalso; omega
    · have e_6 : v7 = 64 := by omega
      subst e_6
      refine ⟨fun h_7 => ?_, fun h_7 => ?_⟩
      · exact k
      · exfalso; omega
set_option maxRecDepth 100000 in
/-- GatheredPointsModel.option [(20, 20), 1, (0, 0)] -/
theorem zm3092_0 {z : gH} {L d : Nat} {K : Option gV → gH → Prop} {s : gH}  (hs : zM z s)  (q0 : gp_I s 105 0 = 1) (q1 : gp_I s 74 11 = 0) (q2 : gp_I s 74 43 = 0) (q3 : gp_I s 74 57 = 0) (q4 : gp_I s 74 58 = 0) (q5 : gp_I s 74 7 = 1) (q6 : gp_I s 74 9 = 0) (q7 : 0 ≤ gp_I s 81 20 ∧ gp_I s 81 20 ≤ 1) (k : K (some (gp_i 0)) s) : gs_C L (d + 1) 3092 8 [gp_r (some 74), gp_i 20, gp_l (1#64), gp_i 0] s K := by
  refine s_3092_e _ _ _ ?_
  refine ⟨fun h_1 => ?_, fun h_1 => ?_⟩
  · refine s_3092_16 _ _ _ _ _ _ ?_
    refine ⟨fun h_2 => ?_, fun h_2 => ?_⟩
    · refine zm3078_5 hs (⟨_, rfl, ?_⟩)
      refine ⟨fun h_3 => ?_, fun h_3 => ?_⟩
      · exfalso; omega
      · refine s_3092_41 _ _ _ _ _ _ ?_
        refine ⟨fun h_4 => ?_, fun h_4 => ?_⟩
        · refine zm3078_5 hs (⟨_, rfl, ?_⟩)
          refine ⟨fun h_5 => ?_, fun h_5 => ?_⟩
          · exfalso; omega
          · refine ⟨fun h_6 => ?_, fun h_6 => ?_⟩
            · refine s_3092_85 _ _ _ _ _ _ _ ?_
              refine s_3092_86 _ _ _ _ _ _ _ _ ?_
              have w_7 := gz_w (0 + 0)
              have e_8 : gp_wr (0 + 0) = 0 := by omega
              try rw [e_8]
              have w_9 := gz_w (0 + 1)
              have e_10 : gp_wr (0 + 1) = 1 := by omega
              try rw [e_10]
              exact zm3092_0_l41_0 hs k _ _ _ _ _ _ _ (Nat.lt_succ_self _) (by omega) rfl (by omega) (by omega) (by omega) (by omega) (by omega) (by omega) (by omega) (by omega) (by omega) (by omega) (by omega) (by omega)
            · exfalso; omega
        · exfalso; omega
    · exfalso; omega
  · exfalso; omega
set_option maxRecDepth 100000 in
/-- GatheredPointsModel.placed, the loop at 5 -/
theorem zm3094_0_l5_0 {z : gH} {L d : Nat} {K : Option gV → gH → Prop}  {s : gH} (hs : zM z s)  (k : K (some (gp_l (0#64))) s)  : ∀ (n : Nat) (v1 : BitVec 64) (v3 : BitVec 64) (v5 : Int), (65 - v5).toNat < n → (v1 = 0#64) → (v3 = 0#64) → (0 ≤ v5 ∧ v5 ≤ 64) → gs_E L (d + 1) 3094 5 [gp_r (some 74), gp_l v1, gp_n, gp_l v3, gp_n, gp_i v5] [] s K := by
  intro n
  induction n with
  | zero => intro v1 v3 v5 hm i0 i1 i2; exact absurd hm (Nat.not_lt_zero _)
  | succ n ih =>
    intro v1 v3 v5 hm i0 i1 i2
    subst i0
    subst i1
    refine s_3094_5 _ _ _ ?_
    refine ⟨fun h_1 => ?_, fun h_1 => ?_⟩
    · refine zm3078_4 _ hs (by omega) (⟨_, rfl, ?_⟩)
      refine ⟨fun h_2 => ?_, fun h_2 => ?_⟩
      · refine s_3094_35 _ _ _ _ _ ?_
        have e_3 : (0#64) ||| (0#64) = 0#64 := by decide
        try rw [e_3]
        have w_4 := gz_w (v5 + 1)
        exact ih _ _ _ (by omega) rfl rfl (by omega)
      · exfalso; omega
    · have e_5 : v5 = 64 := by omega
      subst e_5
      exact k
set_option maxRecDepth 100000 in
/-- GatheredPointsModel.placed [0] -/
theorem zm3094_0 {z : gH} {L d : Nat} {K : Option gV → gH → Prop} {s : gH}  (hs : zM z s)   (k : K (some (gp_l (0#64))) s) : gs_C L (d + 1) 3094 6 [gp_r (some 74), gp_l (0#64)] s K := by
  refine s_3094_e _ ?_
  exact zm3094_0_l5_0 hs k _ _ _ _ (Nat.lt_succ_self _) rfl rfl (by omega)
set_option maxRecDepth 100000 in
/-- GatheredPointsModel.ends [(0, 0), (19, 19)] -/
theorem zm3093_0 {z : gH} {L d : Nat} {K : Option gV → gH → Prop} {s : gH}  (hs : zM z s)  (q0 : gp_I s 105 0 = 1) (q1 : gp_I s 74 11 = 0) (q2 : gp_I s 74 43 = 0) (q3 : gp_I s 74 57 = 0) (q4 : gp_I s 74 58 = 0) (q5 : gp_I s 74 7 = 1) (q6 : gp_I s 74 9 = 0) (q7 : 0 ≤ gp_I s 81 20 ∧ gp_I s 81 20 ≤ 1) (k : ∀ (t : gH), zM z t → (gp_I t 105 0 = 1) → (gp_I t 74 11 = 0) → (gp_I t 74 43 = 0) → (gp_I t 74 57 = 0) → (gp_I t 74 58 = 0) → (gp_I t 74 7 = 1) → (gp_I t 74 9 = 0) → (gp_I t 81 19 = 1) → (0 ≤ gp_I t 81 20 ∧ gp_I t 81 20 ≤ 1) → K none t) : gs_C L (d + 2) 3093 9 [gp_r (some 74), gp_i 0, gp_i 19] s K := by
  refine s_3093_e _ _ ?_
  refine zm3089_1 hs (by omega) (by omega) (by omega) (by omega) (by omega) (by omega) (by omega) (by omega) (fun s_1 hs_2 q_3 q_4 q_5 q_6 q_7 q_8 q_9 q_10 => ⟨rfl, ?_⟩)
  have e_11 : (1#64) <<< ((0 : Int) % 64).toNat = 1#64 := by decide
  try rw [e_11]
  refine s_3093_11 _ _ _ _ _ _ _ ?_
  refine ⟨fun h_12 => ?_, fun h_12 => ?_⟩
  · exfalso; omega
  · refine zm3078_5 hs_2 (⟨_, rfl, ?_⟩)
    refine ⟨fun h_13 => ?_, fun h_13 => ?_⟩
    · exfalso; omega
    · have w_14 := gz_w (1280 + 0)
      have e_15 : gp_wr (1280 + 0) = 1280 := by omega
      try rw [e_15]
      refine ⟨by omega, ?_⟩
      try rw [zr76 hs_2 ((1280 : Int).toNat)]
      have w_16 := gz_w (1280 + 0)
      have e_17 : gp_wr (1280 + 0) = 1280 := by omega
      try rw [e_17]
      refine ⟨by omega, ?_⟩
      try rw [zr77 hs_2 ((1280 : Int).toNat)]
      have e_18 : (0#64) ||| (0#64) = 0#64 := by decide
      try rw [e_18]
      refine s_3093_53 _ _ _ _ _ _ _ _ _ ?_
      have e_19 : (1#64) ||| (0#64) = 1#64 := by decide
      try rw [e_19]
      have w_20 := gz_w (0 + (-1))
      have e_21 : gp_wr (0 + (-1)) = (-1) := by omega
      try rw [e_21]
      refine s_3093_11 _ _ _ _ _ _ _ ?_
      refine ⟨fun h_22 => ?_, fun h_22 => ?_⟩
      · refine zm3079_0 hs_2 (⟨_, rfl, ?_⟩)
        refine s_3093_70 _ _ _ _ _ _ _ ?_
        refine ⟨fun h_23 => ?_, fun h_23 => ?_⟩
        · refine zm3092_0 hs_2 (by omega) (by omega) (by omega) (by omega) (by omega) (by omega) (by omega) (by omega) (⟨_, rfl, ?_⟩)
          refine ⟨by omega, ?_⟩
          intro s_24 e_25
          have hs_26 : zM z s_24 := by rw [e_25]; exact zw87 hs_2 _ _ (by omega)
          have q_27 : gp_I s_24 105 0 = 1 := by rw [e_25]; exact q_3
          have q_28 : gp_I s_24 74 11 = 0 := by rw [e_25]; exact q_4
          have q_29 : gp_I s_24 74 43 = 0 := by rw [e_25]; exact q_5
          have q_30 : gp_I s_24 74 57 = 0 := by rw [e_25]; exact q_6
          have q_31 : gp_I s_24 74 58 = 0 := by rw [e_25]; exact q_7
          have q_32 : gp_I s_24 74 7 = 1 := by rw [e_25]; exact q_8
          have q_33 : gp_I s_24 74 9 = 0 := by rw [e_25]; exact q_9
          have q_34 : 0 ≤ gp_I s_24 81 20 ∧ gp_I s_24 81 20 ≤ 1 := by rw [e_25]; exact q_10
          refine ⟨by omega, ?_⟩
          have f_35 := zr87 hs_26 ((0 : Int).toNat)
          have e_36 : gp_I s_24 87 (0 : Int).toNat = 0 := by omega
          try rw [e_36]
          refine ⟨by omega, ?_⟩
          intro s_37 e_38
          have hs_39 : zM z s_37 := by rw [e_38]; exact zw88 hs_26 _ _ (by omega)
          have q_40 : gp_I s_37 105 0 = 1 := by rw [e_38]; exact q_27
          have q_41 : gp_I s_37 74 11 = 0 := by rw [e_38]; exact q_28
          have q_42 : gp_I s_37 74 43 = 0 := by rw [e_38]; exact q_29
          have q_43 : gp_I s_37 74 57 = 0 := by rw [e_38]; exact q_30
          have q_44 : gp_I s_37 74 58 = 0 := by rw [e_38]; exact q_31
          have q_45 : gp_I s_37 74 7 = 1 := by rw [e_38]; exact q_32
          have q_46 : gp_I s_37 74 9 = 0 := by rw [e_38]; exact q_33
          have q_47 : 0 ≤ gp_I s_37 81 20 ∧ gp_I s_37 81 20 ≤ 1 := by rw [e_38]; exact q_34
          have w_48 := gz_w (0 + 1)
          have e_49 : gp_wr (0 + 1) = 1 := by omega
          try rw [e_49]
          refine s_3093_70 _ _ _ _ _ _ _ ?_
          refine ⟨fun h_50 => ?_, fun h_50 => ?_⟩
          · exfalso; omega
          · refine ⟨by omega, ?_⟩
            intro s_51 e_52
            have hs_53 : zM z s_51 := by rw [e_52]; exact zw81 hs_39 _ _ (by omega)
            have q_54 : gp_I s_51 105 0 = 1 := by rw [e_52]; exact q_40
            have q_55 : gp_I s_51 74 11 = 0 := by rw [e_52]; exact q_41
            have q_56 : gp_I s_51 74 43 = 0 := by rw [e_52]; exact q_42
            have q_57 : gp_I s_51 74 57 = 0 := by rw [e_52]; exact q_43
            have q_58 : gp_I s_51 74 58 = 0 := by rw [e_52]; exact q_44
            have q_59 : gp_I s_51 74 7 = 1 := by rw [e_52]; exact q_45
            have q_60 : gp_I s_51 74 9 = 0 := by rw [e_52]; exact q_46
            have q_61 : 0 ≤ gp_I s_51 81 20 ∧ gp_I s_51 81 20 ≤ 1 := by rw [e_52]; exact q_47
            have q_62 : gp_I s_51 81 19 = 1 := by rw [e_52]; rfl
            refine s_3093_124 _ _ _ _ _ _ _ ?_
            refine ⟨fun h_64 => ?_, fun h_64 => ?_⟩
            · refine ⟨by omega, ?_⟩
              have f_65 := zr87 hs_53 ((0 : Int).toNat)
              have e_66 : gp_I s_51 87 (0 : Int).toNat = 0 := by omega
              try rw [e_66]
              have w_67 := gz_w (1280 + 0)
              have e_68 : gp_wr (1280 + 0) = 1280 := by omega
              try rw [e_68]
              have w_69 := gz_w (64 * 19)
              have e_70 : gp_wr (64 * 19) = 1216 := by omega
              try rw [e_70]
              have w_71 := gz_w (1216 + 0)
              have e_72 : gp_wr (1216 + 0) = 1216 := by omega
              try rw [e_72]
              refine ⟨by omega, ?_⟩
              try rw [zr76 hs_53 ((1280 : Int).toNat)]
              refine zm3094_0 hs_53 (⟨_, rfl, ?_⟩)
              refine ⟨by omega, ?_⟩
              intro s_73 e_74
              have hs_75 : zM z s_73 := by rw [e_74]; exact zw76 hs_53 _ _ rfl
              have q_76 : gp_I s_73 105 0 = 1 := by rw [e_74]; exact q_54
              have q_77 : gp_I s_73 74 11 = 0 := by rw [e_74]; exact q_55
              have q_78 : gp_I s_73 74 43 = 0 := by rw [e_74]; exact q_56
              have q_79 : gp_I s_73 74 57 = 0 := by rw [e_74]; exact q_57
              have q_80 : gp_I s_73 74 58 = 0 := by rw [e_74]; exact q_58
              have q_81 : gp_I s_73 74 7 = 1 := by rw [e_74]; exact q_59
              have q_82 : gp_I s_73 74 9 = 0 := by rw [e_74]; exact q_60
              have q_83 : 0 ≤ gp_I s_73 81 20 ∧ gp_I s_73 81 20 ≤ 1 := by rw [e_74]; exact q_61
              have q_84 : gp_I s_73 81 19 = 1 := by rw [e_74]; exact q_62
              refine ⟨by omega, ?_⟩
              try rw [zr77 hs_75 ((1280 : Int).toNat)]
              refine zm3094_0 hs_75 (⟨_, rfl, ?_⟩)
              refine ⟨by omega, ?_⟩
              intro s_85 e_86
              have hs_87 : zM z s_85 := by rw [e_86]; exact zw77 hs_75 _ _ rfl
              have q_88 : gp_I s_85 105 0 = 1 := by rw [e_86]; exact q_76
              have q_89 : gp_I s_85 74 11 = 0 := by rw [e_86]; exact q_77
              have q_90 : gp_I s_85 74 43 = 0 := by rw [e_86]; exact q_78
              have q_91 : gp_I s_85 74 57 = 0 := by rw [e_86]; exact q_79
              have q_92 : gp_I s_85 74 58 = 0 := by rw [e_86]; exact q_80
              have q_93 : gp_I s_85 74 7 = 1 := by rw [e_86]; exact q_81
              have q_94 : gp_I s_85 74 9 = 0 := by rw [e_86]; exact q_82
              have q_95 : 0 ≤ gp_I s_85 81 20 ∧ gp_I s_85 81 20 ≤ 1 := by rw [e_86]; exact q_83
              have q_96 : gp_I s_85 81 19 = 1 := by rw [e_86]; exact q_84
              refine ⟨by omega, ?_⟩
              have f_97 := zr78 hs_87 ((1280 : Int).toNat)
              have e_98 : gp_I s_85 78 (1280 : Int).toNat = 0 := by omega
              try rw [e_98]
              refine ⟨by omega, ?_⟩
              intro s_99 e_100
              have hs_101 : zM z s_99 := by rw [e_100]; exact zw78 hs_87 _ _ (by omega)
              have q_102 : gp_I s_99 105 0 = 1 := by rw [e_100]; exact q_88
              have q_103 : gp_I s_99 74 11 = 0 := by rw [e_100]; exact q_89
              have q_104 : gp_I s_99 74 43 = 0 := by rw [e_100]; exact q_90
              have q_105 : gp_I s_99 74 57 = 0 := by rw [e_100]; exact q_91
              have q_106 : gp_I s_99 74 58 = 0 := by rw [e_100]; exact q_92
              have q_107 : gp_I s_99 74 7 = 1 := by rw [e_100]; exact q_93
              have q_108 : gp_I s_99 74 9 = 0 := by rw [e_100]; exact q_94
              have q_109 : 0 ≤ gp_I s_99 81 20 ∧ gp_I s_99 81 20 ≤ 1 := by rw [e_100]; exact q_95
              have q_110 : gp_I s_99 81 19 = 1 := by rw [e_100]; exact q_96
              refine ⟨by omega, ?_⟩
              have f_111 := zr79 hs_101 ((1280 : Int).toNat)
              have e_112 : gp_I s_99 79 (1280 : Int).toNat = 0 := by omega
              try rw [e_112]
              refine ⟨by omega, ?_⟩
              intro s_113 e_114
              have hs_115 : zM z s_113 := by rw [e_114]; exact zw79 hs_101 _ _ (by omega)
              have q_116 : gp_I s_113 105 0 = 1 := by rw [e_114]; exact q_102
              have q_117 : gp_I s_113 74 11 = 0 := by rw [e_114]; exact q_103
              have q_118 : gp_I s_113 74 43 = 0 := by rw [e_114]; exact q_104
              have q_119 : gp_I s_113 74 57 = 0 := by rw [e_114]; exact q_105
              have q_120 : gp_I s_113 74 58 = 0 := by rw [e_114]; exact q_106
              have q_121 : gp_I s_113 74 7 = 1 := by rw [e_114]; exact q_107
              have q_122 : gp_I s_113 74 9 = 0 := by rw [e_114]; exact q_108
              have q_123 : 0 ≤ gp_I s_113 81 20 ∧ gp_I s_113 81 20 ≤ 1 := by rw [e_114]; exact q_109
              have q_124 : gp_I s_113 81 19 = 1 := by rw [e_114]; exact q_110
              refine ⟨by omega, ?_⟩
              have f_125 := zr80 hs_115 ((1280 : Int).toNat)
              have e_126 : gp_I s_113 80 (1280 : Int).toNat = 0 := by omega
              try rw [e_126]
              refine ⟨by omega, ?_⟩
              intro s_127 e_128
              have hs_129 : zM z s_127 := by rw [e_128]; exact zw80 hs_115 _ _ (by omega)
              have q_130 : gp_I s_127 105 0 = 1 := by rw [e_128]; exact q_116
              have q_131 : gp_I s_127 74 11 = 0 := by rw [e_128]; exact q_117
              have q_132 : gp_I s_127 74 43 = 0 := by rw [e_128]; exact q_118
              have q_133 : gp_I s_127 74 57 = 0 := by rw [e_128]; exact q_119
              have q_134 : gp_I s_127 74 58 = 0 := by rw [e_128]; exact q_120
              have q_135 : gp_I s_127 74 7 = 1 := by rw [e_128]; exact q_121
              have q_136 : gp_I s_127 74 9 = 0 := by rw [e_128]; exact q_122
              have q_137 : 0 ≤ gp_I s_127 81 20 ∧ gp_I s_127 81 20 ≤ 1 := by rw [e_128]; exact q_123
              have q_138 : gp_I s_127 81 19 = 1 := by rw [e_128]; exact q_124
              have w_139 := gz_w (0 + 1)
              have e_140 : gp_wr (0 + 1) = 1 := by omega
              try rw [e_140]
              refine s_3093_124 _ _ _ _ _ _ _ ?_
              refine ⟨fun h_141 => ?_, fun h_141 => ?_⟩
              · exfalso; omega
              · exact k s_127 hs_129 (by omega) (by omega) (by omega) (by omega) (by omega) (by omega) (by omega) (by omega) (by omega)
            · exfalso; omega
        · exfalso; omega
      · exfalso; omega
set_option maxRecDepth 100000 in
/-- GatheredPointsModel.isIn [0, 18446744073709451617, 99999] -/
theorem zm3073_12 {z : gH} {L d : Nat} {K : Option gV → gH → Prop} {s : gH}  (hs : zM z s)   (k : K (some (gp_i 1)) s) : gs_C L d 3073 6 [gp_l (0#64), gp_l (18446744073709451617#64), gp_l (99999#64)] s K := by
  refine s_3073_e _ _ _ ?_
  have e_1 : gp_cmp (0#64) (18446744073709451617#64) = 1 := by decide
  try rw [e_1]
  refine ⟨fun h_2 => ?_, fun h_2 => ?_⟩
  · exfalso; omega
  · have e_3 : gp_cmp (0#64) (99999#64) = (-1) := by decide
    try rw [e_3]
    refine ⟨fun h_4 => ?_, fun h_4 => ?_⟩
    · exfalso; omega
    · refine s_3073_18 _ _ _ _ ?_
      refine ⟨by omega, ?_⟩
      exact k
set_option maxRecDepth 100000 in
/-- GatheredPointsModel.isBig [(19, 19)] -/
theorem zm3095_0 {z : gH} {L d : Nat} {K : Option gV → gH → Prop} {s : gH}  (hs : zM z s)  (q0 : gp_I s 81 19 = 1) (q1 : 0 ≤ gp_I s 81 20 ∧ gp_I s 81 20 ≤ 1) (k : K (some (gp_i 0)) s) : gs_C L (d + 1) 3095 4 [gp_r (some 74), gp_i 19] s K := by
  refine s_3095_e _ ?_
  refine s_3095_4 _ _ _ ?_
  refine ⟨by omega, ?_⟩
  try rw [show gp_I s 81 (19 : Int).toNat = 1 from q0]
  refine ⟨fun h_1 => ?_, fun h_1 => ?_⟩
  · refine ⟨fun h_2 => ?_, fun h_2 => ?_⟩
    · have w_3 := gz_w (64 * 19)
      have e_4 : gp_wr (64 * 19) = 1216 := by omega
      try rw [e_4]
      have w_5 := gz_w (1216 + 0)
      have e_6 : gp_wr (1216 + 0) = 1216 := by omega
      try rw [e_6]
      refine ⟨by omega, ?_⟩
      try rw [zr76 hs ((1216 : Int).toNat)]
      have e_7 : gp_cmp (0#64) (0#64) = 0 := by decide
      try rw [e_7]
      refine ⟨fun h_8 => ?_, fun h_8 => ?_⟩
      · have w_9 := gz_w (64 * 19)
        have e_10 : gp_wr (64 * 19) = 1216 := by omega
        try rw [e_10]
        have w_11 := gz_w (1216 + 0)
        have e_12 : gp_wr (1216 + 0) = 1216 := by omega
        try rw [e_12]
        refine ⟨by omega, ?_⟩
        have f_13 := zr78 hs ((1216 : Int).toNat)
        have e_14 : gp_I s 78 (1216 : Int).toNat = 0 := by omega
        try rw [e_14]
        have e_15 : BitVec.ofInt 64 0 = 0#64 := by decide
        try rw [e_15]
        have e_16 : BitVec.ofInt 64 (-99999) = 18446744073709451617#64 := by decide
        try rw [e_16]
        have e_17 : BitVec.ofInt 64 99999 = 99999#64 := by decide
        try rw [e_17]
        refine zm3073_12 hs (⟨_, rfl, ?_⟩)
        refine ⟨fun h_18 => ?_, fun h_18 => ?_⟩
        · exfalso; omega
        · refine s_3095_58 _ _ _ ?_
          have w_19 := gz_w (64 * 19)
          have e_20 : gp_wr (64 * 19) = 1216 := by omega
          try rw [e_20]
          have w_21 := gz_w (1216 + 0)
          have e_22 : gp_wr (1216 + 0) = 1216 := by omega
          try rw [e_22]
          refine ⟨by omega, ?_⟩
          try rw [zr77 hs ((1216 : Int).toNat)]
          have e_23 : gp_cmp (0#64) (0#64) = 0 := by decide
          try rw [e_23]
          refine ⟨fun h_24 => ?_, fun h_24 => ?_⟩
          · have w_25 := gz_w (64 * 19)
            have e_26 : gp_wr (64 * 19) = 1216 := by omega
            try rw [e_26]
            have w_27 := gz_w (1216 + 0)
            have e_28 : gp_wr (1216 + 0) = 1216 := by omega
            try rw [e_28]
            refine ⟨by omega, ?_⟩
            have f_29 := zr79 hs ((1216 : Int).toNat)
            have e_30 : gp_I s 79 (1216 : Int).toNat = 0 := by omega
            try rw [e_30]
            have e_31 : BitVec.ofInt 64 0 = 0#64 := by decide
            try rw [e_31]
            have e_32 : BitVec.ofInt 64 (-99999) = 18446744073709451617#64 := by decide
            try rw [e_32]
            have e_33 : BitVec.ofInt 64 99999 = 99999#64 := by decide
            try rw [e_33]
            refine zm3073_12 hs (⟨_, rfl, ?_⟩)
            refine ⟨fun h_34 => ?_, fun h_34 => ?_⟩
            · exfalso; omega
            · refine s_3095_102 _ _ _ ?_
              refine s_3095_103 _ _ _ _ ?_
              have w_35 := gz_w (0 + 1)
              have e_36 : gp_wr (0 + 1) = 1 := by omega
              try rw [e_36]
              refine s_3095_4 _ _ _ ?_
              refine ⟨by omega, ?_⟩
              try rw [show gp_I s 81 (19 : Int).toNat = 1 from q0]
              refine ⟨fun h_37 => ?_, fun h_37 => ?_⟩
              · exfalso; omega
              · refine ⟨by omega, ?_⟩
                exact k
          · exfalso; omega
      · exfalso; omega
    · exfalso; omega
  · exfalso; omega
set_option maxRecDepth 100000 in
/-- GatheredPointsModel.results [(0, 0)] -/
theorem zm3119_0 {z : gH} {L d : Nat} {K : Option gV → gH → Prop} {s : gH}  (hs : zM z s)  (q0 : gp_I s 105 0 = 1) (q1 : gp_I s 74 11 = 0) (q2 : gp_I s 74 43 = 0) (q3 : gp_I s 74 57 = 0) (q4 : gp_I s 74 58 = 0) (q5 : gp_I s 74 7 = 1) (q6 : gp_I s 74 9 = 0) (q7 : 0 ≤ gp_I s 81 20 ∧ gp_I s 81 20 ≤ 1) (k : ∀ (t : gH), zM z t → (gp_I t 105 0 = 1) → (gp_I t 74 11 = 0) → (gp_I t 74 43 = 0) → (gp_I t 74 57 = 0) → (gp_I t 74 58 = 0) → (gp_I t 74 7 = 1) → (gp_I t 74 9 = 0) → (gp_I t 81 19 = 1) → (0 ≤ gp_I t 81 20 ∧ gp_I t 81 20 ≤ 1) → K (some (gp_i 0)) t) : gs_C L (d + 3) 3119 2 [gp_r (some 74), gp_i 0] s K := by
  refine s_3119_e _ ?_
  have f_1 := zr74_15 hs 15
  have e_2 : gp_I s 74 15 = 0 := by omega
  try rw [e_2]
  refine ⟨fun h_3 => ?_, fun h_3 => ?_⟩
  · refine zm3093_0 hs (by omega) (by omega) (by omega) (by omega) (by omega) (by omega) (by omega) (by omega) (fun s_4 hs_5 q_6 q_7 q_8 q_9 q_10 q_11 q_12 q_13 q_14 => ⟨rfl, ?_⟩)
    refine zm3095_0 hs_5 (by omega) (by omega) (⟨_, rfl, ?_⟩)
    refine ⟨fun h_15 => ?_, fun h_15 => ?_⟩
    · refine s_3119_31 _ _ ?_
      exact k s_4 hs_5 (by omega) (by omega) (by omega) (by omega) (by omega) (by omega) (by omega) (by omega) (by omega)
    · exfalso; omega
  · exfalso; omega
set_option maxRecDepth 100000 in
/-- GatheredPointsModel.sums, the loop at 6 -/
theorem zm3120_0_l6_0 {z : gH} {L d : Nat} {K : Option gV → gH → Prop} (p0 : Int) (p1 : Int)  (k : ∀ (t : gH), zM z t → (gp_I t 105 0 = 1) → (gp_I t 74 11 = 0) → (gp_I t 74 43 = 0) → (gp_I t 74 57 = 0) → (gp_I t 74 58 = 0) → (gp_I t 74 7 = 1) → (gp_I t 74 9 = 0) → (gp_I t 81 19 = 1) → (0 ≤ gp_I t 81 20 ∧ gp_I t 81 20 ≤ 1) → K (some (gp_i 0)) t)  : ∀ (n : Nat) (v1 : Int) (v2 : Int) (v3 : Int) (s : gH), zM z s → (4097 - v3).toNat < n → (0 ≤ v1 ∧ v1 ≤ 7) → (0 ≤ v2 ∧ v2 ≤ 7) → (0 ≤ v3 ∧ v3 ≤ 4096) → (gp_I s 74 11 = 0) → (gp_I s 74 43 = 0) → (gp_I s 74 57 = 0) → (gp_I s 74 58 = 0) → (gp_I s 74 7 = 1) → (gp_I s 74 9 = 0) → (gp_I s 81 20 = 0) → gs_E L (d + 5) 3120 6 [gp_r (some 74), gp_i v1, gp_i v2, gp_i v3] [] s K := by
  intro n
  induction n with
  | zero => intro v1 v2 v3 s hs hm i0 i1 i2 i3 i4 i5 i6 i7 i8 i9; exact absurd hm (Nat.not_lt_zero _)
  | succ n ih =>
    intro v1 v2 v3 s hs hm i0 i1 i2 i3 i4 i5 i6 i7 i8 i9
    refine s_3120_6 _ _ _ ?_
    refine ⟨fun h_1 => ?_, fun h_1 => ?_⟩
    · refine ⟨by omega, ?_⟩
      intro s_2 e_3
      have hs_4 : zM z s_2 := by rw [e_3]; exact zw105 hs _ _ (by omega)
      have q_5 : gp_I s_2 74 11 = 0 := by rw [e_3]; exact i3
      have q_6 : gp_I s_2 74 43 = 0 := by rw [e_3]; exact i4
      have q_7 : gp_I s_2 74 57 = 0 := by rw [e_3]; exact i5
      have q_8 : gp_I s_2 74 58 = 0 := by rw [e_3]; exact i6
      have q_9 : gp_I s_2 74 7 = 1 := by rw [e_3]; exact i7
      have q_10 : gp_I s_2 74 9 = 0 := by rw [e_3]; exact i8
      have q_11 : gp_I s_2 81 20 = 0 := by rw [e_3]; exact i9
      have w_12 := gz_w (v3 + 1)
      exact ih _ _ _ s_2 hs_4 (by omega) (by omega) (by omega) (by omega) (by omega) (by omega) (by omega) (by omega) (by omega) (by omega) (by omega)
    · have e_13 : v3 = 4096 := by omega
      subst e_13
      refine zm3081_0 _ hs (by omega) (by omega) (⟨_, rfl, ?_⟩)
      refine zm3081_0 _ hs (by omega) (by omega) (⟨_, rfl, ?_⟩)
      refine zm3118_0 _ _ hs (by omega) (by omega) (by omega) (by omega) (by omega) (by omega) (by omega) (by omega) (by omega) (fun s_14 hs_15 q_16 q_17 q_18 q_19 q_20 q_21 q_22 q_23 => ⟨_, rfl, ?_⟩)
      refine zm3119_0 hs_15 (by omega) (by omega) (by omega) (by omega) (by omega) (by omega) (by omega) (by omega) (fun s_24 hs_25 q_26 q_27 q_28 q_29 q_30 q_31 q_32 q_33 q_34 => ⟨_, rfl, ?_⟩)
      exact k s_24 hs_25 (by omega) (by omega) (by omega) (by omega) (by omega) (by omega) (by omega) (by omega) (by omega)
set_option maxRecDepth 100000 in
/-- GatheredPointsModel.sums [(0, 7), (0, 7)] -/
theorem zm3120_0 {z : gH} {L d : Nat} {K : Option gV → gH → Prop} {s : gH} (p0 : Int) (p1 : Int) (hs : zM z s) (h_p0 : 0 ≤ p0 ∧ p0 ≤ 7) (h_p1 : 0 ≤ p1 ∧ p1 ≤ 7) (q0 : gp_I s 74 11 = 0) (q1 : gp_I s 74 43 = 0) (q2 : gp_I s 74 57 = 0) (q3 : gp_I s 74 58 = 0) (q4 : gp_I s 74 7 = 1) (q5 : gp_I s 74 9 = 0) (q6 : gp_I s 81 20 = 0) (k : ∀ (t : gH), zM z t → (gp_I t 105 0 = 1) → (gp_I t 74 11 = 0) → (gp_I t 74 43 = 0) → (gp_I t 74 57 = 0) → (gp_I t 74 58 = 0) → (gp_I t 74 7 = 1) → (gp_I t 74 9 = 0) → (gp_I t 81 19 = 1) → (0 ≤ gp_I t 81 20 ∧ gp_I t 81 20 ≤ 1) → K (some (gp_i 0)) t) : gs_C L (d + 5) 3120 4 [gp_r (some 74), gp_i p0, gp_i p1] s K := by
  refine s_3120_e _ _ ?_
  refine zm3085_0 hs (by omega) (by omega) (by omega) (by omega) (by omega) (by omega) (by omega) (fun s_1 hs_2 q_3 q_4 q_5 q_6 q_7 q_8 q_9 => ⟨rfl, ?_⟩)
  exact zm3120_0_l6_0 p0 p1 k _ _ _ _ s_1 hs_2 (Nat.lt_succ_self _) (by omega) (by omega) (by omega) (by omega) (by omega) (by omega) (by omega) (by omega) (by omega) (by omega)
set_option maxRecDepth 100000 in
/-- GatheredPointsModel.copies [(19, 19), (0, 7)] -/
theorem zm3084_0 {z : gH} {L d : Nat} {K : Option gV → gH → Prop} {s : gH} (p1 : Int) (hs : zM z s) (h_p1 : 0 ≤ p1 ∧ p1 ≤ 7) (q0 : gp_I s 105 0 = 1) (q1 : gp_I s 74 11 = 0) (q2 : gp_I s 74 43 = 0) (q3 : gp_I s 74 57 = 0) (q4 : gp_I s 74 58 = 0) (q5 : gp_I s 74 7 = 1) (q6 : gp_I s 74 9 = 0) (q7 : gp_I s 81 19 = 1) (q8 : 0 ≤ gp_I s 81 20 ∧ gp_I s 81 20 ≤ 1) (k : ∀ (t : gH), zM z t → (gp_I t 105 0 = 1) → (gp_I t 74 11 = 0) → (gp_I t 74 43 = 0) → (gp_I t 74 57 = 0) → (gp_I t 74 58 = 0) → (gp_I t 74 7 = 1) → (gp_I t 74 9 = 0) → (gp_I t 81 19 = 1) → (0 ≤ gp_I t 81 20 ∧ gp_I t 81 20 ≤ 1) → K none t) : gs_C L d 3084 6 [gp_r (some 74), gp_i 19, gp_i p1] s K := by
  refine s_3084_e _ _ ?_
  refine ⟨by omega, ?_⟩
  try rw [show gp_I s 81 (19 : Int).toNat = 1 from q7]
  refine ⟨by omega, ?_⟩
  intro s_1 e_2
  have hs_3 : zM z s_1 := by rw [e_2]; exact zw81 hs _ _ (by omega)
  have q_4 : gp_I s_1 105 0 = 1 := by rw [e_2]; exact q0
  have q_5 : gp_I s_1 74 11 = 0 := by rw [e_2]; exact q1
  have q_6 : gp_I s_1 74 43 = 0 := by rw [e_2]; exact q2
  have q_7 : gp_I s_1 74 57 = 0 := by rw [e_2]; exact q3
  have q_8 : gp_I s_1 74 58 = 0 := by rw [e_2]; exact q4
  have q_9 : gp_I s_1 74 7 = 1 := by rw [e_2]; exact q5
  have q_10 : gp_I s_1 74 9 = 0 := by rw [e_2]; exact q6
  have q_11 : gp_I s_1 81 19 = 1 := by rw [e_2]; exact gz_oI (by omega) q7
  have q_12 : 0 ≤ gp_I s_1 81 20 ∧ gp_I s_1 81 20 ≤ 1 := by rw [e_2, gz_oe (by omega)]; exact q8
  refine s_3084_14 _ _ _ _ _ ?_
  refine ⟨by omega, ?_⟩
  try rw [show gp_I s_1 81 (19 : Int).toNat = 1 from q_11]
  refine ⟨fun h_13 => ?_, fun h_13 => ?_⟩
  · have w_14 := gz_w (64 * 19)
    have e_15 : gp_wr (64 * 19) = 1216 := by omega
    try rw [e_15]
    have w_16 := gz_w (1216 + 0)
    have e_17 : gp_wr (1216 + 0) = 1216 := by omega
    try rw [e_17]
    have w_18 := gz_w (64 * p1)
    have w_19 := gz_w ((gp_wr (64 * p1)) + 0)
    refine ⟨by omega, ?_⟩
    try rw [zr76 hs_3 ((1216 : Int).toNat)]
    refine ⟨by omega, ?_⟩
    intro s_20 e_21
    have hs_22 : zM z s_20 := by rw [e_21]; exact zw76 hs_3 _ _ rfl
    have q_23 : gp_I s_20 105 0 = 1 := by rw [e_21]; exact q_4
    have q_24 : gp_I s_20 74 11 = 0 := by rw [e_21]; exact q_5
    have q_25 : gp_I s_20 74 43 = 0 := by rw [e_21]; exact q_6
    have q_26 : gp_I s_20 74 57 = 0 := by rw [e_21]; exact q_7
    have q_27 : gp_I s_20 74 58 = 0 := by rw [e_21]; exact q_8
    have q_28 : gp_I s_20 74 7 = 1 := by rw [e_21]; exact q_9
    have q_29 : gp_I s_20 74 9 = 0 := by rw [e_21]; exact q_10
    have q_30 : gp_I s_20 81 19 = 1 := by rw [e_21]; exact q_11
    have q_31 : 0 ≤ gp_I s_20 81 20 ∧ gp_I s_20 81 20 ≤ 1 := by rw [e_21]; exact q_12
    refine ⟨by omega, ?_⟩
    try rw [zr77 hs_22 ((1216 : Int).toNat)]
    refine ⟨by omega, ?_⟩
    intro s_32 e_33
    have hs_34 : zM z s_32 := by rw [e_33]; exact zw77 hs_22 _ _ rfl
    have q_35 : gp_I s_32 105 0 = 1 := by rw [e_33]; exact q_23
    have q_36 : gp_I s_32 74 11 = 0 := by rw [e_33]; exact q_24
    have q_37 : gp_I s_32 74 43 = 0 := by rw [e_33]; exact q_25
    have q_38 : gp_I s_32 74 57 = 0 := by rw [e_33]; exact q_26
    have q_39 : gp_I s_32 74 58 = 0 := by rw [e_33]; exact q_27
    have q_40 : gp_I s_32 74 7 = 1 := by rw [e_33]; exact q_28
    have q_41 : gp_I s_32 74 9 = 0 := by rw [e_33]; exact q_29
    have q_42 : gp_I s_32 81 19 = 1 := by rw [e_33]; exact q_30
    have q_43 : 0 ≤ gp_I s_32 81 20 ∧ gp_I s_32 81 20 ≤ 1 := by rw [e_33]; exact q_31
    refine ⟨by omega, ?_⟩
    have f_44 := zr78 hs_34 ((1216 : Int).toNat)
    have e_45 : gp_I s_32 78 (1216 : Int).toNat = 0 := by omega
    try rw [e_45]
    refine ⟨by omega, ?_⟩
    intro s_46 e_47
    have hs_48 : zM z s_46 := by rw [e_47]; exact zw78 hs_34 _ _ (by omega)
    have q_49 : gp_I s_46 105 0 = 1 := by rw [e_47]; exact q_35
    have q_50 : gp_I s_46 74 11 = 0 := by rw [e_47]; exact q_36
    have q_51 : gp_I s_46 74 43 = 0 := by rw [e_47]; exact q_37
    have q_52 : gp_I s_46 74 57 = 0 := by rw [e_47]; exact q_38
    have q_53 : gp_I s_46 74 58 = 0 := by rw [e_47]; exact q_39
    have q_54 : gp_I s_46 74 7 = 1 := by rw [e_47]; exact q_40
    have q_55 : gp_I s_46 74 9 = 0 := by rw [e_47]; exact q_41
    have q_56 : gp_I s_46 81 19 = 1 := by rw [e_47]; exact q_42
    have q_57 : 0 ≤ gp_I s_46 81 20 ∧ gp_I s_46 81 20 ≤ 1 := by rw [e_47]; exact q_43
    refine ⟨by omega, ?_⟩
    have f_58 := zr79 hs_48 ((1216 : Int).toNat)
    have e_59 : gp_I s_46 79 (1216 : Int).toNat = 0 := by omega
    try rw [e_59]
    refine ⟨by omega, ?_⟩
    intro s_60 e_61
    have hs_62 : zM z s_60 := by rw [e_61]; exact zw79 hs_48 _ _ (by omega)
    have q_63 : gp_I s_60 105 0 = 1 := by rw [e_61]; exact q_49
    have q_64 : gp_I s_60 74 11 = 0 := by rw [e_61]; exact q_50
    have q_65 : gp_I s_60 74 43 = 0 := by rw [e_61]; exact q_51
    have q_66 : gp_I s_60 74 57 = 0 := by rw [e_61]; exact q_52
    have q_67 : gp_I s_60 74 58 = 0 := by rw [e_61]; exact q_53
    have q_68 : gp_I s_60 74 7 = 1 := by rw [e_61]; exact q_54
    have q_69 : gp_I s_60 74 9 = 0 := by rw [e_61]; exact q_55
    have q_70 : gp_I s_60 81 19 = 1 := by rw [e_61]; exact q_56
    have q_71 : 0 ≤ gp_I s_60 81 20 ∧ gp_I s_60 81 20 ≤ 1 := by rw [e_61]; exact q_57
    refine ⟨by omega, ?_⟩
    have f_72 := zr80 hs_62 ((1216 : Int).toNat)
    have e_73 : gp_I s_60 80 (1216 : Int).toNat = 0 := by omega
    try rw [e_73]
    refine ⟨by omega, ?_⟩
    intro s_74 e_75
    have hs_76 : zM z s_74 := by rw [e_75]; exact zw80 hs_62 _ _ (by omega)
    have q_77 : gp_I s_74 105 0 = 1 := by rw [e_75]; exact q_63
    have q_78 : gp_I s_74 74 11 = 0 := by rw [e_75]; exact q_64
    have q_79 : gp_I s_74 74 43 = 0 := by rw [e_75]; exact q_65
    have q_80 : gp_I s_74 74 57 = 0 := by rw [e_75]; exact q_66
    have q_81 : gp_I s_74 74 58 = 0 := by rw [e_75]; exact q_67
    have q_82 : gp_I s_74 74 7 = 1 := by rw [e_75]; exact q_68
    have q_83 : gp_I s_74 74 9 = 0 := by rw [e_75]; exact q_69
    have q_84 : gp_I s_74 81 19 = 1 := by rw [e_75]; exact q_70
    have q_85 : 0 ≤ gp_I s_74 81 20 ∧ gp_I s_74 81 20 ≤ 1 := by rw [e_75]; exact q_71
    have w_86 := gz_w (0 + 1)
    have e_87 : gp_wr (0 + 1) = 1 := by omega
    try rw [e_87]
    refine s_3084_14 _ _ _ _ _ ?_
    refine ⟨by omega, ?_⟩
    try rw [show gp_I s_74 81 (19 : Int).toNat = 1 from q_84]
    refine ⟨fun h_88 => ?_, fun h_88 => ?_⟩
    · exfalso; omega
    · exact k s_74 hs_76 (by omega) (by omega) (by omega) (by omega) (by omega) (by omega) (by omega) (by omega) (by omega)
  · exfalso; omega
set_option maxRecDepth 100000 in
/-- GatheredPointsModel.holds [(0, 7)] -/
theorem zm3123_0 {z : gH} {L d : Nat} {K : Option gV → gH → Prop} {s : gH} (p0 : Int) (hs : zM z s) (h_p0 : 0 ≤ p0 ∧ p0 ≤ 7) (q0 : gp_I s 105 0 = 1) (q1 : gp_I s 74 11 = 0) (q2 : gp_I s 74 43 = 0) (q3 : gp_I s 74 57 = 0) (q4 : gp_I s 74 58 = 0) (q5 : gp_I s 74 7 = 1) (q6 : gp_I s 74 9 = 0) (q7 : gp_I s 81 19 = 1) (q8 : 0 ≤ gp_I s 81 20 ∧ gp_I s 81 20 ≤ 1) (k : ∀ (t : gH), zM z t → (gp_I t 105 0 = 1) → (gp_I t 74 11 = 0) → (gp_I t 74 43 = 0) → (gp_I t 74 57 = 0) → (gp_I t 74 58 = 0) → (gp_I t 74 7 = 1) → (gp_I t 74 9 = 0) → (gp_I t 81 19 = 1) → (0 ≤ gp_I t 81 20 ∧ gp_I t 81 20 ≤ 1) → K (some (gp_i 1)) t) : gs_C L (d + 1) 3123 2 [gp_r (some 74), gp_i p0] s K := by
  refine s_3123_e _ ?_
  refine zm3084_0 _ hs (by omega) (by omega) (by omega) (by omega) (by omega) (by omega) (by omega) (by omega) (by omega) (by omega) (fun s_1 hs_2 q_3 q_4 q_5 q_6 q_7 q_8 q_9 q_10 q_11 => ⟨rfl, ?_⟩)
  refine ⟨by omega, ?_⟩
  have f_12 := zr81 hs_2 p0.toNat
  have e_13 : gp_I s_1 81 p0.toNat = 1 := by omega
  try rw [e_13]
  exact k s_1 hs_2 (by omega) (by omega) (by omega) (by omega) (by omega) (by omega) (by omega) (by omega) (by omega)
set_option maxRecDepth 100000 in
/-- GatheredPointsModel.join [(0, 7), (0, 7), (0, 7)] -/
theorem zm3146_6 {z : gH} {L d : Nat} {K : Option gV → gH → Prop} {s : gH} (p0 : Int) (p1 : Int) (p2 : Int) (hs : zM z s) (h_p0 : 0 ≤ p0 ∧ p0 ≤ 7) (h_p1 : 0 ≤ p1 ∧ p1 ≤ 7) (h_p2 : 0 ≤ p2 ∧ p2 ≤ 7) (q0 : gp_I s 74 11 = 0) (q1 : gp_I s 74 43 = 0) (q2 : gp_I s 74 57 = 0) (q3 : gp_I s 74 58 = 0) (q4 : gp_I s 74 7 = 1) (q5 : gp_I s 74 9 = 0) (q6 : gp_I s 81 20 = 0) (k : ∀ (t : gH), zM z t → (gp_I t 105 0 = 1) → (gp_I t 74 11 = 0) → (gp_I t 74 43 = 0) → (gp_I t 74 57 = 0) → (gp_I t 74 58 = 0) → (gp_I t 74 7 = 1) → (gp_I t 74 9 = 0) → (gp_I t 81 19 = 1) → (0 ≤ gp_I t 81 20 ∧ gp_I t 81 20 ≤ 1) → K (some (gp_i 1)) t) : gs_C L (d + 6) 3146 5 [gp_r (some 74), gp_i p0, gp_i p1, gp_i p2] s K := by
  refine s_3146_e _ _ _ ?_
  refine zm3075_2 _ hs (by omega) (⟨_, rfl, ?_⟩)
  refine ⟨fun h_1 => ?_, fun h_1 => ?_⟩
  · exfalso; omega
  · refine zm3075_2 _ hs (by omega) (⟨_, rfl, ?_⟩)
    refine ⟨fun h_2 => ?_, fun h_2 => ?_⟩
    · exfalso; omega
    · refine zm3075_2 _ hs (by omega) (⟨_, rfl, ?_⟩)
      refine ⟨fun h_3 => ?_, fun h_3 => ?_⟩
      · exfalso; omega
      · refine zm3120_0 _ _ hs (by omega) (by omega) (by omega) (by omega) (by omega) (by omega) (by omega) (by omega) (by omega) (fun s_4 hs_5 q_6 q_7 q_8 q_9 q_10 q_11 q_12 q_13 q_14 => ⟨_, rfl, ?_⟩)
        refine ⟨fun h_15 => ?_, fun h_15 => ?_⟩
        · refine zm3123_0 _ hs_5 (by omega) (by omega) (by omega) (by omega) (by omega) (by omega) (by omega) (by omega) (by omega) (by omega) (fun s_16 hs_17 q_18 q_19 q_20 q_21 q_22 q_23 q_24 q_25 q_26 => ⟨_, rfl, ?_⟩)
          refine s_3146_54 _ _ _ _ _ ?_
          exact k s_16 hs_17 (by omega) (by omega) (by omega) (by omega) (by omega) (by omega) (by omega) (by omega) (by omega)
        · exfalso; omega
set_option maxRecDepth 100000 in
/-- GatheredPointsModel.negate [(-2147483648, -1), (-2147483648, 2147483647)] -/
theorem zm3147_0 {z : gH} {L d : Nat} {K : Option gV → gH → Prop} {s : gH} (p0 : Int) (p1 : Int) (hs : zM z s) (h_p0 : (-2147483648) ≤ p0 ∧ p0 ≤ (-1)) (h_p1 : (-2147483648) ≤ p1 ∧ p1 ≤ 2147483647) (q0 : gp_I s 74 11 = 0) (q1 : gp_I s 74 43 = 0) (q2 : gp_I s 74 57 = 0) (q3 : gp_I s 74 58 = 0) (q4 : gp_I s 74 7 = 1) (q5 : gp_I s 74 9 = 0) (q6 : gp_I s 81 20 = 0) (k : ∀ (t : gH), zM z t → (gp_I t 74 11 = 0) → (gp_I t 74 43 = 0) → (gp_I t 74 57 = 0) → (gp_I t 74 58 = 0) → (gp_I t 74 7 = 1) → (gp_I t 74 9 = 0) → ((-2147483648) ≤ gp_I t 75 1 ∧ gp_I t 75 1 ≤ 2147483647) → (gp_I t 81 20 = 0) → K (some (gp_i (-1000000001))) t) : gs_C L (d + 1) 3147 3 [gp_r (some 74), gp_i p0, gp_i p1] s K := by
  refine s_3147_e _ _ ?_
  refine zm3075_0 _ hs (by omega) (⟨_, rfl, ?_⟩)
  refine ⟨fun h_1 => ?_, fun h_1 => ?_⟩
  · refine s_3147_14 _ _ ?_
    refine zm3074_1 hs (by omega) (by omega) (by omega) (by omega) (by omega) (by omega) (by omega) (fun s_2 hs_3 q_4 q_5 q_6 q_7 q_8 q_9 q_10 q_11 => ⟨_, rfl, ?_⟩)
    exact k s_2 hs_3 (by omega) (by omega) (by omega) (by omega) (by omega) (by omega) (by omega) (by omega)
  · exfalso; omega
set_option maxRecDepth 100000 in
/-- GatheredPointsModel.negate [(8, 2147483647), (-2147483648, 2147483647)] -/
theorem zm3147_1 {z : gH} {L d : Nat} {K : Option gV → gH → Prop} {s : gH} (p0 : Int) (p1 : Int) (hs : zM z s) (h_p0 : 8 ≤ p0 ∧ p0 ≤ 2147483647) (h_p1 : (-2147483648) ≤ p1 ∧ p1 ≤ 2147483647) (q0 : gp_I s 74 11 = 0) (q1 : gp_I s 74 43 = 0) (q2 : gp_I s 74 57 = 0) (q3 : gp_I s 74 58 = 0) (q4 : gp_I s 74 7 = 1) (q5 : gp_I s 74 9 = 0) (q6 : gp_I s 81 20 = 0) (k : ∀ (t : gH), zM z t → (gp_I t 74 11 = 0) → (gp_I t 74 43 = 0) → (gp_I t 74 57 = 0) → (gp_I t 74 58 = 0) → (gp_I t 74 7 = 1) → (gp_I t 74 9 = 0) → ((-2147483648) ≤ gp_I t 75 1 ∧ gp_I t 75 1 ≤ 2147483647) → (gp_I t 81 20 = 0) → K (some (gp_i (-1000000001))) t) : gs_C L (d + 1) 3147 3 [gp_r (some 74), gp_i p0, gp_i p1] s K := by
  refine s_3147_e _ _ ?_
  refine zm3075_1 _ hs (by omega) (⟨_, rfl, ?_⟩)
  refine ⟨fun h_1 => ?_, fun h_1 => ?_⟩
  · refine s_3147_14 _ _ ?_
    refine zm3074_1 hs (by omega) (by omega) (by omega) (by omega) (by omega) (by omega) (by omega) (fun s_2 hs_3 q_4 q_5 q_6 q_7 q_8 q_9 q_10 q_11 => ⟨_, rfl, ?_⟩)
    exact k s_2 hs_3 (by omega) (by omega) (by omega) (by omega) (by omega) (by omega) (by omega) (by omega)
  · exfalso; omega
set_option maxRecDepth 100000 in
/-- GatheredPointsModel.negate [(0, 7), (-2147483648, -1)] -/
theorem zm3147_2 {z : gH} {L d : Nat} {K : Option gV → gH → Prop} {s : gH} (p0 : Int) (p1 : Int) (hs : zM z s) (h_p0 : 0 ≤ p0 ∧ p0 ≤ 7) (h_p1 : (-2147483648) ≤ p1 ∧ p1 ≤ (-1)) (q0 : gp_I s 74 11 = 0) (q1 : gp_I s 74 43 = 0) (q2 : gp_I s 74 57 = 0) (q3 : gp_I s 74 58 = 0) (q4 : gp_I s 74 7 = 1) (q5 : gp_I s 74 9 = 0) (q6 : gp_I s 81 20 = 0) (k : ∀ (t : gH), zM z t → (gp_I t 74 11 = 0) → (gp_I t 74 43 = 0) → (gp_I t 74 57 = 0) → (gp_I t 74 58 = 0) → (gp_I t 74 7 = 1) → (gp_I t 74 9 = 0) → ((-2147483648) ≤ gp_I t 75 1 ∧ gp_I t 75 1 ≤ 2147483647) → (gp_I t 81 20 = 0) → K (some (gp_i (-1000000001))) t) : gs_C L (d + 1) 3147 3 [gp_r (some 74), gp_i p0, gp_i p1] s K := by
  refine s_3147_e _ _ ?_
  refine zm3075_2 _ hs (by omega) (⟨_, rfl, ?_⟩)
  refine ⟨fun h_1 => ?_, fun h_1 => ?_⟩
  · exfalso; omega
  · refine zm3075_0 _ hs (by omega) (⟨_, rfl, ?_⟩)
    refine ⟨fun h_2 => ?_, fun h_2 => ?_⟩
    · refine s_3147_14 _ _ ?_
      refine zm3074_1 hs (by omega) (by omega) (by omega) (by omega) (by omega) (by omega) (by omega) (fun s_3 hs_4 q_5 q_6 q_7 q_8 q_9 q_10 q_11 q_12 => ⟨_, rfl, ?_⟩)
      exact k s_3 hs_4 (by omega) (by omega) (by omega) (by omega) (by omega) (by omega) (by omega) (by omega)
    · exfalso; omega
set_option maxRecDepth 100000 in
/-- GatheredPointsModel.negate [(0, 7), (8, 2147483647)] -/
theorem zm3147_3 {z : gH} {L d : Nat} {K : Option gV → gH → Prop} {s : gH} (p0 : Int) (p1 : Int) (hs : zM z s) (h_p0 : 0 ≤ p0 ∧ p0 ≤ 7) (h_p1 : 8 ≤ p1 ∧ p1 ≤ 2147483647) (q0 : gp_I s 74 11 = 0) (q1 : gp_I s 74 43 = 0) (q2 : gp_I s 74 57 = 0) (q3 : gp_I s 74 58 = 0) (q4 : gp_I s 74 7 = 1) (q5 : gp_I s 74 9 = 0) (q6 : gp_I s 81 20 = 0) (k : ∀ (t : gH), zM z t → (gp_I t 74 11 = 0) → (gp_I t 74 43 = 0) → (gp_I t 74 57 = 0) → (gp_I t 74 58 = 0) → (gp_I t 74 7 = 1) → (gp_I t 74 9 = 0) → ((-2147483648) ≤ gp_I t 75 1 ∧ gp_I t 75 1 ≤ 2147483647) → (gp_I t 81 20 = 0) → K (some (gp_i (-1000000001))) t) : gs_C L (d + 1) 3147 3 [gp_r (some 74), gp_i p0, gp_i p1] s K := by
  refine s_3147_e _ _ ?_
  refine zm3075_2 _ hs (by omega) (⟨_, rfl, ?_⟩)
  refine ⟨fun h_1 => ?_, fun h_1 => ?_⟩
  · exfalso; omega
  · refine zm3075_1 _ hs (by omega) (⟨_, rfl, ?_⟩)
    refine ⟨fun h_2 => ?_, fun h_2 => ?_⟩
    · refine s_3147_14 _ _ ?_
      refine zm3074_1 hs (by omega) (by omega) (by omega) (by omega) (by omega) (by omega) (by omega) (fun s_3 hs_4 q_5 q_6 q_7 q_8 q_9 q_10 q_11 q_12 => ⟨_, rfl, ?_⟩)
      exact k s_3 hs_4 (by omega) (by omega) (by omega) (by omega) (by omega) (by omega) (by omega) (by omega)
    · exfalso; omega
set_option maxRecDepth 100000 in
/-- GatheredPointsModel.lays [(0, 0), 0, 0, (0, 0), (0, 0)] -/
theorem zm3087_1 {z : gH} {L d : Nat} {K : Option gV → gH → Prop} {s : gH}  (hs : zM z s)  (q0 : gp_I s 74 11 = 0) (q1 : gp_I s 74 43 = 0) (q2 : gp_I s 74 57 = 0) (q3 : gp_I s 74 58 = 0) (q4 : gp_I s 74 7 = 1) (q5 : gp_I s 74 9 = 0) (q6 : gp_I s 81 20 = 0) (k : ∀ (t : gH), zM z t → (gp_I t 74 11 = 0) → (gp_I t 74 43 = 0) → (gp_I t 74 57 = 0) → (gp_I t 74 58 = 0) → (gp_I t 74 7 = 1) → (gp_I t 74 9 = 0) → (gp_I t 81 20 = 0) → K none t) : gs_C L (d + 2) 3087 9 [gp_r (some 74), gp_i 0, gp_l (0#64), gp_l (0#64), gp_i 0, gp_i 0] s K := by
  refine s_3087_e _ _ _ _ _ ?_
  have w_1 := gz_w (1280 + 0)
  have e_2 : gp_wr (1280 + 0) = 1280 := by omega
  try rw [e_2]
  refine ⟨by omega, ?_⟩
  intro s_3 e_4
  have hs_5 : zM z s_3 := by rw [e_4]; exact zw76 hs _ _ rfl
  have q_6 : gp_I s_3 74 11 = 0 := by rw [e_4]; exact q0
  have q_7 : gp_I s_3 74 43 = 0 := by rw [e_4]; exact q1
  have q_8 : gp_I s_3 74 57 = 0 := by rw [e_4]; exact q2
  have q_9 : gp_I s_3 74 58 = 0 := by rw [e_4]; exact q3
  have q_10 : gp_I s_3 74 7 = 1 := by rw [e_4]; exact q4
  have q_11 : gp_I s_3 74 9 = 0 := by rw [e_4]; exact q5
  have q_12 : gp_I s_3 81 20 = 0 := by rw [e_4]; exact q6
  refine ⟨by omega, ?_⟩
  intro s_13 e_14
  have hs_15 : zM z s_13 := by rw [e_14]; exact zw77 hs_5 _ _ rfl
  have q_16 : gp_I s_13 74 11 = 0 := by rw [e_14]; exact q_6
  have q_17 : gp_I s_13 74 43 = 0 := by rw [e_14]; exact q_7
  have q_18 : gp_I s_13 74 57 = 0 := by rw [e_14]; exact q_8
  have q_19 : gp_I s_13 74 58 = 0 := by rw [e_14]; exact q_9
  have q_20 : gp_I s_13 74 7 = 1 := by rw [e_14]; exact q_10
  have q_21 : gp_I s_13 74 9 = 0 := by rw [e_14]; exact q_11
  have q_22 : gp_I s_13 81 20 = 0 := by rw [e_14]; exact q_12
  have e_23 : gp_cmp (0#64) (0#64) = 0 := by decide
  try rw [e_23]
  refine ⟨fun h_24 => ?_, fun h_24 => ?_⟩
  · refine s_3087_42 _ _ _ _ _ _ _ _ ?_
    refine ⟨by omega, ?_⟩
    intro s_25 e_26
    have hs_27 : zM z s_25 := by rw [e_26]; exact zw78 hs_15 _ _ (by omega)
    have q_28 : gp_I s_25 74 11 = 0 := by rw [e_26]; exact q_16
    have q_29 : gp_I s_25 74 43 = 0 := by rw [e_26]; exact q_17
    have q_30 : gp_I s_25 74 57 = 0 := by rw [e_26]; exact q_18
    have q_31 : gp_I s_25 74 58 = 0 := by rw [e_26]; exact q_19
    have q_32 : gp_I s_25 74 7 = 1 := by rw [e_26]; exact q_20
    have q_33 : gp_I s_25 74 9 = 0 := by rw [e_26]; exact q_21
    have q_34 : gp_I s_25 81 20 = 0 := by rw [e_26]; exact q_22
    have e_35 : gp_cmp (0#64) (0#64) = 0 := by decide
    try rw [e_35]
    refine ⟨fun h_36 => ?_, fun h_36 => ?_⟩
    · refine s_3087_62 _ _ _ _ _ _ _ _ ?_
      refine ⟨by omega, ?_⟩
      intro s_37 e_38
      have hs_39 : zM z s_37 := by rw [e_38]; exact zw79 hs_27 _ _ (by omega)
      have q_40 : gp_I s_37 74 11 = 0 := by rw [e_38]; exact q_28
      have q_41 : gp_I s_37 74 43 = 0 := by rw [e_38]; exact q_29
      have q_42 : gp_I s_37 74 57 = 0 := by rw [e_38]; exact q_30
      have q_43 : gp_I s_37 74 58 = 0 := by rw [e_38]; exact q_31
      have q_44 : gp_I s_37 74 7 = 1 := by rw [e_38]; exact q_32
      have q_45 : gp_I s_37 74 9 = 0 := by rw [e_38]; exact q_33
      have q_46 : gp_I s_37 81 20 = 0 := by rw [e_38]; exact q_34
      have e_47 : (0#64) ||| (0#64) = 0#64 := by decide
      try rw [e_47]
      refine zm3086_0 hs_39 (⟨_, rfl, ?_⟩)
      refine ⟨by omega, ?_⟩
      intro s_48 e_49
      have hs_50 : zM z s_48 := by rw [e_49]; exact zw80 hs_39 _ _ (by omega)
      have q_51 : gp_I s_48 74 11 = 0 := by rw [e_49]; exact q_40
      have q_52 : gp_I s_48 74 43 = 0 := by rw [e_49]; exact q_41
      have q_53 : gp_I s_48 74 57 = 0 := by rw [e_49]; exact q_42
      have q_54 : gp_I s_48 74 58 = 0 := by rw [e_49]; exact q_43
      have q_55 : gp_I s_48 74 7 = 1 := by rw [e_49]; exact q_44
      have q_56 : gp_I s_48 74 9 = 0 := by rw [e_49]; exact q_45
      have q_57 : gp_I s_48 81 20 = 0 := by rw [e_49]; exact q_46
      exact k s_48 hs_50 (by omega) (by omega) (by omega) (by omega) (by omega) (by omega) (by omega)
    · exfalso; omega
  · exfalso; omega
set_option maxRecDepth 100000 in
/-- GatheredPointsModel.made [0, 0, (0, 0), (0, 0)] -/
theorem zm3088_1 {z : gH} {L d : Nat} {K : Option gV → gH → Prop} {s : gH}  (hs : zM z s)  (q0 : gp_I s 74 11 = 0) (q1 : gp_I s 74 43 = 0) (q2 : gp_I s 74 57 = 0) (q3 : gp_I s 74 58 = 0) (q4 : gp_I s 74 7 = 1) (q5 : gp_I s 74 9 = 0) (q6 : gp_I s 81 20 = 0) (k : ∀ (t : gH), zM z t → (gp_I t 74 11 = 0) → (gp_I t 74 43 = 0) → (gp_I t 74 57 = 0) → (gp_I t 74 58 = 0) → (gp_I t 74 7 = 1) → (gp_I t 74 9 = 0) → (gp_I t 81 20 = 1) → K (some (gp_i 0)) t) : gs_C L (d + 3) 3088 9 [gp_r (some 74), gp_l (0#64), gp_l (0#64), gp_i 0, gp_i 0] s K := by
  refine s_3088_e _ _ _ _ ?_
  refine s_3088_3 _ _ _ _ _ _ ?_
  try rw [show gp_I s 81 20 = 0 from q6]
  refine ⟨fun h_1 => ?_, fun h_1 => ?_⟩
  · exfalso; omega
  · try rw [show gp_I s 81 20 = 0 from q6]
    refine ⟨fun h_2 => ?_, fun h_2 => ?_⟩
    · exfalso; omega
    · try rw [show gp_I s 81 20 = 0 from q6]
      refine zm3087_1 hs (by omega) (by omega) (by omega) (by omega) (by omega) (by omega) (by omega) (fun s_3 hs_4 q_5 q_6 q_7 q_8 q_9 q_10 q_11 => ⟨rfl, ?_⟩)
      try rw [show gp_I s_3 81 20 = 0 from q_11]
      have w_12 := gz_w (0 + 1)
      have e_13 : gp_wr (0 + 1) = 1 := by omega
      try rw [e_13]
      intro s_14 e_15
      have hs_16 : zM z s_14 := by rw [e_15]; exact zw81 hs_4 _ _ (by omega)
      have q_17 : gp_I s_14 74 11 = 0 := by rw [e_15]; exact q_5
      have q_18 : gp_I s_14 74 43 = 0 := by rw [e_15]; exact q_6
      have q_19 : gp_I s_14 74 57 = 0 := by rw [e_15]; exact q_7
      have q_20 : gp_I s_14 74 58 = 0 := by rw [e_15]; exact q_8
      have q_21 : gp_I s_14 74 7 = 1 := by rw [e_15]; exact q_9
      have q_22 : gp_I s_14 74 9 = 0 := by rw [e_15]; exact q_10
      have q_23 : gp_I s_14 81 20 = 1 := by rw [e_15]; rfl
      try rw [show gp_I s_14 81 20 = 1 from q_23]
      have w_25 := gz_w (1 - 1)
      have e_26 : gp_wr (1 - 1) = 0 := by omega
      try rw [e_26]
      exact k s_14 hs_16 (by omega) (by omega) (by omega) (by omega) (by omega) (by omega) (by omega)
set_option maxRecDepth 100000 in
/-- GatheredPointsModel.forgets, the loop at 2 -/
theorem zm3089_2_l2_0 {z : gH} {L d : Nat} {K : Option gV → gH → Prop}   (k : ∀ (t : gH), zM z t → (gp_I t 74 11 = 0) → (gp_I t 74 43 = 0) → (gp_I t 74 57 = 0) → (gp_I t 74 58 = 0) → (gp_I t 74 7 = 1) → (gp_I t 74 9 = 0) → (gp_I t 81 20 = 1) → K none t)  : ∀ (n : Nat) (v1 : Int) (s : gH), zM z s → (4097 - v1).toNat < n → (0 ≤ v1 ∧ v1 ≤ 4096) → (gp_I s 74 11 = 0) → (gp_I s 74 43 = 0) → (gp_I s 74 57 = 0) → (gp_I s 74 58 = 0) → (gp_I s 74 7 = 1) → (gp_I s 74 9 = 0) → (gp_I s 81 20 = 1) → gs_E L d 3089 2 [gp_r (some 74), gp_i v1] [] s K := by
  intro n
  induction n with
  | zero => intro v1 s hs hm i0 i1 i2 i3 i4 i5 i6 i7; exact absurd hm (Nat.not_lt_zero _)
  | succ n ih =>
    intro v1 s hs hm i0 i1 i2 i3 i4 i5 i6 i7
    refine s_3089_2 _ ?_
    refine ⟨fun h_1 => ?_, fun h_1 => ?_⟩
    · refine ⟨by omega, ?_⟩
      intro s_2 e_3
      have hs_4 : zM z s_2 := by rw [e_3]; exact zw86 hs _ _ (by omega)
      have q_5 : gp_I s_2 74 11 = 0 := by rw [e_3]; exact i1
      have q_6 : gp_I s_2 74 43 = 0 := by rw [e_3]; exact i2
      have q_7 : gp_I s_2 74 57 = 0 := by rw [e_3]; exact i3
      have q_8 : gp_I s_2 74 58 = 0 := by rw [e_3]; exact i4
      have q_9 : gp_I s_2 74 7 = 1 := by rw [e_3]; exact i5
      have q_10 : gp_I s_2 74 9 = 0 := by rw [e_3]; exact i6
      have q_11 : gp_I s_2 81 20 = 1 := by rw [e_3]; exact i7
      have w_12 := gz_w (v1 + 1)
      exact ih _ s_2 hs_4 (by omega) (by omega) (by omega) (by omega) (by omega) (by omega) (by omega) (by omega) (by omega)
    · have e_13 : v1 = 4096 := by omega
      subst e_13
      exact k s hs (by omega) (by omega) (by omega) (by omega) (by omega) (by omega) (by omega)
set_option maxRecDepth 100000 in
/-- GatheredPointsModel.forgets [] -/
theorem zm3089_2 {z : gH} {L d : Nat} {K : Option gV → gH → Prop} {s : gH}  (hs : zM z s)  (q0 : gp_I s 74 11 = 0) (q1 : gp_I s 74 43 = 0) (q2 : gp_I s 74 57 = 0) (q3 : gp_I s 74 58 = 0) (q4 : gp_I s 74 7 = 1) (q5 : gp_I s 74 9 = 0) (q6 : gp_I s 81 20 = 1) (k : ∀ (t : gH), zM z t → (gp_I t 74 11 = 0) → (gp_I t 74 43 = 0) → (gp_I t 74 57 = 0) → (gp_I t 74 58 = 0) → (gp_I t 74 7 = 1) → (gp_I t 74 9 = 0) → (gp_I t 81 20 = 1) → K none t) : gs_C L d 3089 2 [gp_r (some 74)] s K := by
  refine s_3089_e ?_
  exact zm3089_2_l2_0 k _ _ s hs (Nat.lt_succ_self _) (by omega) (by omega) (by omega) (by omega) (by omega) (by omega) (by omega) (by omega)
set_option maxRecDepth 100000 in
/-- GatheredPointsModel.option, the loop at 41 -/
theorem zm3092_1_l41_0 {z : gH} {L d : Nat} {K : Option gV → gH → Prop}  {s : gH} (hs : zM z s)  (k : K (some (gp_i 0)) s)  : ∀ (n : Nat) (v1 : Int) (v2 : BitVec 64) (v4 : Int) (v5 : Int) (v6 : Int) (v7 : Int), (65 - v7).toNat < n → (v1 = 20) → (v2 = 1#64) → (v4 = 0) → (v5 = 0) → (v6 = 0) → (1 ≤ v7 ∧ v7 ≤ 64) → (gp_I s 74 11 = 0) → (gp_I s 74 43 = 0) → (gp_I s 74 57 = 0) → (gp_I s 74 58 = 0) → (gp_I s 74 7 = 1) → (gp_I s 74 9 = 0) → (gp_I s 81 20 = 1) → gs_E L (d + 1) 3092 41 [gp_r (some 74), gp_i v1, gp_l v2, gp_n, gp_i v4, gp_i v5, gp_i v6, gp_i v7] [] s K := by
  intro n
  induction n with
  | zero => intro v1 v2 v4 v5 v6 v7 hm i0 i1 i2 i3 i4 i5 i6 i7 i8 i9 i10 i11 i12; exact absurd hm (Nat.not_lt_zero _)
  | succ n ih =>
    intro v1 v2 v4 v5 v6 v7 hm i0 i1 i2 i3 i4 i5 i6 i7 i8 i9 i10 i11 i12
    subst i0
    subst i1
    subst i2
    subst i3
    subst i4
    refine s_3092_41 _ _ _ _ _ _ ?_
    refine ⟨fun h_1 => ?_, fun h_1 => ?_⟩
    · refine zm3078_9 _ hs (by omega) (⟨_, rfl, ?_⟩)
      refine ⟨fun h_2 => ?_, fun h_2 => ?_⟩
      · refine s_3092_85 _ _ _ _ _ _ _ ?_
        refine s_3092_86 _ _ _ _ _ _ _ _ ?_
        have w_3 := gz_w (0 + 0)
        have e_4 : gp_wr (0 + 0) = 0 := by omega
        try rw [e_4]
        have w_5 := gz_w (v7 + 1)
        exact ih _ _ _ _ _ _ (by omega) (by omega) rfl (by omega) (by omega) (by omega) (by omega) (by omega) (by omega) (by omega) (by omega) (by omega) (by omega) (by omega)
      · exfalso; omega
    · have e_6 : v7 = 64 := by omega
      subst e_6
      refine ⟨fun h_7 => ?_, fun h_7 => ?_⟩
      · exact k
      · exfalso; omega
set_option maxRecDepth 100000 in
/-- GatheredPointsModel.option [(20, 20), 1, (0, 0)] -/
theorem zm3092_1 {z : gH} {L d : Nat} {K : Option gV → gH → Prop} {s : gH}  (hs : zM z s)  (q0 : gp_I s 74 11 = 0) (q1 : gp_I s 74 43 = 0) (q2 : gp_I s 74 57 = 0) (q3 : gp_I s 74 58 = 0) (q4 : gp_I s 74 7 = 1) (q5 : gp_I s 74 9 = 0) (q6 : gp_I s 81 20 = 1) (k : K (some (gp_i 0)) s) : gs_C L (d + 1) 3092 8 [gp_r (some 74), gp_i 20, gp_l (1#64), gp_i 0] s K := by
  refine s_3092_e _ _ _ ?_
  refine ⟨fun h_1 => ?_, fun h_1 => ?_⟩
  · refine s_3092_16 _ _ _ _ _ _ ?_
    refine ⟨fun h_2 => ?_, fun h_2 => ?_⟩
    · refine zm3078_5 hs (⟨_, rfl, ?_⟩)
      refine ⟨fun h_3 => ?_, fun h_3 => ?_⟩
      · exfalso; omega
      · refine s_3092_41 _ _ _ _ _ _ ?_
        refine ⟨fun h_4 => ?_, fun h_4 => ?_⟩
        · refine zm3078_5 hs (⟨_, rfl, ?_⟩)
          refine ⟨fun h_5 => ?_, fun h_5 => ?_⟩
          · exfalso; omega
          · refine ⟨fun h_6 => ?_, fun h_6 => ?_⟩
            · refine s_3092_85 _ _ _ _ _ _ _ ?_
              refine s_3092_86 _ _ _ _ _ _ _ _ ?_
              have w_7 := gz_w (0 + 0)
              have e_8 : gp_wr (0 + 0) = 0 := by omega
              try rw [e_8]
              have w_9 := gz_w (0 + 1)
              have e_10 : gp_wr (0 + 1) = 1 := by omega
              try rw [e_10]
              exact zm3092_1_l41_0 hs k _ _ _ _ _ _ _ (Nat.lt_succ_self _) (by omega) rfl (by omega) (by omega) (by omega) (by omega) (by omega) (by omega) (by omega) (by omega) (by omega) (by omega) (by omega)
            · exfalso; omega
        · exfalso; omega
    · exfalso; omega
  · exfalso; omega
set_option maxRecDepth 100000 in
/-- GatheredPointsModel.ends [(0, 0), (19, 19)] -/
theorem zm3093_1 {z : gH} {L d : Nat} {K : Option gV → gH → Prop} {s : gH}  (hs : zM z s)  (q0 : gp_I s 74 11 = 0) (q1 : gp_I s 74 43 = 0) (q2 : gp_I s 74 57 = 0) (q3 : gp_I s 74 58 = 0) (q4 : gp_I s 74 7 = 1) (q5 : gp_I s 74 9 = 0) (q6 : gp_I s 81 20 = 1) (k : ∀ (t : gH), zM z t → (gp_I t 74 11 = 0) → (gp_I t 74 43 = 0) → (gp_I t 74 57 = 0) → (gp_I t 74 58 = 0) → (gp_I t 74 7 = 1) → (gp_I t 74 9 = 0) → (gp_I t 81 19 = 1) → (gp_I t 81 20 = 1) → K none t) : gs_C L (d + 2) 3093 9 [gp_r (some 74), gp_i 0, gp_i 19] s K := by
  refine s_3093_e _ _ ?_
  refine zm3089_2 hs (by omega) (by omega) (by omega) (by omega) (by omega) (by omega) (by omega) (fun s_1 hs_2 q_3 q_4 q_5 q_6 q_7 q_8 q_9 => ⟨rfl, ?_⟩)
  have e_10 : (1#64) <<< ((0 : Int) % 64).toNat = 1#64 := by decide
  try rw [e_10]
  refine s_3093_11 _ _ _ _ _ _ _ ?_
  refine ⟨fun h_11 => ?_, fun h_11 => ?_⟩
  · exfalso; omega
  · refine zm3078_5 hs_2 (⟨_, rfl, ?_⟩)
    refine ⟨fun h_12 => ?_, fun h_12 => ?_⟩
    · exfalso; omega
    · have w_13 := gz_w (1280 + 0)
      have e_14 : gp_wr (1280 + 0) = 1280 := by omega
      try rw [e_14]
      refine ⟨by omega, ?_⟩
      try rw [zr76 hs_2 ((1280 : Int).toNat)]
      have w_15 := gz_w (1280 + 0)
      have e_16 : gp_wr (1280 + 0) = 1280 := by omega
      try rw [e_16]
      refine ⟨by omega, ?_⟩
      try rw [zr77 hs_2 ((1280 : Int).toNat)]
      have e_17 : (0#64) ||| (0#64) = 0#64 := by decide
      try rw [e_17]
      refine s_3093_53 _ _ _ _ _ _ _ _ _ ?_
      have e_18 : (1#64) ||| (0#64) = 1#64 := by decide
      try rw [e_18]
      have w_19 := gz_w (0 + (-1))
      have e_20 : gp_wr (0 + (-1)) = (-1) := by omega
      try rw [e_20]
      refine s_3093_11 _ _ _ _ _ _ _ ?_
      refine ⟨fun h_21 => ?_, fun h_21 => ?_⟩
      · refine zm3079_0 hs_2 (⟨_, rfl, ?_⟩)
        refine s_3093_70 _ _ _ _ _ _ _ ?_
        refine ⟨fun h_22 => ?_, fun h_22 => ?_⟩
        · refine zm3092_1 hs_2 (by omega) (by omega) (by omega) (by omega) (by omega) (by omega) (by omega) (⟨_, rfl, ?_⟩)
          refine ⟨by omega, ?_⟩
          intro s_23 e_24
          have hs_25 : zM z s_23 := by rw [e_24]; exact zw87 hs_2 _ _ (by omega)
          have q_26 : gp_I s_23 74 11 = 0 := by rw [e_24]; exact q_3
          have q_27 : gp_I s_23 74 43 = 0 := by rw [e_24]; exact q_4
          have q_28 : gp_I s_23 74 57 = 0 := by rw [e_24]; exact q_5
          have q_29 : gp_I s_23 74 58 = 0 := by rw [e_24]; exact q_6
          have q_30 : gp_I s_23 74 7 = 1 := by rw [e_24]; exact q_7
          have q_31 : gp_I s_23 74 9 = 0 := by rw [e_24]; exact q_8
          have q_32 : gp_I s_23 81 20 = 1 := by rw [e_24]; exact q_9
          refine ⟨by omega, ?_⟩
          have f_33 := zr87 hs_25 ((0 : Int).toNat)
          have e_34 : gp_I s_23 87 (0 : Int).toNat = 0 := by omega
          try rw [e_34]
          refine ⟨by omega, ?_⟩
          intro s_35 e_36
          have hs_37 : zM z s_35 := by rw [e_36]; exact zw88 hs_25 _ _ (by omega)
          have q_38 : gp_I s_35 74 11 = 0 := by rw [e_36]; exact q_26
          have q_39 : gp_I s_35 74 43 = 0 := by rw [e_36]; exact q_27
          have q_40 : gp_I s_35 74 57 = 0 := by rw [e_36]; exact q_28
          have q_41 : gp_I s_35 74 58 = 0 := by rw [e_36]; exact q_29
          have q_42 : gp_I s_35 74 7 = 1 := by rw [e_36]; exact q_30
          have q_43 : gp_I s_35 74 9 = 0 := by rw [e_36]; exact q_31
          have q_44 : gp_I s_35 81 20 = 1 := by rw [e_36]; exact q_32
          have w_45 := gz_w (0 + 1)
          have e_46 : gp_wr (0 + 1) = 1 := by omega
          try rw [e_46]
          refine s_3093_70 _ _ _ _ _ _ _ ?_
          refine ⟨fun h_47 => ?_, fun h_47 => ?_⟩
          · exfalso; omega
          · refine ⟨by omega, ?_⟩
            intro s_48 e_49
            have hs_50 : zM z s_48 := by rw [e_49]; exact zw81 hs_37 _ _ (by omega)
            have q_51 : gp_I s_48 74 11 = 0 := by rw [e_49]; exact q_38
            have q_52 : gp_I s_48 74 43 = 0 := by rw [e_49]; exact q_39
            have q_53 : gp_I s_48 74 57 = 0 := by rw [e_49]; exact q_40
            have q_54 : gp_I s_48 74 58 = 0 := by rw [e_49]; exact q_41
            have q_55 : gp_I s_48 74 7 = 1 := by rw [e_49]; exact q_42
            have q_56 : gp_I s_48 74 9 = 0 := by rw [e_49]; exact q_43
            have q_57 : gp_I s_48 81 20 = 1 := by rw [e_49]; exact q_44
            have q_58 : gp_I s_48 81 19 = 1 := by rw [e_49]; rfl
            refine s_3093_124 _ _ _ _ _ _ _ ?_
            refine ⟨fun h_60 => ?_, fun h_60 => ?_⟩
            · refine ⟨by omega, ?_⟩
              have f_61 := zr87 hs_50 ((0 : Int).toNat)
              have e_62 : gp_I s_48 87 (0 : Int).toNat = 0 := by omega
              try rw [e_62]
              have w_63 := gz_w (1280 + 0)
              have e_64 : gp_wr (1280 + 0) = 1280 := by omega
              try rw [e_64]
              have w_65 := gz_w (64 * 19)
              have e_66 : gp_wr (64 * 19) = 1216 := by omega
              try rw [e_66]
              have w_67 := gz_w (1216 + 0)
              have e_68 : gp_wr (1216 + 0) = 1216 := by omega
              try rw [e_68]
              refine ⟨by omega, ?_⟩
              try rw [zr76 hs_50 ((1280 : Int).toNat)]
              refine zm3094_0 hs_50 (⟨_, rfl, ?_⟩)
              refine ⟨by omega, ?_⟩
              intro s_69 e_70
              have hs_71 : zM z s_69 := by rw [e_70]; exact zw76 hs_50 _ _ rfl
              have q_72 : gp_I s_69 74 11 = 0 := by rw [e_70]; exact q_51
              have q_73 : gp_I s_69 74 43 = 0 := by rw [e_70]; exact q_52
              have q_74 : gp_I s_69 74 57 = 0 := by rw [e_70]; exact q_53
              have q_75 : gp_I s_69 74 58 = 0 := by rw [e_70]; exact q_54
              have q_76 : gp_I s_69 74 7 = 1 := by rw [e_70]; exact q_55
              have q_77 : gp_I s_69 74 9 = 0 := by rw [e_70]; exact q_56
              have q_78 : gp_I s_69 81 20 = 1 := by rw [e_70]; exact q_57
              have q_79 : gp_I s_69 81 19 = 1 := by rw [e_70]; exact q_58
              refine ⟨by omega, ?_⟩
              try rw [zr77 hs_71 ((1280 : Int).toNat)]
              refine zm3094_0 hs_71 (⟨_, rfl, ?_⟩)
              refine ⟨by omega, ?_⟩
              intro s_80 e_81
              have hs_82 : zM z s_80 := by rw [e_81]; exact zw77 hs_71 _ _ rfl
              have q_83 : gp_I s_80 74 11 = 0 := by rw [e_81]; exact q_72
              have q_84 : gp_I s_80 74 43 = 0 := by rw [e_81]; exact q_73
              have q_85 : gp_I s_80 74 57 = 0 := by rw [e_81]; exact q_74
              have q_86 : gp_I s_80 74 58 = 0 := by rw [e_81]; exact q_75
              have q_87 : gp_I s_80 74 7 = 1 := by rw [e_81]; exact q_76
              have q_88 : gp_I s_80 74 9 = 0 := by rw [e_81]; exact q_77
              have q_89 : gp_I s_80 81 20 = 1 := by rw [e_81]; exact q_78
              have q_90 : gp_I s_80 81 19 = 1 := by rw [e_81]; exact q_79
              refine ⟨by omega, ?_⟩
              have f_91 := zr78 hs_82 ((1280 : Int).toNat)
              have e_92 : gp_I s_80 78 (1280 : Int).toNat = 0 := by omega
              try rw [e_92]
              refine ⟨by omega, ?_⟩
              intro s_93 e_94
              have hs_95 : zM z s_93 := by rw [e_94]; exact zw78 hs_82 _ _ (by omega)
              have q_96 : gp_I s_93 74 11 = 0 := by rw [e_94]; exact q_83
              have q_97 : gp_I s_93 74 43 = 0 := by rw [e_94]; exact q_84
              have q_98 : gp_I s_93 74 57 = 0 := by rw [e_94]; exact q_85
              have q_99 : gp_I s_93 74 58 = 0 := by rw [e_94]; exact q_86
              have q_100 : gp_I s_93 74 7 = 1 := by rw [e_94]; exact q_87
              have q_101 : gp_I s_93 74 9 = 0 := by rw [e_94]; exact q_88
              have q_102 : gp_I s_93 81 20 = 1 := by rw [e_94]; exact q_89
              have q_103 : gp_I s_93 81 19 = 1 := by rw [e_94]; exact q_90
              refine ⟨by omega, ?_⟩
              have f_104 := zr79 hs_95 ((1280 : Int).toNat)
              have e_105 : gp_I s_93 79 (1280 : Int).toNat = 0 := by omega
              try rw [e_105]
              refine ⟨by omega, ?_⟩
              intro s_106 e_107
              have hs_108 : zM z s_106 := by rw [e_107]; exact zw79 hs_95 _ _ (by omega)
              have q_109 : gp_I s_106 74 11 = 0 := by rw [e_107]; exact q_96
              have q_110 : gp_I s_106 74 43 = 0 := by rw [e_107]; exact q_97
              have q_111 : gp_I s_106 74 57 = 0 := by rw [e_107]; exact q_98
              have q_112 : gp_I s_106 74 58 = 0 := by rw [e_107]; exact q_99
              have q_113 : gp_I s_106 74 7 = 1 := by rw [e_107]; exact q_100
              have q_114 : gp_I s_106 74 9 = 0 := by rw [e_107]; exact q_101
              have q_115 : gp_I s_106 81 20 = 1 := by rw [e_107]; exact q_102
              have q_116 : gp_I s_106 81 19 = 1 := by rw [e_107]; exact q_103
              refine ⟨by omega, ?_⟩
              have f_117 := zr80 hs_108 ((1280 : Int).toNat)
              have e_118 : gp_I s_106 80 (1280 : Int).toNat = 0 := by omega
              try rw [e_118]
              refine ⟨by omega, ?_⟩
              intro s_119 e_120
              have hs_121 : zM z s_119 := by rw [e_120]; exact zw80 hs_108 _ _ (by omega)
              have q_122 : gp_I s_119 74 11 = 0 := by rw [e_120]; exact q_109
              have q_123 : gp_I s_119 74 43 = 0 := by rw [e_120]; exact q_110
              have q_124 : gp_I s_119 74 57 = 0 := by rw [e_120]; exact q_111
              have q_125 : gp_I s_119 74 58 = 0 := by rw [e_120]; exact q_112
              have q_126 : gp_I s_119 74 7 = 1 := by rw [e_120]; exact q_113
              have q_127 : gp_I s_119 74 9 = 0 := by rw [e_120]; exact q_114
              have q_128 : gp_I s_119 81 20 = 1 := by rw [e_120]; exact q_115
              have q_129 : gp_I s_119 81 19 = 1 := by rw [e_120]; exact q_116
              have w_130 := gz_w (0 + 1)
              have e_131 : gp_wr (0 + 1) = 1 := by omega
              try rw [e_131]
              refine s_3093_124 _ _ _ _ _ _ _ ?_
              refine ⟨fun h_132 => ?_, fun h_132 => ?_⟩
              · exfalso; omega
              · exact k s_119 hs_121 (by omega) (by omega) (by omega) (by omega) (by omega) (by omega) (by omega) (by omega)
            · exfalso; omega
        · exfalso; omega
      · exfalso; omega
