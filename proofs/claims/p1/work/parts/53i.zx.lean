set_option maxRecDepth 100000 in
/-- GatheredPoints.sheet [(2, 2), (16, 16), (0, 20)] -/
theorem zx2842_48 {z : gH} {L d : Nat} {K : Option gV → gH → Prop} {s : gH} (p2 : Int) (hs : xM z s) (h_p2 : 0 ≤ p2 ∧ p2 ≤ 20) (q0 : gp_I s 1 2 = 0) (q1 : gp_I s 1 6 = 0) (q2 : gp_I s 1 7 = 1) (q3 : gp_I s 51 8 = 0) (q4 : gp_I s 57 1 = 0) (q5 : gp_I s 57 3 = 0) (q6 : gp_I s 72 0 = 0) (q7 : gp_I s 72 1 = 0) (q8 : gp_I s 72 2 = 0) (q9 : gp_I s 72 3 = 0) (q10 : gp_I s 73 0 = 0) (q11 : gp_I s 73 1 = 0) (q12 : gp_I s 73 2 = 0) (q13 : gp_I s 73 3 = 0) (q14 : ∀ k, k < 8 → gp_R s 4 k = some 25) (q15 : gp_R s 51 6 = some 55) (q16 : gp_R s 51 7 = some 56) (q17 : gp_us s = 606895) (q18 : gp_sz s = 117) (k : ∀ (t : gH), xM z t → (gp_I t 1 2 = 0) → (gp_I t 1 6 = 0) → (gp_I t 1 7 = 1) → (gp_I t 51 8 = 0) → (gp_I t 57 1 = 0) → (gp_I t 57 3 = 0) → (gp_I t 72 0 = 0) → (gp_I t 72 1 = 0) → (gp_I t 72 2 = 16) → (gp_I t 72 3 = 0) → (gp_I t 73 0 = 0) → (gp_I t 73 1 = 0) → (0 ≤ gp_I t 73 2 ∧ gp_I t 73 2 ≤ 20) → (gp_I t 73 3 = 0) → (∀ k, k < 8 → gp_R t 4 k = some 25) → (gp_R t 51 6 = some 55) → (gp_R t 51 7 = some 56) → (gp_us t = 606895) → (gp_sz t = 117) → K (some (gp_i 1)) t) : gs_C L (d + 1) 2842 4 [gp_r (some 1), gp_i 2, gp_i 16, gp_i p2] s K := by
  refine s_2842_e _ _ _ ?_
  refine zx1793_10 hs (by omega) (by omega) (by omega) (by omega) (by omega) (by omega) (by omega) (by omega) (⟨_, rfl, ?_⟩)
  refine ⟨fun h_1 => ?_, fun h_1 => ?_⟩
  · refine ⟨fun h_2 => ?_, fun h_2 => ?_⟩
    · exfalso; omega
    · refine ⟨fun h_3 => ?_, fun h_3 => ?_⟩
      · exfalso; omega
      · refine ⟨fun h_4 => ?_, fun h_4 => ?_⟩
        · refine s_2842_39 _ _ _ ?_
          refine ⟨fun h_5 => ?_, fun h_5 => ?_⟩
          · exfalso; omega
          · refine ⟨fun h_6 => ?_, fun h_6 => ?_⟩
            · exfalso; omega
            · refine s_2842_53 _ _ _ ?_
              refine ⟨fun h_7 => ?_, fun h_7 => ?_⟩
              · exfalso; omega
              · refine ⟨fun h_8 => ?_, fun h_8 => ?_⟩
                · exfalso; omega
                · refine s_2842_69 _ _ _ ?_
                  refine ⟨fun h_9 => ?_, fun h_9 => ?_⟩
                  · exfalso; omega
                  · refine s_2842_84 _ _ _ _ _ _ ?_
                    refine zx1795_11 _ hs (by omega) (by omega) (by omega) (by omega) (by omega) (by omega) (by omega) (by omega) (by omega) (by omega) (by omega) (by omega) (by omega) (by omega) (by omega) q14 q15 q16 q17 q18 (fun s_10 hs_11 q_12 q_13 q_14 q_15 q_16 q_17 q_18 q_19 q_20 q_21 q_22 q_23 q_24 q_25 q_26 q_27 q_28 q_29 q_30 => ⟨rfl, ?_⟩)
                    exact k s_10 hs_11 (by omega) (by omega) (by omega) (by omega) (by omega) (by omega) (by omega) (by omega) (by omega) (by omega) (by omega) (by omega) (by omega) (by omega) q_26 q_27 q_28 q_29 q_30
        · exfalso; omega
  · exfalso; omega
set_option maxRecDepth 100000 in
/-- GatheredPoints.sheet [(2, 2), (16, 16), (21, 2147483647)] -/
theorem zx2842_49 {z : gH} {L d : Nat} {K : Option gV → gH → Prop} {s : gH} (p2 : Int) (hs : xM z s) (h_p2 : 21 ≤ p2 ∧ p2 ≤ 2147483647) (q0 : gp_I s 1 2 = 0) (q1 : gp_I s 1 6 = 0) (q2 : gp_I s 1 7 = 1) (q3 : gp_I s 51 8 = 0) (q4 : gp_I s 57 1 = 0) (q5 : gp_I s 57 3 = 0) (q6 : gp_I s 72 0 = 0) (q7 : gp_I s 72 1 = 0) (q8 : gp_I s 72 2 = 0) (q9 : gp_I s 72 3 = 0) (q10 : gp_I s 73 0 = 0) (q11 : gp_I s 73 1 = 0) (q12 : gp_I s 73 2 = 0) (q13 : gp_I s 73 3 = 0) (q14 : ∀ k, k < 8 → gp_R s 4 k = some 25) (q15 : gp_R s 51 6 = some 55) (q16 : gp_R s 51 7 = some 56) (q17 : gp_us s = 606895) (q18 : gp_sz s = 117) (k : ∀ (t : gH), xM z t → (gp_I t 1 2 = 0) → (gp_I t 1 6 = 0) → (gp_I t 1 7 = 1) → ((-2147483648) ≤ gp_I t 2 1 ∧ gp_I t 2 1 ≤ 2147483647) → (gp_I t 51 8 = 0) → (gp_I t 57 1 = 0) → (gp_I t 57 3 = 0) → (gp_I t 72 0 = 0) → (gp_I t 72 1 = 0) → (gp_I t 72 2 = 0) → (gp_I t 72 3 = 0) → (gp_I t 73 0 = 0) → (gp_I t 73 1 = 0) → (gp_I t 73 2 = 0) → (gp_I t 73 3 = 0) → (∀ k, k < 8 → gp_R t 4 k = some 25) → (gp_R t 51 6 = some 55) → (gp_R t 51 7 = some 56) → (gp_us t = 606895) → (gp_sz t = 117) → K (some (gp_i (-1000000001))) t) : gs_C L (d + 1) 2842 4 [gp_r (some 1), gp_i 2, gp_i 16, gp_i p2] s K := by
  refine s_2842_e _ _ _ ?_
  refine zx1793_10 hs (by omega) (by omega) (by omega) (by omega) (by omega) (by omega) (by omega) (by omega) (⟨_, rfl, ?_⟩)
  refine ⟨fun h_1 => ?_, fun h_1 => ?_⟩
  · refine ⟨fun h_2 => ?_, fun h_2 => ?_⟩
    · exfalso; omega
    · refine ⟨fun h_3 => ?_, fun h_3 => ?_⟩
      · exfalso; omega
      · refine ⟨fun h_4 => ?_, fun h_4 => ?_⟩
        · refine s_2842_39 _ _ _ ?_
          refine ⟨fun h_5 => ?_, fun h_5 => ?_⟩
          · exfalso; omega
          · refine ⟨fun h_6 => ?_, fun h_6 => ?_⟩
            · exfalso; omega
            · refine s_2842_53 _ _ _ ?_
              refine ⟨fun h_7 => ?_, fun h_7 => ?_⟩
              · exfalso; omega
              · refine ⟨fun h_8 => ?_, fun h_8 => ?_⟩
                · refine zx2855_12 hs (by omega) (by omega) (by omega) (by omega) (by omega) (by omega) (by omega) (by omega) (by omega) (by omega) (by omega) (by omega) (by omega) (by omega) q14 q15 q16 q17 q18 (fun s_9 hs_10 q_11 q_12 q_13 q_14 q_15 q_16 q_17 q_18 q_19 q_20 q_21 q_22 q_23 q_24 q_25 q_26 q_27 q_28 q_29 q_30 => ⟨_, rfl, ?_⟩)
                  exact k s_9 hs_10 (by omega) (by omega) (by omega) (by omega) (by omega) (by omega) (by omega) (by omega) (by omega) (by omega) (by omega) (by omega) (by omega) (by omega) (by omega) q_26 q_27 q_28 q_29 q_30
                · exfalso; omega
        · exfalso; omega
  · exfalso; omega
set_option maxRecDepth 100000 in
/-- GatheredPoints.sheet [(2, 2), (32, 32), (-2147483648, -1)] -/
theorem zx2842_50 {z : gH} {L d : Nat} {K : Option gV → gH → Prop} {s : gH} (p2 : Int) (hs : xM z s) (h_p2 : (-2147483648) ≤ p2 ∧ p2 ≤ (-1)) (q0 : gp_I s 1 2 = 0) (q1 : gp_I s 1 6 = 0) (q2 : gp_I s 1 7 = 1) (q3 : gp_I s 51 8 = 0) (q4 : gp_I s 57 1 = 0) (q5 : gp_I s 57 3 = 0) (q6 : gp_I s 72 0 = 0) (q7 : gp_I s 72 1 = 0) (q8 : gp_I s 72 2 = 0) (q9 : gp_I s 72 3 = 0) (q10 : gp_I s 73 0 = 0) (q11 : gp_I s 73 1 = 0) (q12 : gp_I s 73 2 = 0) (q13 : gp_I s 73 3 = 0) (q14 : ∀ k, k < 8 → gp_R s 4 k = some 25) (q15 : gp_R s 51 6 = some 55) (q16 : gp_R s 51 7 = some 56) (q17 : gp_us s = 606895) (q18 : gp_sz s = 117) (k : ∀ (t : gH), xM z t → (gp_I t 1 2 = 0) → (gp_I t 1 6 = 0) → (gp_I t 1 7 = 1) → ((-2147483648) ≤ gp_I t 2 3 ∧ gp_I t 2 3 ≤ 2147483647) → (gp_I t 51 8 = 0) → (gp_I t 57 1 = 0) → (gp_I t 57 3 = 0) → (gp_I t 72 0 = 0) → (gp_I t 72 1 = 0) → (gp_I t 72 2 = 0) → (gp_I t 72 3 = 0) → (gp_I t 73 0 = 0) → (gp_I t 73 1 = 0) → (gp_I t 73 2 = 0) → (gp_I t 73 3 = 0) → (∀ k, k < 8 → gp_R t 4 k = some 25) → (gp_R t 51 6 = some 55) → (gp_R t 51 7 = some 56) → (gp_us t = 606895) → (gp_sz t = 117) → K (some (gp_i (-1000000003))) t) : gs_C L (d + 1) 2842 4 [gp_r (some 1), gp_i 2, gp_i 32, gp_i p2] s K := by
  refine s_2842_e _ _ _ ?_
  refine zx1793_10 hs (by omega) (by omega) (by omega) (by omega) (by omega) (by omega) (by omega) (by omega) (⟨_, rfl, ?_⟩)
  refine ⟨fun h_1 => ?_, fun h_1 => ?_⟩
  · refine ⟨fun h_2 => ?_, fun h_2 => ?_⟩
    · exfalso; omega
    · refine ⟨fun h_3 => ?_, fun h_3 => ?_⟩
      · exfalso; omega
      · refine ⟨fun h_4 => ?_, fun h_4 => ?_⟩
        · exfalso; omega
        · refine ⟨fun h_5 => ?_, fun h_5 => ?_⟩
          · refine s_2842_39 _ _ _ ?_
            refine ⟨fun h_6 => ?_, fun h_6 => ?_⟩
            · exfalso; omega
            · refine ⟨fun h_7 => ?_, fun h_7 => ?_⟩
              · refine zx2855_13 hs (by omega) (by omega) (by omega) (by omega) (by omega) (by omega) (by omega) (by omega) (by omega) (by omega) (by omega) (by omega) (by omega) (by omega) q14 q15 q16 q17 q18 (fun s_8 hs_9 q_10 q_11 q_12 q_13 q_14 q_15 q_16 q_17 q_18 q_19 q_20 q_21 q_22 q_23 q_24 q_25 q_26 q_27 q_28 q_29 => ⟨_, rfl, ?_⟩)
                exact k s_8 hs_9 (by omega) (by omega) (by omega) (by omega) (by omega) (by omega) (by omega) (by omega) (by omega) (by omega) (by omega) (by omega) (by omega) (by omega) (by omega) q_25 q_26 q_27 q_28 q_29
              · exfalso; omega
          · exfalso; omega
  · exfalso; omega
set_option maxRecDepth 100000 in
/-- Sheets.lay, the loop at 17 -/
theorem zx1795_12_l17_0 {z : gH} {L d : Nat} {K : Option gV → gH → Prop} (p2 : Int)  (k : ∀ (t : gH), xM z t → (gp_I t 1 2 = 0) → (gp_I t 1 6 = 0) → (gp_I t 1 7 = 1) → (gp_I t 51 8 = 0) → (gp_I t 57 1 = 0) → (gp_I t 57 3 = 0) → (gp_I t 72 0 = 0) → (gp_I t 72 1 = 0) → (gp_I t 72 2 = 32) → (gp_I t 72 3 = 0) → (gp_I t 73 0 = 0) → (gp_I t 73 1 = 0) → (0 ≤ gp_I t 73 2 ∧ gp_I t 73 2 ≤ 20) → (gp_I t 73 3 = 0) → (∀ k, k < 8 → gp_R t 4 k = some 25) → (gp_R t 51 6 = some 55) → (gp_R t 51 7 = some 56) → (gp_us t = 606895) → (gp_sz t = 117) → K none t)  : ∀ (n : Nat) (v1 : Int) (v2 : Int) (v3 : Int) (v4 : Int) (s : gH), xM z s → (21 - v4).toNat < n → (v1 = 2) → (v2 = 32) → (0 ≤ v3 ∧ v3 ≤ 20) → (0 ≤ v4 ∧ v4 ≤ 20) → (gp_I s 1 2 = 0) → (gp_I s 1 6 = 0) → (gp_I s 1 7 = 1) → (gp_I s 51 8 = 0) → (gp_I s 57 1 = 0) → (gp_I s 57 3 = 0) → (gp_I s 72 0 = 0) → (gp_I s 72 1 = 0) → (gp_I s 72 2 = 32) → (gp_I s 72 3 = 0) → (gp_I s 73 0 = 0) → (gp_I s 73 1 = 0) → (0 ≤ gp_I s 73 2 ∧ gp_I s 73 2 ≤ 20) → (gp_I s 73 3 = 0) → (∀ k, k < 8 → gp_R s 4 k = some 25) → (gp_R s 51 6 = some 55) → (gp_R s 51 7 = some 56) → (gp_us s = 606895) → (gp_sz s = 117) → gs_E L d 1795 17 [gp_r (some 66), gp_i v1, gp_i v2, gp_i v3, gp_i v4] [] s K := by
  intro n
  induction n with
  | zero => intro v1 v2 v3 v4 s hs hm i0 i1 i2 i3 i4 i5 i6 i7 i8 i9 i10 i11 i12 i13 i14 i15 i16 i17 i18 i19 i20 i21 i22; exact absurd hm (Nat.not_lt_zero _)
  | succ n ih =>
    intro v1 v2 v3 v4 s hs hm i0 i1 i2 i3 i4 i5 i6 i7 i8 i9 i10 i11 i12 i13 i14 i15 i16 i17 i18 i19 i20 i21 i22
    subst i0
    subst i1
    refine s_1795_17 _ _ _ _ ?_
    refine ⟨fun h_1 => ?_, fun h_1 => ?_⟩
    · refine ⟨by omega, ?_⟩
      try rw [show gp_R (gp_mk L s) 67 (2 : Int).toNat = some 70 from rfl]
      refine ⟨70, rfl, ?_⟩
      refine ⟨⟨rfl, by show 0 ≤ v4 ∧ v4 < 20; omega⟩, ?_⟩
      intro s_2 e_3
      have hs_4 : xM z s_2 := by rw [e_3]; exact xw70 hs _ _
      have q_5 : gp_I s_2 1 2 = 0 := by rw [e_3]; exact i4
      have q_6 : gp_I s_2 1 6 = 0 := by rw [e_3]; exact i5
      have q_7 : gp_I s_2 1 7 = 1 := by rw [e_3]; exact i6
      have q_8 : gp_I s_2 51 8 = 0 := by rw [e_3]; exact i7
      have q_9 : gp_I s_2 57 1 = 0 := by rw [e_3]; exact i8
      have q_10 : gp_I s_2 57 3 = 0 := by rw [e_3]; exact i9
      have q_11 : gp_I s_2 72 0 = 0 := by rw [e_3]; exact i10
      have q_12 : gp_I s_2 72 1 = 0 := by rw [e_3]; exact i11
      have q_13 : gp_I s_2 72 2 = 32 := by rw [e_3]; exact i12
      have q_14 : gp_I s_2 72 3 = 0 := by rw [e_3]; exact i13
      have q_15 : gp_I s_2 73 0 = 0 := by rw [e_3]; exact i14
      have q_16 : gp_I s_2 73 1 = 0 := by rw [e_3]; exact i15
      have q_17 : 0 ≤ gp_I s_2 73 2 ∧ gp_I s_2 73 2 ≤ 20 := by rw [e_3]; exact i16
      have q_18 : gp_I s_2 73 3 = 0 := by rw [e_3]; exact i17
      have q_19 : ∀ k, k < 8 → gp_R s_2 4 k = some 25 := by rw [e_3]; exact i18
      have q_20 : gp_R s_2 51 6 = some 55 := by rw [e_3]; exact i19
      have q_21 : gp_R s_2 51 7 = some 56 := by rw [e_3]; exact i20
      have q_22 : gp_us s_2 = 606895 := by rw [e_3]; exact i21
      have q_23 : gp_sz s_2 = 117 := by rw [e_3]; exact i22
      have w_24 := gz_w (v4 + 1)
      exact ih _ _ _ _ s_2 hs_4 (by omega) (by omega) (by omega) (by omega) (by omega) (by omega) (by omega) (by omega) (by omega) (by omega) (by omega) (by omega) (by omega) (by omega) (by omega) (by omega) (by omega) (by omega) (by omega) q_19 q_20 q_21 q_22 q_23
    · have e_25 : v4 = 20 := by omega
      subst e_25
      exact k s hs (by omega) (by omega) (by omega) (by omega) (by omega) (by omega) (by omega) (by omega) (by omega) (by omega) (by omega) (by omega) (by omega) (by omega) i18 i19 i20 i21 i22
set_option maxRecDepth 100000 in
/-- Sheets.lay [(2, 2), (32, 32), (0, 20)] -/
theorem zx1795_12 {z : gH} {L d : Nat} {K : Option gV → gH → Prop} {s : gH} (p2 : Int) (hs : xM z s) (h_p2 : 0 ≤ p2 ∧ p2 ≤ 20) (q0 : gp_I s 1 2 = 0) (q1 : gp_I s 1 6 = 0) (q2 : gp_I s 1 7 = 1) (q3 : gp_I s 51 8 = 0) (q4 : gp_I s 57 1 = 0) (q5 : gp_I s 57 3 = 0) (q6 : gp_I s 72 0 = 0) (q7 : gp_I s 72 1 = 0) (q8 : gp_I s 72 2 = 0) (q9 : gp_I s 72 3 = 0) (q10 : gp_I s 73 0 = 0) (q11 : gp_I s 73 1 = 0) (q12 : gp_I s 73 2 = 0) (q13 : gp_I s 73 3 = 0) (q14 : ∀ k, k < 8 → gp_R s 4 k = some 25) (q15 : gp_R s 51 6 = some 55) (q16 : gp_R s 51 7 = some 56) (q17 : gp_us s = 606895) (q18 : gp_sz s = 117) (k : ∀ (t : gH), xM z t → (gp_I t 1 2 = 0) → (gp_I t 1 6 = 0) → (gp_I t 1 7 = 1) → (gp_I t 51 8 = 0) → (gp_I t 57 1 = 0) → (gp_I t 57 3 = 0) → (gp_I t 72 0 = 0) → (gp_I t 72 1 = 0) → (gp_I t 72 2 = 32) → (gp_I t 72 3 = 0) → (gp_I t 73 0 = 0) → (gp_I t 73 1 = 0) → (0 ≤ gp_I t 73 2 ∧ gp_I t 73 2 ≤ 20) → (gp_I t 73 3 = 0) → (∀ k, k < 8 → gp_R t 4 k = some 25) → (gp_R t 51 6 = some 55) → (gp_R t 51 7 = some 56) → (gp_us t = 606895) → (gp_sz t = 117) → K none t) : gs_C L d 1795 5 [gp_r (some 66), gp_i 2, gp_i 32, gp_i p2] s K := by
  refine s_1795_e _ _ _ ?_
  refine ⟨by omega, ?_⟩
  intro s_1 e_2
  have hs_3 : xM z s_1 := by rw [e_2]; exact xw72 hs _ _
  have q_4 : gp_I s_1 1 2 = 0 := by rw [e_2]; exact q0
  have q_5 : gp_I s_1 1 6 = 0 := by rw [e_2]; exact q1
  have q_6 : gp_I s_1 1 7 = 1 := by rw [e_2]; exact q2
  have q_7 : gp_I s_1 51 8 = 0 := by rw [e_2]; exact q3
  have q_8 : gp_I s_1 57 1 = 0 := by rw [e_2]; exact q4
  have q_9 : gp_I s_1 57 3 = 0 := by rw [e_2]; exact q5
  have q_10 : gp_I s_1 72 0 = 0 := by rw [e_2]; exact q6
  have q_11 : gp_I s_1 72 1 = 0 := by rw [e_2]; exact q7
  have q_12 : gp_I s_1 72 3 = 0 := by rw [e_2]; exact q9
  have q_13 : gp_I s_1 73 0 = 0 := by rw [e_2]; exact q10
  have q_14 : gp_I s_1 73 1 = 0 := by rw [e_2]; exact q11
  have q_15 : gp_I s_1 73 2 = 0 := by rw [e_2]; exact q12
  have q_16 : gp_I s_1 73 3 = 0 := by rw [e_2]; exact q13
  have q_17 : ∀ k, k < 8 → gp_R s_1 4 k = some 25 := by rw [e_2]; exact q14
  have q_18 : gp_R s_1 51 6 = some 55 := by rw [e_2]; exact q15
  have q_19 : gp_R s_1 51 7 = some 56 := by rw [e_2]; exact q16
  have q_20 : gp_us s_1 = 606895 := by rw [e_2]; exact q17
  have q_21 : gp_sz s_1 = 117 := by rw [e_2]; exact q18
  have q_22 : gp_I s_1 72 2 = 32 := by rw [e_2]; rfl
  refine ⟨by omega, ?_⟩
  intro s_24 e_25
  have hs_26 : xM z s_24 := by rw [e_25]; exact xw73 hs_3 _ _
  have q_27 : gp_I s_24 1 2 = 0 := by rw [e_25]; exact q_4
  have q_28 : gp_I s_24 1 6 = 0 := by rw [e_25]; exact q_5
  have q_29 : gp_I s_24 1 7 = 1 := by rw [e_25]; exact q_6
  have q_30 : gp_I s_24 51 8 = 0 := by rw [e_25]; exact q_7
  have q_31 : gp_I s_24 57 1 = 0 := by rw [e_25]; exact q_8
  have q_32 : gp_I s_24 57 3 = 0 := by rw [e_25]; exact q_9
  have q_33 : gp_I s_24 72 0 = 0 := by rw [e_25]; exact q_10
  have q_34 : gp_I s_24 72 1 = 0 := by rw [e_25]; exact q_11
  have q_35 : gp_I s_24 72 3 = 0 := by rw [e_25]; exact q_12
  have q_36 : gp_I s_24 73 0 = 0 := by rw [e_25]; exact q_13
  have q_37 : gp_I s_24 73 1 = 0 := by rw [e_25]; exact q_14
  have q_38 : gp_I s_24 73 3 = 0 := by rw [e_25]; exact q_16
  have q_39 : ∀ k, k < 8 → gp_R s_24 4 k = some 25 := by rw [e_25]; exact q_17
  have q_40 : gp_R s_24 51 6 = some 55 := by rw [e_25]; exact q_18
  have q_41 : gp_R s_24 51 7 = some 56 := by rw [e_25]; exact q_19
  have q_42 : gp_us s_24 = 606895 := by rw [e_25]; exact q_20
  have q_43 : gp_sz s_24 = 117 := by rw [e_25]; exact q_21
  have q_44 : gp_I s_24 72 2 = 32 := by rw [e_25]; exact q_22
  have q_45 : 0 ≤ gp_I s_24 73 2 ∧ gp_I s_24 73 2 ≤ 20 := by have x_46 : gp_I s_24 73 2 = p2 := (by rw [e_25]; rfl); omega
  exact zx1795_12_l17_0 p2 k _ _ _ _ _ s_24 hs_26 (Nat.lt_succ_self _) (by omega) (by omega) (by omega) (by omega) (by omega) (by omega) (by omega) (by omega) (by omega) (by omega) (by omega) (by omega) (by omega) (by omega) (by omega) (by omega) (by omega) (by omega) q_39 q_40 q_41 q_42 q_43
set_option maxRecDepth 100000 in
/-- GatheredPoints.sheet [(2, 2), (32, 32), (0, 20)] -/
theorem zx2842_51 {z : gH} {L d : Nat} {K : Option gV → gH → Prop} {s : gH} (p2 : Int) (hs : xM z s) (h_p2 : 0 ≤ p2 ∧ p2 ≤ 20) (q0 : gp_I s 1 2 = 0) (q1 : gp_I s 1 6 = 0) (q2 : gp_I s 1 7 = 1) (q3 : gp_I s 51 8 = 0) (q4 : gp_I s 57 1 = 0) (q5 : gp_I s 57 3 = 0) (q6 : gp_I s 72 0 = 0) (q7 : gp_I s 72 1 = 0) (q8 : gp_I s 72 2 = 0) (q9 : gp_I s 72 3 = 0) (q10 : gp_I s 73 0 = 0) (q11 : gp_I s 73 1 = 0) (q12 : gp_I s 73 2 = 0) (q13 : gp_I s 73 3 = 0) (q14 : ∀ k, k < 8 → gp_R s 4 k = some 25) (q15 : gp_R s 51 6 = some 55) (q16 : gp_R s 51 7 = some 56) (q17 : gp_us s = 606895) (q18 : gp_sz s = 117) (k : ∀ (t : gH), xM z t → (gp_I t 1 2 = 0) → (gp_I t 1 6 = 0) → (gp_I t 1 7 = 1) → (gp_I t 51 8 = 0) → (gp_I t 57 1 = 0) → (gp_I t 57 3 = 0) → (gp_I t 72 0 = 0) → (gp_I t 72 1 = 0) → (gp_I t 72 2 = 32) → (gp_I t 72 3 = 0) → (gp_I t 73 0 = 0) → (gp_I t 73 1 = 0) → (0 ≤ gp_I t 73 2 ∧ gp_I t 73 2 ≤ 20) → (gp_I t 73 3 = 0) → (∀ k, k < 8 → gp_R t 4 k = some 25) → (gp_R t 51 6 = some 55) → (gp_R t 51 7 = some 56) → (gp_us t = 606895) → (gp_sz t = 117) → K (some (gp_i 1)) t) : gs_C L (d + 1) 2842 4 [gp_r (some 1), gp_i 2, gp_i 32, gp_i p2] s K := by
  refine s_2842_e _ _ _ ?_
  refine zx1793_10 hs (by omega) (by omega) (by omega) (by omega) (by omega) (by omega) (by omega) (by omega) (⟨_, rfl, ?_⟩)
  refine ⟨fun h_1 => ?_, fun h_1 => ?_⟩
  · refine ⟨fun h_2 => ?_, fun h_2 => ?_⟩
    · exfalso; omega
    · refine ⟨fun h_3 => ?_, fun h_3 => ?_⟩
      · exfalso; omega
      · refine ⟨fun h_4 => ?_, fun h_4 => ?_⟩
        · exfalso; omega
        · refine ⟨fun h_5 => ?_, fun h_5 => ?_⟩
          · refine s_2842_39 _ _ _ ?_
            refine ⟨fun h_6 => ?_, fun h_6 => ?_⟩
            · exfalso; omega
            · refine ⟨fun h_7 => ?_, fun h_7 => ?_⟩
              · exfalso; omega
              · refine s_2842_53 _ _ _ ?_
                refine ⟨fun h_8 => ?_, fun h_8 => ?_⟩
                · exfalso; omega
                · refine ⟨fun h_9 => ?_, fun h_9 => ?_⟩
                  · exfalso; omega
                  · refine s_2842_69 _ _ _ ?_
                    refine ⟨fun h_10 => ?_, fun h_10 => ?_⟩
                    · exfalso; omega
                    · refine s_2842_84 _ _ _ _ _ _ ?_
                      refine zx1795_12 _ hs (by omega) (by omega) (by omega) (by omega) (by omega) (by omega) (by omega) (by omega) (by omega) (by omega) (by omega) (by omega) (by omega) (by omega) (by omega) q14 q15 q16 q17 q18 (fun s_11 hs_12 q_13 q_14 q_15 q_16 q_17 q_18 q_19 q_20 q_21 q_22 q_23 q_24 q_25 q_26 q_27 q_28 q_29 q_30 q_31 => ⟨rfl, ?_⟩)
                      exact k s_11 hs_12 (by omega) (by omega) (by omega) (by omega) (by omega) (by omega) (by omega) (by omega) (by omega) (by omega) (by omega) (by omega) (by omega) (by omega) q_27 q_28 q_29 q_30 q_31
          · exfalso; omega
  · exfalso; omega
set_option maxRecDepth 100000 in
/-- GatheredPoints.sheet [(2, 2), (32, 32), (21, 2147483647)] -/
theorem zx2842_52 {z : gH} {L d : Nat} {K : Option gV → gH → Prop} {s : gH} (p2 : Int) (hs : xM z s) (h_p2 : 21 ≤ p2 ∧ p2 ≤ 2147483647) (q0 : gp_I s 1 2 = 0) (q1 : gp_I s 1 6 = 0) (q2 : gp_I s 1 7 = 1) (q3 : gp_I s 51 8 = 0) (q4 : gp_I s 57 1 = 0) (q5 : gp_I s 57 3 = 0) (q6 : gp_I s 72 0 = 0) (q7 : gp_I s 72 1 = 0) (q8 : gp_I s 72 2 = 0) (q9 : gp_I s 72 3 = 0) (q10 : gp_I s 73 0 = 0) (q11 : gp_I s 73 1 = 0) (q12 : gp_I s 73 2 = 0) (q13 : gp_I s 73 3 = 0) (q14 : ∀ k, k < 8 → gp_R s 4 k = some 25) (q15 : gp_R s 51 6 = some 55) (q16 : gp_R s 51 7 = some 56) (q17 : gp_us s = 606895) (q18 : gp_sz s = 117) (k : ∀ (t : gH), xM z t → (gp_I t 1 2 = 0) → (gp_I t 1 6 = 0) → (gp_I t 1 7 = 1) → ((-2147483648) ≤ gp_I t 2 1 ∧ gp_I t 2 1 ≤ 2147483647) → (gp_I t 51 8 = 0) → (gp_I t 57 1 = 0) → (gp_I t 57 3 = 0) → (gp_I t 72 0 = 0) → (gp_I t 72 1 = 0) → (gp_I t 72 2 = 0) → (gp_I t 72 3 = 0) → (gp_I t 73 0 = 0) → (gp_I t 73 1 = 0) → (gp_I t 73 2 = 0) → (gp_I t 73 3 = 0) → (∀ k, k < 8 → gp_R t 4 k = some 25) → (gp_R t 51 6 = some 55) → (gp_R t 51 7 = some 56) → (gp_us t = 606895) → (gp_sz t = 117) → K (some (gp_i (-1000000001))) t) : gs_C L (d + 1) 2842 4 [gp_r (some 1), gp_i 2, gp_i 32, gp_i p2] s K := by
  refine s_2842_e _ _ _ ?_
  refine zx1793_10 hs (by omega) (by omega) (by omega) (by omega) (by omega) (by omega) (by omega) (by omega) (⟨_, rfl, ?_⟩)
  refine ⟨fun h_1 => ?_, fun h_1 => ?_⟩
  · refine ⟨fun h_2 => ?_, fun h_2 => ?_⟩
    · exfalso; omega
    · refine ⟨fun h_3 => ?_, fun h_3 => ?_⟩
      · exfalso; omega
      · refine ⟨fun h_4 => ?_, fun h_4 => ?_⟩
        · exfalso; omega
        · refine ⟨fun h_5 => ?_, fun h_5 => ?_⟩
          · refine s_2842_39 _ _ _ ?_
            refine ⟨fun h_6 => ?_, fun h_6 => ?_⟩
            · exfalso; omega
            · refine ⟨fun h_7 => ?_, fun h_7 => ?_⟩
              · exfalso; omega
              · refine s_2842_53 _ _ _ ?_
                refine ⟨fun h_8 => ?_, fun h_8 => ?_⟩
                · exfalso; omega
                · refine ⟨fun h_9 => ?_, fun h_9 => ?_⟩
                  · refine zx2855_12 hs (by omega) (by omega) (by omega) (by omega) (by omega) (by omega) (by omega) (by omega) (by omega) (by omega) (by omega) (by omega) (by omega) (by omega) q14 q15 q16 q17 q18 (fun s_10 hs_11 q_12 q_13 q_14 q_15 q_16 q_17 q_18 q_19 q_20 q_21 q_22 q_23 q_24 q_25 q_26 q_27 q_28 q_29 q_30 q_31 => ⟨_, rfl, ?_⟩)
                    exact k s_10 hs_11 (by omega) (by omega) (by omega) (by omega) (by omega) (by omega) (by omega) (by omega) (by omega) (by omega) (by omega) (by omega) (by omega) (by omega) (by omega) q_27 q_28 q_29 q_30 q_31
                  · exfalso; omega
          · exfalso; omega
  · exfalso; omega
set_option maxRecDepth 100000 in
/-- GatheredPoints.sheet [(3, 3), (8, 8), (-2147483648, -1)] -/
theorem zx2842_53 {z : gH} {L d : Nat} {K : Option gV → gH → Prop} {s : gH} (p2 : Int) (hs : xM z s) (h_p2 : (-2147483648) ≤ p2 ∧ p2 ≤ (-1)) (q0 : gp_I s 1 2 = 0) (q1 : gp_I s 1 6 = 0) (q2 : gp_I s 1 7 = 1) (q3 : gp_I s 51 8 = 0) (q4 : gp_I s 57 1 = 0) (q5 : gp_I s 57 3 = 0) (q6 : gp_I s 72 0 = 0) (q7 : gp_I s 72 1 = 0) (q8 : gp_I s 72 2 = 0) (q9 : gp_I s 72 3 = 0) (q10 : gp_I s 73 0 = 0) (q11 : gp_I s 73 1 = 0) (q12 : gp_I s 73 2 = 0) (q13 : gp_I s 73 3 = 0) (q14 : ∀ k, k < 8 → gp_R s 4 k = some 25) (q15 : gp_R s 51 6 = some 55) (q16 : gp_R s 51 7 = some 56) (q17 : gp_us s = 606895) (q18 : gp_sz s = 117) (k : ∀ (t : gH), xM z t → (gp_I t 1 2 = 0) → (gp_I t 1 6 = 0) → (gp_I t 1 7 = 1) → ((-2147483648) ≤ gp_I t 2 3 ∧ gp_I t 2 3 ≤ 2147483647) → (gp_I t 51 8 = 0) → (gp_I t 57 1 = 0) → (gp_I t 57 3 = 0) → (gp_I t 72 0 = 0) → (gp_I t 72 1 = 0) → (gp_I t 72 2 = 0) → (gp_I t 72 3 = 0) → (gp_I t 73 0 = 0) → (gp_I t 73 1 = 0) → (gp_I t 73 2 = 0) → (gp_I t 73 3 = 0) → (∀ k, k < 8 → gp_R t 4 k = some 25) → (gp_R t 51 6 = some 55) → (gp_R t 51 7 = some 56) → (gp_us t = 606895) → (gp_sz t = 117) → K (some (gp_i (-1000000003))) t) : gs_C L (d + 1) 2842 4 [gp_r (some 1), gp_i 3, gp_i 8, gp_i p2] s K := by
  refine s_2842_e _ _ _ ?_
  refine zx1793_11 hs (by omega) (by omega) (by omega) (by omega) (by omega) (by omega) (by omega) (by omega) (⟨_, rfl, ?_⟩)
  refine ⟨fun h_1 => ?_, fun h_1 => ?_⟩
  · refine ⟨fun h_2 => ?_, fun h_2 => ?_⟩
    · exfalso; omega
    · refine ⟨fun h_3 => ?_, fun h_3 => ?_⟩
      · refine s_2842_39 _ _ _ ?_
        refine ⟨fun h_4 => ?_, fun h_4 => ?_⟩
        · exfalso; omega
        · refine ⟨fun h_5 => ?_, fun h_5 => ?_⟩
          · refine zx2855_13 hs (by omega) (by omega) (by omega) (by omega) (by omega) (by omega) (by omega) (by omega) (by omega) (by omega) (by omega) (by omega) (by omega) (by omega) q14 q15 q16 q17 q18 (fun s_6 hs_7 q_8 q_9 q_10 q_11 q_12 q_13 q_14 q_15 q_16 q_17 q_18 q_19 q_20 q_21 q_22 q_23 q_24 q_25 q_26 q_27 => ⟨_, rfl, ?_⟩)
            exact k s_6 hs_7 (by omega) (by omega) (by omega) (by omega) (by omega) (by omega) (by omega) (by omega) (by omega) (by omega) (by omega) (by omega) (by omega) (by omega) (by omega) q_23 q_24 q_25 q_26 q_27
          · exfalso; omega
      · exfalso; omega
  · exfalso; omega
set_option maxRecDepth 100000 in
/-- Sheets.lay, the loop at 17 -/
theorem zx1795_13_l17_0 {z : gH} {L d : Nat} {K : Option gV → gH → Prop} (p2 : Int)  (k : ∀ (t : gH), xM z t → (gp_I t 1 2 = 0) → (gp_I t 1 6 = 0) → (gp_I t 1 7 = 1) → (gp_I t 51 8 = 0) → (gp_I t 57 1 = 0) → (gp_I t 57 3 = 0) → (gp_I t 72 0 = 0) → (gp_I t 72 1 = 0) → (gp_I t 72 2 = 0) → (gp_I t 72 3 = 8) → (gp_I t 73 0 = 0) → (gp_I t 73 1 = 0) → (gp_I t 73 2 = 0) → (0 ≤ gp_I t 73 3 ∧ gp_I t 73 3 ≤ 20) → (∀ k, k < 8 → gp_R t 4 k = some 25) → (gp_R t 51 6 = some 55) → (gp_R t 51 7 = some 56) → (gp_us t = 606895) → (gp_sz t = 117) → K none t)  : ∀ (n : Nat) (v1 : Int) (v2 : Int) (v3 : Int) (v4 : Int) (s : gH), xM z s → (21 - v4).toNat < n → (v1 = 3) → (v2 = 8) → (0 ≤ v3 ∧ v3 ≤ 20) → (0 ≤ v4 ∧ v4 ≤ 20) → (gp_I s 1 2 = 0) → (gp_I s 1 6 = 0) → (gp_I s 1 7 = 1) → (gp_I s 51 8 = 0) → (gp_I s 57 1 = 0) → (gp_I s 57 3 = 0) → (gp_I s 72 0 = 0) → (gp_I s 72 1 = 0) → (gp_I s 72 2 = 0) → (gp_I s 72 3 = 8) → (gp_I s 73 0 = 0) → (gp_I s 73 1 = 0) → (gp_I s 73 2 = 0) → (0 ≤ gp_I s 73 3 ∧ gp_I s 73 3 ≤ 20) → (∀ k, k < 8 → gp_R s 4 k = some 25) → (gp_R s 51 6 = some 55) → (gp_R s 51 7 = some 56) → (gp_us s = 606895) → (gp_sz s = 117) → gs_E L d 1795 17 [gp_r (some 66), gp_i v1, gp_i v2, gp_i v3, gp_i v4] [] s K := by
  intro n
  induction n with
  | zero => intro v1 v2 v3 v4 s hs hm i0 i1 i2 i3 i4 i5 i6 i7 i8 i9 i10 i11 i12 i13 i14 i15 i16 i17 i18 i19 i20 i21 i22; exact absurd hm (Nat.not_lt_zero _)
  | succ n ih =>
    intro v1 v2 v3 v4 s hs hm i0 i1 i2 i3 i4 i5 i6 i7 i8 i9 i10 i11 i12 i13 i14 i15 i16 i17 i18 i19 i20 i21 i22
    subst i0
    subst i1
    refine s_1795_17 _ _ _ _ ?_
    refine ⟨fun h_1 => ?_, fun h_1 => ?_⟩
    · refine ⟨by omega, ?_⟩
      try rw [show gp_R (gp_mk L s) 67 (3 : Int).toNat = some 71 from rfl]
      refine ⟨71, rfl, ?_⟩
      refine ⟨⟨rfl, by show 0 ≤ v4 ∧ v4 < 20; omega⟩, ?_⟩
      intro s_2 e_3
      have hs_4 : xM z s_2 := by rw [e_3]; exact xw71 hs _ _
      have q_5 : gp_I s_2 1 2 = 0 := by rw [e_3]; exact i4
      have q_6 : gp_I s_2 1 6 = 0 := by rw [e_3]; exact i5
      have q_7 : gp_I s_2 1 7 = 1 := by rw [e_3]; exact i6
      have q_8 : gp_I s_2 51 8 = 0 := by rw [e_3]; exact i7
      have q_9 : gp_I s_2 57 1 = 0 := by rw [e_3]; exact i8
      have q_10 : gp_I s_2 57 3 = 0 := by rw [e_3]; exact i9
      have q_11 : gp_I s_2 72 0 = 0 := by rw [e_3]; exact i10
      have q_12 : gp_I s_2 72 1 = 0 := by rw [e_3]; exact i11
      have q_13 : gp_I s_2 72 2 = 0 := by rw [e_3]; exact i12
      have q_14 : gp_I s_2 72 3 = 8 := by rw [e_3]; exact i13
      have q_15 : gp_I s_2 73 0 = 0 := by rw [e_3]; exact i14
      have q_16 : gp_I s_2 73 1 = 0 := by rw [e_3]; exact i15
      have q_17 : gp_I s_2 73 2 = 0 := by rw [e_3]; exact i16
      have q_18 : 0 ≤ gp_I s_2 73 3 ∧ gp_I s_2 73 3 ≤ 20 := by rw [e_3]; exact i17
      have q_19 : ∀ k, k < 8 → gp_R s_2 4 k = some 25 := by rw [e_3]; exact i18
      have q_20 : gp_R s_2 51 6 = some 55 := by rw [e_3]; exact i19
      have q_21 : gp_R s_2 51 7 = some 56 := by rw [e_3]; exact i20
      have q_22 : gp_us s_2 = 606895 := by rw [e_3]; exact i21
      have q_23 : gp_sz s_2 = 117 := by rw [e_3]; exact i22
      have w_24 := gz_w (v4 + 1)
      exact ih _ _ _ _ s_2 hs_4 (by omega) (by omega) (by omega) (by omega) (by omega) (by omega) (by omega) (by omega) (by omega) (by omega) (by omega) (by omega) (by omega) (by omega) (by omega) (by omega) (by omega) (by omega) (by omega) q_19 q_20 q_21 q_22 q_23
    · have e_25 : v4 = 20 := by omega
      subst e_25
      exact k s hs (by omega) (by omega) (by omega) (by omega) (by omega) (by omega) (by omega) (by omega) (by omega) (by omega) (by omega) (by omega) (by omega) (by omega) i18 i19 i20 i21 i22
set_option maxRecDepth 100000 in
/-- Sheets.lay [(3, 3), (8, 8), (0, 20)] -/
theorem zx1795_13 {z : gH} {L d : Nat} {K : Option gV → gH → Prop} {s : gH} (p2 : Int) (hs : xM z s) (h_p2 : 0 ≤ p2 ∧ p2 ≤ 20) (q0 : gp_I s 1 2 = 0) (q1 : gp_I s 1 6 = 0) (q2 : gp_I s 1 7 = 1) (q3 : gp_I s 51 8 = 0) (q4 : gp_I s 57 1 = 0) (q5 : gp_I s 57 3 = 0) (q6 : gp_I s 72 0 = 0) (q7 : gp_I s 72 1 = 0) (q8 : gp_I s 72 2 = 0) (q9 : gp_I s 72 3 = 0) (q10 : gp_I s 73 0 = 0) (q11 : gp_I s 73 1 = 0) (q12 : gp_I s 73 2 = 0) (q13 : gp_I s 73 3 = 0) (q14 : ∀ k, k < 8 → gp_R s 4 k = some 25) (q15 : gp_R s 51 6 = some 55) (q16 : gp_R s 51 7 = some 56) (q17 : gp_us s = 606895) (q18 : gp_sz s = 117) (k : ∀ (t : gH), xM z t → (gp_I t 1 2 = 0) → (gp_I t 1 6 = 0) → (gp_I t 1 7 = 1) → (gp_I t 51 8 = 0) → (gp_I t 57 1 = 0) → (gp_I t 57 3 = 0) → (gp_I t 72 0 = 0) → (gp_I t 72 1 = 0) → (gp_I t 72 2 = 0) → (gp_I t 72 3 = 8) → (gp_I t 73 0 = 0) → (gp_I t 73 1 = 0) → (gp_I t 73 2 = 0) → (0 ≤ gp_I t 73 3 ∧ gp_I t 73 3 ≤ 20) → (∀ k, k < 8 → gp_R t 4 k = some 25) → (gp_R t 51 6 = some 55) → (gp_R t 51 7 = some 56) → (gp_us t = 606895) → (gp_sz t = 117) → K none t) : gs_C L d 1795 5 [gp_r (some 66), gp_i 3, gp_i 8, gp_i p2] s K := by
  refine s_1795_e _ _ _ ?_
  refine ⟨by omega, ?_⟩
  intro s_1 e_2
  have hs_3 : xM z s_1 := by rw [e_2]; exact xw72 hs _ _
  have q_4 : gp_I s_1 1 2 = 0 := by rw [e_2]; exact q0
  have q_5 : gp_I s_1 1 6 = 0 := by rw [e_2]; exact q1
  have q_6 : gp_I s_1 1 7 = 1 := by rw [e_2]; exact q2
  have q_7 : gp_I s_1 51 8 = 0 := by rw [e_2]; exact q3
  have q_8 : gp_I s_1 57 1 = 0 := by rw [e_2]; exact q4
  have q_9 : gp_I s_1 57 3 = 0 := by rw [e_2]; exact q5
  have q_10 : gp_I s_1 72 0 = 0 := by rw [e_2]; exact q6
  have q_11 : gp_I s_1 72 1 = 0 := by rw [e_2]; exact q7
  have q_12 : gp_I s_1 72 2 = 0 := by rw [e_2]; exact q8
  have q_13 : gp_I s_1 73 0 = 0 := by rw [e_2]; exact q10
  have q_14 : gp_I s_1 73 1 = 0 := by rw [e_2]; exact q11
  have q_15 : gp_I s_1 73 2 = 0 := by rw [e_2]; exact q12
  have q_16 : gp_I s_1 73 3 = 0 := by rw [e_2]; exact q13
  have q_17 : ∀ k, k < 8 → gp_R s_1 4 k = some 25 := by rw [e_2]; exact q14
  have q_18 : gp_R s_1 51 6 = some 55 := by rw [e_2]; exact q15
  have q_19 : gp_R s_1 51 7 = some 56 := by rw [e_2]; exact q16
  have q_20 : gp_us s_1 = 606895 := by rw [e_2]; exact q17
  have q_21 : gp_sz s_1 = 117 := by rw [e_2]; exact q18
  have q_22 : gp_I s_1 72 3 = 8 := by rw [e_2]; rfl
  refine ⟨by omega, ?_⟩
  intro s_24 e_25
  have hs_26 : xM z s_24 := by rw [e_25]; exact xw73 hs_3 _ _
  have q_27 : gp_I s_24 1 2 = 0 := by rw [e_25]; exact q_4
  have q_28 : gp_I s_24 1 6 = 0 := by rw [e_25]; exact q_5
  have q_29 : gp_I s_24 1 7 = 1 := by rw [e_25]; exact q_6
  have q_30 : gp_I s_24 51 8 = 0 := by rw [e_25]; exact q_7
  have q_31 : gp_I s_24 57 1 = 0 := by rw [e_25]; exact q_8
  have q_32 : gp_I s_24 57 3 = 0 := by rw [e_25]; exact q_9
  have q_33 : gp_I s_24 72 0 = 0 := by rw [e_25]; exact q_10
  have q_34 : gp_I s_24 72 1 = 0 := by rw [e_25]; exact q_11
  have q_35 : gp_I s_24 72 2 = 0 := by rw [e_25]; exact q_12
  have q_36 : gp_I s_24 73 0 = 0 := by rw [e_25]; exact q_13
  have q_37 : gp_I s_24 73 1 = 0 := by rw [e_25]; exact q_14
  have q_38 : gp_I s_24 73 2 = 0 := by rw [e_25]; exact q_15
  have q_39 : ∀ k, k < 8 → gp_R s_24 4 k = some 25 := by rw [e_25]; exact q_17
  have q_40 : gp_R s_24 51 6 = some 55 := by rw [e_25]; exact q_18
  have q_41 : gp_R s_24 51 7 = some 56 := by rw [e_25]; exact q_19
  have q_42 : gp_us s_24 = 606895 := by rw [e_25]; exact q_20
  have q_43 : gp_sz s_24 = 117 := by rw [e_25]; exact q_21
  have q_44 : gp_I s_24 72 3 = 8 := by rw [e_25]; exact q_22
  have q_45 : 0 ≤ gp_I s_24 73 3 ∧ gp_I s_24 73 3 ≤ 20 := by have x_46 : gp_I s_24 73 3 = p2 := (by rw [e_25]; rfl); omega
  exact zx1795_13_l17_0 p2 k _ _ _ _ _ s_24 hs_26 (Nat.lt_succ_self _) (by omega) (by omega) (by omega) (by omega) (by omega) (by omega) (by omega) (by omega) (by omega) (by omega) (by omega) (by omega) (by omega) (by omega) (by omega) (by omega) (by omega) (by omega) q_39 q_40 q_41 q_42 q_43
set_option maxRecDepth 100000 in
/-- GatheredPoints.sheet [(3, 3), (8, 8), (0, 20)] -/
theorem zx2842_54 {z : gH} {L d : Nat} {K : Option gV → gH → Prop} {s : gH} (p2 : Int) (hs : xM z s) (h_p2 : 0 ≤ p2 ∧ p2 ≤ 20) (q0 : gp_I s 1 2 = 0) (q1 : gp_I s 1 6 = 0) (q2 : gp_I s 1 7 = 1) (q3 : gp_I s 51 8 = 0) (q4 : gp_I s 57 1 = 0) (q5 : gp_I s 57 3 = 0) (q6 : gp_I s 72 0 = 0) (q7 : gp_I s 72 1 = 0) (q8 : gp_I s 72 2 = 0) (q9 : gp_I s 72 3 = 0) (q10 : gp_I s 73 0 = 0) (q11 : gp_I s 73 1 = 0) (q12 : gp_I s 73 2 = 0) (q13 : gp_I s 73 3 = 0) (q14 : ∀ k, k < 8 → gp_R s 4 k = some 25) (q15 : gp_R s 51 6 = some 55) (q16 : gp_R s 51 7 = some 56) (q17 : gp_us s = 606895) (q18 : gp_sz s = 117) (k : ∀ (t : gH), xM z t → (gp_I t 1 2 = 0) → (gp_I t 1 6 = 0) → (gp_I t 1 7 = 1) → (gp_I t 51 8 = 0) → (gp_I t 57 1 = 0) → (gp_I t 57 3 = 0) → (gp_I t 72 0 = 0) → (gp_I t 72 1 = 0) → (gp_I t 72 2 = 0) → (gp_I t 72 3 = 8) → (gp_I t 73 0 = 0) → (gp_I t 73 1 = 0) → (gp_I t 73 2 = 0) → (0 ≤ gp_I t 73 3 ∧ gp_I t 73 3 ≤ 20) → (∀ k, k < 8 → gp_R t 4 k = some 25) → (gp_R t 51 6 = some 55) → (gp_R t 51 7 = some 56) → (gp_us t = 606895) → (gp_sz t = 117) → K (some (gp_i 1)) t) : gs_C L (d + 1) 2842 4 [gp_r (some 1), gp_i 3, gp_i 8, gp_i p2] s K := by
  refine s_2842_e _ _ _ ?_
  refine zx1793_11 hs (by omega) (by omega) (by omega) (by omega) (by omega) (by omega) (by omega) (by omega) (⟨_, rfl, ?_⟩)
  refine ⟨fun h_1 => ?_, fun h_1 => ?_⟩
  · refine ⟨fun h_2 => ?_, fun h_2 => ?_⟩
    · exfalso; omega
    · refine ⟨fun h_3 => ?_, fun h_3 => ?_⟩
      · refine s_2842_39 _ _ _ ?_
        refine ⟨fun h_4 => ?_, fun h_4 => ?_⟩
        · exfalso; omega
        · refine ⟨fun h_5 => ?_, fun h_5 => ?_⟩
          · exfalso; omega
          · refine s_2842_53 _ _ _ ?_
            refine ⟨fun h_6 => ?_, fun h_6 => ?_⟩
            · exfalso; omega
            · refine ⟨fun h_7 => ?_, fun h_7 => ?_⟩
              · exfalso; omega
              · refine s_2842_69 _ _ _ ?_
                refine ⟨fun h_8 => ?_, fun h_8 => ?_⟩
                · exfalso; omega
                · refine s_2842_84 _ _ _ _ _ _ ?_
                  refine zx1795_13 _ hs (by omega) (by omega) (by omega) (by omega) (by omega) (by omega) (by omega) (by omega) (by omega) (by omega) (by omega) (by omega) (by omega) (by omega) (by omega) q14 q15 q16 q17 q18 (fun s_9 hs_10 q_11 q_12 q_13 q_14 q_15 q_16 q_17 q_18 q_19 q_20 q_21 q_22 q_23 q_24 q_25 q_26 q_27 q_28 q_29 => ⟨rfl, ?_⟩)
                  exact k s_9 hs_10 (by omega) (by omega) (by omega) (by omega) (by omega) (by omega) (by omega) (by omega) (by omega) (by omega) (by omega) (by omega) (by omega) (by omega) q_25 q_26 q_27 q_28 q_29
      · exfalso; omega
  · exfalso; omega
set_option maxRecDepth 100000 in
/-- GatheredPoints.sheet [(3, 3), (8, 8), (21, 2147483647)] -/
theorem zx2842_55 {z : gH} {L d : Nat} {K : Option gV → gH → Prop} {s : gH} (p2 : Int) (hs : xM z s) (h_p2 : 21 ≤ p2 ∧ p2 ≤ 2147483647) (q0 : gp_I s 1 2 = 0) (q1 : gp_I s 1 6 = 0) (q2 : gp_I s 1 7 = 1) (q3 : gp_I s 51 8 = 0) (q4 : gp_I s 57 1 = 0) (q5 : gp_I s 57 3 = 0) (q6 : gp_I s 72 0 = 0) (q7 : gp_I s 72 1 = 0) (q8 : gp_I s 72 2 = 0) (q9 : gp_I s 72 3 = 0) (q10 : gp_I s 73 0 = 0) (q11 : gp_I s 73 1 = 0) (q12 : gp_I s 73 2 = 0) (q13 : gp_I s 73 3 = 0) (q14 : ∀ k, k < 8 → gp_R s 4 k = some 25) (q15 : gp_R s 51 6 = some 55) (q16 : gp_R s 51 7 = some 56) (q17 : gp_us s = 606895) (q18 : gp_sz s = 117) (k : ∀ (t : gH), xM z t → (gp_I t 1 2 = 0) → (gp_I t 1 6 = 0) → (gp_I t 1 7 = 1) → ((-2147483648) ≤ gp_I t 2 1 ∧ gp_I t 2 1 ≤ 2147483647) → (gp_I t 51 8 = 0) → (gp_I t 57 1 = 0) → (gp_I t 57 3 = 0) → (gp_I t 72 0 = 0) → (gp_I t 72 1 = 0) → (gp_I t 72 2 = 0) → (gp_I t 72 3 = 0) → (gp_I t 73 0 = 0) → (gp_I t 73 1 = 0) → (gp_I t 73 2 = 0) → (gp_I t 73 3 = 0) → (∀ k, k < 8 → gp_R t 4 k = some 25) → (gp_R t 51 6 = some 55) → (gp_R t 51 7 = some 56) → (gp_us t = 606895) → (gp_sz t = 117) → K (some (gp_i (-1000000001))) t) : gs_C L (d + 1) 2842 4 [gp_r (some 1), gp_i 3, gp_i 8, gp_i p2] s K := by
  refine s_2842_e _ _ _ ?_
  refine zx1793_11 hs (by omega) (by omega) (by omega) (by omega) (by omega) (by omega) (by omega) (by omega) (⟨_, rfl, ?_⟩)
  refine ⟨fun h_1 => ?_, fun h_1 => ?_⟩
  · refine ⟨fun h_2 => ?_, fun h_2 => ?_⟩
    · exfalso; omega
    · refine ⟨fun h_3 => ?_, fun h_3 => ?_⟩
      · refine s_2842_39 _ _ _ ?_
        refine ⟨fun h_4 => ?_, fun h_4 => ?_⟩
        · exfalso; omega
        · refine ⟨fun h_5 => ?_, fun h_5 => ?_⟩
          · exfalso; omega
          · refine s_2842_53 _ _ _ ?_
            refine ⟨fun h_6 => ?_, fun h_6 => ?_⟩
            · exfalso; omega
            · refine ⟨fun h_7 => ?_, fun h_7 => ?_⟩
              · refine zx2855_12 hs (by omega) (by omega) (by omega) (by omega) (by omega) (by omega) (by omega) (by omega) (by omega) (by omega) (by omega) (by omega) (by omega) (by omega) q14 q15 q16 q17 q18 (fun s_8 hs_9 q_10 q_11 q_12 q_13 q_14 q_15 q_16 q_17 q_18 q_19 q_20 q_21 q_22 q_23 q_24 q_25 q_26 q_27 q_28 q_29 => ⟨_, rfl, ?_⟩)
                exact k s_8 hs_9 (by omega) (by omega) (by omega) (by omega) (by omega) (by omega) (by omega) (by omega) (by omega) (by omega) (by omega) (by omega) (by omega) (by omega) (by omega) q_25 q_26 q_27 q_28 q_29
              · exfalso; omega
      · exfalso; omega
  · exfalso; omega
set_option maxRecDepth 100000 in
/-- GatheredPoints.sheet [(3, 3), (16, 16), (-2147483648, -1)] -/
theorem zx2842_56 {z : gH} {L d : Nat} {K : Option gV → gH → Prop} {s : gH} (p2 : Int) (hs : xM z s) (h_p2 : (-2147483648) ≤ p2 ∧ p2 ≤ (-1)) (q0 : gp_I s 1 2 = 0) (q1 : gp_I s 1 6 = 0) (q2 : gp_I s 1 7 = 1) (q3 : gp_I s 51 8 = 0) (q4 : gp_I s 57 1 = 0) (q5 : gp_I s 57 3 = 0) (q6 : gp_I s 72 0 = 0) (q7 : gp_I s 72 1 = 0) (q8 : gp_I s 72 2 = 0) (q9 : gp_I s 72 3 = 0) (q10 : gp_I s 73 0 = 0) (q11 : gp_I s 73 1 = 0) (q12 : gp_I s 73 2 = 0) (q13 : gp_I s 73 3 = 0) (q14 : ∀ k, k < 8 → gp_R s 4 k = some 25) (q15 : gp_R s 51 6 = some 55) (q16 : gp_R s 51 7 = some 56) (q17 : gp_us s = 606895) (q18 : gp_sz s = 117) (k : ∀ (t : gH), xM z t → (gp_I t 1 2 = 0) → (gp_I t 1 6 = 0) → (gp_I t 1 7 = 1) → ((-2147483648) ≤ gp_I t 2 3 ∧ gp_I t 2 3 ≤ 2147483647) → (gp_I t 51 8 = 0) → (gp_I t 57 1 = 0) → (gp_I t 57 3 = 0) → (gp_I t 72 0 = 0) → (gp_I t 72 1 = 0) → (gp_I t 72 2 = 0) → (gp_I t 72 3 = 0) → (gp_I t 73 0 = 0) → (gp_I t 73 1 = 0) → (gp_I t 73 2 = 0) → (gp_I t 73 3 = 0) → (∀ k, k < 8 → gp_R t 4 k = some 25) → (gp_R t 51 6 = some 55) → (gp_R t 51 7 = some 56) → (gp_us t = 606895) → (gp_sz t = 117) → K (some (gp_i (-1000000003))) t) : gs_C L (d + 1) 2842 4 [gp_r (some 1), gp_i 3, gp_i 16, gp_i p2] s K := by
  refine s_2842_e _ _ _ ?_
  refine zx1793_11 hs (by omega) (by omega) (by omega) (by omega) (by omega) (by omega) (by omega) (by omega) (⟨_, rfl, ?_⟩)
  refine ⟨fun h_1 => ?_, fun h_1 => ?_⟩
  · refine ⟨fun h_2 => ?_, fun h_2 => ?_⟩
    · exfalso; omega
    · refine ⟨fun h_3 => ?_, fun h_3 => ?_⟩
      · exfalso; omega
      · refine ⟨fun h_4 => ?_, fun h_4 => ?_⟩
        · refine s_2842_39 _ _ _ ?_
          refine ⟨fun h_5 => ?_, fun h_5 => ?_⟩
          · exfalso; omega
          · refine ⟨fun h_6 => ?_, fun h_6 => ?_⟩
            · refine zx2855_13 hs (by omega) (by omega) (by omega) (by omega) (by omega) (by omega) (by omega) (by omega) (by omega) (by omega) (by omega) (by omega) (by omega) (by omega) q14 q15 q16 q17 q18 (fun s_7 hs_8 q_9 q_10 q_11 q_12 q_13 q_14 q_15 q_16 q_17 q_18 q_19 q_20 q_21 q_22 q_23 q_24 q_25 q_26 q_27 q_28 => ⟨_, rfl, ?_⟩)
              exact k s_7 hs_8 (by omega) (by omega) (by omega) (by omega) (by omega) (by omega) (by omega) (by omega) (by omega) (by omega) (by omega) (by omega) (by omega) (by omega) (by omega) q_24 q_25 q_26 q_27 q_28
            · exfalso; omega
        · exfalso; omega
  · exfalso; omega
set_option maxRecDepth 100000 in
/-- Sheets.lay, the loop at 17 -/
theorem zx1795_14_l17_0 {z : gH} {L d : Nat} {K : Option gV → gH → Prop} (p2 : Int)  (k : ∀ (t : gH), xM z t → (gp_I t 1 2 = 0) → (gp_I t 1 6 = 0) → (gp_I t 1 7 = 1) → (gp_I t 51 8 = 0) → (gp_I t 57 1 = 0) → (gp_I t 57 3 = 0) → (gp_I t 72 0 = 0) → (gp_I t 72 1 = 0) → (gp_I t 72 2 = 0) → (gp_I t 72 3 = 16) → (gp_I t 73 0 = 0) → (gp_I t 73 1 = 0) → (gp_I t 73 2 = 0) → (0 ≤ gp_I t 73 3 ∧ gp_I t 73 3 ≤ 20) → (∀ k, k < 8 → gp_R t 4 k = some 25) → (gp_R t 51 6 = some 55) → (gp_R t 51 7 = some 56) → (gp_us t = 606895) → (gp_sz t = 117) → K none t)  : ∀ (n : Nat) (v1 : Int) (v2 : Int) (v3 : Int) (v4 : Int) (s : gH), xM z s → (21 - v4).toNat < n → (v1 = 3) → (v2 = 16) → (0 ≤ v3 ∧ v3 ≤ 20) → (0 ≤ v4 ∧ v4 ≤ 20) → (gp_I s 1 2 = 0) → (gp_I s 1 6 = 0) → (gp_I s 1 7 = 1) → (gp_I s 51 8 = 0) → (gp_I s 57 1 = 0) → (gp_I s 57 3 = 0) → (gp_I s 72 0 = 0) → (gp_I s 72 1 = 0) → (gp_I s 72 2 = 0) → (gp_I s 72 3 = 16) → (gp_I s 73 0 = 0) → (gp_I s 73 1 = 0) → (gp_I s 73 2 = 0) → (0 ≤ gp_I s 73 3 ∧ gp_I s 73 3 ≤ 20) → (∀ k, k < 8 → gp_R s 4 k = some 25) → (gp_R s 51 6 = some 55) → (gp_R s 51 7 = some 56) → (gp_us s = 606895) → (gp_sz s = 117) → gs_E L d 1795 17 [gp_r (some 66), gp_i v1, gp_i v2, gp_i v3, gp_i v4] [] s K := by
  intro n
  induction n with
  | zero => intro v1 v2 v3 v4 s hs hm i0 i1 i2 i3 i4 i5 i6 i7 i8 i9 i10 i11 i12 i13 i14 i15 i16 i17 i18 i19 i20 i21 i22; exact absurd hm (Nat.not_lt_zero _)
  | succ n ih =>
    intro v1 v2 v3 v4 s hs hm i0 i1 i2 i3 i4 i5 i6 i7 i8 i9 i10 i11 i12 i13 i14 i15 i16 i17 i18 i19 i20 i21 i22
    subst i0
    subst i1
    refine s_1795_17 _ _ _ _ ?_
    refine ⟨fun h_1 => ?_, fun h_1 => ?_⟩
    · refine ⟨by omega, ?_⟩
      try rw [show gp_R (gp_mk L s) 67 (3 : Int).toNat = some 71 from rfl]
      refine ⟨71, rfl, ?_⟩
      refine ⟨⟨rfl, by show 0 ≤ v4 ∧ v4 < 20; omega⟩, ?_⟩
      intro s_2 e_3
      have hs_4 : xM z s_2 := by rw [e_3]; exact xw71 hs _ _
      have q_5 : gp_I s_2 1 2 = 0 := by rw [e_3]; exact i4
      have q_6 : gp_I s_2 1 6 = 0 := by rw [e_3]; exact i5
      have q_7 : gp_I s_2 1 7 = 1 := by rw [e_3]; exact i6
      have q_8 : gp_I s_2 51 8 = 0 := by rw [e_3]; exact i7
      have q_9 : gp_I s_2 57 1 = 0 := by rw [e_3]; exact i8
      have q_10 : gp_I s_2 57 3 = 0 := by rw [e_3]; exact i9
      have q_11 : gp_I s_2 72 0 = 0 := by rw [e_3]; exact i10
      have q_12 : gp_I s_2 72 1 = 0 := by rw [e_3]; exact i11
      have q_13 : gp_I s_2 72 2 = 0 := by rw [e_3]; exact i12
      have q_14 : gp_I s_2 72 3 = 16 := by rw [e_3]; exact i13
      have q_15 : gp_I s_2 73 0 = 0 := by rw [e_3]; exact i14
      have q_16 : gp_I s_2 73 1 = 0 := by rw [e_3]; exact i15
      have q_17 : gp_I s_2 73 2 = 0 := by rw [e_3]; exact i16
      have q_18 : 0 ≤ gp_I s_2 73 3 ∧ gp_I s_2 73 3 ≤ 20 := by rw [e_3]; exact i17
      have q_19 : ∀ k, k < 8 → gp_R s_2 4 k = some 25 := by rw [e_3]; exact i18
      have q_20 : gp_R s_2 51 6 = some 55 := by rw [e_3]; exact i19
      have q_21 : gp_R s_2 51 7 = some 56 := by rw [e_3]; exact i20
      have q_22 : gp_us s_2 = 606895 := by rw [e_3]; exact i21
      have q_23 : gp_sz s_2 = 117 := by rw [e_3]; exact i22
      have w_24 := gz_w (v4 + 1)
      exact ih _ _ _ _ s_2 hs_4 (by omega) (by omega) (by omega) (by omega) (by omega) (by omega) (by omega) (by omega) (by omega) (by omega) (by omega) (by omega) (by omega) (by omega) (by omega) (by omega) (by omega) (by omega) (by omega) q_19 q_20 q_21 q_22 q_23
    · have e_25 : v4 = 20 := by omega
      subst e_25
      exact k s hs (by omega) (by omega) (by omega) (by omega) (by omega) (by omega) (by omega) (by omega) (by omega) (by omega) (by omega) (by omega) (by omega) (by omega) i18 i19 i20 i21 i22
set_option maxRecDepth 100000 in
/-- Sheets.lay [(3, 3), (16, 16), (0, 20)] -/
theorem zx1795_14 {z : gH} {L d : Nat} {K : Option gV → gH → Prop} {s : gH} (p2 : Int) (hs : xM z s) (h_p2 : 0 ≤ p2 ∧ p2 ≤ 20) (q0 : gp_I s 1 2 = 0) (q1 : gp_I s 1 6 = 0) (q2 : gp_I s 1 7 = 1) (q3 : gp_I s 51 8 = 0) (q4 : gp_I s 57 1 = 0) (q5 : gp_I s 57 3 = 0) (q6 : gp_I s 72 0 = 0) (q7 : gp_I s 72 1 = 0) (q8 : gp_I s 72 2 = 0) (q9 : gp_I s 72 3 = 0) (q10 : gp_I s 73 0 = 0) (q11 : gp_I s 73 1 = 0) (q12 : gp_I s 73 2 = 0) (q13 : gp_I s 73 3 = 0) (q14 : ∀ k, k < 8 → gp_R s 4 k = some 25) (q15 : gp_R s 51 6 = some 55) (q16 : gp_R s 51 7 = some 56) (q17 : gp_us s = 606895) (q18 : gp_sz s = 117) (k : ∀ (t : gH), xM z t → (gp_I t 1 2 = 0) → (gp_I t 1 6 = 0) → (gp_I t 1 7 = 1) → (gp_I t 51 8 = 0) → (gp_I t 57 1 = 0) → (gp_I t 57 3 = 0) → (gp_I t 72 0 = 0) → (gp_I t 72 1 = 0) → (gp_I t 72 2 = 0) → (gp_I t 72 3 = 16) → (gp_I t 73 0 = 0) → (gp_I t 73 1 = 0) → (gp_I t 73 2 = 0) → (0 ≤ gp_I t 73 3 ∧ gp_I t 73 3 ≤ 20) → (∀ k, k < 8 → gp_R t 4 k = some 25) → (gp_R t 51 6 = some 55) → (gp_R t 51 7 = some 56) → (gp_us t = 606895) → (gp_sz t = 117) → K none t) : gs_C L d 1795 5 [gp_r (some 66), gp_i 3, gp_i 16, gp_i p2] s K := by
  refine s_1795_e _ _ _ ?_
  refine ⟨by omega, ?_⟩
  intro s_1 e_2
  have hs_3 : xM z s_1 := by rw [e_2]; exact xw72 hs _ _
  have q_4 : gp_I s_1 1 2 = 0 := by rw [e_2]; exact q0
  have q_5 : gp_I s_1 1 6 = 0 := by rw [e_2]; exact q1
  have q_6 : gp_I s_1 1 7 = 1 := by rw [e_2]; exact q2
  have q_7 : gp_I s_1 51 8 = 0 := by rw [e_2]; exact q3
  have q_8 : gp_I s_1 57 1 = 0 := by rw [e_2]; exact q4
  have q_9 : gp_I s_1 57 3 = 0 := by rw [e_2]; exact q5
  have q_10 : gp_I s_1 72 0 = 0 := by rw [e_2]; exact q6
  have q_11 : gp_I s_1 72 1 = 0 := by rw [e_2]; exact q7
  have q_12 : gp_I s_1 72 2 = 0 := by rw [e_2]; exact q8
  have q_13 : gp_I s_1 73 0 = 0 := by rw [e_2]; exact q10
  have q_14 : gp_I s_1 73 1 = 0 := by rw [e_2]; exact q11
  have q_15 : gp_I s_1 73 2 = 0 := by rw [e_2]; exact q12
  have q_16 : gp_I s_1 73 3 = 0 := by rw [e_2]; exact q13
  have q_17 : ∀ k, k < 8 → gp_R s_1 4 k = some 25 := by rw [e_2]; exact q14
  have q_18 : gp_R s_1 51 6 = some 55 := by rw [e_2]; exact q15
  have q_19 : gp_R s_1 51 7 = some 56 := by rw [e_2]; exact q16
  have q_20 : gp_us s_1 = 606895 := by rw [e_2]; exact q17
  have q_21 : gp_sz s_1 = 117 := by rw [e_2]; exact q18
  have q_22 : gp_I s_1 72 3 = 16 := by rw [e_2]; rfl
  refine ⟨by omega, ?_⟩
  intro s_24 e_25
  have hs_26 : xM z s_24 := by rw [e_25]; exact xw73 hs_3 _ _
  have q_27 : gp_I s_24 1 2 = 0 := by rw [e_25]; exact q_4
  have q_28 : gp_I s_24 1 6 = 0 := by rw [e_25]; exact q_5
  have q_29 : gp_I s_24 1 7 = 1 := by rw [e_25]; exact q_6
  have q_30 : gp_I s_24 51 8 = 0 := by rw [e_25]; exact q_7
  have q_31 : gp_I s_24 57 1 = 0 := by rw [e_25]; exact q_8
  have q_32 : gp_I s_24 57 3 = 0 := by rw [e_25]; exact q_9
  have q_33 : gp_I s_24 72 0 = 0 := by rw [e_25]; exact q_10
  have q_34 : gp_I s_24 72 1 = 0 := by rw [e_25]; exact q_11
  have q_35 : gp_I s_24 72 2 = 0 := by rw [e_25]; exact q_12
  have q_36 : gp_I s_24 73 0 = 0 := by rw [e_25]; exact q_13
  have q_37 : gp_I s_24 73 1 = 0 := by rw [e_25]; exact q_14
  have q_38 : gp_I s_24 73 2 = 0 := by rw [e_25]; exact q_15
  have q_39 : ∀ k, k < 8 → gp_R s_24 4 k = some 25 := by rw [e_25]; exact q_17
  have q_40 : gp_R s_24 51 6 = some 55 := by rw [e_25]; exact q_18
  have q_41 : gp_R s_24 51 7 = some 56 := by rw [e_25]; exact q_19
  have q_42 : gp_us s_24 = 606895 := by rw [e_25]; exact q_20
  have q_43 : gp_sz s_24 = 117 := by rw [e_25]; exact q_21
  have q_44 : gp_I s_24 72 3 = 16 := by rw [e_25]; exact q_22
  have q_45 : 0 ≤ gp_I s_24 73 3 ∧ gp_I s_24 73 3 ≤ 20 := by have x_46 : gp_I s_24 73 3 = p2 := (by rw [e_25]; rfl); omega
  exact zx1795_14_l17_0 p2 k _ _ _ _ _ s_24 hs_26 (Nat.lt_succ_self _) (by omega) (by omega) (by omega) (by omega) (by omega) (by omega) (by omega) (by omega) (by omega) (by omega) (by omega) (by omega) (by omega) (by omega) (by omega) (by omega) (by omega) (by omega) q_39 q_40 q_41 q_42 q_43
set_option maxRecDepth 100000 in
/-- GatheredPoints.sheet [(3, 3), (16, 16), (0, 20)] -/
theorem zx2842_57 {z : gH} {L d : Nat} {K : Option gV → gH → Prop} {s : gH} (p2 : Int) (hs : xM z s) (h_p2 : 0 ≤ p2 ∧ p2 ≤ 20) (q0 : gp_I s 1 2 = 0) (q1 : gp_I s 1 6 = 0) (q2 : gp_I s 1 7 = 1) (q3 : gp_I s 51 8 = 0) (q4 : gp_I s 57 1 = 0) (q5 : gp_I s 57 3 = 0) (q6 : gp_I s 72 0 = 0) (q7 : gp_I s 72 1 = 0) (q8 : gp_I s 72 2 = 0) (q9 : gp_I s 72 3 = 0) (q10 : gp_I s 73 0 = 0) (q11 : gp_I s 73 1 = 0) (q12 : gp_I s 73 2 = 0) (q13 : gp_I s 73 3 = 0) (q14 : ∀ k, k < 8 → gp_R s 4 k = some 25) (q15 : gp_R s 51 6 = some 55) (q16 : gp_R s 51 7 = some 56) (q17 : gp_us s = 606895) (q18 : gp_sz s = 117) (k : ∀ (t : gH), xM z t → (gp_I t 1 2 = 0) → (gp_I t 1 6 = 0) → (gp_I t 1 7 = 1) → (gp_I t 51 8 = 0) → (gp_I t 57 1 = 0) → (gp_I t 57 3 = 0) → (gp_I t 72 0 = 0) → (gp_I t 72 1 = 0) → (gp_I t 72 2 = 0) → (gp_I t 72 3 = 16) → (gp_I t 73 0 = 0) → (gp_I t 73 1 = 0) → (gp_I t 73 2 = 0) → (0 ≤ gp_I t 73 3 ∧ gp_I t 73 3 ≤ 20) → (∀ k, k < 8 → gp_R t 4 k = some 25) → (gp_R t 51 6 = some 55) → (gp_R t 51 7 = some 56) → (gp_us t = 606895) → (gp_sz t = 117) → K (some (gp_i 1)) t) : gs_C L (d + 1) 2842 4 [gp_r (some 1), gp_i 3, gp_i 16, gp_i p2] s K := by
  refine s_2842_e _ _ _ ?_
  refine zx1793_11 hs (by omega) (by omega) (by omega) (by omega) (by omega) (by omega) (by omega) (by omega) (⟨_, rfl, ?_⟩)
  refine ⟨fun h_1 => ?_, fun h_1 => ?_⟩
  · refine ⟨fun h_2 => ?_, fun h_2 => ?_⟩
    · exfalso; omega
    · refine ⟨fun h_3 => ?_, fun h_3 => ?_⟩
      · exfalso; omega
      · refine ⟨fun h_4 => ?_, fun h_4 => ?_⟩
        · refine s_2842_39 _ _ _ ?_
          refine ⟨fun h_5 => ?_, fun h_5 => ?_⟩
          · exfalso; omega
          · refine ⟨fun h_6 => ?_, fun h_6 => ?_⟩
            · exfalso; omega
            · refine s_2842_53 _ _ _ ?_
              refine ⟨fun h_7 => ?_, fun h_7 => ?_⟩
              · exfalso; omega
              · refine ⟨fun h_8 => ?_, fun h_8 => ?_⟩
                · exfalso; omega
                · refine s_2842_69 _ _ _ ?_
                  refine ⟨fun h_9 => ?_, fun h_9 => ?_⟩
                  · exfalso; omega
                  · refine s_2842_84 _ _ _ _ _ _ ?_
                    refine zx1795_14 _ hs (by omega) (by omega) (by omega) (by omega) (by omega) (by omega) (by omega) (by omega) (by omega) (by omega) (by omega) (by omega) (by omega) (by omega) (by omega) q14 q15 q16 q17 q18 (fun s_10 hs_11 q_12 q_13 q_14 q_15 q_16 q_17 q_18 q_19 q_20 q_21 q_22 q_23 q_24 q_25 q_26 q_27 q_28 q_29 q_30 => ⟨rfl, ?_⟩)
                    exact k s_10 hs_11 (by omega) (by omega) (by omega) (by omega) (by omega) (by omega) (by omega) (by omega) (by omega) (by omega) (by omega) (by omega) (by omega) (by omega) q_26 q_27 q_28 q_29 q_30
        · exfalso; omega
  · exfalso; omega
set_option maxRecDepth 100000 in
/-- GatheredPoints.sheet [(3, 3), (16, 16), (21, 2147483647)] -/
theorem zx2842_58 {z : gH} {L d : Nat} {K : Option gV → gH → Prop} {s : gH} (p2 : Int) (hs : xM z s) (h_p2 : 21 ≤ p2 ∧ p2 ≤ 2147483647) (q0 : gp_I s 1 2 = 0) (q1 : gp_I s 1 6 = 0) (q2 : gp_I s 1 7 = 1) (q3 : gp_I s 51 8 = 0) (q4 : gp_I s 57 1 = 0) (q5 : gp_I s 57 3 = 0) (q6 : gp_I s 72 0 = 0) (q7 : gp_I s 72 1 = 0) (q8 : gp_I s 72 2 = 0) (q9 : gp_I s 72 3 = 0) (q10 : gp_I s 73 0 = 0) (q11 : gp_I s 73 1 = 0) (q12 : gp_I s 73 2 = 0) (q13 : gp_I s 73 3 = 0) (q14 : ∀ k, k < 8 → gp_R s 4 k = some 25) (q15 : gp_R s 51 6 = some 55) (q16 : gp_R s 51 7 = some 56) (q17 : gp_us s = 606895) (q18 : gp_sz s = 117) (k : ∀ (t : gH), xM z t → (gp_I t 1 2 = 0) → (gp_I t 1 6 = 0) → (gp_I t 1 7 = 1) → ((-2147483648) ≤ gp_I t 2 1 ∧ gp_I t 2 1 ≤ 2147483647) → (gp_I t 51 8 = 0) → (gp_I t 57 1 = 0) → (gp_I t 57 3 = 0) → (gp_I t 72 0 = 0) → (gp_I t 72 1 = 0) → (gp_I t 72 2 = 0) → (gp_I t 72 3 = 0) → (gp_I t 73 0 = 0) → (gp_I t 73 1 = 0) → (gp_I t 73 2 = 0) → (gp_I t 73 3 = 0) → (∀ k, k < 8 → gp_R t 4 k = some 25) → (gp_R t 51 6 = some 55) → (gp_R t 51 7 = some 56) → (gp_us t = 606895) → (gp_sz t = 117) → K (some (gp_i (-1000000001))) t) : gs_C L (d + 1) 2842 4 [gp_r (some 1), gp_i 3, gp_i 16, gp_i p2] s K := by
  refine s_2842_e _ _ _ ?_
  refine zx1793_11 hs (by omega) (by omega) (by omega) (by omega) (by omega) (by omega) (by omega) (by omega) (⟨_, rfl, ?_⟩)
  refine ⟨fun h_1 => ?_, fun h_1 => ?_⟩
  · refine ⟨fun h_2 => ?_, fun h_2 => ?_⟩
    · exfalso; omega
    · refine ⟨fun h_3 => ?_, fun h_3 => ?_⟩
      · exfalso; omega
      · refine ⟨fun h_4 => ?_, fun h_4 => ?_⟩
        · refine s_2842_39 _ _ _ ?_
          refine ⟨fun h_5 => ?_, fun h_5 => ?_⟩
          · exfalso; omega
          · refine ⟨fun h_6 => ?_, fun h_6 => ?_⟩
            · exfalso; omega
            · refine s_2842_53 _ _ _ ?_
              refine ⟨fun h_7 => ?_, fun h_7 => ?_⟩
              · exfalso; omega
              · refine ⟨fun h_8 => ?_, fun h_8 => ?_⟩
                · refine zx2855_12 hs (by omega) (by omega) (by omega) (by omega) (by omega) (by omega) (by omega) (by omega) (by omega) (by omega) (by omega) (by omega) (by omega) (by omega) q14 q15 q16 q17 q18 (fun s_9 hs_10 q_11 q_12 q_13 q_14 q_15 q_16 q_17 q_18 q_19 q_20 q_21 q_22 q_23 q_24 q_25 q_26 q_27 q_28 q_29 q_30 => ⟨_, rfl, ?_⟩)
                  exact k s_9 hs_10 (by omega) (by omega) (by omega) (by omega) (by omega) (by omega) (by omega) (by omega) (by omega) (by omega) (by omega) (by omega) (by omega) (by omega) (by omega) q_26 q_27 q_28 q_29 q_30
                · exfalso; omega
        · exfalso; omega
  · exfalso; omega
set_option maxRecDepth 100000 in
/-- GatheredPoints.sheet [(3, 3), (32, 32), (-2147483648, -1)] -/
theorem zx2842_59 {z : gH} {L d : Nat} {K : Option gV → gH → Prop} {s : gH} (p2 : Int) (hs : xM z s) (h_p2 : (-2147483648) ≤ p2 ∧ p2 ≤ (-1)) (q0 : gp_I s 1 2 = 0) (q1 : gp_I s 1 6 = 0) (q2 : gp_I s 1 7 = 1) (q3 : gp_I s 51 8 = 0) (q4 : gp_I s 57 1 = 0) (q5 : gp_I s 57 3 = 0) (q6 : gp_I s 72 0 = 0) (q7 : gp_I s 72 1 = 0) (q8 : gp_I s 72 2 = 0) (q9 : gp_I s 72 3 = 0) (q10 : gp_I s 73 0 = 0) (q11 : gp_I s 73 1 = 0) (q12 : gp_I s 73 2 = 0) (q13 : gp_I s 73 3 = 0) (q14 : ∀ k, k < 8 → gp_R s 4 k = some 25) (q15 : gp_R s 51 6 = some 55) (q16 : gp_R s 51 7 = some 56) (q17 : gp_us s = 606895) (q18 : gp_sz s = 117) (k : ∀ (t : gH), xM z t → (gp_I t 1 2 = 0) → (gp_I t 1 6 = 0) → (gp_I t 1 7 = 1) → ((-2147483648) ≤ gp_I t 2 3 ∧ gp_I t 2 3 ≤ 2147483647) → (gp_I t 51 8 = 0) → (gp_I t 57 1 = 0) → (gp_I t 57 3 = 0) → (gp_I t 72 0 = 0) → (gp_I t 72 1 = 0) → (gp_I t 72 2 = 0) → (gp_I t 72 3 = 0) → (gp_I t 73 0 = 0) → (gp_I t 73 1 = 0) → (gp_I t 73 2 = 0) → (gp_I t 73 3 = 0) → (∀ k, k < 8 → gp_R t 4 k = some 25) → (gp_R t 51 6 = some 55) → (gp_R t 51 7 = some 56) → (gp_us t = 606895) → (gp_sz t = 117) → K (some (gp_i (-1000000003))) t) : gs_C L (d + 1) 2842 4 [gp_r (some 1), gp_i 3, gp_i 32, gp_i p2] s K := by
  refine s_2842_e _ _ _ ?_
  refine zx1793_11 hs (by omega) (by omega) (by omega) (by omega) (by omega) (by omega) (by omega) (by omega) (⟨_, rfl, ?_⟩)
  refine ⟨fun h_1 => ?_, fun h_1 => ?_⟩
  · refine ⟨fun h_2 => ?_, fun h_2 => ?_⟩
    · exfalso; omega
    · refine ⟨fun h_3 => ?_, fun h_3 => ?_⟩
      · exfalso; omega
      · refine ⟨fun h_4 => ?_, fun h_4 => ?_⟩
        · exfalso; omega
        · refine ⟨fun h_5 => ?_, fun h_5 => ?_⟩
          · refine s_2842_39 _ _ _ ?_
            refine ⟨fun h_6 => ?_, fun h_6 => ?_⟩
            · exfalso; omega
            · refine ⟨fun h_7 => ?_, fun h_7 => ?_⟩
              · refine zx2855_13 hs (by omega) (by omega) (by omega) (by omega) (by omega) (by omega) (by omega) (by omega) (by omega) (by omega) (by omega) (by omega) (by omega) (by omega) q14 q15 q16 q17 q18 (fun s_8 hs_9 q_10 q_11 q_12 q_13 q_14 q_15 q_16 q_17 q_18 q_19 q_20 q_21 q_22 q_23 q_24 q_25 q_26 q_27 q_28 q_29 => ⟨_, rfl, ?_⟩)
                exact k s_8 hs_9 (by omega) (by omega) (by omega) (by omega) (by omega) (by omega) (by omega) (by omega) (by omega) (by omega) (by omega) (by omega) (by omega) (by omega) (by omega) q_25 q_26 q_27 q_28 q_29
              · exfalso; omega
          · exfalso; omega
  · exfalso; omega
set_option maxRecDepth 100000 in
/-- Sheets.lay, the loop at 17 -/
theorem zx1795_15_l17_0 {z : gH} {L d : Nat} {K : Option gV → gH → Prop} (p2 : Int)  (k : ∀ (t : gH), xM z t → (gp_I t 1 2 = 0) → (gp_I t 1 6 = 0) → (gp_I t 1 7 = 1) → (gp_I t 51 8 = 0) → (gp_I t 57 1 = 0) → (gp_I t 57 3 = 0) → (gp_I t 72 0 = 0) → (gp_I t 72 1 = 0) → (gp_I t 72 2 = 0) → (gp_I t 72 3 = 32) → (gp_I t 73 0 = 0) → (gp_I t 73 1 = 0) → (gp_I t 73 2 = 0) → (0 ≤ gp_I t 73 3 ∧ gp_I t 73 3 ≤ 20) → (∀ k, k < 8 → gp_R t 4 k = some 25) → (gp_R t 51 6 = some 55) → (gp_R t 51 7 = some 56) → (gp_us t = 606895) → (gp_sz t = 117) → K none t)  : ∀ (n : Nat) (v1 : Int) (v2 : Int) (v3 : Int) (v4 : Int) (s : gH), xM z s → (21 - v4).toNat < n → (v1 = 3) → (v2 = 32) → (0 ≤ v3 ∧ v3 ≤ 20) → (0 ≤ v4 ∧ v4 ≤ 20) → (gp_I s 1 2 = 0) → (gp_I s 1 6 = 0) → (gp_I s 1 7 = 1) → (gp_I s 51 8 = 0) → (gp_I s 57 1 = 0) → (gp_I s 57 3 = 0) → (gp_I s 72 0 = 0) → (gp_I s 72 1 = 0) → (gp_I s 72 2 = 0) → (gp_I s 72 3 = 32) → (gp_I s 73 0 = 0) → (gp_I s 73 1 = 0) → (gp_I s 73 2 = 0) → (0 ≤ gp_I s 73 3 ∧ gp_I s 73 3 ≤ 20) → (∀ k, k < 8 → gp_R s 4 k = some 25) → (gp_R s 51 6 = some 55) → (gp_R s 51 7 = some 56) → (gp_us s = 606895) → (gp_sz s = 117) → gs_E L d 1795 17 [gp_r (some 66), gp_i v1, gp_i v2, gp_i v3, gp_i v4] [] s K := by
  intro n
  induction n with
  | zero => intro v1 v2 v3 v4 s hs hm i0 i1 i2 i3 i4 i5 i6 i7 i8 i9 i10 i11 i12 i13 i14 i15 i16 i17 i18 i19 i20 i21 i22; exact absurd hm (Nat.not_lt_zero _)
  | succ n ih =>
    intro v1 v2 v3 v4 s hs hm i0 i1 i2 i3 i4 i5 i6 i7 i8 i9 i10 i11 i12 i13 i14 i15 i16 i17 i18 i19 i20 i21 i22
    subst i0
    subst i1
    refine s_1795_17 _ _ _ _ ?_
    refine ⟨fun h_1 => ?_, fun h_1 => ?_⟩
    · refine ⟨by omega, ?_⟩
      try rw [show gp_R (gp_mk L s) 67 (3 : Int).toNat = some 71 from rfl]
      refine ⟨71, rfl, ?_⟩
      refine ⟨⟨rfl, by show 0 ≤ v4 ∧ v4 < 20; omega⟩, ?_⟩
      intro s_2 e_3
      have hs_4 : xM z s_2 := by rw [e_3]; exact xw71 hs _ _
      have q_5 : gp_I s_2 1 2 = 0 := by rw [e_3]; exact i4
      have q_6 : gp_I s_2 1 6 = 0 := by rw [e_3]; exact i5
      have q_7 : gp_I s_2 1 7 = 1 := by rw [e_3]; exact i6
      have q_8 : gp_I s_2 51 8 = 0 := by rw [e_3]; exact i7
      have q_9 : gp_I s_2 57 1 = 0 := by rw [e_3]; exact i8
      have q_10 : gp_I s_2 57 3 = 0 := by rw [e_3]; exact i9
      have q_11 : gp_I s_2 72 0 = 0 := by rw [e_3]; exact i10
      have q_12 : gp_I s_2 72 1 = 0 := by rw [e_3]; exact i11
      have q_13 : gp_I s_2 72 2 = 0 := by rw [e_3]; exact i12
      have q_14 : gp_I s_2 72 3 = 32 := by rw [e_3]; exact i13
      have q_15 : gp_I s_2 73 0 = 0 := by rw [e_3]; exact i14
      have q_16 : gp_I s_2 73 1 = 0 := by rw [e_3]; exact i15
      have q_17 : gp_I s_2 73 2 = 0 := by rw [e_3]; exact i16
      have q_18 : 0 ≤ gp_I s_2 73 3 ∧ gp_I s_2 73 3 ≤ 20 := by rw [e_3]; exact i17
      have q_19 : ∀ k, k < 8 → gp_R s_2 4 k = some 25 := by rw [e_3]; exact i18
      have q_20 : gp_R s_2 51 6 = some 55 := by rw [e_3]; exact i19
      have q_21 : gp_R s_2 51 7 = some 56 := by rw [e_3]; exact i20
      have q_22 : gp_us s_2 = 606895 := by rw [e_3]; exact i21
      have q_23 : gp_sz s_2 = 117 := by rw [e_3]; exact i22
      have w_24 := gz_w (v4 + 1)
      exact ih _ _ _ _ s_2 hs_4 (by omega) (by omega) (by omega) (by omega) (by omega) (by omega) (by omega) (by omega) (by omega) (by omega) (by omega) (by omega) (by omega) (by omega) (by omega) (by omega) (by omega) (by omega) (by omega) q_19 q_20 q_21 q_22 q_23
    · have e_25 : v4 = 20 := by omega
      subst e_25
      exact k s hs (by omega) (by omega) (by omega) (by omega) (by omega) (by omega) (by omega) (by omega) (by omega) (by omega) (by omega) (by omega) (by omega) (by omega) i18 i19 i20 i21 i22
set_option maxRecDepth 100000 in
/-- Sheets.lay [(3, 3), (32, 32), (0, 20)] -/
theorem zx1795_15 {z : gH} {L d : Nat} {K : Option gV → gH → Prop} {s : gH} (p2 : Int) (hs : xM z s) (h_p2 : 0 ≤ p2 ∧ p2 ≤ 20) (q0 : gp_I s 1 2 = 0) (q1 : gp_I s 1 6 = 0) (q2 : gp_I s 1 7 = 1) (q3 : gp_I s 51 8 = 0) (q4 : gp_I s 57 1 = 0) (q5 : gp_I s 57 3 = 0) (q6 : gp_I s 72 0 = 0) (q7 : gp_I s 72 1 = 0) (q8 : gp_I s 72 2 = 0) (q9 : gp_I s 72 3 = 0) (q10 : gp_I s 73 0 = 0) (q11 : gp_I s 73 1 = 0) (q12 : gp_I s 73 2 = 0) (q13 : gp_I s 73 3 = 0) (q14 : ∀ k, k < 8 → gp_R s 4 k = some 25) (q15 : gp_R s 51 6 = some 55) (q16 : gp_R s 51 7 = some 56) (q17 : gp_us s = 606895) (q18 : gp_sz s = 117) (k : ∀ (t : gH), xM z t → (gp_I t 1 2 = 0) → (gp_I t 1 6 = 0) → (gp_I t 1 7 = 1) → (gp_I t 51 8 = 0) → (gp_I t 57 1 = 0) → (gp_I t 57 3 = 0) → (gp_I t 72 0 = 0) → (gp_I t 72 1 = 0) → (gp_I t 72 2 = 0) → (gp_I t 72 3 = 32) → (gp_I t 73 0 = 0) → (gp_I t 73 1 = 0) → (gp_I t 73 2 = 0) → (0 ≤ gp_I t 73 3 ∧ gp_I t 73 3 ≤ 20) → (∀ k, k < 8 → gp_R t 4 k = some 25) → (gp_R t 51 6 = some 55) → (gp_R t 51 7 = some 56) → (gp_us t = 606895) → (gp_sz t = 117) → K none t) : gs_C L d 1795 5 [gp_r (some 66), gp_i 3, gp_i 32, gp_i p2] s K := by
  refine s_1795_e _ _ _ ?_
  refine ⟨by omega, ?_⟩
  intro s_1 e_2
  have hs_3 : xM z s_1 := by rw [e_2]; exact xw72 hs _ _
  have q_4 : gp_I s_1 1 2 = 0 := by rw [e_2]; exact q0
  have q_5 : gp_I s_1 1 6 = 0 := by rw [e_2]; exact q1
  have q_6 : gp_I s_1 1 7 = 1 := by rw [e_2]; exact q2
  have q_7 : gp_I s_1 51 8 = 0 := by rw [e_2]; exact q3
  have q_8 : gp_I s_1 57 1 = 0 := by rw [e_2]; exact q4
  have q_9 : gp_I s_1 57 3 = 0 := by rw [e_2]; exact q5
  have q_10 : gp_I s_1 72 0 = 0 := by rw [e_2]; exact q6
  have q_11 : gp_I s_1 72 1 = 0 := by rw [e_2]; exact q7
  have q_12 : gp_I s_1 72 2 = 0 := by rw [e_2]; exact q8
  have q_13 : gp_I s_1 73 0 = 0 := by rw [e_2]; exact q10
  have q_14 : gp_I s_1 73 1 = 0 := by rw [e_2]; exact q11
  have q_15 : gp_I s_1 73 2 = 0 := by rw [e_2]; exact q12
  have q_16 : gp_I s_1 73 3 = 0 := by rw [e_2]; exact q13
  have q_17 : ∀ k, k < 8 → gp_R s_1 4 k = some 25 := by rw [e_2]; exact q14
  have q_18 : gp_R s_1 51 6 = some 55 := by rw [e_2]; exact q15
  have q_19 : gp_R s_1 51 7 = some 56 := by rw [e_2]; exact q16
  have q_20 : gp_us s_1 = 606895 := by rw [e_2]; exact q17
  have q_21 : gp_sz s_1 = 117 := by rw [e_2]; exact q18
  have q_22 : gp_I s_1 72 3 = 32 := by rw [e_2]; rfl
  refine ⟨by omega, ?_⟩
  intro s_24 e_25
  have hs_26 : xM z s_24 := by rw [e_25]; exact xw73 hs_3 _ _
  have q_27 : gp_I s_24 1 2 = 0 := by rw [e_25]; exact q_4
  have q_28 : gp_I s_24 1 6 = 0 := by rw [e_25]; exact q_5
  have q_29 : gp_I s_24 1 7 = 1 := by rw [e_25]; exact q_6
  have q_30 : gp_I s_24 51 8 = 0 := by rw [e_25]; exact q_7
  have q_31 : gp_I s_24 57 1 = 0 := by rw [e_25]; exact q_8
  have q_32 : gp_I s_24 57 3 = 0 := by rw [e_25]; exact q_9
  have q_33 : gp_I s_24 72 0 = 0 := by rw [e_25]; exact q_10
  have q_34 : gp_I s_24 72 1 = 0 := by rw [e_25]; exact q_11
  have q_35 : gp_I s_24 72 2 = 0 := by rw [e_25]; exact q_12
  have q_36 : gp_I s_24 73 0 = 0 := by rw [e_25]; exact q_13
  have q_37 : gp_I s_24 73 1 = 0 := by rw [e_25]; exact q_14
  have q_38 : gp_I s_24 73 2 = 0 := by rw [e_25]; exact q_15
  have q_39 : ∀ k, k < 8 → gp_R s_24 4 k = some 25 := by rw [e_25]; exact q_17
  have q_40 : gp_R s_24 51 6 = some 55 := by rw [e_25]; exact q_18
  have q_41 : gp_R s_24 51 7 = some 56 := by rw [e_25]; exact q_19
  have q_42 : gp_us s_24 = 606895 := by rw [e_25]; exact q_20
  have q_43 : gp_sz s_24 = 117 := by rw [e_25]; exact q_21
  have q_44 : gp_I s_24 72 3 = 32 := by rw [e_25]; exact q_22
  have q_45 : 0 ≤ gp_I s_24 73 3 ∧ gp_I s_24 73 3 ≤ 20 := by have x_46 : gp_I s_24 73 3 = p2 := (by rw [e_25]; rfl); omega
  exact zx1795_15_l17_0 p2 k _ _ _ _ _ s_24 hs_26 (Nat.lt_succ_self _) (by omega) (by omega) (by omega) (by omega) (by omega) (by omega) (by omega) (by omega) (by omega) (by omega) (by omega) (by omega) (by omega) (by omega) (by omega) (by omega) (by omega) (by omega) q_39 q_40 q_41 q_42 q_43
set_option maxRecDepth 100000 in
/-- GatheredPoints.sheet [(3, 3), (32, 32), (0, 20)] -/
theorem zx2842_60 {z : gH} {L d : Nat} {K : Option gV → gH → Prop} {s : gH} (p2 : Int) (hs : xM z s) (h_p2 : 0 ≤ p2 ∧ p2 ≤ 20) (q0 : gp_I s 1 2 = 0) (q1 : gp_I s 1 6 = 0) (q2 : gp_I s 1 7 = 1) (q3 : gp_I s 51 8 = 0) (q4 : gp_I s 57 1 = 0) (q5 : gp_I s 57 3 = 0) (q6 : gp_I s 72 0 = 0) (q7 : gp_I s 72 1 = 0) (q8 : gp_I s 72 2 = 0) (q9 : gp_I s 72 3 = 0) (q10 : gp_I s 73 0 = 0) (q11 : gp_I s 73 1 = 0) (q12 : gp_I s 73 2 = 0) (q13 : gp_I s 73 3 = 0) (q14 : ∀ k, k < 8 → gp_R s 4 k = some 25) (q15 : gp_R s 51 6 = some 55) (q16 : gp_R s 51 7 = some 56) (q17 : gp_us s = 606895) (q18 : gp_sz s = 117) (k : ∀ (t : gH), xM z t → (gp_I t 1 2 = 0) → (gp_I t 1 6 = 0) → (gp_I t 1 7 = 1) → (gp_I t 51 8 = 0) → (gp_I t 57 1 = 0) → (gp_I t 57 3 = 0) → (gp_I t 72 0 = 0) → (gp_I t 72 1 = 0) → (gp_I t 72 2 = 0) → (gp_I t 72 3 = 32) → (gp_I t 73 0 = 0) → (gp_I t 73 1 = 0) → (gp_I t 73 2 = 0) → (0 ≤ gp_I t 73 3 ∧ gp_I t 73 3 ≤ 20) → (∀ k, k < 8 → gp_R t 4 k = some 25) → (gp_R t 51 6 = some 55) → (gp_R t 51 7 = some 56) → (gp_us t = 606895) → (gp_sz t = 117) → K (some (gp_i 1)) t) : gs_C L (d + 1) 2842 4 [gp_r (some 1), gp_i 3, gp_i 32, gp_i p2] s K := by
  refine s_2842_e _ _ _ ?_
  refine zx1793_11 hs (by omega) (by omega) (by omega) (by omega) (by omega) (by omega) (by omega) (by omega) (⟨_, rfl, ?_⟩)
  refine ⟨fun h_1 => ?_, fun h_1 => ?_⟩
  · refine ⟨fun h_2 => ?_, fun h_2 => ?_⟩
    · exfalso; omega
    · refine ⟨fun h_3 => ?_, fun h_3 => ?_⟩
      · exfalso; omega
      · refine ⟨fun h_4 => ?_, fun h_4 => ?_⟩
        · exfalso; omega
        · refine ⟨fun h_5 => ?_, fun h_5 => ?_⟩
          · refine s_2842_39 _ _ _ ?_
            refine ⟨fun h_6 => ?_, fun h_6 => ?_⟩
            · exfalso; omega
            · refine ⟨fun h_7 => ?_, fun h_7 => ?_⟩
              · exfalso; omega
              · refine s_2842_53 _ _ _ ?_
                refine ⟨fun h_8 => ?_, fun h_8 => ?_⟩
                · exfalso; omega
                · refine ⟨fun h_9 => ?_, fun h_9 => ?_⟩
                  · exfalso; omega
                  · refine s_2842_69 _ _ _ ?_
                    refine ⟨fun h_10 => ?_, fun h_10 => ?_⟩
                    · exfalso; omega
                    · refine s_2842_84 _ _ _ _ _ _ ?_
                      refine zx1795_15 _ hs (by omega) (by omega) (by omega) (by omega) (by omega) (by omega) (by omega) (by omega) (by omega) (by omega) (by omega) (by omega) (by omega) (by omega) (by omega) q14 q15 q16 q17 q18 (fun s_11 hs_12 q_13 q_14 q_15 q_16 q_17 q_18 q_19 q_20 q_21 q_22 q_23 q_24 q_25 q_26 q_27 q_28 q_29 q_30 q_31 => ⟨rfl, ?_⟩)
                      exact k s_11 hs_12 (by omega) (by omega) (by omega) (by omega) (by omega) (by omega) (by omega) (by omega) (by omega) (by omega) (by omega) (by omega) (by omega) (by omega) q_27 q_28 q_29 q_30 q_31
          · exfalso; omega
  · exfalso; omega
set_option maxRecDepth 100000 in
/-- GatheredPoints.sheet [(3, 3), (32, 32), (21, 2147483647)] -/
theorem zx2842_61 {z : gH} {L d : Nat} {K : Option gV → gH → Prop} {s : gH} (p2 : Int) (hs : xM z s) (h_p2 : 21 ≤ p2 ∧ p2 ≤ 2147483647) (q0 : gp_I s 1 2 = 0) (q1 : gp_I s 1 6 = 0) (q2 : gp_I s 1 7 = 1) (q3 : gp_I s 51 8 = 0) (q4 : gp_I s 57 1 = 0) (q5 : gp_I s 57 3 = 0) (q6 : gp_I s 72 0 = 0) (q7 : gp_I s 72 1 = 0) (q8 : gp_I s 72 2 = 0) (q9 : gp_I s 72 3 = 0) (q10 : gp_I s 73 0 = 0) (q11 : gp_I s 73 1 = 0) (q12 : gp_I s 73 2 = 0) (q13 : gp_I s 73 3 = 0) (q14 : ∀ k, k < 8 → gp_R s 4 k = some 25) (q15 : gp_R s 51 6 = some 55) (q16 : gp_R s 51 7 = some 56) (q17 : gp_us s = 606895) (q18 : gp_sz s = 117) (k : ∀ (t : gH), xM z t → (gp_I t 1 2 = 0) → (gp_I t 1 6 = 0) → (gp_I t 1 7 = 1) → ((-2147483648) ≤ gp_I t 2 1 ∧ gp_I t 2 1 ≤ 2147483647) → (gp_I t 51 8 = 0) → (gp_I t 57 1 = 0) → (gp_I t 57 3 = 0) → (gp_I t 72 0 = 0) → (gp_I t 72 1 = 0) → (gp_I t 72 2 = 0) → (gp_I t 72 3 = 0) → (gp_I t 73 0 = 0) → (gp_I t 73 1 = 0) → (gp_I t 73 2 = 0) → (gp_I t 73 3 = 0) → (∀ k, k < 8 → gp_R t 4 k = some 25) → (gp_R t 51 6 = some 55) → (gp_R t 51 7 = some 56) → (gp_us t = 606895) → (gp_sz t = 117) → K (some (gp_i (-1000000001))) t) : gs_C L (d + 1) 2842 4 [gp_r (some 1), gp_i 3, gp_i 32, gp_i p2] s K := by
  refine s_2842_e _ _ _ ?_
  refine zx1793_11 hs (by omega) (by omega) (by omega) (by omega) (by omega) (by omega) (by omega) (by omega) (⟨_, rfl, ?_⟩)
  refine ⟨fun h_1 => ?_, fun h_1 => ?_⟩
  · refine ⟨fun h_2 => ?_, fun h_2 => ?_⟩
    · exfalso; omega
    · refine ⟨fun h_3 => ?_, fun h_3 => ?_⟩
      · exfalso; omega
      · refine ⟨fun h_4 => ?_, fun h_4 => ?_⟩
        · exfalso; omega
        · refine ⟨fun h_5 => ?_, fun h_5 => ?_⟩
          · refine s_2842_39 _ _ _ ?_
            refine ⟨fun h_6 => ?_, fun h_6 => ?_⟩
            · exfalso; omega
            · refine ⟨fun h_7 => ?_, fun h_7 => ?_⟩
              · exfalso; omega
              · refine s_2842_53 _ _ _ ?_
                refine ⟨fun h_8 => ?_, fun h_8 => ?_⟩
                · exfalso; omega
                · refine ⟨fun h_9 => ?_, fun h_9 => ?_⟩
                  · refine zx2855_12 hs (by omega) (by omega) (by omega) (by omega) (by omega) (by omega) (by omega) (by omega) (by omega) (by omega) (by omega) (by omega) (by omega) (by omega) q14 q15 q16 q17 q18 (fun s_10 hs_11 q_12 q_13 q_14 q_15 q_16 q_17 q_18 q_19 q_20 q_21 q_22 q_23 q_24 q_25 q_26 q_27 q_28 q_29 q_30 q_31 => ⟨_, rfl, ?_⟩)
                    exact k s_10 hs_11 (by omega) (by omega) (by omega) (by omega) (by omega) (by omega) (by omega) (by omega) (by omega) (by omega) (by omega) (by omega) (by omega) (by omega) (by omega) q_27 q_28 q_29 q_30 q_31
                  · exfalso; omega
          · exfalso; omega
  · exfalso; omega
set_option maxRecDepth 100000 in
/-- GatheredPoints.put [(-2147483648, -1), (-2147483648, 2147483647), (-2147483648, 2147483647)] -/
theorem zx2843_0 {z : gH} {L d : Nat} {K : Option gV → gH → Prop} {s : gH} (p0 : Int) (p1 : Int) (p2 : Int) (hs : xM z s) (h_p0 : (-2147483648) ≤ p0 ∧ p0 ≤ (-1)) (h_p1 : (-2147483648) ≤ p1 ∧ p1 ≤ 2147483647) (h_p2 : (-2147483648) ≤ p2 ∧ p2 ≤ 2147483647) (q0 : gp_I s 1 2 = 0) (q1 : gp_I s 1 6 = 0) (q2 : gp_I s 1 7 = 1) (q3 : gp_I s 51 8 = 0) (q4 : gp_I s 57 1 = 0) (q5 : gp_I s 57 3 = 0) (q6 : gp_I s 72 0 = 0) (q7 : gp_I s 72 1 = 0) (q8 : gp_I s 72 2 = 0) (q9 : gp_I s 72 3 = 0) (q10 : gp_I s 73 0 = 0) (q11 : gp_I s 73 1 = 0) (q12 : gp_I s 73 2 = 0) (q13 : gp_I s 73 3 = 0) (q14 : ∀ k, k < 8 → gp_R s 4 k = some 25) (q15 : gp_R s 51 6 = some 55) (q16 : gp_R s 51 7 = some 56) (q17 : gp_us s = 606895) (q18 : gp_sz s = 117) (k : ∀ (t : gH), xM z t → (gp_I t 1 2 = 0) → (gp_I t 1 6 = 0) → (gp_I t 1 7 = 1) → ((-2147483648) ≤ gp_I t 2 1 ∧ gp_I t 2 1 ≤ 2147483647) → (gp_I t 51 8 = 0) → (gp_I t 57 1 = 0) → (gp_I t 57 3 = 0) → (gp_I t 72 0 = 0) → (gp_I t 72 1 = 0) → (gp_I t 72 2 = 0) → (gp_I t 72 3 = 0) → (gp_I t 73 0 = 0) → (gp_I t 73 1 = 0) → (gp_I t 73 2 = 0) → (gp_I t 73 3 = 0) → (∀ k, k < 8 → gp_R t 4 k = some 25) → (gp_R t 51 6 = some 55) → (gp_R t 51 7 = some 56) → (gp_us t = 606895) → (gp_sz t = 117) → K (some (gp_i (-1000000001))) t) : gs_C L (d + 1) 2843 4 [gp_r (some 1), gp_i p0, gp_i p1, gp_i p2] s K := by
  refine s_2843_e _ _ _ ?_
  refine zx1793_6 _ hs (by omega) (by omega) (by omega) (by omega) (by omega) (by omega) (by omega) (by omega) (by omega) (⟨_, rfl, ?_⟩)
  refine ⟨fun h_1 => ?_, fun h_1 => ?_⟩
  · exfalso; omega
  · refine zx2855_12 hs (by omega) (by omega) (by omega) (by omega) (by omega) (by omega) (by omega) (by omega) (by omega) (by omega) (by omega) (by omega) (by omega) (by omega) q14 q15 q16 q17 q18 (fun s_2 hs_3 q_4 q_5 q_6 q_7 q_8 q_9 q_10 q_11 q_12 q_13 q_14 q_15 q_16 q_17 q_18 q_19 q_20 q_21 q_22 q_23 => ⟨_, rfl, ?_⟩)
    exact k s_2 hs_3 (by omega) (by omega) (by omega) (by omega) (by omega) (by omega) (by omega) (by omega) (by omega) (by omega) (by omega) (by omega) (by omega) (by omega) (by omega) q_19 q_20 q_21 q_22 q_23
set_option maxRecDepth 100000 in
/-- GatheredPoints.put [(4, 2147483647), (-2147483648, 2147483647), (-2147483648, 2147483647)] -/
theorem zx2843_1 {z : gH} {L d : Nat} {K : Option gV → gH → Prop} {s : gH} (p0 : Int) (p1 : Int) (p2 : Int) (hs : xM z s) (h_p0 : 4 ≤ p0 ∧ p0 ≤ 2147483647) (h_p1 : (-2147483648) ≤ p1 ∧ p1 ≤ 2147483647) (h_p2 : (-2147483648) ≤ p2 ∧ p2 ≤ 2147483647) (q0 : gp_I s 1 2 = 0) (q1 : gp_I s 1 6 = 0) (q2 : gp_I s 1 7 = 1) (q3 : gp_I s 51 8 = 0) (q4 : gp_I s 57 1 = 0) (q5 : gp_I s 57 3 = 0) (q6 : gp_I s 72 0 = 0) (q7 : gp_I s 72 1 = 0) (q8 : gp_I s 72 2 = 0) (q9 : gp_I s 72 3 = 0) (q10 : gp_I s 73 0 = 0) (q11 : gp_I s 73 1 = 0) (q12 : gp_I s 73 2 = 0) (q13 : gp_I s 73 3 = 0) (q14 : ∀ k, k < 8 → gp_R s 4 k = some 25) (q15 : gp_R s 51 6 = some 55) (q16 : gp_R s 51 7 = some 56) (q17 : gp_us s = 606895) (q18 : gp_sz s = 117) (k : ∀ (t : gH), xM z t → (gp_I t 1 2 = 0) → (gp_I t 1 6 = 0) → (gp_I t 1 7 = 1) → ((-2147483648) ≤ gp_I t 2 1 ∧ gp_I t 2 1 ≤ 2147483647) → (gp_I t 51 8 = 0) → (gp_I t 57 1 = 0) → (gp_I t 57 3 = 0) → (gp_I t 72 0 = 0) → (gp_I t 72 1 = 0) → (gp_I t 72 2 = 0) → (gp_I t 72 3 = 0) → (gp_I t 73 0 = 0) → (gp_I t 73 1 = 0) → (gp_I t 73 2 = 0) → (gp_I t 73 3 = 0) → (∀ k, k < 8 → gp_R t 4 k = some 25) → (gp_R t 51 6 = some 55) → (gp_R t 51 7 = some 56) → (gp_us t = 606895) → (gp_sz t = 117) → K (some (gp_i (-1000000001))) t) : gs_C L (d + 1) 2843 4 [gp_r (some 1), gp_i p0, gp_i p1, gp_i p2] s K := by
  refine s_2843_e _ _ _ ?_
  refine zx1793_7 _ hs (by omega) (by omega) (by omega) (by omega) (by omega) (by omega) (by omega) (by omega) (by omega) (⟨_, rfl, ?_⟩)
  refine ⟨fun h_1 => ?_, fun h_1 => ?_⟩
  · exfalso; omega
  · refine zx2855_12 hs (by omega) (by omega) (by omega) (by omega) (by omega) (by omega) (by omega) (by omega) (by omega) (by omega) (by omega) (by omega) (by omega) (by omega) q14 q15 q16 q17 q18 (fun s_2 hs_3 q_4 q_5 q_6 q_7 q_8 q_9 q_10 q_11 q_12 q_13 q_14 q_15 q_16 q_17 q_18 q_19 q_20 q_21 q_22 q_23 => ⟨_, rfl, ?_⟩)
    exact k s_2 hs_3 (by omega) (by omega) (by omega) (by omega) (by omega) (by omega) (by omega) (by omega) (by omega) (by omega) (by omega) (by omega) (by omega) (by omega) (by omega) q_19 q_20 q_21 q_22 q_23
set_option maxRecDepth 100000 in
/-- Sheets.missing [(0, 0)] -/
theorem zx1794_4 {z : gH} {L d : Nat} {K : Option gV → gH → Prop} {s : gH}  (hs : xM z s)  (q0 : gp_I s 72 0 = 0) (q1 : gp_I s 72 1 = 0) (q2 : gp_I s 72 2 = 0) (q3 : gp_I s 72 3 = 0) (q4 : gp_I s 73 0 = 0) (q5 : gp_I s 73 1 = 0) (q6 : gp_I s 73 2 = 0) (q7 : gp_I s 73 3 = 0) (k : K (some (gp_i 1)) s) : gs_C L d 1794 2 [gp_r (some 66), gp_i 0] s K := by
  refine s_1794_e _ ?_
  refine ⟨by omega, ?_⟩
  try rw [show gp_I s 72 (0 : Int).toNat = 0 from q0]
  refine ⟨fun h_1 => ?_, fun h_1 => ?_⟩
  · refine s_1794_14 _ _ ?_
    refine ⟨by omega, ?_⟩
    exact k
  · exfalso; omega
set_option maxRecDepth 100000 in
/-- GatheredPoints.refused [(2, 2)] -/
theorem zx2855_14 {z : gH} {L d : Nat} {K : Option gV → gH → Prop} {s : gH}  (hs : xM z s)  (q0 : gp_I s 1 2 = 0) (q1 : gp_I s 1 6 = 0) (q2 : gp_I s 1 7 = 1) (q3 : gp_I s 51 8 = 0) (q4 : gp_I s 57 1 = 0) (q5 : gp_I s 57 3 = 0) (q6 : gp_I s 72 0 = 0) (q7 : gp_I s 72 1 = 0) (q8 : gp_I s 72 2 = 0) (q9 : gp_I s 72 3 = 0) (q10 : gp_I s 73 0 = 0) (q11 : gp_I s 73 1 = 0) (q12 : gp_I s 73 2 = 0) (q13 : gp_I s 73 3 = 0) (q14 : ∀ k, k < 8 → gp_R s 4 k = some 25) (q15 : gp_R s 51 6 = some 55) (q16 : gp_R s 51 7 = some 56) (q17 : gp_us s = 606895) (q18 : gp_sz s = 117) (k : ∀ (t : gH), xM z t → (gp_I t 1 2 = 0) → (gp_I t 1 6 = 0) → (gp_I t 1 7 = 1) → ((-2147483648) ≤ gp_I t 2 2 ∧ gp_I t 2 2 ≤ 2147483647) → (gp_I t 51 8 = 0) → (gp_I t 57 1 = 0) → (gp_I t 57 3 = 0) → (gp_I t 72 0 = 0) → (gp_I t 72 1 = 0) → (gp_I t 72 2 = 0) → (gp_I t 72 3 = 0) → (gp_I t 73 0 = 0) → (gp_I t 73 1 = 0) → (gp_I t 73 2 = 0) → (gp_I t 73 3 = 0) → (∀ k, k < 8 → gp_R t 4 k = some 25) → (gp_R t 51 6 = some 55) → (gp_R t 51 7 = some 56) → (gp_us t = 606895) → (gp_sz t = 117) → K (some (gp_i (-1000000002))) t) : gs_C L d 2855 2 [gp_r (some 1), gp_i 2] s K := by
  refine s_2855_e _ ?_
  refine ⟨by omega, ?_⟩
  have w_1 := gz_w ((gp_I s 2 (2 : Int).toNat) + 1)
  refine ⟨by omega, ?_⟩
  intro s_2 e_3
  have hs_4 : xM z s_2 := by rw [e_3]; exact xw2 hs _ _
  have q_5 : gp_I s_2 1 2 = 0 := by rw [e_3]; exact q0
  have q_6 : gp_I s_2 1 6 = 0 := by rw [e_3]; exact q1
  have q_7 : gp_I s_2 1 7 = 1 := by rw [e_3]; exact q2
  have q_8 : gp_I s_2 51 8 = 0 := by rw [e_3]; exact q3
  have q_9 : gp_I s_2 57 1 = 0 := by rw [e_3]; exact q4
  have q_10 : gp_I s_2 57 3 = 0 := by rw [e_3]; exact q5
  have q_11 : gp_I s_2 72 0 = 0 := by rw [e_3]; exact q6
  have q_12 : gp_I s_2 72 1 = 0 := by rw [e_3]; exact q7
  have q_13 : gp_I s_2 72 2 = 0 := by rw [e_3]; exact q8
  have q_14 : gp_I s_2 72 3 = 0 := by rw [e_3]; exact q9
  have q_15 : gp_I s_2 73 0 = 0 := by rw [e_3]; exact q10
  have q_16 : gp_I s_2 73 1 = 0 := by rw [e_3]; exact q11
  have q_17 : gp_I s_2 73 2 = 0 := by rw [e_3]; exact q12
  have q_18 : gp_I s_2 73 3 = 0 := by rw [e_3]; exact q13
  have q_19 : ∀ k, k < 8 → gp_R s_2 4 k = some 25 := by rw [e_3]; exact q14
  have q_20 : gp_R s_2 51 6 = some 55 := by rw [e_3]; exact q15
  have q_21 : gp_R s_2 51 7 = some 56 := by rw [e_3]; exact q16
  have q_22 : gp_us s_2 = 606895 := by rw [e_3]; exact q17
  have q_23 : gp_sz s_2 = 117 := by rw [e_3]; exact q18
  have q_24 : (-2147483648) ≤ gp_I s_2 2 2 ∧ gp_I s_2 2 2 ≤ 2147483647 := by have x_25 : gp_I s_2 2 2 = gp_wr ((gp_I s 2 (2 : Int).toNat) + 1) := (by rw [e_3]; rfl); omega
  have w_26 := gz_w ((-1000000000) - 2)
  have e_27 : gp_wr ((-1000000000) - 2) = (-1000000002) := by omega
  try rw [e_27]
  exact k s_2 hs_4 (by omega) (by omega) (by omega) (by omega) (by omega) (by omega) (by omega) (by omega) (by omega) (by omega) (by omega) (by omega) (by omega) (by omega) (by omega) q_19 q_20 q_21 q_22 q_23
set_option maxRecDepth 100000 in
/-- GatheredPoints.put [(0, 0), (-2147483648, 2147483647), (-2147483648, 2147483647)] -/
theorem zx2843_2 {z : gH} {L d : Nat} {K : Option gV → gH → Prop} {s : gH} (p1 : Int) (p2 : Int) (hs : xM z s) (h_p1 : (-2147483648) ≤ p1 ∧ p1 ≤ 2147483647) (h_p2 : (-2147483648) ≤ p2 ∧ p2 ≤ 2147483647) (q0 : gp_I s 1 2 = 0) (q1 : gp_I s 1 6 = 0) (q2 : gp_I s 1 7 = 1) (q3 : gp_I s 51 8 = 0) (q4 : gp_I s 57 1 = 0) (q5 : gp_I s 57 3 = 0) (q6 : gp_I s 72 0 = 0) (q7 : gp_I s 72 1 = 0) (q8 : gp_I s 72 2 = 0) (q9 : gp_I s 72 3 = 0) (q10 : gp_I s 73 0 = 0) (q11 : gp_I s 73 1 = 0) (q12 : gp_I s 73 2 = 0) (q13 : gp_I s 73 3 = 0) (q14 : ∀ k, k < 8 → gp_R s 4 k = some 25) (q15 : gp_R s 51 6 = some 55) (q16 : gp_R s 51 7 = some 56) (q17 : gp_us s = 606895) (q18 : gp_sz s = 117) (k : ∀ (t : gH), xM z t → (gp_I t 1 2 = 0) → (gp_I t 1 6 = 0) → (gp_I t 1 7 = 1) → ((-2147483648) ≤ gp_I t 2 2 ∧ gp_I t 2 2 ≤ 2147483647) → (gp_I t 51 8 = 0) → (gp_I t 57 1 = 0) → (gp_I t 57 3 = 0) → (gp_I t 72 0 = 0) → (gp_I t 72 1 = 0) → (gp_I t 72 2 = 0) → (gp_I t 72 3 = 0) → (gp_I t 73 0 = 0) → (gp_I t 73 1 = 0) → (gp_I t 73 2 = 0) → (gp_I t 73 3 = 0) → (∀ k, k < 8 → gp_R t 4 k = some 25) → (gp_R t 51 6 = some 55) → (gp_R t 51 7 = some 56) → (gp_us t = 606895) → (gp_sz t = 117) → K (some (gp_i (-1000000002))) t) : gs_C L (d + 1) 2843 4 [gp_r (some 1), gp_i 0, gp_i p1, gp_i p2] s K := by
  refine s_2843_e _ _ _ ?_
  refine zx1793_8 hs (by omega) (by omega) (by omega) (by omega) (by omega) (by omega) (by omega) (by omega) (⟨_, rfl, ?_⟩)
  refine ⟨fun h_1 => ?_, fun h_1 => ?_⟩
  · refine zx1794_4 hs (by omega) (by omega) (by omega) (by omega) (by omega) (by omega) (by omega) (by omega) (⟨_, rfl, ?_⟩)
    refine ⟨fun h_2 => ?_, fun h_2 => ?_⟩
    · exfalso; omega
    · refine zx2855_14 hs (by omega) (by omega) (by omega) (by omega) (by omega) (by omega) (by omega) (by omega) (by omega) (by omega) (by omega) (by omega) (by omega) (by omega) q14 q15 q16 q17 q18 (fun s_3 hs_4 q_5 q_6 q_7 q_8 q_9 q_10 q_11 q_12 q_13 q_14 q_15 q_16 q_17 q_18 q_19 q_20 q_21 q_22 q_23 q_24 => ⟨_, rfl, ?_⟩)
      exact k s_3 hs_4 (by omega) (by omega) (by omega) (by omega) (by omega) (by omega) (by omega) (by omega) (by omega) (by omega) (by omega) (by omega) (by omega) (by omega) (by omega) q_20 q_21 q_22 q_23 q_24
  · exfalso; omega
set_option maxRecDepth 100000 in
/-- Sheets.missing [(1, 1)] -/
theorem zx1794_5 {z : gH} {L d : Nat} {K : Option gV → gH → Prop} {s : gH}  (hs : xM z s)  (q0 : gp_I s 72 0 = 0) (q1 : gp_I s 72 1 = 0) (q2 : gp_I s 72 2 = 0) (q3 : gp_I s 72 3 = 0) (q4 : gp_I s 73 0 = 0) (q5 : gp_I s 73 1 = 0) (q6 : gp_I s 73 2 = 0) (q7 : gp_I s 73 3 = 0) (k : K (some (gp_i 1)) s) : gs_C L d 1794 2 [gp_r (some 66), gp_i 1] s K := by
  refine s_1794_e _ ?_
  refine ⟨by omega, ?_⟩
  try rw [show gp_I s 72 (1 : Int).toNat = 0 from q1]
  refine ⟨fun h_1 => ?_, fun h_1 => ?_⟩
  · refine s_1794_14 _ _ ?_
    refine ⟨by omega, ?_⟩
    exact k
  · exfalso; omega
set_option maxRecDepth 100000 in
/-- GatheredPoints.put [(1, 1), (-2147483648, 2147483647), (-2147483648, 2147483647)] -/
theorem zx2843_3 {z : gH} {L d : Nat} {K : Option gV → gH → Prop} {s : gH} (p1 : Int) (p2 : Int) (hs : xM z s) (h_p1 : (-2147483648) ≤ p1 ∧ p1 ≤ 2147483647) (h_p2 : (-2147483648) ≤ p2 ∧ p2 ≤ 2147483647) (q0 : gp_I s 1 2 = 0) (q1 : gp_I s 1 6 = 0) (q2 : gp_I s 1 7 = 1) (q3 : gp_I s 51 8 = 0) (q4 : gp_I s 57 1 = 0) (q5 : gp_I s 57 3 = 0) (q6 : gp_I s 72 0 = 0) (q7 : gp_I s 72 1 = 0) (q8 : gp_I s 72 2 = 0) (q9 : gp_I s 72 3 = 0) (q10 : gp_I s 73 0 = 0) (q11 : gp_I s 73 1 = 0) (q12 : gp_I s 73 2 = 0) (q13 : gp_I s 73 3 = 0) (q14 : ∀ k, k < 8 → gp_R s 4 k = some 25) (q15 : gp_R s 51 6 = some 55) (q16 : gp_R s 51 7 = some 56) (q17 : gp_us s = 606895) (q18 : gp_sz s = 117) (k : ∀ (t : gH), xM z t → (gp_I t 1 2 = 0) → (gp_I t 1 6 = 0) → (gp_I t 1 7 = 1) → ((-2147483648) ≤ gp_I t 2 2 ∧ gp_I t 2 2 ≤ 2147483647) → (gp_I t 51 8 = 0) → (gp_I t 57 1 = 0) → (gp_I t 57 3 = 0) → (gp_I t 72 0 = 0) → (gp_I t 72 1 = 0) → (gp_I t 72 2 = 0) → (gp_I t 72 3 = 0) → (gp_I t 73 0 = 0) → (gp_I t 73 1 = 0) → (gp_I t 73 2 = 0) → (gp_I t 73 3 = 0) → (∀ k, k < 8 → gp_R t 4 k = some 25) → (gp_R t 51 6 = some 55) → (gp_R t 51 7 = some 56) → (gp_us t = 606895) → (gp_sz t = 117) → K (some (gp_i (-1000000002))) t) : gs_C L (d + 1) 2843 4 [gp_r (some 1), gp_i 1, gp_i p1, gp_i p2] s K := by
  refine s_2843_e _ _ _ ?_
  refine zx1793_9 hs (by omega) (by omega) (by omega) (by omega) (by omega) (by omega) (by omega) (by omega) (⟨_, rfl, ?_⟩)
  refine ⟨fun h_1 => ?_, fun h_1 => ?_⟩
  · refine zx1794_5 hs (by omega) (by omega) (by omega) (by omega) (by omega) (by omega) (by omega) (by omega) (⟨_, rfl, ?_⟩)
    refine ⟨fun h_2 => ?_, fun h_2 => ?_⟩
    · exfalso; omega
    · refine zx2855_14 hs (by omega) (by omega) (by omega) (by omega) (by omega) (by omega) (by omega) (by omega) (by omega) (by omega) (by omega) (by omega) (by omega) (by omega) q14 q15 q16 q17 q18 (fun s_3 hs_4 q_5 q_6 q_7 q_8 q_9 q_10 q_11 q_12 q_13 q_14 q_15 q_16 q_17 q_18 q_19 q_20 q_21 q_22 q_23 q_24 => ⟨_, rfl, ?_⟩)
      exact k s_3 hs_4 (by omega) (by omega) (by omega) (by omega) (by omega) (by omega) (by omega) (by omega) (by omega) (by omega) (by omega) (by omega) (by omega) (by omega) (by omega) q_20 q_21 q_22 q_23 q_24
  · exfalso; omega
set_option maxRecDepth 100000 in
/-- Sheets.missing [(2, 2)] -/
theorem zx1794_6 {z : gH} {L d : Nat} {K : Option gV → gH → Prop} {s : gH}  (hs : xM z s)  (q0 : gp_I s 72 0 = 0) (q1 : gp_I s 72 1 = 0) (q2 : gp_I s 72 2 = 0) (q3 : gp_I s 72 3 = 0) (q4 : gp_I s 73 0 = 0) (q5 : gp_I s 73 1 = 0) (q6 : gp_I s 73 2 = 0) (q7 : gp_I s 73 3 = 0) (k : K (some (gp_i 1)) s) : gs_C L d 1794 2 [gp_r (some 66), gp_i 2] s K := by
  refine s_1794_e _ ?_
  refine ⟨by omega, ?_⟩
  try rw [show gp_I s 72 (2 : Int).toNat = 0 from q2]
  refine ⟨fun h_1 => ?_, fun h_1 => ?_⟩
  · refine s_1794_14 _ _ ?_
    refine ⟨by omega, ?_⟩
    exact k
  · exfalso; omega
set_option maxRecDepth 100000 in
/-- GatheredPoints.put [(2, 2), (-2147483648, 2147483647), (-2147483648, 2147483647)] -/
theorem zx2843_4 {z : gH} {L d : Nat} {K : Option gV → gH → Prop} {s : gH} (p1 : Int) (p2 : Int) (hs : xM z s) (h_p1 : (-2147483648) ≤ p1 ∧ p1 ≤ 2147483647) (h_p2 : (-2147483648) ≤ p2 ∧ p2 ≤ 2147483647) (q0 : gp_I s 1 2 = 0) (q1 : gp_I s 1 6 = 0) (q2 : gp_I s 1 7 = 1) (q3 : gp_I s 51 8 = 0) (q4 : gp_I s 57 1 = 0) (q5 : gp_I s 57 3 = 0) (q6 : gp_I s 72 0 = 0) (q7 : gp_I s 72 1 = 0) (q8 : gp_I s 72 2 = 0) (q9 : gp_I s 72 3 = 0) (q10 : gp_I s 73 0 = 0) (q11 : gp_I s 73 1 = 0) (q12 : gp_I s 73 2 = 0) (q13 : gp_I s 73 3 = 0) (q14 : ∀ k, k < 8 → gp_R s 4 k = some 25) (q15 : gp_R s 51 6 = some 55) (q16 : gp_R s 51 7 = some 56) (q17 : gp_us s = 606895) (q18 : gp_sz s = 117) (k : ∀ (t : gH), xM z t → (gp_I t 1 2 = 0) → (gp_I t 1 6 = 0) → (gp_I t 1 7 = 1) → ((-2147483648) ≤ gp_I t 2 2 ∧ gp_I t 2 2 ≤ 2147483647) → (gp_I t 51 8 = 0) → (gp_I t 57 1 = 0) → (gp_I t 57 3 = 0) → (gp_I t 72 0 = 0) → (gp_I t 72 1 = 0) → (gp_I t 72 2 = 0) → (gp_I t 72 3 = 0) → (gp_I t 73 0 = 0) → (gp_I t 73 1 = 0) → (gp_I t 73 2 = 0) → (gp_I t 73 3 = 0) → (∀ k, k < 8 → gp_R t 4 k = some 25) → (gp_R t 51 6 = some 55) → (gp_R t 51 7 = some 56) → (gp_us t = 606895) → (gp_sz t = 117) → K (some (gp_i (-1000000002))) t) : gs_C L (d + 1) 2843 4 [gp_r (some 1), gp_i 2, gp_i p1, gp_i p2] s K := by
  refine s_2843_e _ _ _ ?_
  refine zx1793_10 hs (by omega) (by omega) (by omega) (by omega) (by omega) (by omega) (by omega) (by omega) (⟨_, rfl, ?_⟩)
  refine ⟨fun h_1 => ?_, fun h_1 => ?_⟩
  · refine zx1794_6 hs (by omega) (by omega) (by omega) (by omega) (by omega) (by omega) (by omega) (by omega) (⟨_, rfl, ?_⟩)
    refine ⟨fun h_2 => ?_, fun h_2 => ?_⟩
    · exfalso; omega
    · refine zx2855_14 hs (by omega) (by omega) (by omega) (by omega) (by omega) (by omega) (by omega) (by omega) (by omega) (by omega) (by omega) (by omega) (by omega) (by omega) q14 q15 q16 q17 q18 (fun s_3 hs_4 q_5 q_6 q_7 q_8 q_9 q_10 q_11 q_12 q_13 q_14 q_15 q_16 q_17 q_18 q_19 q_20 q_21 q_22 q_23 q_24 => ⟨_, rfl, ?_⟩)
      exact k s_3 hs_4 (by omega) (by omega) (by omega) (by omega) (by omega) (by omega) (by omega) (by omega) (by omega) (by omega) (by omega) (by omega) (by omega) (by omega) (by omega) q_20 q_21 q_22 q_23 q_24
  · exfalso; omega
set_option maxRecDepth 100000 in
/-- Sheets.missing [(3, 3)] -/
theorem zx1794_7 {z : gH} {L d : Nat} {K : Option gV → gH → Prop} {s : gH}  (hs : xM z s)  (q0 : gp_I s 72 0 = 0) (q1 : gp_I s 72 1 = 0) (q2 : gp_I s 72 2 = 0) (q3 : gp_I s 72 3 = 0) (q4 : gp_I s 73 0 = 0) (q5 : gp_I s 73 1 = 0) (q6 : gp_I s 73 2 = 0) (q7 : gp_I s 73 3 = 0) (k : K (some (gp_i 1)) s) : gs_C L d 1794 2 [gp_r (some 66), gp_i 3] s K := by
  refine s_1794_e _ ?_
  refine ⟨by omega, ?_⟩
  try rw [show gp_I s 72 (3 : Int).toNat = 0 from q3]
  refine ⟨fun h_1 => ?_, fun h_1 => ?_⟩
  · refine s_1794_14 _ _ ?_
    refine ⟨by omega, ?_⟩
    exact k
  · exfalso; omega
set_option maxRecDepth 100000 in
/-- GatheredPoints.put [(3, 3), (-2147483648, 2147483647), (-2147483648, 2147483647)] -/
theorem zx2843_5 {z : gH} {L d : Nat} {K : Option gV → gH → Prop} {s : gH} (p1 : Int) (p2 : Int) (hs : xM z s) (h_p1 : (-2147483648) ≤ p1 ∧ p1 ≤ 2147483647) (h_p2 : (-2147483648) ≤ p2 ∧ p2 ≤ 2147483647) (q0 : gp_I s 1 2 = 0) (q1 : gp_I s 1 6 = 0) (q2 : gp_I s 1 7 = 1) (q3 : gp_I s 51 8 = 0) (q4 : gp_I s 57 1 = 0) (q5 : gp_I s 57 3 = 0) (q6 : gp_I s 72 0 = 0) (q7 : gp_I s 72 1 = 0) (q8 : gp_I s 72 2 = 0) (q9 : gp_I s 72 3 = 0) (q10 : gp_I s 73 0 = 0) (q11 : gp_I s 73 1 = 0) (q12 : gp_I s 73 2 = 0) (q13 : gp_I s 73 3 = 0) (q14 : ∀ k, k < 8 → gp_R s 4 k = some 25) (q15 : gp_R s 51 6 = some 55) (q16 : gp_R s 51 7 = some 56) (q17 : gp_us s = 606895) (q18 : gp_sz s = 117) (k : ∀ (t : gH), xM z t → (gp_I t 1 2 = 0) → (gp_I t 1 6 = 0) → (gp_I t 1 7 = 1) → ((-2147483648) ≤ gp_I t 2 2 ∧ gp_I t 2 2 ≤ 2147483647) → (gp_I t 51 8 = 0) → (gp_I t 57 1 = 0) → (gp_I t 57 3 = 0) → (gp_I t 72 0 = 0) → (gp_I t 72 1 = 0) → (gp_I t 72 2 = 0) → (gp_I t 72 3 = 0) → (gp_I t 73 0 = 0) → (gp_I t 73 1 = 0) → (gp_I t 73 2 = 0) → (gp_I t 73 3 = 0) → (∀ k, k < 8 → gp_R t 4 k = some 25) → (gp_R t 51 6 = some 55) → (gp_R t 51 7 = some 56) → (gp_us t = 606895) → (gp_sz t = 117) → K (some (gp_i (-1000000002))) t) : gs_C L (d + 1) 2843 4 [gp_r (some 1), gp_i 3, gp_i p1, gp_i p2] s K := by
  refine s_2843_e _ _ _ ?_
  refine zx1793_11 hs (by omega) (by omega) (by omega) (by omega) (by omega) (by omega) (by omega) (by omega) (⟨_, rfl, ?_⟩)
  refine ⟨fun h_1 => ?_, fun h_1 => ?_⟩
  · refine zx1794_7 hs (by omega) (by omega) (by omega) (by omega) (by omega) (by omega) (by omega) (by omega) (⟨_, rfl, ?_⟩)
    refine ⟨fun h_2 => ?_, fun h_2 => ?_⟩
    · exfalso; omega
    · refine zx2855_14 hs (by omega) (by omega) (by omega) (by omega) (by omega) (by omega) (by omega) (by omega) (by omega) (by omega) (by omega) (by omega) (by omega) (by omega) q14 q15 q16 q17 q18 (fun s_3 hs_4 q_5 q_6 q_7 q_8 q_9 q_10 q_11 q_12 q_13 q_14 q_15 q_16 q_17 q_18 q_19 q_20 q_21 q_22 q_23 q_24 => ⟨_, rfl, ?_⟩)
      exact k s_3 hs_4 (by omega) (by omega) (by omega) (by omega) (by omega) (by omega) (by omega) (by omega) (by omega) (by omega) (by omega) (by omega) (by omega) (by omega) (by omega) q_20 q_21 q_22 q_23 q_24
  · exfalso; omega
set_option maxRecDepth 100000 in
/-- GatheredPoints.number [(-2147483648, -1), (-2147483648, 2147483647)] -/
theorem zx2844_0 {z : gH} {L d : Nat} {K : Option gV → gH → Prop} {s : gH} (p0 : Int) (p1 : Int) (hs : xM z s) (h_p0 : (-2147483648) ≤ p0 ∧ p0 ≤ (-1)) (h_p1 : (-2147483648) ≤ p1 ∧ p1 ≤ 2147483647) (q0 : gp_I s 1 2 = 0) (q1 : gp_I s 1 6 = 0) (q2 : gp_I s 1 7 = 1) (q3 : gp_I s 51 8 = 0) (q4 : gp_I s 57 1 = 0) (q5 : gp_I s 57 3 = 0) (q6 : gp_I s 72 0 = 0) (q7 : gp_I s 72 1 = 0) (q8 : gp_I s 72 2 = 0) (q9 : gp_I s 72 3 = 0) (q10 : gp_I s 73 0 = 0) (q11 : gp_I s 73 1 = 0) (q12 : gp_I s 73 2 = 0) (q13 : gp_I s 73 3 = 0) (q14 : ∀ k, k < 8 → gp_R s 4 k = some 25) (q15 : gp_R s 51 6 = some 55) (q16 : gp_R s 51 7 = some 56) (q17 : gp_us s = 606895) (q18 : gp_sz s = 117) (k : ∀ (t : gH), xM z t → (gp_I t 1 2 = 0) → (gp_I t 1 6 = 0) → (gp_I t 1 7 = 1) → ((-2147483648) ≤ gp_I t 2 1 ∧ gp_I t 2 1 ≤ 2147483647) → (gp_I t 51 8 = 0) → (gp_I t 57 1 = 0) → (gp_I t 57 3 = 0) → (gp_I t 72 0 = 0) → (gp_I t 72 1 = 0) → (gp_I t 72 2 = 0) → (gp_I t 72 3 = 0) → (gp_I t 73 0 = 0) → (gp_I t 73 1 = 0) → (gp_I t 73 2 = 0) → (gp_I t 73 3 = 0) → (∀ k, k < 8 → gp_R t 4 k = some 25) → (gp_R t 51 6 = some 55) → (gp_R t 51 7 = some 56) → (gp_us t = 606895) → (gp_sz t = 117) → K (some (gp_i (-1000000001))) t) : gs_C L (d + 1) 2844 3 [gp_r (some 1), gp_i p0, gp_i p1] s K := by
  refine s_2844_e _ _ ?_
  refine zx1793_6 _ hs (by omega) (by omega) (by omega) (by omega) (by omega) (by omega) (by omega) (by omega) (by omega) (⟨_, rfl, ?_⟩)
  refine ⟨fun h_1 => ?_, fun h_1 => ?_⟩
  · exfalso; omega
  · refine zx2855_12 hs (by omega) (by omega) (by omega) (by omega) (by omega) (by omega) (by omega) (by omega) (by omega) (by omega) (by omega) (by omega) (by omega) (by omega) q14 q15 q16 q17 q18 (fun s_2 hs_3 q_4 q_5 q_6 q_7 q_8 q_9 q_10 q_11 q_12 q_13 q_14 q_15 q_16 q_17 q_18 q_19 q_20 q_21 q_22 q_23 => ⟨_, rfl, ?_⟩)
    exact k s_2 hs_3 (by omega) (by omega) (by omega) (by omega) (by omega) (by omega) (by omega) (by omega) (by omega) (by omega) (by omega) (by omega) (by omega) (by omega) (by omega) q_19 q_20 q_21 q_22 q_23
set_option maxRecDepth 100000 in
/-- GatheredPoints.number [(4, 2147483647), (-2147483648, 2147483647)] -/
theorem zx2844_1 {z : gH} {L d : Nat} {K : Option gV → gH → Prop} {s : gH} (p0 : Int) (p1 : Int) (hs : xM z s) (h_p0 : 4 ≤ p0 ∧ p0 ≤ 2147483647) (h_p1 : (-2147483648) ≤ p1 ∧ p1 ≤ 2147483647) (q0 : gp_I s 1 2 = 0) (q1 : gp_I s 1 6 = 0) (q2 : gp_I s 1 7 = 1) (q3 : gp_I s 51 8 = 0) (q4 : gp_I s 57 1 = 0) (q5 : gp_I s 57 3 = 0) (q6 : gp_I s 72 0 = 0) (q7 : gp_I s 72 1 = 0) (q8 : gp_I s 72 2 = 0) (q9 : gp_I s 72 3 = 0) (q10 : gp_I s 73 0 = 0) (q11 : gp_I s 73 1 = 0) (q12 : gp_I s 73 2 = 0) (q13 : gp_I s 73 3 = 0) (q14 : ∀ k, k < 8 → gp_R s 4 k = some 25) (q15 : gp_R s 51 6 = some 55) (q16 : gp_R s 51 7 = some 56) (q17 : gp_us s = 606895) (q18 : gp_sz s = 117) (k : ∀ (t : gH), xM z t → (gp_I t 1 2 = 0) → (gp_I t 1 6 = 0) → (gp_I t 1 7 = 1) → ((-2147483648) ≤ gp_I t 2 1 ∧ gp_I t 2 1 ≤ 2147483647) → (gp_I t 51 8 = 0) → (gp_I t 57 1 = 0) → (gp_I t 57 3 = 0) → (gp_I t 72 0 = 0) → (gp_I t 72 1 = 0) → (gp_I t 72 2 = 0) → (gp_I t 72 3 = 0) → (gp_I t 73 0 = 0) → (gp_I t 73 1 = 0) → (gp_I t 73 2 = 0) → (gp_I t 73 3 = 0) → (∀ k, k < 8 → gp_R t 4 k = some 25) → (gp_R t 51 6 = some 55) → (gp_R t 51 7 = some 56) → (gp_us t = 606895) → (gp_sz t = 117) → K (some (gp_i (-1000000001))) t) : gs_C L (d + 1) 2844 3 [gp_r (some 1), gp_i p0, gp_i p1] s K := by
  refine s_2844_e _ _ ?_
  refine zx1793_7 _ hs (by omega) (by omega) (by omega) (by omega) (by omega) (by omega) (by omega) (by omega) (by omega) (⟨_, rfl, ?_⟩)
  refine ⟨fun h_1 => ?_, fun h_1 => ?_⟩
  · exfalso; omega
  · refine zx2855_12 hs (by omega) (by omega) (by omega) (by omega) (by omega) (by omega) (by omega) (by omega) (by omega) (by omega) (by omega) (by omega) (by omega) (by omega) q14 q15 q16 q17 q18 (fun s_2 hs_3 q_4 q_5 q_6 q_7 q_8 q_9 q_10 q_11 q_12 q_13 q_14 q_15 q_16 q_17 q_18 q_19 q_20 q_21 q_22 q_23 => ⟨_, rfl, ?_⟩)
    exact k s_2 hs_3 (by omega) (by omega) (by omega) (by omega) (by omega) (by omega) (by omega) (by omega) (by omega) (by omega) (by omega) (by omega) (by omega) (by omega) (by omega) q_19 q_20 q_21 q_22 q_23
set_option maxRecDepth 100000 in
/-- GatheredPoints.number [(0, 0), (-2147483648, 2147483647)] -/
theorem zx2844_2 {z : gH} {L d : Nat} {K : Option gV → gH → Prop} {s : gH} (p1 : Int) (hs : xM z s) (h_p1 : (-2147483648) ≤ p1 ∧ p1 ≤ 2147483647) (q0 : gp_I s 1 2 = 0) (q1 : gp_I s 1 6 = 0) (q2 : gp_I s 1 7 = 1) (q3 : gp_I s 51 8 = 0) (q4 : gp_I s 57 1 = 0) (q5 : gp_I s 57 3 = 0) (q6 : gp_I s 72 0 = 0) (q7 : gp_I s 72 1 = 0) (q8 : gp_I s 72 2 = 0) (q9 : gp_I s 72 3 = 0) (q10 : gp_I s 73 0 = 0) (q11 : gp_I s 73 1 = 0) (q12 : gp_I s 73 2 = 0) (q13 : gp_I s 73 3 = 0) (q14 : ∀ k, k < 8 → gp_R s 4 k = some 25) (q15 : gp_R s 51 6 = some 55) (q16 : gp_R s 51 7 = some 56) (q17 : gp_us s = 606895) (q18 : gp_sz s = 117) (k : ∀ (t : gH), xM z t → (gp_I t 1 2 = 0) → (gp_I t 1 6 = 0) → (gp_I t 1 7 = 1) → ((-2147483648) ≤ gp_I t 2 2 ∧ gp_I t 2 2 ≤ 2147483647) → (gp_I t 51 8 = 0) → (gp_I t 57 1 = 0) → (gp_I t 57 3 = 0) → (gp_I t 72 0 = 0) → (gp_I t 72 1 = 0) → (gp_I t 72 2 = 0) → (gp_I t 72 3 = 0) → (gp_I t 73 0 = 0) → (gp_I t 73 1 = 0) → (gp_I t 73 2 = 0) → (gp_I t 73 3 = 0) → (∀ k, k < 8 → gp_R t 4 k = some 25) → (gp_R t 51 6 = some 55) → (gp_R t 51 7 = some 56) → (gp_us t = 606895) → (gp_sz t = 117) → K (some (gp_i (-1000000002))) t) : gs_C L (d + 1) 2844 3 [gp_r (some 1), gp_i 0, gp_i p1] s K := by
  refine s_2844_e _ _ ?_
  refine zx1793_8 hs (by omega) (by omega) (by omega) (by omega) (by omega) (by omega) (by omega) (by omega) (⟨_, rfl, ?_⟩)
  refine ⟨fun h_1 => ?_, fun h_1 => ?_⟩
  · refine zx1794_4 hs (by omega) (by omega) (by omega) (by omega) (by omega) (by omega) (by omega) (by omega) (⟨_, rfl, ?_⟩)
    refine ⟨fun h_2 => ?_, fun h_2 => ?_⟩
    · exfalso; omega
    · refine zx2855_14 hs (by omega) (by omega) (by omega) (by omega) (by omega) (by omega) (by omega) (by omega) (by omega) (by omega) (by omega) (by omega) (by omega) (by omega) q14 q15 q16 q17 q18 (fun s_3 hs_4 q_5 q_6 q_7 q_8 q_9 q_10 q_11 q_12 q_13 q_14 q_15 q_16 q_17 q_18 q_19 q_20 q_21 q_22 q_23 q_24 => ⟨_, rfl, ?_⟩)
      exact k s_3 hs_4 (by omega) (by omega) (by omega) (by omega) (by omega) (by omega) (by omega) (by omega) (by omega) (by omega) (by omega) (by omega) (by omega) (by omega) (by omega) q_20 q_21 q_22 q_23 q_24
  · exfalso; omega
set_option maxRecDepth 100000 in
/-- GatheredPoints.number [(1, 1), (-2147483648, 2147483647)] -/
theorem zx2844_3 {z : gH} {L d : Nat} {K : Option gV → gH → Prop} {s : gH} (p1 : Int) (hs : xM z s) (h_p1 : (-2147483648) ≤ p1 ∧ p1 ≤ 2147483647) (q0 : gp_I s 1 2 = 0) (q1 : gp_I s 1 6 = 0) (q2 : gp_I s 1 7 = 1) (q3 : gp_I s 51 8 = 0) (q4 : gp_I s 57 1 = 0) (q5 : gp_I s 57 3 = 0) (q6 : gp_I s 72 0 = 0) (q7 : gp_I s 72 1 = 0) (q8 : gp_I s 72 2 = 0) (q9 : gp_I s 72 3 = 0) (q10 : gp_I s 73 0 = 0) (q11 : gp_I s 73 1 = 0) (q12 : gp_I s 73 2 = 0) (q13 : gp_I s 73 3 = 0) (q14 : ∀ k, k < 8 → gp_R s 4 k = some 25) (q15 : gp_R s 51 6 = some 55) (q16 : gp_R s 51 7 = some 56) (q17 : gp_us s = 606895) (q18 : gp_sz s = 117) (k : ∀ (t : gH), xM z t → (gp_I t 1 2 = 0) → (gp_I t 1 6 = 0) → (gp_I t 1 7 = 1) → ((-2147483648) ≤ gp_I t 2 2 ∧ gp_I t 2 2 ≤ 2147483647) → (gp_I t 51 8 = 0) → (gp_I t 57 1 = 0) → (gp_I t 57 3 = 0) → (gp_I t 72 0 = 0) → (gp_I t 72 1 = 0) → (gp_I t 72 2 = 0) → (gp_I t 72 3 = 0) → (gp_I t 73 0 = 0) → (gp_I t 73 1 = 0) → (gp_I t 73 2 = 0) → (gp_I t 73 3 = 0) → (∀ k, k < 8 → gp_R t 4 k = some 25) → (gp_R t 51 6 = some 55) → (gp_R t 51 7 = some 56) → (gp_us t = 606895) → (gp_sz t = 117) → K (some (gp_i (-1000000002))) t) : gs_C L (d + 1) 2844 3 [gp_r (some 1), gp_i 1, gp_i p1] s K := by
  refine s_2844_e _ _ ?_
  refine zx1793_9 hs (by omega) (by omega) (by omega) (by omega) (by omega) (by omega) (by omega) (by omega) (⟨_, rfl, ?_⟩)
  refine ⟨fun h_1 => ?_, fun h_1 => ?_⟩
  · refine zx1794_5 hs (by omega) (by omega) (by omega) (by omega) (by omega) (by omega) (by omega) (by omega) (⟨_, rfl, ?_⟩)
    refine ⟨fun h_2 => ?_, fun h_2 => ?_⟩
    · exfalso; omega
    · refine zx2855_14 hs (by omega) (by omega) (by omega) (by omega) (by omega) (by omega) (by omega) (by omega) (by omega) (by omega) (by omega) (by omega) (by omega) (by omega) q14 q15 q16 q17 q18 (fun s_3 hs_4 q_5 q_6 q_7 q_8 q_9 q_10 q_11 q_12 q_13 q_14 q_15 q_16 q_17 q_18 q_19 q_20 q_21 q_22 q_23 q_24 => ⟨_, rfl, ?_⟩)
      exact k s_3 hs_4 (by omega) (by omega) (by omega) (by omega) (by omega) (by omega) (by omega) (by omega) (by omega) (by omega) (by omega) (by omega) (by omega) (by omega) (by omega) q_20 q_21 q_22 q_23 q_24
  · exfalso; omega
set_option maxRecDepth 100000 in
/-- GatheredPoints.number [(2, 2), (-2147483648, 2147483647)] -/
theorem zx2844_4 {z : gH} {L d : Nat} {K : Option gV → gH → Prop} {s : gH} (p1 : Int) (hs : xM z s) (h_p1 : (-2147483648) ≤ p1 ∧ p1 ≤ 2147483647) (q0 : gp_I s 1 2 = 0) (q1 : gp_I s 1 6 = 0) (q2 : gp_I s 1 7 = 1) (q3 : gp_I s 51 8 = 0) (q4 : gp_I s 57 1 = 0) (q5 : gp_I s 57 3 = 0) (q6 : gp_I s 72 0 = 0) (q7 : gp_I s 72 1 = 0) (q8 : gp_I s 72 2 = 0) (q9 : gp_I s 72 3 = 0) (q10 : gp_I s 73 0 = 0) (q11 : gp_I s 73 1 = 0) (q12 : gp_I s 73 2 = 0) (q13 : gp_I s 73 3 = 0) (q14 : ∀ k, k < 8 → gp_R s 4 k = some 25) (q15 : gp_R s 51 6 = some 55) (q16 : gp_R s 51 7 = some 56) (q17 : gp_us s = 606895) (q18 : gp_sz s = 117) (k : ∀ (t : gH), xM z t → (gp_I t 1 2 = 0) → (gp_I t 1 6 = 0) → (gp_I t 1 7 = 1) → ((-2147483648) ≤ gp_I t 2 2 ∧ gp_I t 2 2 ≤ 2147483647) → (gp_I t 51 8 = 0) → (gp_I t 57 1 = 0) → (gp_I t 57 3 = 0) → (gp_I t 72 0 = 0) → (gp_I t 72 1 = 0) → (gp_I t 72 2 = 0) → (gp_I t 72 3 = 0) → (gp_I t 73 0 = 0) → (gp_I t 73 1 = 0) → (gp_I t 73 2 = 0) → (gp_I t 73 3 = 0) → (∀ k, k < 8 → gp_R t 4 k = some 25) → (gp_R t 51 6 = some 55) → (gp_R t 51 7 = some 56) → (gp_us t = 606895) → (gp_sz t = 117) → K (some (gp_i (-1000000002))) t) : gs_C L (d + 1) 2844 3 [gp_r (some 1), gp_i 2, gp_i p1] s K := by
  refine s_2844_e _ _ ?_
  refine zx1793_10 hs (by omega) (by omega) (by omega) (by omega) (by omega) (by omega) (by omega) (by omega) (⟨_, rfl, ?_⟩)
  refine ⟨fun h_1 => ?_, fun h_1 => ?_⟩
  · refine zx1794_6 hs (by omega) (by omega) (by omega) (by omega) (by omega) (by omega) (by omega) (by omega) (⟨_, rfl, ?_⟩)
    refine ⟨fun h_2 => ?_, fun h_2 => ?_⟩
    · exfalso; omega
    · refine zx2855_14 hs (by omega) (by omega) (by omega) (by omega) (by omega) (by omega) (by omega) (by omega) (by omega) (by omega) (by omega) (by omega) (by omega) (by omega) q14 q15 q16 q17 q18 (fun s_3 hs_4 q_5 q_6 q_7 q_8 q_9 q_10 q_11 q_12 q_13 q_14 q_15 q_16 q_17 q_18 q_19 q_20 q_21 q_22 q_23 q_24 => ⟨_, rfl, ?_⟩)
      exact k s_3 hs_4 (by omega) (by omega) (by omega) (by omega) (by omega) (by omega) (by omega) (by omega) (by omega) (by omega) (by omega) (by omega) (by omega) (by omega) (by omega) q_20 q_21 q_22 q_23 q_24
  · exfalso; omega
set_option maxRecDepth 100000 in
/-- GatheredPoints.number [(3, 3), (-2147483648, 2147483647)] -/
theorem zx2844_5 {z : gH} {L d : Nat} {K : Option gV → gH → Prop} {s : gH} (p1 : Int) (hs : xM z s) (h_p1 : (-2147483648) ≤ p1 ∧ p1 ≤ 2147483647) (q0 : gp_I s 1 2 = 0) (q1 : gp_I s 1 6 = 0) (q2 : gp_I s 1 7 = 1) (q3 : gp_I s 51 8 = 0) (q4 : gp_I s 57 1 = 0) (q5 : gp_I s 57 3 = 0) (q6 : gp_I s 72 0 = 0) (q7 : gp_I s 72 1 = 0) (q8 : gp_I s 72 2 = 0) (q9 : gp_I s 72 3 = 0) (q10 : gp_I s 73 0 = 0) (q11 : gp_I s 73 1 = 0) (q12 : gp_I s 73 2 = 0) (q13 : gp_I s 73 3 = 0) (q14 : ∀ k, k < 8 → gp_R s 4 k = some 25) (q15 : gp_R s 51 6 = some 55) (q16 : gp_R s 51 7 = some 56) (q17 : gp_us s = 606895) (q18 : gp_sz s = 117) (k : ∀ (t : gH), xM z t → (gp_I t 1 2 = 0) → (gp_I t 1 6 = 0) → (gp_I t 1 7 = 1) → ((-2147483648) ≤ gp_I t 2 2 ∧ gp_I t 2 2 ≤ 2147483647) → (gp_I t 51 8 = 0) → (gp_I t 57 1 = 0) → (gp_I t 57 3 = 0) → (gp_I t 72 0 = 0) → (gp_I t 72 1 = 0) → (gp_I t 72 2 = 0) → (gp_I t 72 3 = 0) → (gp_I t 73 0 = 0) → (gp_I t 73 1 = 0) → (gp_I t 73 2 = 0) → (gp_I t 73 3 = 0) → (∀ k, k < 8 → gp_R t 4 k = some 25) → (gp_R t 51 6 = some 55) → (gp_R t 51 7 = some 56) → (gp_us t = 606895) → (gp_sz t = 117) → K (some (gp_i (-1000000002))) t) : gs_C L (d + 1) 2844 3 [gp_r (some 1), gp_i 3, gp_i p1] s K := by
  refine s_2844_e _ _ ?_
  refine zx1793_11 hs (by omega) (by omega) (by omega) (by omega) (by omega) (by omega) (by omega) (by omega) (⟨_, rfl, ?_⟩)
  refine ⟨fun h_1 => ?_, fun h_1 => ?_⟩
  · refine zx1794_7 hs (by omega) (by omega) (by omega) (by omega) (by omega) (by omega) (by omega) (by omega) (⟨_, rfl, ?_⟩)
    refine ⟨fun h_2 => ?_, fun h_2 => ?_⟩
    · exfalso; omega
    · refine zx2855_14 hs (by omega) (by omega) (by omega) (by omega) (by omega) (by omega) (by omega) (by omega) (by omega) (by omega) (by omega) (by omega) (by omega) (by omega) q14 q15 q16 q17 q18 (fun s_3 hs_4 q_5 q_6 q_7 q_8 q_9 q_10 q_11 q_12 q_13 q_14 q_15 q_16 q_17 q_18 q_19 q_20 q_21 q_22 q_23 q_24 => ⟨_, rfl, ?_⟩)
      exact k s_3 hs_4 (by omega) (by omega) (by omega) (by omega) (by omega) (by omega) (by omega) (by omega) (by omega) (by omega) (by omega) (by omega) (by omega) (by omega) (by omega) q_20 q_21 q_22 q_23 q_24
  · exfalso; omega
set_option maxRecDepth 100000 in
/-- GatheredPoints.shift [(-2147483648, -1), (-2147483648, 2147483647), (-2147483648, 2147483647), (-2147483648, 2147483647), (-2147483648, 2147483647)] -/
theorem zx2845_0 {z : gH} {L d : Nat} {K : Option gV → gH → Prop} {s : gH} (p0 : Int) (p1 : Int) (p2 : Int) (p3 : Int) (p4 : Int) (hs : xM z s) (h_p0 : (-2147483648) ≤ p0 ∧ p0 ≤ (-1)) (h_p1 : (-2147483648) ≤ p1 ∧ p1 ≤ 2147483647) (h_p2 : (-2147483648) ≤ p2 ∧ p2 ≤ 2147483647) (h_p3 : (-2147483648) ≤ p3 ∧ p3 ≤ 2147483647) (h_p4 : (-2147483648) ≤ p4 ∧ p4 ≤ 2147483647) (q0 : gp_I s 1 2 = 0) (q1 : gp_I s 1 6 = 0) (q2 : gp_I s 1 7 = 1) (q3 : gp_I s 51 8 = 0) (q4 : gp_I s 57 1 = 0) (q5 : gp_I s 57 3 = 0) (q6 : gp_I s 72 0 = 0) (q7 : gp_I s 72 1 = 0) (q8 : gp_I s 72 2 = 0) (q9 : gp_I s 72 3 = 0) (q10 : gp_I s 73 0 = 0) (q11 : gp_I s 73 1 = 0) (q12 : gp_I s 73 2 = 0) (q13 : gp_I s 73 3 = 0) (q14 : ∀ k, k < 8 → gp_R s 4 k = some 25) (q15 : gp_R s 51 6 = some 55) (q16 : gp_R s 51 7 = some 56) (q17 : gp_us s = 606895) (q18 : gp_sz s = 117) (k : ∀ (t : gH), xM z t → (gp_I t 1 2 = 0) → (gp_I t 1 6 = 0) → (gp_I t 1 7 = 1) → ((-2147483648) ≤ gp_I t 2 1 ∧ gp_I t 2 1 ≤ 2147483647) → (gp_I t 51 8 = 0) → (gp_I t 57 1 = 0) → (gp_I t 57 3 = 0) → (gp_I t 72 0 = 0) → (gp_I t 72 1 = 0) → (gp_I t 72 2 = 0) → (gp_I t 72 3 = 0) → (gp_I t 73 0 = 0) → (gp_I t 73 1 = 0) → (gp_I t 73 2 = 0) → (gp_I t 73 3 = 0) → (∀ k, k < 8 → gp_R t 4 k = some 25) → (gp_R t 51 6 = some 55) → (gp_R t 51 7 = some 56) → (gp_us t = 606895) → (gp_sz t = 117) → K (some (gp_i (-1000000001))) t) : gs_C L (d + 1) 2845 6 [gp_r (some 1), gp_i p0, gp_i p1, gp_i p2, gp_i p3, gp_i p4] s K := by
  refine s_2845_e _ _ _ _ _ ?_
  refine zx1793_6 _ hs (by omega) (by omega) (by omega) (by omega) (by omega) (by omega) (by omega) (by omega) (by omega) (⟨_, rfl, ?_⟩)
  refine ⟨fun h_1 => ?_, fun h_1 => ?_⟩
  · exfalso; omega
  · refine s_2845_22 _ _ _ _ _ ?_
    refine zx2855_12 hs (by omega) (by omega) (by omega) (by omega) (by omega) (by omega) (by omega) (by omega) (by omega) (by omega) (by omega) (by omega) (by omega) (by omega) q14 q15 q16 q17 q18 (fun s_2 hs_3 q_4 q_5 q_6 q_7 q_8 q_9 q_10 q_11 q_12 q_13 q_14 q_15 q_16 q_17 q_18 q_19 q_20 q_21 q_22 q_23 => ⟨_, rfl, ?_⟩)
    exact k s_2 hs_3 (by omega) (by omega) (by omega) (by omega) (by omega) (by omega) (by omega) (by omega) (by omega) (by omega) (by omega) (by omega) (by omega) (by omega) (by omega) q_19 q_20 q_21 q_22 q_23
set_option maxRecDepth 100000 in
/-- GatheredPoints.shift [(4, 2147483647), (-2147483648, 2147483647), (-2147483648, 2147483647), (-2147483648, 2147483647), (-2147483648, 2147483647)] -/
theorem zx2845_1 {z : gH} {L d : Nat} {K : Option gV → gH → Prop} {s : gH} (p0 : Int) (p1 : Int) (p2 : Int) (p3 : Int) (p4 : Int) (hs : xM z s) (h_p0 : 4 ≤ p0 ∧ p0 ≤ 2147483647) (h_p1 : (-2147483648) ≤ p1 ∧ p1 ≤ 2147483647) (h_p2 : (-2147483648) ≤ p2 ∧ p2 ≤ 2147483647) (h_p3 : (-2147483648) ≤ p3 ∧ p3 ≤ 2147483647) (h_p4 : (-2147483648) ≤ p4 ∧ p4 ≤ 2147483647) (q0 : gp_I s 1 2 = 0) (q1 : gp_I s 1 6 = 0) (q2 : gp_I s 1 7 = 1) (q3 : gp_I s 51 8 = 0) (q4 : gp_I s 57 1 = 0) (q5 : gp_I s 57 3 = 0) (q6 : gp_I s 72 0 = 0) (q7 : gp_I s 72 1 = 0) (q8 : gp_I s 72 2 = 0) (q9 : gp_I s 72 3 = 0) (q10 : gp_I s 73 0 = 0) (q11 : gp_I s 73 1 = 0) (q12 : gp_I s 73 2 = 0) (q13 : gp_I s 73 3 = 0) (q14 : ∀ k, k < 8 → gp_R s 4 k = some 25) (q15 : gp_R s 51 6 = some 55) (q16 : gp_R s 51 7 = some 56) (q17 : gp_us s = 606895) (q18 : gp_sz s = 117) (k : ∀ (t : gH), xM z t → (gp_I t 1 2 = 0) → (gp_I t 1 6 = 0) → (gp_I t 1 7 = 1) → ((-2147483648) ≤ gp_I t 2 1 ∧ gp_I t 2 1 ≤ 2147483647) → (gp_I t 51 8 = 0) → (gp_I t 57 1 = 0) → (gp_I t 57 3 = 0) → (gp_I t 72 0 = 0) → (gp_I t 72 1 = 0) → (gp_I t 72 2 = 0) → (gp_I t 72 3 = 0) → (gp_I t 73 0 = 0) → (gp_I t 73 1 = 0) → (gp_I t 73 2 = 0) → (gp_I t 73 3 = 0) → (∀ k, k < 8 → gp_R t 4 k = some 25) → (gp_R t 51 6 = some 55) → (gp_R t 51 7 = some 56) → (gp_us t = 606895) → (gp_sz t = 117) → K (some (gp_i (-1000000001))) t) : gs_C L (d + 1) 2845 6 [gp_r (some 1), gp_i p0, gp_i p1, gp_i p2, gp_i p3, gp_i p4] s K := by
  refine s_2845_e _ _ _ _ _ ?_
  refine zx1793_7 _ hs (by omega) (by omega) (by omega) (by omega) (by omega) (by omega) (by omega) (by omega) (by omega) (⟨_, rfl, ?_⟩)
  refine ⟨fun h_1 => ?_, fun h_1 => ?_⟩
  · exfalso; omega
  · refine s_2845_22 _ _ _ _ _ ?_
    refine zx2855_12 hs (by omega) (by omega) (by omega) (by omega) (by omega) (by omega) (by omega) (by omega) (by omega) (by omega) (by omega) (by omega) (by omega) (by omega) q14 q15 q16 q17 q18 (fun s_2 hs_3 q_4 q_5 q_6 q_7 q_8 q_9 q_10 q_11 q_12 q_13 q_14 q_15 q_16 q_17 q_18 q_19 q_20 q_21 q_22 q_23 => ⟨_, rfl, ?_⟩)
    exact k s_2 hs_3 (by omega) (by omega) (by omega) (by omega) (by omega) (by omega) (by omega) (by omega) (by omega) (by omega) (by omega) (by omega) (by omega) (by omega) (by omega) q_19 q_20 q_21 q_22 q_23
set_option maxRecDepth 100000 in
/-- GatheredPoints.shift [(0, 0), (-2147483648, 2147483647), (-2147483648, -1), (-2147483648, 2147483647), (-2147483648, 2147483647)] -/
theorem zx2845_2 {z : gH} {L d : Nat} {K : Option gV → gH → Prop} {s : gH} (p1 : Int) (p2 : Int) (p3 : Int) (p4 : Int) (hs : xM z s) (h_p1 : (-2147483648) ≤ p1 ∧ p1 ≤ 2147483647) (h_p2 : (-2147483648) ≤ p2 ∧ p2 ≤ (-1)) (h_p3 : (-2147483648) ≤ p3 ∧ p3 ≤ 2147483647) (h_p4 : (-2147483648) ≤ p4 ∧ p4 ≤ 2147483647) (q0 : gp_I s 1 2 = 0) (q1 : gp_I s 1 6 = 0) (q2 : gp_I s 1 7 = 1) (q3 : gp_I s 51 8 = 0) (q4 : gp_I s 57 1 = 0) (q5 : gp_I s 57 3 = 0) (q6 : gp_I s 72 0 = 0) (q7 : gp_I s 72 1 = 0) (q8 : gp_I s 72 2 = 0) (q9 : gp_I s 72 3 = 0) (q10 : gp_I s 73 0 = 0) (q11 : gp_I s 73 1 = 0) (q12 : gp_I s 73 2 = 0) (q13 : gp_I s 73 3 = 0) (q14 : ∀ k, k < 8 → gp_R s 4 k = some 25) (q15 : gp_R s 51 6 = some 55) (q16 : gp_R s 51 7 = some 56) (q17 : gp_us s = 606895) (q18 : gp_sz s = 117) (k : ∀ (t : gH), xM z t → (gp_I t 1 2 = 0) → (gp_I t 1 6 = 0) → (gp_I t 1 7 = 1) → ((-2147483648) ≤ gp_I t 2 1 ∧ gp_I t 2 1 ≤ 2147483647) → (gp_I t 51 8 = 0) → (gp_I t 57 1 = 0) → (gp_I t 57 3 = 0) → (gp_I t 72 0 = 0) → (gp_I t 72 1 = 0) → (gp_I t 72 2 = 0) → (gp_I t 72 3 = 0) → (gp_I t 73 0 = 0) → (gp_I t 73 1 = 0) → (gp_I t 73 2 = 0) → (gp_I t 73 3 = 0) → (∀ k, k < 8 → gp_R t 4 k = some 25) → (gp_R t 51 6 = some 55) → (gp_R t 51 7 = some 56) → (gp_us t = 606895) → (gp_sz t = 117) → K (some (gp_i (-1000000001))) t) : gs_C L (d + 1) 2845 6 [gp_r (some 1), gp_i 0, gp_i p1, gp_i p2, gp_i p3, gp_i p4] s K := by
  refine s_2845_e _ _ _ _ _ ?_
  refine zx1793_8 hs (by omega) (by omega) (by omega) (by omega) (by omega) (by omega) (by omega) (by omega) (⟨_, rfl, ?_⟩)
  refine ⟨fun h_1 => ?_, fun h_1 => ?_⟩
  · refine zx1793_6 _ hs (by omega) (by omega) (by omega) (by omega) (by omega) (by omega) (by omega) (by omega) (by omega) (⟨_, rfl, ?_⟩)
    refine ⟨fun h_2 => ?_, fun h_2 => ?_⟩
    · exfalso; omega
    · refine s_2845_22 _ _ _ _ _ ?_
      refine zx2855_12 hs (by omega) (by omega) (by omega) (by omega) (by omega) (by omega) (by omega) (by omega) (by omega) (by omega) (by omega) (by omega) (by omega) (by omega) q14 q15 q16 q17 q18 (fun s_3 hs_4 q_5 q_6 q_7 q_8 q_9 q_10 q_11 q_12 q_13 q_14 q_15 q_16 q_17 q_18 q_19 q_20 q_21 q_22 q_23 q_24 => ⟨_, rfl, ?_⟩)
      exact k s_3 hs_4 (by omega) (by omega) (by omega) (by omega) (by omega) (by omega) (by omega) (by omega) (by omega) (by omega) (by omega) (by omega) (by omega) (by omega) (by omega) q_20 q_21 q_22 q_23 q_24
  · exfalso; omega
set_option maxRecDepth 100000 in
/-- GatheredPoints.shift [(0, 0), (-2147483648, 2147483647), (4, 2147483647), (-2147483648, 2147483647), (-2147483648, 2147483647)] -/
theorem zx2845_3 {z : gH} {L d : Nat} {K : Option gV → gH → Prop} {s : gH} (p1 : Int) (p2 : Int) (p3 : Int) (p4 : Int) (hs : xM z s) (h_p1 : (-2147483648) ≤ p1 ∧ p1 ≤ 2147483647) (h_p2 : 4 ≤ p2 ∧ p2 ≤ 2147483647) (h_p3 : (-2147483648) ≤ p3 ∧ p3 ≤ 2147483647) (h_p4 : (-2147483648) ≤ p4 ∧ p4 ≤ 2147483647) (q0 : gp_I s 1 2 = 0) (q1 : gp_I s 1 6 = 0) (q2 : gp_I s 1 7 = 1) (q3 : gp_I s 51 8 = 0) (q4 : gp_I s 57 1 = 0) (q5 : gp_I s 57 3 = 0) (q6 : gp_I s 72 0 = 0) (q7 : gp_I s 72 1 = 0) (q8 : gp_I s 72 2 = 0) (q9 : gp_I s 72 3 = 0) (q10 : gp_I s 73 0 = 0) (q11 : gp_I s 73 1 = 0) (q12 : gp_I s 73 2 = 0) (q13 : gp_I s 73 3 = 0) (q14 : ∀ k, k < 8 → gp_R s 4 k = some 25) (q15 : gp_R s 51 6 = some 55) (q16 : gp_R s 51 7 = some 56) (q17 : gp_us s = 606895) (q18 : gp_sz s = 117) (k : ∀ (t : gH), xM z t → (gp_I t 1 2 = 0) → (gp_I t 1 6 = 0) → (gp_I t 1 7 = 1) → ((-2147483648) ≤ gp_I t 2 1 ∧ gp_I t 2 1 ≤ 2147483647) → (gp_I t 51 8 = 0) → (gp_I t 57 1 = 0) → (gp_I t 57 3 = 0) → (gp_I t 72 0 = 0) → (gp_I t 72 1 = 0) → (gp_I t 72 2 = 0) → (gp_I t 72 3 = 0) → (gp_I t 73 0 = 0) → (gp_I t 73 1 = 0) → (gp_I t 73 2 = 0) → (gp_I t 73 3 = 0) → (∀ k, k < 8 → gp_R t 4 k = some 25) → (gp_R t 51 6 = some 55) → (gp_R t 51 7 = some 56) → (gp_us t = 606895) → (gp_sz t = 117) → K (some (gp_i (-1000000001))) t) : gs_C L (d + 1) 2845 6 [gp_r (some 1), gp_i 0, gp_i p1, gp_i p2, gp_i p3, gp_i p4] s K := by
  refine s_2845_e _ _ _ _ _ ?_
  refine zx1793_8 hs (by omega) (by omega) (by omega) (by omega) (by omega) (by omega) (by omega) (by omega) (⟨_, rfl, ?_⟩)
  refine ⟨fun h_1 => ?_, fun h_1 => ?_⟩
  · refine zx1793_7 _ hs (by omega) (by omega) (by omega) (by omega) (by omega) (by omega) (by omega) (by omega) (by omega) (⟨_, rfl, ?_⟩)
    refine ⟨fun h_2 => ?_, fun h_2 => ?_⟩
    · exfalso; omega
    · refine s_2845_22 _ _ _ _ _ ?_
      refine zx2855_12 hs (by omega) (by omega) (by omega) (by omega) (by omega) (by omega) (by omega) (by omega) (by omega) (by omega) (by omega) (by omega) (by omega) (by omega) q14 q15 q16 q17 q18 (fun s_3 hs_4 q_5 q_6 q_7 q_8 q_9 q_10 q_11 q_12 q_13 q_14 q_15 q_16 q_17 q_18 q_19 q_20 q_21 q_22 q_23 q_24 => ⟨_, rfl, ?_⟩)
      exact k s_3 hs_4 (by omega) (by omega) (by omega) (by omega) (by omega) (by omega) (by omega) (by omega) (by omega) (by omega) (by omega) (by omega) (by omega) (by omega) (by omega) q_20 q_21 q_22 q_23 q_24
  · exfalso; omega
set_option maxRecDepth 100000 in
/-- GatheredPoints.shift [(1, 1), (-2147483648, 2147483647), (-2147483648, -1), (-2147483648, 2147483647), (-2147483648, 2147483647)] -/
theorem zx2845_4 {z : gH} {L d : Nat} {K : Option gV → gH → Prop} {s : gH} (p1 : Int) (p2 : Int) (p3 : Int) (p4 : Int) (hs : xM z s) (h_p1 : (-2147483648) ≤ p1 ∧ p1 ≤ 2147483647) (h_p2 : (-2147483648) ≤ p2 ∧ p2 ≤ (-1)) (h_p3 : (-2147483648) ≤ p3 ∧ p3 ≤ 2147483647) (h_p4 : (-2147483648) ≤ p4 ∧ p4 ≤ 2147483647) (q0 : gp_I s 1 2 = 0) (q1 : gp_I s 1 6 = 0) (q2 : gp_I s 1 7 = 1) (q3 : gp_I s 51 8 = 0) (q4 : gp_I s 57 1 = 0) (q5 : gp_I s 57 3 = 0) (q6 : gp_I s 72 0 = 0) (q7 : gp_I s 72 1 = 0) (q8 : gp_I s 72 2 = 0) (q9 : gp_I s 72 3 = 0) (q10 : gp_I s 73 0 = 0) (q11 : gp_I s 73 1 = 0) (q12 : gp_I s 73 2 = 0) (q13 : gp_I s 73 3 = 0) (q14 : ∀ k, k < 8 → gp_R s 4 k = some 25) (q15 : gp_R s 51 6 = some 55) (q16 : gp_R s 51 7 = some 56) (q17 : gp_us s = 606895) (q18 : gp_sz s = 117) (k : ∀ (t : gH), xM z t → (gp_I t 1 2 = 0) → (gp_I t 1 6 = 0) → (gp_I t 1 7 = 1) → ((-2147483648) ≤ gp_I t 2 1 ∧ gp_I t 2 1 ≤ 2147483647) → (gp_I t 51 8 = 0) → (gp_I t 57 1 = 0) → (gp_I t 57 3 = 0) → (gp_I t 72 0 = 0) → (gp_I t 72 1 = 0) → (gp_I t 72 2 = 0) → (gp_I t 72 3 = 0) → (gp_I t 73 0 = 0) → (gp_I t 73 1 = 0) → (gp_I t 73 2 = 0) → (gp_I t 73 3 = 0) → (∀ k, k < 8 → gp_R t 4 k = some 25) → (gp_R t 51 6 = some 55) → (gp_R t 51 7 = some 56) → (gp_us t = 606895) → (gp_sz t = 117) → K (some (gp_i (-1000000001))) t) : gs_C L (d + 1) 2845 6 [gp_r (some 1), gp_i 1, gp_i p1, gp_i p2, gp_i p3, gp_i p4] s K := by
  refine s_2845_e _ _ _ _ _ ?_
  refine zx1793_9 hs (by omega) (by omega) (by omega) (by omega) (by omega) (by omega) (by omega) (by omega) (⟨_, rfl, ?_⟩)
  refine ⟨fun h_1 => ?_, fun h_1 => ?_⟩
  · refine zx1793_6 _ hs (by omega) (by omega) (by omega) (by omega) (by omega) (by omega) (by omega) (by omega) (by omega) (⟨_, rfl, ?_⟩)
    refine ⟨fun h_2 => ?_, fun h_2 => ?_⟩
    · exfalso; omega
    · refine s_2845_22 _ _ _ _ _ ?_
      refine zx2855_12 hs (by omega) (by omega) (by omega) (by omega) (by omega) (by omega) (by omega) (by omega) (by omega) (by omega) (by omega) (by omega) (by omega) (by omega) q14 q15 q16 q17 q18 (fun s_3 hs_4 q_5 q_6 q_7 q_8 q_9 q_10 q_11 q_12 q_13 q_14 q_15 q_16 q_17 q_18 q_19 q_20 q_21 q_22 q_23 q_24 => ⟨_, rfl, ?_⟩)
      exact k s_3 hs_4 (by omega) (by omega) (by omega) (by omega) (by omega) (by omega) (by omega) (by omega) (by omega) (by omega) (by omega) (by omega) (by omega) (by omega) (by omega) q_20 q_21 q_22 q_23 q_24
  · exfalso; omega
set_option maxRecDepth 100000 in
/-- GatheredPoints.shift [(1, 1), (-2147483648, 2147483647), (4, 2147483647), (-2147483648, 2147483647), (-2147483648, 2147483647)] -/
theorem zx2845_5 {z : gH} {L d : Nat} {K : Option gV → gH → Prop} {s : gH} (p1 : Int) (p2 : Int) (p3 : Int) (p4 : Int) (hs : xM z s) (h_p1 : (-2147483648) ≤ p1 ∧ p1 ≤ 2147483647) (h_p2 : 4 ≤ p2 ∧ p2 ≤ 2147483647) (h_p3 : (-2147483648) ≤ p3 ∧ p3 ≤ 2147483647) (h_p4 : (-2147483648) ≤ p4 ∧ p4 ≤ 2147483647) (q0 : gp_I s 1 2 = 0) (q1 : gp_I s 1 6 = 0) (q2 : gp_I s 1 7 = 1) (q3 : gp_I s 51 8 = 0) (q4 : gp_I s 57 1 = 0) (q5 : gp_I s 57 3 = 0) (q6 : gp_I s 72 0 = 0) (q7 : gp_I s 72 1 = 0) (q8 : gp_I s 72 2 = 0) (q9 : gp_I s 72 3 = 0) (q10 : gp_I s 73 0 = 0) (q11 : gp_I s 73 1 = 0) (q12 : gp_I s 73 2 = 0) (q13 : gp_I s 73 3 = 0) (q14 : ∀ k, k < 8 → gp_R s 4 k = some 25) (q15 : gp_R s 51 6 = some 55) (q16 : gp_R s 51 7 = some 56) (q17 : gp_us s = 606895) (q18 : gp_sz s = 117) (k : ∀ (t : gH), xM z t → (gp_I t 1 2 = 0) → (gp_I t 1 6 = 0) → (gp_I t 1 7 = 1) → ((-2147483648) ≤ gp_I t 2 1 ∧ gp_I t 2 1 ≤ 2147483647) → (gp_I t 51 8 = 0) → (gp_I t 57 1 = 0) → (gp_I t 57 3 = 0) → (gp_I t 72 0 = 0) → (gp_I t 72 1 = 0) → (gp_I t 72 2 = 0) → (gp_I t 72 3 = 0) → (gp_I t 73 0 = 0) → (gp_I t 73 1 = 0) → (gp_I t 73 2 = 0) → (gp_I t 73 3 = 0) → (∀ k, k < 8 → gp_R t 4 k = some 25) → (gp_R t 51 6 = some 55) → (gp_R t 51 7 = some 56) → (gp_us t = 606895) → (gp_sz t = 117) → K (some (gp_i (-1000000001))) t) : gs_C L (d + 1) 2845 6 [gp_r (some 1), gp_i 1, gp_i p1, gp_i p2, gp_i p3, gp_i p4] s K := by
  refine s_2845_e _ _ _ _ _ ?_
  refine zx1793_9 hs (by omega) (by omega) (by omega) (by omega) (by omega) (by omega) (by omega) (by omega) (⟨_, rfl, ?_⟩)
  refine ⟨fun h_1 => ?_, fun h_1 => ?_⟩
  · refine zx1793_7 _ hs (by omega) (by omega) (by omega) (by omega) (by omega) (by omega) (by omega) (by omega) (by omega) (⟨_, rfl, ?_⟩)
    refine ⟨fun h_2 => ?_, fun h_2 => ?_⟩
    · exfalso; omega
    · refine s_2845_22 _ _ _ _ _ ?_
      refine zx2855_12 hs (by omega) (by omega) (by omega) (by omega) (by omega) (by omega) (by omega) (by omega) (by omega) (by omega) (by omega) (by omega) (by omega) (by omega) q14 q15 q16 q17 q18 (fun s_3 hs_4 q_5 q_6 q_7 q_8 q_9 q_10 q_11 q_12 q_13 q_14 q_15 q_16 q_17 q_18 q_19 q_20 q_21 q_22 q_23 q_24 => ⟨_, rfl, ?_⟩)
      exact k s_3 hs_4 (by omega) (by omega) (by omega) (by omega) (by omega) (by omega) (by omega) (by omega) (by omega) (by omega) (by omega) (by omega) (by omega) (by omega) (by omega) q_20 q_21 q_22 q_23 q_24
  · exfalso; omega
set_option maxRecDepth 100000 in
/-- GatheredPoints.shift [(2, 2), (-2147483648, 2147483647), (-2147483648, -1), (-2147483648, 2147483647), (-2147483648, 2147483647)] -/
theorem zx2845_6 {z : gH} {L d : Nat} {K : Option gV → gH → Prop} {s : gH} (p1 : Int) (p2 : Int) (p3 : Int) (p4 : Int) (hs : xM z s) (h_p1 : (-2147483648) ≤ p1 ∧ p1 ≤ 2147483647) (h_p2 : (-2147483648) ≤ p2 ∧ p2 ≤ (-1)) (h_p3 : (-2147483648) ≤ p3 ∧ p3 ≤ 2147483647) (h_p4 : (-2147483648) ≤ p4 ∧ p4 ≤ 2147483647) (q0 : gp_I s 1 2 = 0) (q1 : gp_I s 1 6 = 0) (q2 : gp_I s 1 7 = 1) (q3 : gp_I s 51 8 = 0) (q4 : gp_I s 57 1 = 0) (q5 : gp_I s 57 3 = 0) (q6 : gp_I s 72 0 = 0) (q7 : gp_I s 72 1 = 0) (q8 : gp_I s 72 2 = 0) (q9 : gp_I s 72 3 = 0) (q10 : gp_I s 73 0 = 0) (q11 : gp_I s 73 1 = 0) (q12 : gp_I s 73 2 = 0) (q13 : gp_I s 73 3 = 0) (q14 : ∀ k, k < 8 → gp_R s 4 k = some 25) (q15 : gp_R s 51 6 = some 55) (q16 : gp_R s 51 7 = some 56) (q17 : gp_us s = 606895) (q18 : gp_sz s = 117) (k : ∀ (t : gH), xM z t → (gp_I t 1 2 = 0) → (gp_I t 1 6 = 0) → (gp_I t 1 7 = 1) → ((-2147483648) ≤ gp_I t 2 1 ∧ gp_I t 2 1 ≤ 2147483647) → (gp_I t 51 8 = 0) → (gp_I t 57 1 = 0) → (gp_I t 57 3 = 0) → (gp_I t 72 0 = 0) → (gp_I t 72 1 = 0) → (gp_I t 72 2 = 0) → (gp_I t 72 3 = 0) → (gp_I t 73 0 = 0) → (gp_I t 73 1 = 0) → (gp_I t 73 2 = 0) → (gp_I t 73 3 = 0) → (∀ k, k < 8 → gp_R t 4 k = some 25) → (gp_R t 51 6 = some 55) → (gp_R t 51 7 = some 56) → (gp_us t = 606895) → (gp_sz t = 117) → K (some (gp_i (-1000000001))) t) : gs_C L (d + 1) 2845 6 [gp_r (some 1), gp_i 2, gp_i p1, gp_i p2, gp_i p3, gp_i p4] s K := by
  refine s_2845_e _ _ _ _ _ ?_
  refine zx1793_10 hs (by omega) (by omega) (by omega) (by omega) (by omega) (by omega) (by omega) (by omega) (⟨_, rfl, ?_⟩)
  refine ⟨fun h_1 => ?_, fun h_1 => ?_⟩
  · refine zx1793_6 _ hs (by omega) (by omega) (by omega) (by omega) (by omega) (by omega) (by omega) (by omega) (by omega) (⟨_, rfl, ?_⟩)
    refine ⟨fun h_2 => ?_, fun h_2 => ?_⟩
    · exfalso; omega
    · refine s_2845_22 _ _ _ _ _ ?_
      refine zx2855_12 hs (by omega) (by omega) (by omega) (by omega) (by omega) (by omega) (by omega) (by omega) (by omega) (by omega) (by omega) (by omega) (by omega) (by omega) q14 q15 q16 q17 q18 (fun s_3 hs_4 q_5 q_6 q_7 q_8 q_9 q_10 q_11 q_12 q_13 q_14 q_15 q_16 q_17 q_18 q_19 q_20 q_21 q_22 q_23 q_24 => ⟨_, rfl, ?_⟩)
      exact k s_3 hs_4 (by omega) (by omega) (by omega) (by omega) (by omega) (by omega) (by omega) (by omega) (by omega) (by omega) (by omega) (by omega) (by omega) (by omega) (by omega) q_20 q_21 q_22 q_23 q_24
  · exfalso; omega
set_option maxRecDepth 100000 in
/-- GatheredPoints.shift [(2, 2), (-2147483648, 2147483647), (4, 2147483647), (-2147483648, 2147483647), (-2147483648, 2147483647)] -/
theorem zx2845_7 {z : gH} {L d : Nat} {K : Option gV → gH → Prop} {s : gH} (p1 : Int) (p2 : Int) (p3 : Int) (p4 : Int) (hs : xM z s) (h_p1 : (-2147483648) ≤ p1 ∧ p1 ≤ 2147483647) (h_p2 : 4 ≤ p2 ∧ p2 ≤ 2147483647) (h_p3 : (-2147483648) ≤ p3 ∧ p3 ≤ 2147483647) (h_p4 : (-2147483648) ≤ p4 ∧ p4 ≤ 2147483647) (q0 : gp_I s 1 2 = 0) (q1 : gp_I s 1 6 = 0) (q2 : gp_I s 1 7 = 1) (q3 : gp_I s 51 8 = 0) (q4 : gp_I s 57 1 = 0) (q5 : gp_I s 57 3 = 0) (q6 : gp_I s 72 0 = 0) (q7 : gp_I s 72 1 = 0) (q8 : gp_I s 72 2 = 0) (q9 : gp_I s 72 3 = 0) (q10 : gp_I s 73 0 = 0) (q11 : gp_I s 73 1 = 0) (q12 : gp_I s 73 2 = 0) (q13 : gp_I s 73 3 = 0) (q14 : ∀ k, k < 8 → gp_R s 4 k = some 25) (q15 : gp_R s 51 6 = some 55) (q16 : gp_R s 51 7 = some 56) (q17 : gp_us s = 606895) (q18 : gp_sz s = 117) (k : ∀ (t : gH), xM z t → (gp_I t 1 2 = 0) → (gp_I t 1 6 = 0) → (gp_I t 1 7 = 1) → ((-2147483648) ≤ gp_I t 2 1 ∧ gp_I t 2 1 ≤ 2147483647) → (gp_I t 51 8 = 0) → (gp_I t 57 1 = 0) → (gp_I t 57 3 = 0) → (gp_I t 72 0 = 0) → (gp_I t 72 1 = 0) → (gp_I t 72 2 = 0) → (gp_I t 72 3 = 0) → (gp_I t 73 0 = 0) → (gp_I t 73 1 = 0) → (gp_I t 73 2 = 0) → (gp_I t 73 3 = 0) → (∀ k, k < 8 → gp_R t 4 k = some 25) → (gp_R t 51 6 = some 55) → (gp_R t 51 7 = some 56) → (gp_us t = 606895) → (gp_sz t = 117) → K (some (gp_i (-1000000001))) t) : gs_C L (d + 1) 2845 6 [gp_r (some 1), gp_i 2, gp_i p1, gp_i p2, gp_i p3, gp_i p4] s K := by
  refine s_2845_e _ _ _ _ _ ?_
  refine zx1793_10 hs (by omega) (by omega) (by omega) (by omega) (by omega) (by omega) (by omega) (by omega) (⟨_, rfl, ?_⟩)
  refine ⟨fun h_1 => ?_, fun h_1 => ?_⟩
  · refine zx1793_7 _ hs (by omega) (by omega) (by omega) (by omega) (by omega) (by omega) (by omega) (by omega) (by omega) (⟨_, rfl, ?_⟩)
    refine ⟨fun h_2 => ?_, fun h_2 => ?_⟩
    · exfalso; omega
    · refine s_2845_22 _ _ _ _ _ ?_
      refine zx2855_12 hs (by omega) (by omega) (by omega) (by omega) (by omega) (by omega) (by omega) (by omega) (by omega) (by omega) (by omega) (by omega) (by omega) (by omega) q14 q15 q16 q17 q18 (fun s_3 hs_4 q_5 q_6 q_7 q_8 q_9 q_10 q_11 q_12 q_13 q_14 q_15 q_16 q_17 q_18 q_19 q_20 q_21 q_22 q_23 q_24 => ⟨_, rfl, ?_⟩)
      exact k s_3 hs_4 (by omega) (by omega) (by omega) (by omega) (by omega) (by omega) (by omega) (by omega) (by omega) (by omega) (by omega) (by omega) (by omega) (by omega) (by omega) q_20 q_21 q_22 q_23 q_24
  · exfalso; omega
set_option maxRecDepth 100000 in
/-- GatheredPoints.shift [(3, 3), (-2147483648, 2147483647), (-2147483648, -1), (-2147483648, 2147483647), (-2147483648, 2147483647)] -/
theorem zx2845_8 {z : gH} {L d : Nat} {K : Option gV → gH → Prop} {s : gH} (p1 : Int) (p2 : Int) (p3 : Int) (p4 : Int) (hs : xM z s) (h_p1 : (-2147483648) ≤ p1 ∧ p1 ≤ 2147483647) (h_p2 : (-2147483648) ≤ p2 ∧ p2 ≤ (-1)) (h_p3 : (-2147483648) ≤ p3 ∧ p3 ≤ 2147483647) (h_p4 : (-2147483648) ≤ p4 ∧ p4 ≤ 2147483647) (q0 : gp_I s 1 2 = 0) (q1 : gp_I s 1 6 = 0) (q2 : gp_I s 1 7 = 1) (q3 : gp_I s 51 8 = 0) (q4 : gp_I s 57 1 = 0) (q5 : gp_I s 57 3 = 0) (q6 : gp_I s 72 0 = 0) (q7 : gp_I s 72 1 = 0) (q8 : gp_I s 72 2 = 0) (q9 : gp_I s 72 3 = 0) (q10 : gp_I s 73 0 = 0) (q11 : gp_I s 73 1 = 0) (q12 : gp_I s 73 2 = 0) (q13 : gp_I s 73 3 = 0) (q14 : ∀ k, k < 8 → gp_R s 4 k = some 25) (q15 : gp_R s 51 6 = some 55) (q16 : gp_R s 51 7 = some 56) (q17 : gp_us s = 606895) (q18 : gp_sz s = 117) (k : ∀ (t : gH), xM z t → (gp_I t 1 2 = 0) → (gp_I t 1 6 = 0) → (gp_I t 1 7 = 1) → ((-2147483648) ≤ gp_I t 2 1 ∧ gp_I t 2 1 ≤ 2147483647) → (gp_I t 51 8 = 0) → (gp_I t 57 1 = 0) → (gp_I t 57 3 = 0) → (gp_I t 72 0 = 0) → (gp_I t 72 1 = 0) → (gp_I t 72 2 = 0) → (gp_I t 72 3 = 0) → (gp_I t 73 0 = 0) → (gp_I t 73 1 = 0) → (gp_I t 73 2 = 0) → (gp_I t 73 3 = 0) → (∀ k, k < 8 → gp_R t 4 k = some 25) → (gp_R t 51 6 = some 55) → (gp_R t 51 7 = some 56) → (gp_us t = 606895) → (gp_sz t = 117) → K (some (gp_i (-1000000001))) t) : gs_C L (d + 1) 2845 6 [gp_r (some 1), gp_i 3, gp_i p1, gp_i p2, gp_i p3, gp_i p4] s K := by
  refine s_2845_e _ _ _ _ _ ?_
  refine zx1793_11 hs (by omega) (by omega) (by omega) (by omega) (by omega) (by omega) (by omega) (by omega) (⟨_, rfl, ?_⟩)
  refine ⟨fun h_1 => ?_, fun h_1 => ?_⟩
  · refine zx1793_6 _ hs (by omega) (by omega) (by omega) (by omega) (by omega) (by omega) (by omega) (by omega) (by omega) (⟨_, rfl, ?_⟩)
    refine ⟨fun h_2 => ?_, fun h_2 => ?_⟩
    · exfalso; omega
    · refine s_2845_22 _ _ _ _ _ ?_
      refine zx2855_12 hs (by omega) (by omega) (by omega) (by omega) (by omega) (by omega) (by omega) (by omega) (by omega) (by omega) (by omega) (by omega) (by omega) (by omega) q14 q15 q16 q17 q18 (fun s_3 hs_4 q_5 q_6 q_7 q_8 q_9 q_10 q_11 q_12 q_13 q_14 q_15 q_16 q_17 q_18 q_19 q_20 q_21 q_22 q_23 q_24 => ⟨_, rfl, ?_⟩)
      exact k s_3 hs_4 (by omega) (by omega) (by omega) (by omega) (by omega) (by omega) (by omega) (by omega) (by omega) (by omega) (by omega) (by omega) (by omega) (by omega) (by omega) q_20 q_21 q_22 q_23 q_24
  · exfalso; omega
set_option maxRecDepth 100000 in
/-- GatheredPoints.shift [(3, 3), (-2147483648, 2147483647), (4, 2147483647), (-2147483648, 2147483647), (-2147483648, 2147483647)] -/
theorem zx2845_9 {z : gH} {L d : Nat} {K : Option gV → gH → Prop} {s : gH} (p1 : Int) (p2 : Int) (p3 : Int) (p4 : Int) (hs : xM z s) (h_p1 : (-2147483648) ≤ p1 ∧ p1 ≤ 2147483647) (h_p2 : 4 ≤ p2 ∧ p2 ≤ 2147483647) (h_p3 : (-2147483648) ≤ p3 ∧ p3 ≤ 2147483647) (h_p4 : (-2147483648) ≤ p4 ∧ p4 ≤ 2147483647) (q0 : gp_I s 1 2 = 0) (q1 : gp_I s 1 6 = 0) (q2 : gp_I s 1 7 = 1) (q3 : gp_I s 51 8 = 0) (q4 : gp_I s 57 1 = 0) (q5 : gp_I s 57 3 = 0) (q6 : gp_I s 72 0 = 0) (q7 : gp_I s 72 1 = 0) (q8 : gp_I s 72 2 = 0) (q9 : gp_I s 72 3 = 0) (q10 : gp_I s 73 0 = 0) (q11 : gp_I s 73 1 = 0) (q12 : gp_I s 73 2 = 0) (q13 : gp_I s 73 3 = 0) (q14 : ∀ k, k < 8 → gp_R s 4 k = some 25) (q15 : gp_R s 51 6 = some 55) (q16 : gp_R s 51 7 = some 56) (q17 : gp_us s = 606895) (q18 : gp_sz s = 117) (k : ∀ (t : gH), xM z t → (gp_I t 1 2 = 0) → (gp_I t 1 6 = 0) → (gp_I t 1 7 = 1) → ((-2147483648) ≤ gp_I t 2 1 ∧ gp_I t 2 1 ≤ 2147483647) → (gp_I t 51 8 = 0) → (gp_I t 57 1 = 0) → (gp_I t 57 3 = 0) → (gp_I t 72 0 = 0) → (gp_I t 72 1 = 0) → (gp_I t 72 2 = 0) → (gp_I t 72 3 = 0) → (gp_I t 73 0 = 0) → (gp_I t 73 1 = 0) → (gp_I t 73 2 = 0) → (gp_I t 73 3 = 0) → (∀ k, k < 8 → gp_R t 4 k = some 25) → (gp_R t 51 6 = some 55) → (gp_R t 51 7 = some 56) → (gp_us t = 606895) → (gp_sz t = 117) → K (some (gp_i (-1000000001))) t) : gs_C L (d + 1) 2845 6 [gp_r (some 1), gp_i 3, gp_i p1, gp_i p2, gp_i p3, gp_i p4] s K := by
  refine s_2845_e _ _ _ _ _ ?_
  refine zx1793_11 hs (by omega) (by omega) (by omega) (by omega) (by omega) (by omega) (by omega) (by omega) (⟨_, rfl, ?_⟩)
  refine ⟨fun h_1 => ?_, fun h_1 => ?_⟩
  · refine zx1793_7 _ hs (by omega) (by omega) (by omega) (by omega) (by omega) (by omega) (by omega) (by omega) (by omega) (⟨_, rfl, ?_⟩)
    refine ⟨fun h_2 => ?_, fun h_2 => ?_⟩
    · exfalso; omega
    · refine s_2845_22 _ _ _ _ _ ?_
      refine zx2855_12 hs (by omega) (by omega) (by omega) (by omega) (by omega) (by omega) (by omega) (by omega) (by omega) (by omega) (by omega) (by omega) (by omega) (by omega) q14 q15 q16 q17 q18 (fun s_3 hs_4 q_5 q_6 q_7 q_8 q_9 q_10 q_11 q_12 q_13 q_14 q_15 q_16 q_17 q_18 q_19 q_20 q_21 q_22 q_23 q_24 => ⟨_, rfl, ?_⟩)
      exact k s_3 hs_4 (by omega) (by omega) (by omega) (by omega) (by omega) (by omega) (by omega) (by omega) (by omega) (by omega) (by omega) (by omega) (by omega) (by omega) (by omega) q_20 q_21 q_22 q_23 q_24
  · exfalso; omega
set_option maxRecDepth 100000 in
/-- GatheredPoints.shift [(0, 0), (-2147483648, 2147483647), (0, 0), (-2147483648, 2147483647), (-2147483648, 2147483647)] -/
theorem zx2845_10 {z : gH} {L d : Nat} {K : Option gV → gH → Prop} {s : gH} (p1 : Int) (p3 : Int) (p4 : Int) (hs : xM z s) (h_p1 : (-2147483648) ≤ p1 ∧ p1 ≤ 2147483647) (h_p3 : (-2147483648) ≤ p3 ∧ p3 ≤ 2147483647) (h_p4 : (-2147483648) ≤ p4 ∧ p4 ≤ 2147483647) (q0 : gp_I s 1 2 = 0) (q1 : gp_I s 1 6 = 0) (q2 : gp_I s 1 7 = 1) (q3 : gp_I s 51 8 = 0) (q4 : gp_I s 57 1 = 0) (q5 : gp_I s 57 3 = 0) (q6 : gp_I s 72 0 = 0) (q7 : gp_I s 72 1 = 0) (q8 : gp_I s 72 2 = 0) (q9 : gp_I s 72 3 = 0) (q10 : gp_I s 73 0 = 0) (q11 : gp_I s 73 1 = 0) (q12 : gp_I s 73 2 = 0) (q13 : gp_I s 73 3 = 0) (q14 : ∀ k, k < 8 → gp_R s 4 k = some 25) (q15 : gp_R s 51 6 = some 55) (q16 : gp_R s 51 7 = some 56) (q17 : gp_us s = 606895) (q18 : gp_sz s = 117) (k : ∀ (t : gH), xM z t → (gp_I t 1 2 = 0) → (gp_I t 1 6 = 0) → (gp_I t 1 7 = 1) → ((-2147483648) ≤ gp_I t 2 2 ∧ gp_I t 2 2 ≤ 2147483647) → (gp_I t 51 8 = 0) → (gp_I t 57 1 = 0) → (gp_I t 57 3 = 0) → (gp_I t 72 0 = 0) → (gp_I t 72 1 = 0) → (gp_I t 72 2 = 0) → (gp_I t 72 3 = 0) → (gp_I t 73 0 = 0) → (gp_I t 73 1 = 0) → (gp_I t 73 2 = 0) → (gp_I t 73 3 = 0) → (∀ k, k < 8 → gp_R t 4 k = some 25) → (gp_R t 51 6 = some 55) → (gp_R t 51 7 = some 56) → (gp_us t = 606895) → (gp_sz t = 117) → K (some (gp_i (-1000000002))) t) : gs_C L (d + 1) 2845 6 [gp_r (some 1), gp_i 0, gp_i p1, gp_i 0, gp_i p3, gp_i p4] s K := by
  refine s_2845_e _ _ _ _ _ ?_
  refine zx1793_8 hs (by omega) (by omega) (by omega) (by omega) (by omega) (by omega) (by omega) (by omega) (⟨_, rfl, ?_⟩)
  refine ⟨fun h_1 => ?_, fun h_1 => ?_⟩
  · refine zx1793_8 hs (by omega) (by omega) (by omega) (by omega) (by omega) (by omega) (by omega) (by omega) (⟨_, rfl, ?_⟩)
    refine ⟨fun h_2 => ?_, fun h_2 => ?_⟩
    · refine zx1794_4 hs (by omega) (by omega) (by omega) (by omega) (by omega) (by omega) (by omega) (by omega) (⟨_, rfl, ?_⟩)
      refine ⟨fun h_3 => ?_, fun h_3 => ?_⟩
      · exfalso; omega
      · refine s_2845_50 _ _ _ _ _ ?_
        refine zx2855_14 hs (by omega) (by omega) (by omega) (by omega) (by omega) (by omega) (by omega) (by omega) (by omega) (by omega) (by omega) (by omega) (by omega) (by omega) q14 q15 q16 q17 q18 (fun s_4 hs_5 q_6 q_7 q_8 q_9 q_10 q_11 q_12 q_13 q_14 q_15 q_16 q_17 q_18 q_19 q_20 q_21 q_22 q_23 q_24 q_25 => ⟨_, rfl, ?_⟩)
        exact k s_4 hs_5 (by omega) (by omega) (by omega) (by omega) (by omega) (by omega) (by omega) (by omega) (by omega) (by omega) (by omega) (by omega) (by omega) (by omega) (by omega) q_21 q_22 q_23 q_24 q_25
    · exfalso; omega
  · exfalso; omega
set_option maxRecDepth 100000 in
/-- GatheredPoints.shift [(0, 0), (-2147483648, 2147483647), (1, 1), (-2147483648, 2147483647), (-2147483648, 2147483647)] -/
theorem zx2845_11 {z : gH} {L d : Nat} {K : Option gV → gH → Prop} {s : gH} (p1 : Int) (p3 : Int) (p4 : Int) (hs : xM z s) (h_p1 : (-2147483648) ≤ p1 ∧ p1 ≤ 2147483647) (h_p3 : (-2147483648) ≤ p3 ∧ p3 ≤ 2147483647) (h_p4 : (-2147483648) ≤ p4 ∧ p4 ≤ 2147483647) (q0 : gp_I s 1 2 = 0) (q1 : gp_I s 1 6 = 0) (q2 : gp_I s 1 7 = 1) (q3 : gp_I s 51 8 = 0) (q4 : gp_I s 57 1 = 0) (q5 : gp_I s 57 3 = 0) (q6 : gp_I s 72 0 = 0) (q7 : gp_I s 72 1 = 0) (q8 : gp_I s 72 2 = 0) (q9 : gp_I s 72 3 = 0) (q10 : gp_I s 73 0 = 0) (q11 : gp_I s 73 1 = 0) (q12 : gp_I s 73 2 = 0) (q13 : gp_I s 73 3 = 0) (q14 : ∀ k, k < 8 → gp_R s 4 k = some 25) (q15 : gp_R s 51 6 = some 55) (q16 : gp_R s 51 7 = some 56) (q17 : gp_us s = 606895) (q18 : gp_sz s = 117) (k : ∀ (t : gH), xM z t → (gp_I t 1 2 = 0) → (gp_I t 1 6 = 0) → (gp_I t 1 7 = 1) → ((-2147483648) ≤ gp_I t 2 2 ∧ gp_I t 2 2 ≤ 2147483647) → (gp_I t 51 8 = 0) → (gp_I t 57 1 = 0) → (gp_I t 57 3 = 0) → (gp_I t 72 0 = 0) → (gp_I t 72 1 = 0) → (gp_I t 72 2 = 0) → (gp_I t 72 3 = 0) → (gp_I t 73 0 = 0) → (gp_I t 73 1 = 0) → (gp_I t 73 2 = 0) → (gp_I t 73 3 = 0) → (∀ k, k < 8 → gp_R t 4 k = some 25) → (gp_R t 51 6 = some 55) → (gp_R t 51 7 = some 56) → (gp_us t = 606895) → (gp_sz t = 117) → K (some (gp_i (-1000000002))) t) : gs_C L (d + 1) 2845 6 [gp_r (some 1), gp_i 0, gp_i p1, gp_i 1, gp_i p3, gp_i p4] s K := by
  refine s_2845_e _ _ _ _ _ ?_
  refine zx1793_8 hs (by omega) (by omega) (by omega) (by omega) (by omega) (by omega) (by omega) (by omega) (⟨_, rfl, ?_⟩)
  refine ⟨fun h_1 => ?_, fun h_1 => ?_⟩
  · refine zx1793_9 hs (by omega) (by omega) (by omega) (by omega) (by omega) (by omega) (by omega) (by omega) (⟨_, rfl, ?_⟩)
    refine ⟨fun h_2 => ?_, fun h_2 => ?_⟩
    · refine zx1794_4 hs (by omega) (by omega) (by omega) (by omega) (by omega) (by omega) (by omega) (by omega) (⟨_, rfl, ?_⟩)
      refine ⟨fun h_3 => ?_, fun h_3 => ?_⟩
      · exfalso; omega
      · refine s_2845_50 _ _ _ _ _ ?_
        refine zx2855_14 hs (by omega) (by omega) (by omega) (by omega) (by omega) (by omega) (by omega) (by omega) (by omega) (by omega) (by omega) (by omega) (by omega) (by omega) q14 q15 q16 q17 q18 (fun s_4 hs_5 q_6 q_7 q_8 q_9 q_10 q_11 q_12 q_13 q_14 q_15 q_16 q_17 q_18 q_19 q_20 q_21 q_22 q_23 q_24 q_25 => ⟨_, rfl, ?_⟩)
        exact k s_4 hs_5 (by omega) (by omega) (by omega) (by omega) (by omega) (by omega) (by omega) (by omega) (by omega) (by omega) (by omega) (by omega) (by omega) (by omega) (by omega) q_21 q_22 q_23 q_24 q_25
    · exfalso; omega
  · exfalso; omega
set_option maxRecDepth 100000 in
/-- GatheredPoints.shift [(0, 0), (-2147483648, 2147483647), (2, 2), (-2147483648, 2147483647), (-2147483648, 2147483647)] -/
theorem zx2845_12 {z : gH} {L d : Nat} {K : Option gV → gH → Prop} {s : gH} (p1 : Int) (p3 : Int) (p4 : Int) (hs : xM z s) (h_p1 : (-2147483648) ≤ p1 ∧ p1 ≤ 2147483647) (h_p3 : (-2147483648) ≤ p3 ∧ p3 ≤ 2147483647) (h_p4 : (-2147483648) ≤ p4 ∧ p4 ≤ 2147483647) (q0 : gp_I s 1 2 = 0) (q1 : gp_I s 1 6 = 0) (q2 : gp_I s 1 7 = 1) (q3 : gp_I s 51 8 = 0) (q4 : gp_I s 57 1 = 0) (q5 : gp_I s 57 3 = 0) (q6 : gp_I s 72 0 = 0) (q7 : gp_I s 72 1 = 0) (q8 : gp_I s 72 2 = 0) (q9 : gp_I s 72 3 = 0) (q10 : gp_I s 73 0 = 0) (q11 : gp_I s 73 1 = 0) (q12 : gp_I s 73 2 = 0) (q13 : gp_I s 73 3 = 0) (q14 : ∀ k, k < 8 → gp_R s 4 k = some 25) (q15 : gp_R s 51 6 = some 55) (q16 : gp_R s 51 7 = some 56) (q17 : gp_us s = 606895) (q18 : gp_sz s = 117) (k : ∀ (t : gH), xM z t → (gp_I t 1 2 = 0) → (gp_I t 1 6 = 0) → (gp_I t 1 7 = 1) → ((-2147483648) ≤ gp_I t 2 2 ∧ gp_I t 2 2 ≤ 2147483647) → (gp_I t 51 8 = 0) → (gp_I t 57 1 = 0) → (gp_I t 57 3 = 0) → (gp_I t 72 0 = 0) → (gp_I t 72 1 = 0) → (gp_I t 72 2 = 0) → (gp_I t 72 3 = 0) → (gp_I t 73 0 = 0) → (gp_I t 73 1 = 0) → (gp_I t 73 2 = 0) → (gp_I t 73 3 = 0) → (∀ k, k < 8 → gp_R t 4 k = some 25) → (gp_R t 51 6 = some 55) → (gp_R t 51 7 = some 56) → (gp_us t = 606895) → (gp_sz t = 117) → K (some (gp_i (-1000000002))) t) : gs_C L (d + 1) 2845 6 [gp_r (some 1), gp_i 0, gp_i p1, gp_i 2, gp_i p3, gp_i p4] s K := by
  refine s_2845_e _ _ _ _ _ ?_
  refine zx1793_8 hs (by omega) (by omega) (by omega) (by omega) (by omega) (by omega) (by omega) (by omega) (⟨_, rfl, ?_⟩)
  refine ⟨fun h_1 => ?_, fun h_1 => ?_⟩
  · refine zx1793_10 hs (by omega) (by omega) (by omega) (by omega) (by omega) (by omega) (by omega) (by omega) (⟨_, rfl, ?_⟩)
    refine ⟨fun h_2 => ?_, fun h_2 => ?_⟩
    · refine zx1794_4 hs (by omega) (by omega) (by omega) (by omega) (by omega) (by omega) (by omega) (by omega) (⟨_, rfl, ?_⟩)
      refine ⟨fun h_3 => ?_, fun h_3 => ?_⟩
      · exfalso; omega
      · refine s_2845_50 _ _ _ _ _ ?_
        refine zx2855_14 hs (by omega) (by omega) (by omega) (by omega) (by omega) (by omega) (by omega) (by omega) (by omega) (by omega) (by omega) (by omega) (by omega) (by omega) q14 q15 q16 q17 q18 (fun s_4 hs_5 q_6 q_7 q_8 q_9 q_10 q_11 q_12 q_13 q_14 q_15 q_16 q_17 q_18 q_19 q_20 q_21 q_22 q_23 q_24 q_25 => ⟨_, rfl, ?_⟩)
        exact k s_4 hs_5 (by omega) (by omega) (by omega) (by omega) (by omega) (by omega) (by omega) (by omega) (by omega) (by omega) (by omega) (by omega) (by omega) (by omega) (by omega) q_21 q_22 q_23 q_24 q_25
    · exfalso; omega
  · exfalso; omega
set_option maxRecDepth 100000 in
/-- GatheredPoints.shift [(0, 0), (-2147483648, 2147483647), (3, 3), (-2147483648, 2147483647), (-2147483648, 2147483647)] -/
theorem zx2845_13 {z : gH} {L d : Nat} {K : Option gV → gH → Prop} {s : gH} (p1 : Int) (p3 : Int) (p4 : Int) (hs : xM z s) (h_p1 : (-2147483648) ≤ p1 ∧ p1 ≤ 2147483647) (h_p3 : (-2147483648) ≤ p3 ∧ p3 ≤ 2147483647) (h_p4 : (-2147483648) ≤ p4 ∧ p4 ≤ 2147483647) (q0 : gp_I s 1 2 = 0) (q1 : gp_I s 1 6 = 0) (q2 : gp_I s 1 7 = 1) (q3 : gp_I s 51 8 = 0) (q4 : gp_I s 57 1 = 0) (q5 : gp_I s 57 3 = 0) (q6 : gp_I s 72 0 = 0) (q7 : gp_I s 72 1 = 0) (q8 : gp_I s 72 2 = 0) (q9 : gp_I s 72 3 = 0) (q10 : gp_I s 73 0 = 0) (q11 : gp_I s 73 1 = 0) (q12 : gp_I s 73 2 = 0) (q13 : gp_I s 73 3 = 0) (q14 : ∀ k, k < 8 → gp_R s 4 k = some 25) (q15 : gp_R s 51 6 = some 55) (q16 : gp_R s 51 7 = some 56) (q17 : gp_us s = 606895) (q18 : gp_sz s = 117) (k : ∀ (t : gH), xM z t → (gp_I t 1 2 = 0) → (gp_I t 1 6 = 0) → (gp_I t 1 7 = 1) → ((-2147483648) ≤ gp_I t 2 2 ∧ gp_I t 2 2 ≤ 2147483647) → (gp_I t 51 8 = 0) → (gp_I t 57 1 = 0) → (gp_I t 57 3 = 0) → (gp_I t 72 0 = 0) → (gp_I t 72 1 = 0) → (gp_I t 72 2 = 0) → (gp_I t 72 3 = 0) → (gp_I t 73 0 = 0) → (gp_I t 73 1 = 0) → (gp_I t 73 2 = 0) → (gp_I t 73 3 = 0) → (∀ k, k < 8 → gp_R t 4 k = some 25) → (gp_R t 51 6 = some 55) → (gp_R t 51 7 = some 56) → (gp_us t = 606895) → (gp_sz t = 117) → K (some (gp_i (-1000000002))) t) : gs_C L (d + 1) 2845 6 [gp_r (some 1), gp_i 0, gp_i p1, gp_i 3, gp_i p3, gp_i p4] s K := by
  refine s_2845_e _ _ _ _ _ ?_
  refine zx1793_8 hs (by omega) (by omega) (by omega) (by omega) (by omega) (by omega) (by omega) (by omega) (⟨_, rfl, ?_⟩)
  refine ⟨fun h_1 => ?_, fun h_1 => ?_⟩
  · refine zx1793_11 hs (by omega) (by omega) (by omega) (by omega) (by omega) (by omega) (by omega) (by omega) (⟨_, rfl, ?_⟩)
    refine ⟨fun h_2 => ?_, fun h_2 => ?_⟩
    · refine zx1794_4 hs (by omega) (by omega) (by omega) (by omega) (by omega) (by omega) (by omega) (by omega) (⟨_, rfl, ?_⟩)
      refine ⟨fun h_3 => ?_, fun h_3 => ?_⟩
      · exfalso; omega
      · refine s_2845_50 _ _ _ _ _ ?_
        refine zx2855_14 hs (by omega) (by omega) (by omega) (by omega) (by omega) (by omega) (by omega) (by omega) (by omega) (by omega) (by omega) (by omega) (by omega) (by omega) q14 q15 q16 q17 q18 (fun s_4 hs_5 q_6 q_7 q_8 q_9 q_10 q_11 q_12 q_13 q_14 q_15 q_16 q_17 q_18 q_19 q_20 q_21 q_22 q_23 q_24 q_25 => ⟨_, rfl, ?_⟩)
        exact k s_4 hs_5 (by omega) (by omega) (by omega) (by omega) (by omega) (by omega) (by omega) (by omega) (by omega) (by omega) (by omega) (by omega) (by omega) (by omega) (by omega) q_21 q_22 q_23 q_24 q_25
    · exfalso; omega
  · exfalso; omega
set_option maxRecDepth 100000 in
/-- GatheredPoints.shift [(1, 1), (-2147483648, 2147483647), (0, 0), (-2147483648, 2147483647), (-2147483648, 2147483647)] -/
theorem zx2845_14 {z : gH} {L d : Nat} {K : Option gV → gH → Prop} {s : gH} (p1 : Int) (p3 : Int) (p4 : Int) (hs : xM z s) (h_p1 : (-2147483648) ≤ p1 ∧ p1 ≤ 2147483647) (h_p3 : (-2147483648) ≤ p3 ∧ p3 ≤ 2147483647) (h_p4 : (-2147483648) ≤ p4 ∧ p4 ≤ 2147483647) (q0 : gp_I s 1 2 = 0) (q1 : gp_I s 1 6 = 0) (q2 : gp_I s 1 7 = 1) (q3 : gp_I s 51 8 = 0) (q4 : gp_I s 57 1 = 0) (q5 : gp_I s 57 3 = 0) (q6 : gp_I s 72 0 = 0) (q7 : gp_I s 72 1 = 0) (q8 : gp_I s 72 2 = 0) (q9 : gp_I s 72 3 = 0) (q10 : gp_I s 73 0 = 0) (q11 : gp_I s 73 1 = 0) (q12 : gp_I s 73 2 = 0) (q13 : gp_I s 73 3 = 0) (q14 : ∀ k, k < 8 → gp_R s 4 k = some 25) (q15 : gp_R s 51 6 = some 55) (q16 : gp_R s 51 7 = some 56) (q17 : gp_us s = 606895) (q18 : gp_sz s = 117) (k : ∀ (t : gH), xM z t → (gp_I t 1 2 = 0) → (gp_I t 1 6 = 0) → (gp_I t 1 7 = 1) → ((-2147483648) ≤ gp_I t 2 2 ∧ gp_I t 2 2 ≤ 2147483647) → (gp_I t 51 8 = 0) → (gp_I t 57 1 = 0) → (gp_I t 57 3 = 0) → (gp_I t 72 0 = 0) → (gp_I t 72 1 = 0) → (gp_I t 72 2 = 0) → (gp_I t 72 3 = 0) → (gp_I t 73 0 = 0) → (gp_I t 73 1 = 0) → (gp_I t 73 2 = 0) → (gp_I t 73 3 = 0) → (∀ k, k < 8 → gp_R t 4 k = some 25) → (gp_R t 51 6 = some 55) → (gp_R t 51 7 = some 56) → (gp_us t = 606895) → (gp_sz t = 117) → K (some (gp_i (-1000000002))) t) : gs_C L (d + 1) 2845 6 [gp_r (some 1), gp_i 1, gp_i p1, gp_i 0, gp_i p3, gp_i p4] s K := by
  refine s_2845_e _ _ _ _ _ ?_
  refine zx1793_9 hs (by omega) (by omega) (by omega) (by omega) (by omega) (by omega) (by omega) (by omega) (⟨_, rfl, ?_⟩)
  refine ⟨fun h_1 => ?_, fun h_1 => ?_⟩
  · refine zx1793_8 hs (by omega) (by omega) (by omega) (by omega) (by omega) (by omega) (by omega) (by omega) (⟨_, rfl, ?_⟩)
    refine ⟨fun h_2 => ?_, fun h_2 => ?_⟩
    · refine zx1794_5 hs (by omega) (by omega) (by omega) (by omega) (by omega) (by omega) (by omega) (by omega) (⟨_, rfl, ?_⟩)
      refine ⟨fun h_3 => ?_, fun h_3 => ?_⟩
      · exfalso; omega
      · refine s_2845_50 _ _ _ _ _ ?_
        refine zx2855_14 hs (by omega) (by omega) (by omega) (by omega) (by omega) (by omega) (by omega) (by omega) (by omega) (by omega) (by omega) (by omega) (by omega) (by omega) q14 q15 q16 q17 q18 (fun s_4 hs_5 q_6 q_7 q_8 q_9 q_10 q_11 q_12 q_13 q_14 q_15 q_16 q_17 q_18 q_19 q_20 q_21 q_22 q_23 q_24 q_25 => ⟨_, rfl, ?_⟩)
        exact k s_4 hs_5 (by omega) (by omega) (by omega) (by omega) (by omega) (by omega) (by omega) (by omega) (by omega) (by omega) (by omega) (by omega) (by omega) (by omega) (by omega) q_21 q_22 q_23 q_24 q_25
    · exfalso; omega
  · exfalso; omega
set_option maxRecDepth 100000 in
/-- GatheredPoints.shift [(1, 1), (-2147483648, 2147483647), (1, 1), (-2147483648, 2147483647), (-2147483648, 2147483647)] -/
theorem zx2845_15 {z : gH} {L d : Nat} {K : Option gV → gH → Prop} {s : gH} (p1 : Int) (p3 : Int) (p4 : Int) (hs : xM z s) (h_p1 : (-2147483648) ≤ p1 ∧ p1 ≤ 2147483647) (h_p3 : (-2147483648) ≤ p3 ∧ p3 ≤ 2147483647) (h_p4 : (-2147483648) ≤ p4 ∧ p4 ≤ 2147483647) (q0 : gp_I s 1 2 = 0) (q1 : gp_I s 1 6 = 0) (q2 : gp_I s 1 7 = 1) (q3 : gp_I s 51 8 = 0) (q4 : gp_I s 57 1 = 0) (q5 : gp_I s 57 3 = 0) (q6 : gp_I s 72 0 = 0) (q7 : gp_I s 72 1 = 0) (q8 : gp_I s 72 2 = 0) (q9 : gp_I s 72 3 = 0) (q10 : gp_I s 73 0 = 0) (q11 : gp_I s 73 1 = 0) (q12 : gp_I s 73 2 = 0) (q13 : gp_I s 73 3 = 0) (q14 : ∀ k, k < 8 → gp_R s 4 k = some 25) (q15 : gp_R s 51 6 = some 55) (q16 : gp_R s 51 7 = some 56) (q17 : gp_us s = 606895) (q18 : gp_sz s = 117) (k : ∀ (t : gH), xM z t → (gp_I t 1 2 = 0) → (gp_I t 1 6 = 0) → (gp_I t 1 7 = 1) → ((-2147483648) ≤ gp_I t 2 2 ∧ gp_I t 2 2 ≤ 2147483647) → (gp_I t 51 8 = 0) → (gp_I t 57 1 = 0) → (gp_I t 57 3 = 0) → (gp_I t 72 0 = 0) → (gp_I t 72 1 = 0) → (gp_I t 72 2 = 0) → (gp_I t 72 3 = 0) → (gp_I t 73 0 = 0) → (gp_I t 73 1 = 0) → (gp_I t 73 2 = 0) → (gp_I t 73 3 = 0) → (∀ k, k < 8 → gp_R t 4 k = some 25) → (gp_R t 51 6 = some 55) → (gp_R t 51 7 = some 56) → (gp_us t = 606895) → (gp_sz t = 117) → K (some (gp_i (-1000000002))) t) : gs_C L (d + 1) 2845 6 [gp_r (some 1), gp_i 1, gp_i p1, gp_i 1, gp_i p3, gp_i p4] s K := by
  refine s_2845_e _ _ _ _ _ ?_
  refine zx1793_9 hs (by omega) (by omega) (by omega) (by omega) (by omega) (by omega) (by omega) (by omega) (⟨_, rfl, ?_⟩)
  refine ⟨fun h_1 => ?_, fun h_1 => ?_⟩
  · refine zx1793_9 hs (by omega) (by omega) (by omega) (by omega) (by omega) (by omega) (by omega) (by omega) (⟨_, rfl, ?_⟩)
    refine ⟨fun h_2 => ?_, fun h_2 => ?_⟩
    · refine zx1794_5 hs (by omega) (by omega) (by omega) (by omega) (by omega) (by omega) (by omega) (by omega) (⟨_, rfl, ?_⟩)
      refine ⟨fun h_3 => ?_, fun h_3 => ?_⟩
      · exfalso; omega
      · refine s_2845_50 _ _ _ _ _ ?_
        refine zx2855_14 hs (by omega) (by omega) (by omega) (by omega) (by omega) (by omega) (by omega) (by omega) (by omega) (by omega) (by omega) (by omega) (by omega) (by omega) q14 q15 q16 q17 q18 (fun s_4 hs_5 q_6 q_7 q_8 q_9 q_10 q_11 q_12 q_13 q_14 q_15 q_16 q_17 q_18 q_19 q_20 q_21 q_22 q_23 q_24 q_25 => ⟨_, rfl, ?_⟩)
        exact k s_4 hs_5 (by omega) (by omega) (by omega) (by omega) (by omega) (by omega) (by omega) (by omega) (by omega) (by omega) (by omega) (by omega) (by omega) (by omega) (by omega) q_21 q_22 q_23 q_24 q_25
    · exfalso; omega
  · exfalso; omega
set_option maxRecDepth 100000 in
/-- GatheredPoints.shift [(1, 1), (-2147483648, 2147483647), (2, 2), (-2147483648, 2147483647), (-2147483648, 2147483647)] -/
theorem zx2845_16 {z : gH} {L d : Nat} {K : Option gV → gH → Prop} {s : gH} (p1 : Int) (p3 : Int) (p4 : Int) (hs : xM z s) (h_p1 : (-2147483648) ≤ p1 ∧ p1 ≤ 2147483647) (h_p3 : (-2147483648) ≤ p3 ∧ p3 ≤ 2147483647) (h_p4 : (-2147483648) ≤ p4 ∧ p4 ≤ 2147483647) (q0 : gp_I s 1 2 = 0) (q1 : gp_I s 1 6 = 0) (q2 : gp_I s 1 7 = 1) (q3 : gp_I s 51 8 = 0) (q4 : gp_I s 57 1 = 0) (q5 : gp_I s 57 3 = 0) (q6 : gp_I s 72 0 = 0) (q7 : gp_I s 72 1 = 0) (q8 : gp_I s 72 2 = 0) (q9 : gp_I s 72 3 = 0) (q10 : gp_I s 73 0 = 0) (q11 : gp_I s 73 1 = 0) (q12 : gp_I s 73 2 = 0) (q13 : gp_I s 73 3 = 0) (q14 : ∀ k, k < 8 → gp_R s 4 k = some 25) (q15 : gp_R s 51 6 = some 55) (q16 : gp_R s 51 7 = some 56) (q17 : gp_us s = 606895) (q18 : gp_sz s = 117) (k : ∀ (t : gH), xM z t → (gp_I t 1 2 = 0) → (gp_I t 1 6 = 0) → (gp_I t 1 7 = 1) → ((-2147483648) ≤ gp_I t 2 2 ∧ gp_I t 2 2 ≤ 2147483647) → (gp_I t 51 8 = 0) → (gp_I t 57 1 = 0) → (gp_I t 57 3 = 0) → (gp_I t 72 0 = 0) → (gp_I t 72 1 = 0) → (gp_I t 72 2 = 0) → (gp_I t 72 3 = 0) → (gp_I t 73 0 = 0) → (gp_I t 73 1 = 0) → (gp_I t 73 2 = 0) → (gp_I t 73 3 = 0) → (∀ k, k < 8 → gp_R t 4 k = some 25) → (gp_R t 51 6 = some 55) → (gp_R t 51 7 = some 56) → (gp_us t = 606895) → (gp_sz t = 117) → K (some (gp_i (-1000000002))) t) : gs_C L (d + 1) 2845 6 [gp_r (some 1), gp_i 1, gp_i p1, gp_i 2, gp_i p3, gp_i p4] s K := by
  refine s_2845_e _ _ _ _ _ ?_
  refine zx1793_9 hs (by omega) (by omega) (by omega) (by omega) (by omega) (by omega) (by omega) (by omega) (⟨_, rfl, ?_⟩)
  refine ⟨fun h_1 => ?_, fun h_1 => ?_⟩
  · refine zx1793_10 hs (by omega) (by omega) (by omega) (by omega) (by omega) (by omega) (by omega) (by omega) (⟨_, rfl, ?_⟩)
    refine ⟨fun h_2 => ?_, fun h_2 => ?_⟩
    · refine zx1794_5 hs (by omega) (by omega) (by omega) (by omega) (by omega) (by omega) (by omega) (by omega) (⟨_, rfl, ?_⟩)
      refine ⟨fun h_3 => ?_, fun h_3 => ?_⟩
      · exfalso; omega
      · refine s_2845_50 _ _ _ _ _ ?_
        refine zx2855_14 hs (by omega) (by omega) (by omega) (by omega) (by omega) (by omega) (by omega) (by omega) (by omega) (by omega) (by omega) (by omega) (by omega) (by omega) q14 q15 q16 q17 q18 (fun s_4 hs_5 q_6 q_7 q_8 q_9 q_10 q_11 q_12 q_13 q_14 q_15 q_16 q_17 q_18 q_19 q_20 q_21 q_22 q_23 q_24 q_25 => ⟨_, rfl, ?_⟩)
        exact k s_4 hs_5 (by omega) (by omega) (by omega) (by omega) (by omega) (by omega) (by omega) (by omega) (by omega) (by omega) (by omega) (by omega) (by omega) (by omega) (by omega) q_21 q_22 q_23 q_24 q_25
    · exfalso; omega
  · exfalso; omega
set_option maxRecDepth 100000 in
/-- GatheredPoints.shift [(1, 1), (-2147483648, 2147483647), (3, 3), (-2147483648, 2147483647), (-2147483648, 2147483647)] -/
theorem zx2845_17 {z : gH} {L d : Nat} {K : Option gV → gH → Prop} {s : gH} (p1 : Int) (p3 : Int) (p4 : Int) (hs : xM z s) (h_p1 : (-2147483648) ≤ p1 ∧ p1 ≤ 2147483647) (h_p3 : (-2147483648) ≤ p3 ∧ p3 ≤ 2147483647) (h_p4 : (-2147483648) ≤ p4 ∧ p4 ≤ 2147483647) (q0 : gp_I s 1 2 = 0) (q1 : gp_I s 1 6 = 0) (q2 : gp_I s 1 7 = 1) (q3 : gp_I s 51 8 = 0) (q4 : gp_I s 57 1 = 0) (q5 : gp_I s 57 3 = 0) (q6 : gp_I s 72 0 = 0) (q7 : gp_I s 72 1 = 0) (q8 : gp_I s 72 2 = 0) (q9 : gp_I s 72 3 = 0) (q10 : gp_I s 73 0 = 0) (q11 : gp_I s 73 1 = 0) (q12 : gp_I s 73 2 = 0) (q13 : gp_I s 73 3 = 0) (q14 : ∀ k, k < 8 → gp_R s 4 k = some 25) (q15 : gp_R s 51 6 = some 55) (q16 : gp_R s 51 7 = some 56) (q17 : gp_us s = 606895) (q18 : gp_sz s = 117) (k : ∀ (t : gH), xM z t → (gp_I t 1 2 = 0) → (gp_I t 1 6 = 0) → (gp_I t 1 7 = 1) → ((-2147483648) ≤ gp_I t 2 2 ∧ gp_I t 2 2 ≤ 2147483647) → (gp_I t 51 8 = 0) → (gp_I t 57 1 = 0) → (gp_I t 57 3 = 0) → (gp_I t 72 0 = 0) → (gp_I t 72 1 = 0) → (gp_I t 72 2 = 0) → (gp_I t 72 3 = 0) → (gp_I t 73 0 = 0) → (gp_I t 73 1 = 0) → (gp_I t 73 2 = 0) → (gp_I t 73 3 = 0) → (∀ k, k < 8 → gp_R t 4 k = some 25) → (gp_R t 51 6 = some 55) → (gp_R t 51 7 = some 56) → (gp_us t = 606895) → (gp_sz t = 117) → K (some (gp_i (-1000000002))) t) : gs_C L (d + 1) 2845 6 [gp_r (some 1), gp_i 1, gp_i p1, gp_i 3, gp_i p3, gp_i p4] s K := by
  refine s_2845_e _ _ _ _ _ ?_
  refine zx1793_9 hs (by omega) (by omega) (by omega) (by omega) (by omega) (by omega) (by omega) (by omega) (⟨_, rfl, ?_⟩)
  refine ⟨fun h_1 => ?_, fun h_1 => ?_⟩
  · refine zx1793_11 hs (by omega) (by omega) (by omega) (by omega) (by omega) (by omega) (by omega) (by omega) (⟨_, rfl, ?_⟩)
    refine ⟨fun h_2 => ?_, fun h_2 => ?_⟩
    · refine zx1794_5 hs (by omega) (by omega) (by omega) (by omega) (by omega) (by omega) (by omega) (by omega) (⟨_, rfl, ?_⟩)
      refine ⟨fun h_3 => ?_, fun h_3 => ?_⟩
      · exfalso; omega
      · refine s_2845_50 _ _ _ _ _ ?_
        refine zx2855_14 hs (by omega) (by omega) (by omega) (by omega) (by omega) (by omega) (by omega) (by omega) (by omega) (by omega) (by omega) (by omega) (by omega) (by omega) q14 q15 q16 q17 q18 (fun s_4 hs_5 q_6 q_7 q_8 q_9 q_10 q_11 q_12 q_13 q_14 q_15 q_16 q_17 q_18 q_19 q_20 q_21 q_22 q_23 q_24 q_25 => ⟨_, rfl, ?_⟩)
        exact k s_4 hs_5 (by omega) (by omega) (by omega) (by omega) (by omega) (by omega) (by omega) (by omega) (by omega) (by omega) (by omega) (by omega) (by omega) (by omega) (by omega) q_21 q_22 q_23 q_24 q_25
    · exfalso; omega
  · exfalso; omega
set_option maxRecDepth 100000 in
/-- GatheredPoints.shift [(2, 2), (-2147483648, 2147483647), (0, 0), (-2147483648, 2147483647), (-2147483648, 2147483647)] -/
theorem zx2845_18 {z : gH} {L d : Nat} {K : Option gV → gH → Prop} {s : gH} (p1 : Int) (p3 : Int) (p4 : Int) (hs : xM z s) (h_p1 : (-2147483648) ≤ p1 ∧ p1 ≤ 2147483647) (h_p3 : (-2147483648) ≤ p3 ∧ p3 ≤ 2147483647) (h_p4 : (-2147483648) ≤ p4 ∧ p4 ≤ 2147483647) (q0 : gp_I s 1 2 = 0) (q1 : gp_I s 1 6 = 0) (q2 : gp_I s 1 7 = 1) (q3 : gp_I s 51 8 = 0) (q4 : gp_I s 57 1 = 0) (q5 : gp_I s 57 3 = 0) (q6 : gp_I s 72 0 = 0) (q7 : gp_I s 72 1 = 0) (q8 : gp_I s 72 2 = 0) (q9 : gp_I s 72 3 = 0) (q10 : gp_I s 73 0 = 0) (q11 : gp_I s 73 1 = 0) (q12 : gp_I s 73 2 = 0) (q13 : gp_I s 73 3 = 0) (q14 : ∀ k, k < 8 → gp_R s 4 k = some 25) (q15 : gp_R s 51 6 = some 55) (q16 : gp_R s 51 7 = some 56) (q17 : gp_us s = 606895) (q18 : gp_sz s = 117) (k : ∀ (t : gH), xM z t → (gp_I t 1 2 = 0) → (gp_I t 1 6 = 0) → (gp_I t 1 7 = 1) → ((-2147483648) ≤ gp_I t 2 2 ∧ gp_I t 2 2 ≤ 2147483647) → (gp_I t 51 8 = 0) → (gp_I t 57 1 = 0) → (gp_I t 57 3 = 0) → (gp_I t 72 0 = 0) → (gp_I t 72 1 = 0) → (gp_I t 72 2 = 0) → (gp_I t 72 3 = 0) → (gp_I t 73 0 = 0) → (gp_I t 73 1 = 0) → (gp_I t 73 2 = 0) → (gp_I t 73 3 = 0) → (∀ k, k < 8 → gp_R t 4 k = some 25) → (gp_R t 51 6 = some 55) → (gp_R t 51 7 = some 56) → (gp_us t = 606895) → (gp_sz t = 117) → K (some (gp_i (-1000000002))) t) : gs_C L (d + 1) 2845 6 [gp_r (some 1), gp_i 2, gp_i p1, gp_i 0, gp_i p3, gp_i p4] s K := by
  refine s_2845_e _ _ _ _ _ ?_
  refine zx1793_10 hs (by omega) (by omega) (by omega) (by omega) (by omega) (by omega) (by omega) (by omega) (⟨_, rfl, ?_⟩)
  refine ⟨fun h_1 => ?_, fun h_1 => ?_⟩
  · refine zx1793_8 hs (by omega) (by omega) (by omega) (by omega) (by omega) (by omega) (by omega) (by omega) (⟨_, rfl, ?_⟩)
    refine ⟨fun h_2 => ?_, fun h_2 => ?_⟩
    · refine zx1794_6 hs (by omega) (by omega) (by omega) (by omega) (by omega) (by omega) (by omega) (by omega) (⟨_, rfl, ?_⟩)
      refine ⟨fun h_3 => ?_, fun h_3 => ?_⟩
      · exfalso; omega
      · refine s_2845_50 _ _ _ _ _ ?_
        refine zx2855_14 hs (by omega) (by omega) (by omega) (by omega) (by omega) (by omega) (by omega) (by omega) (by omega) (by omega) (by omega) (by omega) (by omega) (by omega) q14 q15 q16 q17 q18 (fun s_4 hs_5 q_6 q_7 q_8 q_9 q_10 q_11 q_12 q_13 q_14 q_15 q_16 q_17 q_18 q_19 q_20 q_21 q_22 q_23 q_24 q_25 => ⟨_, rfl, ?_⟩)
        exact k s_4 hs_5 (by omega) (by omega) (by omega) (by omega) (by omega) (by omega) (by omega) (by omega) (by omega) (by omega) (by omega) (by omega) (by omega) (by omega) (by omega) q_21 q_22 q_23 q_24 q_25
    · exfalso; omega
  · exfalso; omega
set_option maxRecDepth 100000 in
/-- GatheredPoints.shift [(2, 2), (-2147483648, 2147483647), (1, 1), (-2147483648, 2147483647), (-2147483648, 2147483647)] -/
theorem zx2845_19 {z : gH} {L d : Nat} {K : Option gV → gH → Prop} {s : gH} (p1 : Int) (p3 : Int) (p4 : Int) (hs : xM z s) (h_p1 : (-2147483648) ≤ p1 ∧ p1 ≤ 2147483647) (h_p3 : (-2147483648) ≤ p3 ∧ p3 ≤ 2147483647) (h_p4 : (-2147483648) ≤ p4 ∧ p4 ≤ 2147483647) (q0 : gp_I s 1 2 = 0) (q1 : gp_I s 1 6 = 0) (q2 : gp_I s 1 7 = 1) (q3 : gp_I s 51 8 = 0) (q4 : gp_I s 57 1 = 0) (q5 : gp_I s 57 3 = 0) (q6 : gp_I s 72 0 = 0) (q7 : gp_I s 72 1 = 0) (q8 : gp_I s 72 2 = 0) (q9 : gp_I s 72 3 = 0) (q10 : gp_I s 73 0 = 0) (q11 : gp_I s 73 1 = 0) (q12 : gp_I s 73 2 = 0) (q13 : gp_I s 73 3 = 0) (q14 : ∀ k, k < 8 → gp_R s 4 k = some 25) (q15 : gp_R s 51 6 = some 55) (q16 : gp_R s 51 7 = some 56) (q17 : gp_us s = 606895) (q18 : gp_sz s = 117) (k : ∀ (t : gH), xM z t → (gp_I t 1 2 = 0) → (gp_I t 1 6 = 0) → (gp_I t 1 7 = 1) → ((-2147483648) ≤ gp_I t 2 2 ∧ gp_I t 2 2 ≤ 2147483647) → (gp_I t 51 8 = 0) → (gp_I t 57 1 = 0) → (gp_I t 57 3 = 0) → (gp_I t 72 0 = 0) → (gp_I t 72 1 = 0) → (gp_I t 72 2 = 0) → (gp_I t 72 3 = 0) → (gp_I t 73 0 = 0) → (gp_I t 73 1 = 0) → (gp_I t 73 2 = 0) → (gp_I t 73 3 = 0) → (∀ k, k < 8 → gp_R t 4 k = some 25) → (gp_R t 51 6 = some 55) → (gp_R t 51 7 = some 56) → (gp_us t = 606895) → (gp_sz t = 117) → K (some (gp_i (-1000000002))) t) : gs_C L (d + 1) 2845 6 [gp_r (some 1), gp_i 2, gp_i p1, gp_i 1, gp_i p3, gp_i p4] s K := by
  refine s_2845_e _ _ _ _ _ ?_
  refine zx1793_10 hs (by omega) (by omega) (by omega) (by omega) (by omega) (by omega) (by omega) (by omega) (⟨_, rfl, ?_⟩)
  refine ⟨fun h_1 => ?_, fun h_1 => ?_⟩
  · refine zx1793_9 hs (by omega) (by omega) (by omega) (by omega) (by omega) (by omega) (by omega) (by omega) (⟨_, rfl, ?_⟩)
    refine ⟨fun h_2 => ?_, fun h_2 => ?_⟩
    · refine zx1794_6 hs (by omega) (by omega) (by omega) (by omega) (by omega) (by omega) (by omega) (by omega) (⟨_, rfl, ?_⟩)
      refine ⟨fun h_3 => ?_, fun h_3 => ?_⟩
      · exfalso; omega
      · refine s_2845_50 _ _ _ _ _ ?_
        refine zx2855_14 hs (by omega) (by omega) (by omega) (by omega) (by omega) (by omega) (by omega) (by omega) (by omega) (by omega) (by omega) (by omega) (by omega) (by omega) q14 q15 q16 q17 q18 (fun s_4 hs_5 q_6 q_7 q_8 q_9 q_10 q_11 q_12 q_13 q_14 q_15 q_16 q_17 q_18 q_19 q_20 q_21 q_22 q_23 q_24 q_25 => ⟨_, rfl, ?_⟩)
        exact k s_4 hs_5 (by omega) (by omega) (by omega) (by omega) (by omega) (by omega) (by omega) (by omega) (by omega) (by omega) (by omega) (by omega) (by omega) (by omega) (by omega) q_21 q_22 q_23 q_24 q_25
    · exfalso; omega
  · exfalso; omega
set_option maxRecDepth 100000 in
/-- GatheredPoints.shift [(2, 2), (-2147483648, 2147483647), (2, 2), (-2147483648, 2147483647), (-2147483648, 2147483647)] -/
theorem zx2845_20 {z : gH} {L d : Nat} {K : Option gV → gH → Prop} {s : gH} (p1 : Int) (p3 : Int) (p4 : Int) (hs : xM z s) (h_p1 : (-2147483648) ≤ p1 ∧ p1 ≤ 2147483647) (h_p3 : (-2147483648) ≤ p3 ∧ p3 ≤ 2147483647) (h_p4 : (-2147483648) ≤ p4 ∧ p4 ≤ 2147483647) (q0 : gp_I s 1 2 = 0) (q1 : gp_I s 1 6 = 0) (q2 : gp_I s 1 7 = 1) (q3 : gp_I s 51 8 = 0) (q4 : gp_I s 57 1 = 0) (q5 : gp_I s 57 3 = 0) (q6 : gp_I s 72 0 = 0) (q7 : gp_I s 72 1 = 0) (q8 : gp_I s 72 2 = 0) (q9 : gp_I s 72 3 = 0) (q10 : gp_I s 73 0 = 0) (q11 : gp_I s 73 1 = 0) (q12 : gp_I s 73 2 = 0) (q13 : gp_I s 73 3 = 0) (q14 : ∀ k, k < 8 → gp_R s 4 k = some 25) (q15 : gp_R s 51 6 = some 55) (q16 : gp_R s 51 7 = some 56) (q17 : gp_us s = 606895) (q18 : gp_sz s = 117) (k : ∀ (t : gH), xM z t → (gp_I t 1 2 = 0) → (gp_I t 1 6 = 0) → (gp_I t 1 7 = 1) → ((-2147483648) ≤ gp_I t 2 2 ∧ gp_I t 2 2 ≤ 2147483647) → (gp_I t 51 8 = 0) → (gp_I t 57 1 = 0) → (gp_I t 57 3 = 0) → (gp_I t 72 0 = 0) → (gp_I t 72 1 = 0) → (gp_I t 72 2 = 0) → (gp_I t 72 3 = 0) → (gp_I t 73 0 = 0) → (gp_I t 73 1 = 0) → (gp_I t 73 2 = 0) → (gp_I t 73 3 = 0) → (∀ k, k < 8 → gp_R t 4 k = some 25) → (gp_R t 51 6 = some 55) → (gp_R t 51 7 = some 56) → (gp_us t = 606895) → (gp_sz t = 117) → K (some (gp_i (-1000000002))) t) : gs_C L (d + 1) 2845 6 [gp_r (some 1), gp_i 2, gp_i p1, gp_i 2, gp_i p3, gp_i p4] s K := by
  refine s_2845_e _ _ _ _ _ ?_
  refine zx1793_10 hs (by omega) (by omega) (by omega) (by omega) (by omega) (by omega) (by omega) (by omega) (⟨_, rfl, ?_⟩)
  refine ⟨fun h_1 => ?_, fun h_1 => ?_⟩
  · refine zx1793_10 hs (by omega) (by omega) (by omega) (by omega) (by omega) (by omega) (by omega) (by omega) (⟨_, rfl, ?_⟩)
    refine ⟨fun h_2 => ?_, fun h_2 => ?_⟩
    · refine zx1794_6 hs (by omega) (by omega) (by omega) (by omega) (by omega) (by omega) (by omega) (by omega) (⟨_, rfl, ?_⟩)
      refine ⟨fun h_3 => ?_, fun h_3 => ?_⟩
      · exfalso; omega
      · refine s_2845_50 _ _ _ _ _ ?_
        refine zx2855_14 hs (by omega) (by omega) (by omega) (by omega) (by omega) (by omega) (by omega) (by omega) (by omega) (by omega) (by omega) (by omega) (by omega) (by omega) q14 q15 q16 q17 q18 (fun s_4 hs_5 q_6 q_7 q_8 q_9 q_10 q_11 q_12 q_13 q_14 q_15 q_16 q_17 q_18 q_19 q_20 q_21 q_22 q_23 q_24 q_25 => ⟨_, rfl, ?_⟩)
        exact k s_4 hs_5 (by omega) (by omega) (by omega) (by omega) (by omega) (by omega) (by omega) (by omega) (by omega) (by omega) (by omega) (by omega) (by omega) (by omega) (by omega) q_21 q_22 q_23 q_24 q_25
    · exfalso; omega
  · exfalso; omega
set_option maxRecDepth 100000 in
/-- GatheredPoints.shift [(2, 2), (-2147483648, 2147483647), (3, 3), (-2147483648, 2147483647), (-2147483648, 2147483647)] -/
theorem zx2845_21 {z : gH} {L d : Nat} {K : Option gV → gH → Prop} {s : gH} (p1 : Int) (p3 : Int) (p4 : Int) (hs : xM z s) (h_p1 : (-2147483648) ≤ p1 ∧ p1 ≤ 2147483647) (h_p3 : (-2147483648) ≤ p3 ∧ p3 ≤ 2147483647) (h_p4 : (-2147483648) ≤ p4 ∧ p4 ≤ 2147483647) (q0 : gp_I s 1 2 = 0) (q1 : gp_I s 1 6 = 0) (q2 : gp_I s 1 7 = 1) (q3 : gp_I s 51 8 = 0) (q4 : gp_I s 57 1 = 0) (q5 : gp_I s 57 3 = 0) (q6 : gp_I s 72 0 = 0) (q7 : gp_I s 72 1 = 0) (q8 : gp_I s 72 2 = 0) (q9 : gp_I s 72 3 = 0) (q10 : gp_I s 73 0 = 0) (q11 : gp_I s 73 1 = 0) (q12 : gp_I s 73 2 = 0) (q13 : gp_I s 73 3 = 0) (q14 : ∀ k, k < 8 → gp_R s 4 k = some 25) (q15 : gp_R s 51 6 = some 55) (q16 : gp_R s 51 7 = some 56) (q17 : gp_us s = 606895) (q18 : gp_sz s = 117) (k : ∀ (t : gH), xM z t → (gp_I t 1 2 = 0) → (gp_I t 1 6 = 0) → (gp_I t 1 7 = 1) → ((-2147483648) ≤ gp_I t 2 2 ∧ gp_I t 2 2 ≤ 2147483647) → (gp_I t 51 8 = 0) → (gp_I t 57 1 = 0) → (gp_I t 57 3 = 0) → (gp_I t 72 0 = 0) → (gp_I t 72 1 = 0) → (gp_I t 72 2 = 0) → (gp_I t 72 3 = 0) → (gp_I t 73 0 = 0) → (gp_I t 73 1 = 0) → (gp_I t 73 2 = 0) → (gp_I t 73 3 = 0) → (∀ k, k < 8 → gp_R t 4 k = some 25) → (gp_R t 51 6 = some 55) → (gp_R t 51 7 = some 56) → (gp_us t = 606895) → (gp_sz t = 117) → K (some (gp_i (-1000000002))) t) : gs_C L (d + 1) 2845 6 [gp_r (some 1), gp_i 2, gp_i p1, gp_i 3, gp_i p3, gp_i p4] s K := by
  refine s_2845_e _ _ _ _ _ ?_
  refine zx1793_10 hs (by omega) (by omega) (by omega) (by omega) (by omega) (by omega) (by omega) (by omega) (⟨_, rfl, ?_⟩)
  refine ⟨fun h_1 => ?_, fun h_1 => ?_⟩
  · refine zx1793_11 hs (by omega) (by omega) (by omega) (by omega) (by omega) (by omega) (by omega) (by omega) (⟨_, rfl, ?_⟩)
    refine ⟨fun h_2 => ?_, fun h_2 => ?_⟩
    · refine zx1794_6 hs (by omega) (by omega) (by omega) (by omega) (by omega) (by omega) (by omega) (by omega) (⟨_, rfl, ?_⟩)
      refine ⟨fun h_3 => ?_, fun h_3 => ?_⟩
      · exfalso; omega
      · refine s_2845_50 _ _ _ _ _ ?_
        refine zx2855_14 hs (by omega) (by omega) (by omega) (by omega) (by omega) (by omega) (by omega) (by omega) (by omega) (by omega) (by omega) (by omega) (by omega) (by omega) q14 q15 q16 q17 q18 (fun s_4 hs_5 q_6 q_7 q_8 q_9 q_10 q_11 q_12 q_13 q_14 q_15 q_16 q_17 q_18 q_19 q_20 q_21 q_22 q_23 q_24 q_25 => ⟨_, rfl, ?_⟩)
        exact k s_4 hs_5 (by omega) (by omega) (by omega) (by omega) (by omega) (by omega) (by omega) (by omega) (by omega) (by omega) (by omega) (by omega) (by omega) (by omega) (by omega) q_21 q_22 q_23 q_24 q_25
    · exfalso; omega
  · exfalso; omega
set_option maxRecDepth 100000 in
/-- GatheredPoints.shift [(3, 3), (-2147483648, 2147483647), (0, 0), (-2147483648, 2147483647), (-2147483648, 2147483647)] -/
theorem zx2845_22 {z : gH} {L d : Nat} {K : Option gV → gH → Prop} {s : gH} (p1 : Int) (p3 : Int) (p4 : Int) (hs : xM z s) (h_p1 : (-2147483648) ≤ p1 ∧ p1 ≤ 2147483647) (h_p3 : (-2147483648) ≤ p3 ∧ p3 ≤ 2147483647) (h_p4 : (-2147483648) ≤ p4 ∧ p4 ≤ 2147483647) (q0 : gp_I s 1 2 = 0) (q1 : gp_I s 1 6 = 0) (q2 : gp_I s 1 7 = 1) (q3 : gp_I s 51 8 = 0) (q4 : gp_I s 57 1 = 0) (q5 : gp_I s 57 3 = 0) (q6 : gp_I s 72 0 = 0) (q7 : gp_I s 72 1 = 0) (q8 : gp_I s 72 2 = 0) (q9 : gp_I s 72 3 = 0) (q10 : gp_I s 73 0 = 0) (q11 : gp_I s 73 1 = 0) (q12 : gp_I s 73 2 = 0) (q13 : gp_I s 73 3 = 0) (q14 : ∀ k, k < 8 → gp_R s 4 k = some 25) (q15 : gp_R s 51 6 = some 55) (q16 : gp_R s 51 7 = some 56) (q17 : gp_us s = 606895) (q18 : gp_sz s = 117) (k : ∀ (t : gH), xM z t → (gp_I t 1 2 = 0) → (gp_I t 1 6 = 0) → (gp_I t 1 7 = 1) → ((-2147483648) ≤ gp_I t 2 2 ∧ gp_I t 2 2 ≤ 2147483647) → (gp_I t 51 8 = 0) → (gp_I t 57 1 = 0) → (gp_I t 57 3 = 0) → (gp_I t 72 0 = 0) → (gp_I t 72 1 = 0) → (gp_I t 72 2 = 0) → (gp_I t 72 3 = 0) → (gp_I t 73 0 = 0) → (gp_I t 73 1 = 0) → (gp_I t 73 2 = 0) → (gp_I t 73 3 = 0) → (∀ k, k < 8 → gp_R t 4 k = some 25) → (gp_R t 51 6 = some 55) → (gp_R t 51 7 = some 56) → (gp_us t = 606895) → (gp_sz t = 117) → K (some (gp_i (-1000000002))) t) : gs_C L (d + 1) 2845 6 [gp_r (some 1), gp_i 3, gp_i p1, gp_i 0, gp_i p3, gp_i p4] s K := by
  refine s_2845_e _ _ _ _ _ ?_
  refine zx1793_11 hs (by omega) (by omega) (by omega) (by omega) (by omega) (by omega) (by omega) (by omega) (⟨_, rfl, ?_⟩)
  refine ⟨fun h_1 => ?_, fun h_1 => ?_⟩
  · refine zx1793_8 hs (by omega) (by omega) (by omega) (by omega) (by omega) (by omega) (by omega) (by omega) (⟨_, rfl, ?_⟩)
    refine ⟨fun h_2 => ?_, fun h_2 => ?_⟩
    · refine zx1794_7 hs (by omega) (by omega) (by omega) (by omega) (by omega) (by omega) (by omega) (by omega) (⟨_, rfl, ?_⟩)
      refine ⟨fun h_3 => ?_, fun h_3 => ?_⟩
      · exfalso; omega
      · refine s_2845_50 _ _ _ _ _ ?_
        refine zx2855_14 hs (by omega) (by omega) (by omega) (by omega) (by omega) (by omega) (by omega) (by omega) (by omega) (by omega) (by omega) (by omega) (by omega) (by omega) q14 q15 q16 q17 q18 (fun s_4 hs_5 q_6 q_7 q_8 q_9 q_10 q_11 q_12 q_13 q_14 q_15 q_16 q_17 q_18 q_19 q_20 q_21 q_22 q_23 q_24 q_25 => ⟨_, rfl, ?_⟩)
        exact k s_4 hs_5 (by omega) (by omega) (by omega) (by omega) (by omega) (by omega) (by omega) (by omega) (by omega) (by omega) (by omega) (by omega) (by omega) (by omega) (by omega) q_21 q_22 q_23 q_24 q_25
    · exfalso; omega
  · exfalso; omega
set_option maxRecDepth 100000 in
/-- GatheredPoints.shift [(3, 3), (-2147483648, 2147483647), (1, 1), (-2147483648, 2147483647), (-2147483648, 2147483647)] -/
theorem zx2845_23 {z : gH} {L d : Nat} {K : Option gV → gH → Prop} {s : gH} (p1 : Int) (p3 : Int) (p4 : Int) (hs : xM z s) (h_p1 : (-2147483648) ≤ p1 ∧ p1 ≤ 2147483647) (h_p3 : (-2147483648) ≤ p3 ∧ p3 ≤ 2147483647) (h_p4 : (-2147483648) ≤ p4 ∧ p4 ≤ 2147483647) (q0 : gp_I s 1 2 = 0) (q1 : gp_I s 1 6 = 0) (q2 : gp_I s 1 7 = 1) (q3 : gp_I s 51 8 = 0) (q4 : gp_I s 57 1 = 0) (q5 : gp_I s 57 3 = 0) (q6 : gp_I s 72 0 = 0) (q7 : gp_I s 72 1 = 0) (q8 : gp_I s 72 2 = 0) (q9 : gp_I s 72 3 = 0) (q10 : gp_I s 73 0 = 0) (q11 : gp_I s 73 1 = 0) (q12 : gp_I s 73 2 = 0) (q13 : gp_I s 73 3 = 0) (q14 : ∀ k, k < 8 → gp_R s 4 k = some 25) (q15 : gp_R s 51 6 = some 55) (q16 : gp_R s 51 7 = some 56) (q17 : gp_us s = 606895) (q18 : gp_sz s = 117) (k : ∀ (t : gH), xM z t → (gp_I t 1 2 = 0) → (gp_I t 1 6 = 0) → (gp_I t 1 7 = 1) → ((-2147483648) ≤ gp_I t 2 2 ∧ gp_I t 2 2 ≤ 2147483647) → (gp_I t 51 8 = 0) → (gp_I t 57 1 = 0) → (gp_I t 57 3 = 0) → (gp_I t 72 0 = 0) → (gp_I t 72 1 = 0) → (gp_I t 72 2 = 0) → (gp_I t 72 3 = 0) → (gp_I t 73 0 = 0) → (gp_I t 73 1 = 0) → (gp_I t 73 2 = 0) → (gp_I t 73 3 = 0) → (∀ k, k < 8 → gp_R t 4 k = some 25) → (gp_R t 51 6 = some 55) → (gp_R t 51 7 = some 56) → (gp_us t = 606895) → (gp_sz t = 117) → K (some (gp_i (-1000000002))) t) : gs_C L (d + 1) 2845 6 [gp_r (some 1), gp_i 3, gp_i p1, gp_i 1, gp_i p3, gp_i p4] s K := by
  refine s_2845_e _ _ _ _ _ ?_
  refine zx1793_11 hs (by omega) (by omega) (by omega) (by omega) (by omega) (by omega) (by omega) (by omega) (⟨_, rfl, ?_⟩)
  refine ⟨fun h_1 => ?_, fun h_1 => ?_⟩
  · refine zx1793_9 hs (by omega) (by omega) (by omega) (by omega) (by omega) (by omega) (by omega) (by omega) (⟨_, rfl, ?_⟩)
    refine ⟨fun h_2 => ?_, fun h_2 => ?_⟩
    · refine zx1794_7 hs (by omega) (by omega) (by omega) (by omega) (by omega) (by omega) (by omega) (by omega) (⟨_, rfl, ?_⟩)
      refine ⟨fun h_3 => ?_, fun h_3 => ?_⟩
      · exfalso; omega
      · refine s_2845_50 _ _ _ _ _ ?_
        refine zx2855_14 hs (by omega) (by omega) (by omega) (by omega) (by omega) (by omega) (by omega) (by omega) (by omega) (by omega) (by omega) (by omega) (by omega) (by omega) q14 q15 q16 q17 q18 (fun s_4 hs_5 q_6 q_7 q_8 q_9 q_10 q_11 q_12 q_13 q_14 q_15 q_16 q_17 q_18 q_19 q_20 q_21 q_22 q_23 q_24 q_25 => ⟨_, rfl, ?_⟩)
        exact k s_4 hs_5 (by omega) (by omega) (by omega) (by omega) (by omega) (by omega) (by omega) (by omega) (by omega) (by omega) (by omega) (by omega) (by omega) (by omega) (by omega) q_21 q_22 q_23 q_24 q_25
    · exfalso; omega
  · exfalso; omega
set_option maxRecDepth 100000 in
/-- GatheredPoints.shift [(3, 3), (-2147483648, 2147483647), (2, 2), (-2147483648, 2147483647), (-2147483648, 2147483647)] -/
theorem zx2845_24 {z : gH} {L d : Nat} {K : Option gV → gH → Prop} {s : gH} (p1 : Int) (p3 : Int) (p4 : Int) (hs : xM z s) (h_p1 : (-2147483648) ≤ p1 ∧ p1 ≤ 2147483647) (h_p3 : (-2147483648) ≤ p3 ∧ p3 ≤ 2147483647) (h_p4 : (-2147483648) ≤ p4 ∧ p4 ≤ 2147483647) (q0 : gp_I s 1 2 = 0) (q1 : gp_I s 1 6 = 0) (q2 : gp_I s 1 7 = 1) (q3 : gp_I s 51 8 = 0) (q4 : gp_I s 57 1 = 0) (q5 : gp_I s 57 3 = 0) (q6 : gp_I s 72 0 = 0) (q7 : gp_I s 72 1 = 0) (q8 : gp_I s 72 2 = 0) (q9 : gp_I s 72 3 = 0) (q10 : gp_I s 73 0 = 0) (q11 : gp_I s 73 1 = 0) (q12 : gp_I s 73 2 = 0) (q13 : gp_I s 73 3 = 0) (q14 : ∀ k, k < 8 → gp_R s 4 k = some 25) (q15 : gp_R s 51 6 = some 55) (q16 : gp_R s 51 7 = some 56) (q17 : gp_us s = 606895) (q18 : gp_sz s = 117) (k : ∀ (t : gH), xM z t → (gp_I t 1 2 = 0) → (gp_I t 1 6 = 0) → (gp_I t 1 7 = 1) → ((-2147483648) ≤ gp_I t 2 2 ∧ gp_I t 2 2 ≤ 2147483647) → (gp_I t 51 8 = 0) → (gp_I t 57 1 = 0) → (gp_I t 57 3 = 0) → (gp_I t 72 0 = 0) → (gp_I t 72 1 = 0) → (gp_I t 72 2 = 0) → (gp_I t 72 3 = 0) → (gp_I t 73 0 = 0) → (gp_I t 73 1 = 0) → (gp_I t 73 2 = 0) → (gp_I t 73 3 = 0) → (∀ k, k < 8 → gp_R t 4 k = some 25) → (gp_R t 51 6 = some 55) → (gp_R t 51 7 = some 56) → (gp_us t = 606895) → (gp_sz t = 117) → K (some (gp_i (-1000000002))) t) : gs_C L (d + 1) 2845 6 [gp_r (some 1), gp_i 3, gp_i p1, gp_i 2, gp_i p3, gp_i p4] s K := by
  refine s_2845_e _ _ _ _ _ ?_
  refine zx1793_11 hs (by omega) (by omega) (by omega) (by omega) (by omega) (by omega) (by omega) (by omega) (⟨_, rfl, ?_⟩)
  refine ⟨fun h_1 => ?_, fun h_1 => ?_⟩
  · refine zx1793_10 hs (by omega) (by omega) (by omega) (by omega) (by omega) (by omega) (by omega) (by omega) (⟨_, rfl, ?_⟩)
    refine ⟨fun h_2 => ?_, fun h_2 => ?_⟩
    · refine zx1794_7 hs (by omega) (by omega) (by omega) (by omega) (by omega) (by omega) (by omega) (by omega) (⟨_, rfl, ?_⟩)
      refine ⟨fun h_3 => ?_, fun h_3 => ?_⟩
      · exfalso; omega
      · refine s_2845_50 _ _ _ _ _ ?_
        refine zx2855_14 hs (by omega) (by omega) (by omega) (by omega) (by omega) (by omega) (by omega) (by omega) (by omega) (by omega) (by omega) (by omega) (by omega) (by omega) q14 q15 q16 q17 q18 (fun s_4 hs_5 q_6 q_7 q_8 q_9 q_10 q_11 q_12 q_13 q_14 q_15 q_16 q_17 q_18 q_19 q_20 q_21 q_22 q_23 q_24 q_25 => ⟨_, rfl, ?_⟩)
        exact k s_4 hs_5 (by omega) (by omega) (by omega) (by omega) (by omega) (by omega) (by omega) (by omega) (by omega) (by omega) (by omega) (by omega) (by omega) (by omega) (by omega) q_21 q_22 q_23 q_24 q_25
    · exfalso; omega
  · exfalso; omega
set_option maxRecDepth 100000 in
/-- GatheredPoints.shift [(3, 3), (-2147483648, 2147483647), (3, 3), (-2147483648, 2147483647), (-2147483648, 2147483647)] -/
theorem zx2845_25 {z : gH} {L d : Nat} {K : Option gV → gH → Prop} {s : gH} (p1 : Int) (p3 : Int) (p4 : Int) (hs : xM z s) (h_p1 : (-2147483648) ≤ p1 ∧ p1 ≤ 2147483647) (h_p3 : (-2147483648) ≤ p3 ∧ p3 ≤ 2147483647) (h_p4 : (-2147483648) ≤ p4 ∧ p4 ≤ 2147483647) (q0 : gp_I s 1 2 = 0) (q1 : gp_I s 1 6 = 0) (q2 : gp_I s 1 7 = 1) (q3 : gp_I s 51 8 = 0) (q4 : gp_I s 57 1 = 0) (q5 : gp_I s 57 3 = 0) (q6 : gp_I s 72 0 = 0) (q7 : gp_I s 72 1 = 0) (q8 : gp_I s 72 2 = 0) (q9 : gp_I s 72 3 = 0) (q10 : gp_I s 73 0 = 0) (q11 : gp_I s 73 1 = 0) (q12 : gp_I s 73 2 = 0) (q13 : gp_I s 73 3 = 0) (q14 : ∀ k, k < 8 → gp_R s 4 k = some 25) (q15 : gp_R s 51 6 = some 55) (q16 : gp_R s 51 7 = some 56) (q17 : gp_us s = 606895) (q18 : gp_sz s = 117) (k : ∀ (t : gH), xM z t → (gp_I t 1 2 = 0) → (gp_I t 1 6 = 0) → (gp_I t 1 7 = 1) → ((-2147483648) ≤ gp_I t 2 2 ∧ gp_I t 2 2 ≤ 2147483647) → (gp_I t 51 8 = 0) → (gp_I t 57 1 = 0) → (gp_I t 57 3 = 0) → (gp_I t 72 0 = 0) → (gp_I t 72 1 = 0) → (gp_I t 72 2 = 0) → (gp_I t 72 3 = 0) → (gp_I t 73 0 = 0) → (gp_I t 73 1 = 0) → (gp_I t 73 2 = 0) → (gp_I t 73 3 = 0) → (∀ k, k < 8 → gp_R t 4 k = some 25) → (gp_R t 51 6 = some 55) → (gp_R t 51 7 = some 56) → (gp_us t = 606895) → (gp_sz t = 117) → K (some (gp_i (-1000000002))) t) : gs_C L (d + 1) 2845 6 [gp_r (some 1), gp_i 3, gp_i p1, gp_i 3, gp_i p3, gp_i p4] s K := by
  refine s_2845_e _ _ _ _ _ ?_
  refine zx1793_11 hs (by omega) (by omega) (by omega) (by omega) (by omega) (by omega) (by omega) (by omega) (⟨_, rfl, ?_⟩)
  refine ⟨fun h_1 => ?_, fun h_1 => ?_⟩
  · refine zx1793_11 hs (by omega) (by omega) (by omega) (by omega) (by omega) (by omega) (by omega) (by omega) (⟨_, rfl, ?_⟩)
    refine ⟨fun h_2 => ?_, fun h_2 => ?_⟩
    · refine zx1794_7 hs (by omega) (by omega) (by omega) (by omega) (by omega) (by omega) (by omega) (by omega) (⟨_, rfl, ?_⟩)
      refine ⟨fun h_3 => ?_, fun h_3 => ?_⟩
      · exfalso; omega
      · refine s_2845_50 _ _ _ _ _ ?_
        refine zx2855_14 hs (by omega) (by omega) (by omega) (by omega) (by omega) (by omega) (by omega) (by omega) (by omega) (by omega) (by omega) (by omega) (by omega) (by omega) q14 q15 q16 q17 q18 (fun s_4 hs_5 q_6 q_7 q_8 q_9 q_10 q_11 q_12 q_13 q_14 q_15 q_16 q_17 q_18 q_19 q_20 q_21 q_22 q_23 q_24 q_25 => ⟨_, rfl, ?_⟩)
        exact k s_4 hs_5 (by omega) (by omega) (by omega) (by omega) (by omega) (by omega) (by omega) (by omega) (by omega) (by omega) (by omega) (by omega) (by omega) (by omega) (by omega) q_21 q_22 q_23 q_24 q_25
    · exfalso; omega
  · exfalso; omega
set_option maxRecDepth 100000 in
/-- GatheredPoints.refused [(1, 1)] -/
theorem zx2855_15 {z : gH} {L d : Nat} {K : Option gV → gH → Prop} {s : gH}  (hs : xM z s)  (q0 : gp_I s 1 2 = 0) (q1 : gp_I s 1 6 = 0) (q2 : gp_I s 1 7 = 1) (q3 : gp_I s 51 8 = 0) (q4 : gp_I s 57 1 = 0) (q5 : gp_I s 57 3 = 0) (q6 : gp_I s 72 0 = 0) (q7 : gp_I s 72 1 = 0) (q8 : gp_I s 72 2 = 0) (q9 : gp_I s 72 3 = 0) (q10 : gp_I s 73 0 = 0) (q11 : gp_I s 73 1 = 0) (q12 : gp_I s 73 2 = 0) (q13 : gp_I s 73 3 = 0) (q14 : gp_R s 25 6 = none) (q15 : gp_R s 25 7 = none) (q16 : gp_R s 25 8 = none) (q17 : gp_R s 25 9 = none) (q18 : ∀ k, k < 8 → gp_R s 4 k = some 25) (q19 : gp_R s 51 6 = some 55) (q20 : gp_R s 51 7 = some 56) (q21 : gp_us s = 606895) (q22 : gp_sz s = 117) (k : ∀ (t : gH), xM z t → (gp_I t 1 2 = 0) → (gp_I t 1 6 = 0) → (gp_I t 1 7 = 1) → ((-2147483648) ≤ gp_I t 2 1 ∧ gp_I t 2 1 ≤ 2147483647) → (gp_I t 51 8 = 0) → (gp_I t 57 1 = 0) → (gp_I t 57 3 = 0) → (gp_I t 72 0 = 0) → (gp_I t 72 1 = 0) → (gp_I t 72 2 = 0) → (gp_I t 72 3 = 0) → (gp_I t 73 0 = 0) → (gp_I t 73 1 = 0) → (gp_I t 73 2 = 0) → (gp_I t 73 3 = 0) → (gp_R t 25 6 = none) → (gp_R t 25 7 = none) → (gp_R t 25 8 = none) → (gp_R t 25 9 = none) → (∀ k, k < 8 → gp_R t 4 k = some 25) → (gp_R t 51 6 = some 55) → (gp_R t 51 7 = some 56) → (gp_us t = 606895) → (gp_sz t = 117) → K (some (gp_i (-1000000001))) t) : gs_C L d 2855 2 [gp_r (some 1), gp_i 1] s K := by
  refine s_2855_e _ ?_
  refine ⟨by omega, ?_⟩
  have w_1 := gz_w ((gp_I s 2 (1 : Int).toNat) + 1)
  refine ⟨by omega, ?_⟩
  intro s_2 e_3
  have hs_4 : xM z s_2 := by rw [e_3]; exact xw2 hs _ _
  have q_5 : gp_I s_2 1 2 = 0 := by rw [e_3]; exact q0
  have q_6 : gp_I s_2 1 6 = 0 := by rw [e_3]; exact q1
  have q_7 : gp_I s_2 1 7 = 1 := by rw [e_3]; exact q2
  have q_8 : gp_I s_2 51 8 = 0 := by rw [e_3]; exact q3
  have q_9 : gp_I s_2 57 1 = 0 := by rw [e_3]; exact q4
  have q_10 : gp_I s_2 57 3 = 0 := by rw [e_3]; exact q5
  have q_11 : gp_I s_2 72 0 = 0 := by rw [e_3]; exact q6
  have q_12 : gp_I s_2 72 1 = 0 := by rw [e_3]; exact q7
  have q_13 : gp_I s_2 72 2 = 0 := by rw [e_3]; exact q8
  have q_14 : gp_I s_2 72 3 = 0 := by rw [e_3]; exact q9
  have q_15 : gp_I s_2 73 0 = 0 := by rw [e_3]; exact q10
  have q_16 : gp_I s_2 73 1 = 0 := by rw [e_3]; exact q11
  have q_17 : gp_I s_2 73 2 = 0 := by rw [e_3]; exact q12
  have q_18 : gp_I s_2 73 3 = 0 := by rw [e_3]; exact q13
  have q_19 : gp_R s_2 25 6 = none := by rw [e_3]; exact q14
  have q_20 : gp_R s_2 25 7 = none := by rw [e_3]; exact q15
  have q_21 : gp_R s_2 25 8 = none := by rw [e_3]; exact q16
  have q_22 : gp_R s_2 25 9 = none := by rw [e_3]; exact q17
  have q_23 : ∀ k, k < 8 → gp_R s_2 4 k = some 25 := by rw [e_3]; exact q18
  have q_24 : gp_R s_2 51 6 = some 55 := by rw [e_3]; exact q19
  have q_25 : gp_R s_2 51 7 = some 56 := by rw [e_3]; exact q20
  have q_26 : gp_us s_2 = 606895 := by rw [e_3]; exact q21
  have q_27 : gp_sz s_2 = 117 := by rw [e_3]; exact q22
  have q_28 : (-2147483648) ≤ gp_I s_2 2 1 ∧ gp_I s_2 2 1 ≤ 2147483647 := by have x_29 : gp_I s_2 2 1 = gp_wr ((gp_I s 2 (1 : Int).toNat) + 1) := (by rw [e_3]; rfl); omega
  have w_30 := gz_w ((-1000000000) - 1)
  have e_31 : gp_wr ((-1000000000) - 1) = (-1000000001) := by omega
  try rw [e_31]
  exact k s_2 hs_4 (by omega) (by omega) (by omega) (by omega) (by omega) (by omega) (by omega) (by omega) (by omega) (by omega) (by omega) (by omega) (by omega) (by omega) (by omega) q_19 q_20 q_21 q_22 q_23 q_24 q_25 q_26 q_27
set_option maxRecDepth 100000 in
/-- GatheredPoints.judge [(-2147483648, -1), (-2147483648, 2147483647)] -/
theorem zx2846_0 {z : gH} {L d : Nat} {K : Option gV → gH → Prop} {s : gH} (p0 : Int) (p1 : Int) (hs : xM z s) (h_p0 : (-2147483648) ≤ p0 ∧ p0 ≤ (-1)) (h_p1 : (-2147483648) ≤ p1 ∧ p1 ≤ 2147483647) (q0 : gp_I s 1 2 = 0) (q1 : gp_I s 1 6 = 0) (q2 : gp_I s 1 7 = 1) (q3 : gp_I s 51 8 = 0) (q4 : gp_I s 57 1 = 0) (q5 : gp_I s 57 3 = 0) (q6 : gp_I s 72 0 = 0) (q7 : gp_I s 72 1 = 0) (q8 : gp_I s 72 2 = 0) (q9 : gp_I s 72 3 = 0) (q10 : gp_I s 73 0 = 0) (q11 : gp_I s 73 1 = 0) (q12 : gp_I s 73 2 = 0) (q13 : gp_I s 73 3 = 0) (q14 : gp_R s 25 6 = none) (q15 : gp_R s 25 7 = none) (q16 : gp_R s 25 8 = none) (q17 : gp_R s 25 9 = none) (q18 : ∀ k, k < 8 → gp_R s 4 k = some 25) (q19 : gp_R s 51 6 = some 55) (q20 : gp_R s 51 7 = some 56) (q21 : gp_us s = 606895) (q22 : gp_sz s = 117) (k : ∀ (t : gH), xM z t → (gp_I t 1 2 = 0) → (gp_I t 1 6 = 0) → (gp_I t 1 7 = 1) → ((-2147483648) ≤ gp_I t 2 1 ∧ gp_I t 2 1 ≤ 2147483647) → (gp_I t 51 8 = 0) → (gp_I t 57 1 = 0) → (gp_I t 57 3 = 0) → (gp_I t 72 0 = 0) → (gp_I t 72 1 = 0) → (gp_I t 72 2 = 0) → (gp_I t 72 3 = 0) → (gp_I t 73 0 = 0) → (gp_I t 73 1 = 0) → (gp_I t 73 2 = 0) → (gp_I t 73 3 = 0) → (gp_R t 25 6 = none) → (gp_R t 25 7 = none) → (gp_R t 25 8 = none) → (gp_R t 25 9 = none) → (∀ k, k < 8 → gp_R t 4 k = some 25) → (gp_R t 51 6 = some 55) → (gp_R t 51 7 = some 56) → (gp_us t = 606895) → (gp_sz t = 117) → K (some (gp_i (-1000000001))) t) : gs_C L (d + 1) 2846 4 [gp_r (some 1), gp_i p0, gp_i p1] s K := by
  refine s_2846_e _ _ ?_
  refine zx1793_0 _ hs (by omega) (by omega) (by omega) (by omega) (by omega) (by omega) (by omega) (by omega) (by omega) q14 q15 q16 q17 (⟨_, rfl, ?_⟩)
  refine ⟨fun h_1 => ?_, fun h_1 => ?_⟩
  · exfalso; omega
  · refine s_2846_18 _ _ _ ?_
    refine zx2855_15 hs (by omega) (by omega) (by omega) (by omega) (by omega) (by omega) (by omega) (by omega) (by omega) (by omega) (by omega) (by omega) (by omega) (by omega) q14 q15 q16 q17 q18 q19 q20 q21 q22 (fun s_2 hs_3 q_4 q_5 q_6 q_7 q_8 q_9 q_10 q_11 q_12 q_13 q_14 q_15 q_16 q_17 q_18 q_19 q_20 q_21 q_22 q_23 q_24 q_25 q_26 q_27 => ⟨_, rfl, ?_⟩)
    exact k s_2 hs_3 (by omega) (by omega) (by omega) (by omega) (by omega) (by omega) (by omega) (by omega) (by omega) (by omega) (by omega) (by omega) (by omega) (by omega) (by omega) q_19 q_20 q_21 q_22 q_23 q_24 q_25 q_26 q_27
set_option maxRecDepth 100000 in
/-- GatheredPoints.judge [(4, 2147483647), (-2147483648, 2147483647)] -/
theorem zx2846_1 {z : gH} {L d : Nat} {K : Option gV → gH → Prop} {s : gH} (p0 : Int) (p1 : Int) (hs : xM z s) (h_p0 : 4 ≤ p0 ∧ p0 ≤ 2147483647) (h_p1 : (-2147483648) ≤ p1 ∧ p1 ≤ 2147483647) (q0 : gp_I s 1 2 = 0) (q1 : gp_I s 1 6 = 0) (q2 : gp_I s 1 7 = 1) (q3 : gp_I s 51 8 = 0) (q4 : gp_I s 57 1 = 0) (q5 : gp_I s 57 3 = 0) (q6 : gp_I s 72 0 = 0) (q7 : gp_I s 72 1 = 0) (q8 : gp_I s 72 2 = 0) (q9 : gp_I s 72 3 = 0) (q10 : gp_I s 73 0 = 0) (q11 : gp_I s 73 1 = 0) (q12 : gp_I s 73 2 = 0) (q13 : gp_I s 73 3 = 0) (q14 : gp_R s 25 6 = none) (q15 : gp_R s 25 7 = none) (q16 : gp_R s 25 8 = none) (q17 : gp_R s 25 9 = none) (q18 : ∀ k, k < 8 → gp_R s 4 k = some 25) (q19 : gp_R s 51 6 = some 55) (q20 : gp_R s 51 7 = some 56) (q21 : gp_us s = 606895) (q22 : gp_sz s = 117) (k : ∀ (t : gH), xM z t → (gp_I t 1 2 = 0) → (gp_I t 1 6 = 0) → (gp_I t 1 7 = 1) → ((-2147483648) ≤ gp_I t 2 1 ∧ gp_I t 2 1 ≤ 2147483647) → (gp_I t 51 8 = 0) → (gp_I t 57 1 = 0) → (gp_I t 57 3 = 0) → (gp_I t 72 0 = 0) → (gp_I t 72 1 = 0) → (gp_I t 72 2 = 0) → (gp_I t 72 3 = 0) → (gp_I t 73 0 = 0) → (gp_I t 73 1 = 0) → (gp_I t 73 2 = 0) → (gp_I t 73 3 = 0) → (gp_R t 25 6 = none) → (gp_R t 25 7 = none) → (gp_R t 25 8 = none) → (gp_R t 25 9 = none) → (∀ k, k < 8 → gp_R t 4 k = some 25) → (gp_R t 51 6 = some 55) → (gp_R t 51 7 = some 56) → (gp_us t = 606895) → (gp_sz t = 117) → K (some (gp_i (-1000000001))) t) : gs_C L (d + 1) 2846 4 [gp_r (some 1), gp_i p0, gp_i p1] s K := by
  refine s_2846_e _ _ ?_
  refine zx1793_1 _ hs (by omega) (by omega) (by omega) (by omega) (by omega) (by omega) (by omega) (by omega) (by omega) q14 q15 q16 q17 (⟨_, rfl, ?_⟩)
  refine ⟨fun h_1 => ?_, fun h_1 => ?_⟩
  · exfalso; omega
  · refine s_2846_18 _ _ _ ?_
    refine zx2855_15 hs (by omega) (by omega) (by omega) (by omega) (by omega) (by omega) (by omega) (by omega) (by omega) (by omega) (by omega) (by omega) (by omega) (by omega) q14 q15 q16 q17 q18 q19 q20 q21 q22 (fun s_2 hs_3 q_4 q_5 q_6 q_7 q_8 q_9 q_10 q_11 q_12 q_13 q_14 q_15 q_16 q_17 q_18 q_19 q_20 q_21 q_22 q_23 q_24 q_25 q_26 q_27 => ⟨_, rfl, ?_⟩)
    exact k s_2 hs_3 (by omega) (by omega) (by omega) (by omega) (by omega) (by omega) (by omega) (by omega) (by omega) (by omega) (by omega) (by omega) (by omega) (by omega) (by omega) q_19 q_20 q_21 q_22 q_23 q_24 q_25 q_26 q_27
set_option maxRecDepth 100000 in
/-- GatheredPoints.judge [(0, 0), (-2147483648, -1)] -/
theorem zx2846_2 {z : gH} {L d : Nat} {K : Option gV → gH → Prop} {s : gH} (p1 : Int) (hs : xM z s) (h_p1 : (-2147483648) ≤ p1 ∧ p1 ≤ (-1)) (q0 : gp_I s 1 2 = 0) (q1 : gp_I s 1 6 = 0) (q2 : gp_I s 1 7 = 1) (q3 : gp_I s 51 8 = 0) (q4 : gp_I s 57 1 = 0) (q5 : gp_I s 57 3 = 0) (q6 : gp_I s 72 0 = 0) (q7 : gp_I s 72 1 = 0) (q8 : gp_I s 72 2 = 0) (q9 : gp_I s 72 3 = 0) (q10 : gp_I s 73 0 = 0) (q11 : gp_I s 73 1 = 0) (q12 : gp_I s 73 2 = 0) (q13 : gp_I s 73 3 = 0) (q14 : gp_R s 25 6 = none) (q15 : gp_R s 25 7 = none) (q16 : gp_R s 25 8 = none) (q17 : gp_R s 25 9 = none) (q18 : ∀ k, k < 8 → gp_R s 4 k = some 25) (q19 : gp_R s 51 6 = some 55) (q20 : gp_R s 51 7 = some 56) (q21 : gp_us s = 606895) (q22 : gp_sz s = 117) (k : ∀ (t : gH), xM z t → (gp_I t 1 2 = 0) → (gp_I t 1 6 = 0) → (gp_I t 1 7 = 1) → ((-2147483648) ≤ gp_I t 2 1 ∧ gp_I t 2 1 ≤ 2147483647) → (gp_I t 51 8 = 0) → (gp_I t 57 1 = 0) → (gp_I t 57 3 = 0) → (gp_I t 72 0 = 0) → (gp_I t 72 1 = 0) → (gp_I t 72 2 = 0) → (gp_I t 72 3 = 0) → (gp_I t 73 0 = 0) → (gp_I t 73 1 = 0) → (gp_I t 73 2 = 0) → (gp_I t 73 3 = 0) → (gp_R t 25 6 = none) → (gp_R t 25 7 = none) → (gp_R t 25 8 = none) → (gp_R t 25 9 = none) → (∀ k, k < 8 → gp_R t 4 k = some 25) → (gp_R t 51 6 = some 55) → (gp_R t 51 7 = some 56) → (gp_us t = 606895) → (gp_sz t = 117) → K (some (gp_i (-1000000001))) t) : gs_C L (d + 1) 2846 4 [gp_r (some 1), gp_i 0, gp_i p1] s K := by
  refine s_2846_e _ _ ?_
  refine zx1793_2 hs (by omega) (by omega) (by omega) (by omega) (by omega) (by omega) (by omega) (by omega) q14 q15 q16 q17 (⟨_, rfl, ?_⟩)
  refine ⟨fun h_1 => ?_, fun h_1 => ?_⟩
  · refine zx2857_0 _ hs (by omega) (by omega) (by omega) (by omega) (by omega) (by omega) (by omega) q14 q15 q16 q17 q18 q19 q20 (⟨_, rfl, ?_⟩)
    refine ⟨fun h_2 => ?_, fun h_2 => ?_⟩
    · exfalso; omega
    · refine s_2846_18 _ _ _ ?_
      refine zx2855_15 hs (by omega) (by omega) (by omega) (by omega) (by omega) (by omega) (by omega) (by omega) (by omega) (by omega) (by omega) (by omega) (by omega) (by omega) q14 q15 q16 q17 q18 q19 q20 q21 q22 (fun s_3 hs_4 q_5 q_6 q_7 q_8 q_9 q_10 q_11 q_12 q_13 q_14 q_15 q_16 q_17 q_18 q_19 q_20 q_21 q_22 q_23 q_24 q_25 q_26 q_27 q_28 => ⟨_, rfl, ?_⟩)
      exact k s_3 hs_4 (by omega) (by omega) (by omega) (by omega) (by omega) (by omega) (by omega) (by omega) (by omega) (by omega) (by omega) (by omega) (by omega) (by omega) (by omega) q_20 q_21 q_22 q_23 q_24 q_25 q_26 q_27 q_28
  · exfalso; omega
set_option maxRecDepth 100000 in
/-- GatheredPoints.judge [(0, 0), (2, 2147483647)] -/
theorem zx2846_3 {z : gH} {L d : Nat} {K : Option gV → gH → Prop} {s : gH} (p1 : Int) (hs : xM z s) (h_p1 : 2 ≤ p1 ∧ p1 ≤ 2147483647) (q0 : gp_I s 1 2 = 0) (q1 : gp_I s 1 6 = 0) (q2 : gp_I s 1 7 = 1) (q3 : gp_I s 51 8 = 0) (q4 : gp_I s 57 1 = 0) (q5 : gp_I s 57 3 = 0) (q6 : gp_I s 72 0 = 0) (q7 : gp_I s 72 1 = 0) (q8 : gp_I s 72 2 = 0) (q9 : gp_I s 72 3 = 0) (q10 : gp_I s 73 0 = 0) (q11 : gp_I s 73 1 = 0) (q12 : gp_I s 73 2 = 0) (q13 : gp_I s 73 3 = 0) (q14 : gp_R s 25 6 = none) (q15 : gp_R s 25 7 = none) (q16 : gp_R s 25 8 = none) (q17 : gp_R s 25 9 = none) (q18 : ∀ k, k < 8 → gp_R s 4 k = some 25) (q19 : gp_R s 51 6 = some 55) (q20 : gp_R s 51 7 = some 56) (q21 : gp_us s = 606895) (q22 : gp_sz s = 117) (k : ∀ (t : gH), xM z t → (gp_I t 1 2 = 0) → (gp_I t 1 6 = 0) → (gp_I t 1 7 = 1) → ((-2147483648) ≤ gp_I t 2 1 ∧ gp_I t 2 1 ≤ 2147483647) → (gp_I t 51 8 = 0) → (gp_I t 57 1 = 0) → (gp_I t 57 3 = 0) → (gp_I t 72 0 = 0) → (gp_I t 72 1 = 0) → (gp_I t 72 2 = 0) → (gp_I t 72 3 = 0) → (gp_I t 73 0 = 0) → (gp_I t 73 1 = 0) → (gp_I t 73 2 = 0) → (gp_I t 73 3 = 0) → (gp_R t 25 6 = none) → (gp_R t 25 7 = none) → (gp_R t 25 8 = none) → (gp_R t 25 9 = none) → (∀ k, k < 8 → gp_R t 4 k = some 25) → (gp_R t 51 6 = some 55) → (gp_R t 51 7 = some 56) → (gp_us t = 606895) → (gp_sz t = 117) → K (some (gp_i (-1000000001))) t) : gs_C L (d + 1) 2846 4 [gp_r (some 1), gp_i 0, gp_i p1] s K := by
  refine s_2846_e _ _ ?_
  refine zx1793_2 hs (by omega) (by omega) (by omega) (by omega) (by omega) (by omega) (by omega) (by omega) q14 q15 q16 q17 (⟨_, rfl, ?_⟩)
  refine ⟨fun h_1 => ?_, fun h_1 => ?_⟩
  · refine zx2857_1 _ hs (by omega) (by omega) (by omega) (by omega) (by omega) (by omega) (by omega) q14 q15 q16 q17 q18 q19 q20 (⟨_, rfl, ?_⟩)
    refine ⟨fun h_2 => ?_, fun h_2 => ?_⟩
    · exfalso; omega
    · refine s_2846_18 _ _ _ ?_
      refine zx2855_15 hs (by omega) (by omega) (by omega) (by omega) (by omega) (by omega) (by omega) (by omega) (by omega) (by omega) (by omega) (by omega) (by omega) (by omega) q14 q15 q16 q17 q18 q19 q20 q21 q22 (fun s_3 hs_4 q_5 q_6 q_7 q_8 q_9 q_10 q_11 q_12 q_13 q_14 q_15 q_16 q_17 q_18 q_19 q_20 q_21 q_22 q_23 q_24 q_25 q_26 q_27 q_28 => ⟨_, rfl, ?_⟩)
      exact k s_3 hs_4 (by omega) (by omega) (by omega) (by omega) (by omega) (by omega) (by omega) (by omega) (by omega) (by omega) (by omega) (by omega) (by omega) (by omega) (by omega) q_20 q_21 q_22 q_23 q_24 q_25 q_26 q_27 q_28
  · exfalso; omega
set_option maxRecDepth 100000 in
/-- GatheredPoints.judge [(1, 1), (-2147483648, -1)] -/
theorem zx2846_4 {z : gH} {L d : Nat} {K : Option gV → gH → Prop} {s : gH} (p1 : Int) (hs : xM z s) (h_p1 : (-2147483648) ≤ p1 ∧ p1 ≤ (-1)) (q0 : gp_I s 1 2 = 0) (q1 : gp_I s 1 6 = 0) (q2 : gp_I s 1 7 = 1) (q3 : gp_I s 51 8 = 0) (q4 : gp_I s 57 1 = 0) (q5 : gp_I s 57 3 = 0) (q6 : gp_I s 72 0 = 0) (q7 : gp_I s 72 1 = 0) (q8 : gp_I s 72 2 = 0) (q9 : gp_I s 72 3 = 0) (q10 : gp_I s 73 0 = 0) (q11 : gp_I s 73 1 = 0) (q12 : gp_I s 73 2 = 0) (q13 : gp_I s 73 3 = 0) (q14 : gp_R s 25 6 = none) (q15 : gp_R s 25 7 = none) (q16 : gp_R s 25 8 = none) (q17 : gp_R s 25 9 = none) (q18 : ∀ k, k < 8 → gp_R s 4 k = some 25) (q19 : gp_R s 51 6 = some 55) (q20 : gp_R s 51 7 = some 56) (q21 : gp_us s = 606895) (q22 : gp_sz s = 117) (k : ∀ (t : gH), xM z t → (gp_I t 1 2 = 0) → (gp_I t 1 6 = 0) → (gp_I t 1 7 = 1) → ((-2147483648) ≤ gp_I t 2 1 ∧ gp_I t 2 1 ≤ 2147483647) → (gp_I t 51 8 = 0) → (gp_I t 57 1 = 0) → (gp_I t 57 3 = 0) → (gp_I t 72 0 = 0) → (gp_I t 72 1 = 0) → (gp_I t 72 2 = 0) → (gp_I t 72 3 = 0) → (gp_I t 73 0 = 0) → (gp_I t 73 1 = 0) → (gp_I t 73 2 = 0) → (gp_I t 73 3 = 0) → (gp_R t 25 6 = none) → (gp_R t 25 7 = none) → (gp_R t 25 8 = none) → (gp_R t 25 9 = none) → (∀ k, k < 8 → gp_R t 4 k = some 25) → (gp_R t 51 6 = some 55) → (gp_R t 51 7 = some 56) → (gp_us t = 606895) → (gp_sz t = 117) → K (some (gp_i (-1000000001))) t) : gs_C L (d + 1) 2846 4 [gp_r (some 1), gp_i 1, gp_i p1] s K := by
  refine s_2846_e _ _ ?_
  refine zx1793_3 hs (by omega) (by omega) (by omega) (by omega) (by omega) (by omega) (by omega) (by omega) q14 q15 q16 q17 (⟨_, rfl, ?_⟩)
  refine ⟨fun h_1 => ?_, fun h_1 => ?_⟩
  · refine zx2857_0 _ hs (by omega) (by omega) (by omega) (by omega) (by omega) (by omega) (by omega) q14 q15 q16 q17 q18 q19 q20 (⟨_, rfl, ?_⟩)
    refine ⟨fun h_2 => ?_, fun h_2 => ?_⟩
    · exfalso; omega
    · refine s_2846_18 _ _ _ ?_
      refine zx2855_15 hs (by omega) (by omega) (by omega) (by omega) (by omega) (by omega) (by omega) (by omega) (by omega) (by omega) (by omega) (by omega) (by omega) (by omega) q14 q15 q16 q17 q18 q19 q20 q21 q22 (fun s_3 hs_4 q_5 q_6 q_7 q_8 q_9 q_10 q_11 q_12 q_13 q_14 q_15 q_16 q_17 q_18 q_19 q_20 q_21 q_22 q_23 q_24 q_25 q_26 q_27 q_28 => ⟨_, rfl, ?_⟩)
      exact k s_3 hs_4 (by omega) (by omega) (by omega) (by omega) (by omega) (by omega) (by omega) (by omega) (by omega) (by omega) (by omega) (by omega) (by omega) (by omega) (by omega) q_20 q_21 q_22 q_23 q_24 q_25 q_26 q_27 q_28
  · exfalso; omega
set_option maxRecDepth 100000 in
/-- GatheredPoints.judge [(1, 1), (2, 2147483647)] -/
theorem zx2846_5 {z : gH} {L d : Nat} {K : Option gV → gH → Prop} {s : gH} (p1 : Int) (hs : xM z s) (h_p1 : 2 ≤ p1 ∧ p1 ≤ 2147483647) (q0 : gp_I s 1 2 = 0) (q1 : gp_I s 1 6 = 0) (q2 : gp_I s 1 7 = 1) (q3 : gp_I s 51 8 = 0) (q4 : gp_I s 57 1 = 0) (q5 : gp_I s 57 3 = 0) (q6 : gp_I s 72 0 = 0) (q7 : gp_I s 72 1 = 0) (q8 : gp_I s 72 2 = 0) (q9 : gp_I s 72 3 = 0) (q10 : gp_I s 73 0 = 0) (q11 : gp_I s 73 1 = 0) (q12 : gp_I s 73 2 = 0) (q13 : gp_I s 73 3 = 0) (q14 : gp_R s 25 6 = none) (q15 : gp_R s 25 7 = none) (q16 : gp_R s 25 8 = none) (q17 : gp_R s 25 9 = none) (q18 : ∀ k, k < 8 → gp_R s 4 k = some 25) (q19 : gp_R s 51 6 = some 55) (q20 : gp_R s 51 7 = some 56) (q21 : gp_us s = 606895) (q22 : gp_sz s = 117) (k : ∀ (t : gH), xM z t → (gp_I t 1 2 = 0) → (gp_I t 1 6 = 0) → (gp_I t 1 7 = 1) → ((-2147483648) ≤ gp_I t 2 1 ∧ gp_I t 2 1 ≤ 2147483647) → (gp_I t 51 8 = 0) → (gp_I t 57 1 = 0) → (gp_I t 57 3 = 0) → (gp_I t 72 0 = 0) → (gp_I t 72 1 = 0) → (gp_I t 72 2 = 0) → (gp_I t 72 3 = 0) → (gp_I t 73 0 = 0) → (gp_I t 73 1 = 0) → (gp_I t 73 2 = 0) → (gp_I t 73 3 = 0) → (gp_R t 25 6 = none) → (gp_R t 25 7 = none) → (gp_R t 25 8 = none) → (gp_R t 25 9 = none) → (∀ k, k < 8 → gp_R t 4 k = some 25) → (gp_R t 51 6 = some 55) → (gp_R t 51 7 = some 56) → (gp_us t = 606895) → (gp_sz t = 117) → K (some (gp_i (-1000000001))) t) : gs_C L (d + 1) 2846 4 [gp_r (some 1), gp_i 1, gp_i p1] s K := by
  refine s_2846_e _ _ ?_
  refine zx1793_3 hs (by omega) (by omega) (by omega) (by omega) (by omega) (by omega) (by omega) (by omega) q14 q15 q16 q17 (⟨_, rfl, ?_⟩)
  refine ⟨fun h_1 => ?_, fun h_1 => ?_⟩
  · refine zx2857_1 _ hs (by omega) (by omega) (by omega) (by omega) (by omega) (by omega) (by omega) q14 q15 q16 q17 q18 q19 q20 (⟨_, rfl, ?_⟩)
    refine ⟨fun h_2 => ?_, fun h_2 => ?_⟩
    · exfalso; omega
    · refine s_2846_18 _ _ _ ?_
      refine zx2855_15 hs (by omega) (by omega) (by omega) (by omega) (by omega) (by omega) (by omega) (by omega) (by omega) (by omega) (by omega) (by omega) (by omega) (by omega) q14 q15 q16 q17 q18 q19 q20 q21 q22 (fun s_3 hs_4 q_5 q_6 q_7 q_8 q_9 q_10 q_11 q_12 q_13 q_14 q_15 q_16 q_17 q_18 q_19 q_20 q_21 q_22 q_23 q_24 q_25 q_26 q_27 q_28 => ⟨_, rfl, ?_⟩)
      exact k s_3 hs_4 (by omega) (by omega) (by omega) (by omega) (by omega) (by omega) (by omega) (by omega) (by omega) (by omega) (by omega) (by omega) (by omega) (by omega) (by omega) q_20 q_21 q_22 q_23 q_24 q_25 q_26 q_27 q_28
  · exfalso; omega
set_option maxRecDepth 100000 in
/-- GatheredPoints.judge [(2, 2), (-2147483648, -1)] -/
theorem zx2846_6 {z : gH} {L d : Nat} {K : Option gV → gH → Prop} {s : gH} (p1 : Int) (hs : xM z s) (h_p1 : (-2147483648) ≤ p1 ∧ p1 ≤ (-1)) (q0 : gp_I s 1 2 = 0) (q1 : gp_I s 1 6 = 0) (q2 : gp_I s 1 7 = 1) (q3 : gp_I s 51 8 = 0) (q4 : gp_I s 57 1 = 0) (q5 : gp_I s 57 3 = 0) (q6 : gp_I s 72 0 = 0) (q7 : gp_I s 72 1 = 0) (q8 : gp_I s 72 2 = 0) (q9 : gp_I s 72 3 = 0) (q10 : gp_I s 73 0 = 0) (q11 : gp_I s 73 1 = 0) (q12 : gp_I s 73 2 = 0) (q13 : gp_I s 73 3 = 0) (q14 : gp_R s 25 6 = none) (q15 : gp_R s 25 7 = none) (q16 : gp_R s 25 8 = none) (q17 : gp_R s 25 9 = none) (q18 : ∀ k, k < 8 → gp_R s 4 k = some 25) (q19 : gp_R s 51 6 = some 55) (q20 : gp_R s 51 7 = some 56) (q21 : gp_us s = 606895) (q22 : gp_sz s = 117) (k : ∀ (t : gH), xM z t → (gp_I t 1 2 = 0) → (gp_I t 1 6 = 0) → (gp_I t 1 7 = 1) → ((-2147483648) ≤ gp_I t 2 1 ∧ gp_I t 2 1 ≤ 2147483647) → (gp_I t 51 8 = 0) → (gp_I t 57 1 = 0) → (gp_I t 57 3 = 0) → (gp_I t 72 0 = 0) → (gp_I t 72 1 = 0) → (gp_I t 72 2 = 0) → (gp_I t 72 3 = 0) → (gp_I t 73 0 = 0) → (gp_I t 73 1 = 0) → (gp_I t 73 2 = 0) → (gp_I t 73 3 = 0) → (gp_R t 25 6 = none) → (gp_R t 25 7 = none) → (gp_R t 25 8 = none) → (gp_R t 25 9 = none) → (∀ k, k < 8 → gp_R t 4 k = some 25) → (gp_R t 51 6 = some 55) → (gp_R t 51 7 = some 56) → (gp_us t = 606895) → (gp_sz t = 117) → K (some (gp_i (-1000000001))) t) : gs_C L (d + 1) 2846 4 [gp_r (some 1), gp_i 2, gp_i p1] s K := by
  refine s_2846_e _ _ ?_
  refine zx1793_4 hs (by omega) (by omega) (by omega) (by omega) (by omega) (by omega) (by omega) (by omega) q14 q15 q16 q17 (⟨_, rfl, ?_⟩)
  refine ⟨fun h_1 => ?_, fun h_1 => ?_⟩
  · refine zx2857_0 _ hs (by omega) (by omega) (by omega) (by omega) (by omega) (by omega) (by omega) q14 q15 q16 q17 q18 q19 q20 (⟨_, rfl, ?_⟩)
    refine ⟨fun h_2 => ?_, fun h_2 => ?_⟩
    · exfalso; omega
    · refine s_2846_18 _ _ _ ?_
      refine zx2855_15 hs (by omega) (by omega) (by omega) (by omega) (by omega) (by omega) (by omega) (by omega) (by omega) (by omega) (by omega) (by omega) (by omega) (by omega) q14 q15 q16 q17 q18 q19 q20 q21 q22 (fun s_3 hs_4 q_5 q_6 q_7 q_8 q_9 q_10 q_11 q_12 q_13 q_14 q_15 q_16 q_17 q_18 q_19 q_20 q_21 q_22 q_23 q_24 q_25 q_26 q_27 q_28 => ⟨_, rfl, ?_⟩)
      exact k s_3 hs_4 (by omega) (by omega) (by omega) (by omega) (by omega) (by omega) (by omega) (by omega) (by omega) (by omega) (by omega) (by omega) (by omega) (by omega) (by omega) q_20 q_21 q_22 q_23 q_24 q_25 q_26 q_27 q_28
  · exfalso; omega
set_option maxRecDepth 100000 in
/-- GatheredPoints.judge [(2, 2), (2, 2147483647)] -/
theorem zx2846_7 {z : gH} {L d : Nat} {K : Option gV → gH → Prop} {s : gH} (p1 : Int) (hs : xM z s) (h_p1 : 2 ≤ p1 ∧ p1 ≤ 2147483647) (q0 : gp_I s 1 2 = 0) (q1 : gp_I s 1 6 = 0) (q2 : gp_I s 1 7 = 1) (q3 : gp_I s 51 8 = 0) (q4 : gp_I s 57 1 = 0) (q5 : gp_I s 57 3 = 0) (q6 : gp_I s 72 0 = 0) (q7 : gp_I s 72 1 = 0) (q8 : gp_I s 72 2 = 0) (q9 : gp_I s 72 3 = 0) (q10 : gp_I s 73 0 = 0) (q11 : gp_I s 73 1 = 0) (q12 : gp_I s 73 2 = 0) (q13 : gp_I s 73 3 = 0) (q14 : gp_R s 25 6 = none) (q15 : gp_R s 25 7 = none) (q16 : gp_R s 25 8 = none) (q17 : gp_R s 25 9 = none) (q18 : ∀ k, k < 8 → gp_R s 4 k = some 25) (q19 : gp_R s 51 6 = some 55) (q20 : gp_R s 51 7 = some 56) (q21 : gp_us s = 606895) (q22 : gp_sz s = 117) (k : ∀ (t : gH), xM z t → (gp_I t 1 2 = 0) → (gp_I t 1 6 = 0) → (gp_I t 1 7 = 1) → ((-2147483648) ≤ gp_I t 2 1 ∧ gp_I t 2 1 ≤ 2147483647) → (gp_I t 51 8 = 0) → (gp_I t 57 1 = 0) → (gp_I t 57 3 = 0) → (gp_I t 72 0 = 0) → (gp_I t 72 1 = 0) → (gp_I t 72 2 = 0) → (gp_I t 72 3 = 0) → (gp_I t 73 0 = 0) → (gp_I t 73 1 = 0) → (gp_I t 73 2 = 0) → (gp_I t 73 3 = 0) → (gp_R t 25 6 = none) → (gp_R t 25 7 = none) → (gp_R t 25 8 = none) → (gp_R t 25 9 = none) → (∀ k, k < 8 → gp_R t 4 k = some 25) → (gp_R t 51 6 = some 55) → (gp_R t 51 7 = some 56) → (gp_us t = 606895) → (gp_sz t = 117) → K (some (gp_i (-1000000001))) t) : gs_C L (d + 1) 2846 4 [gp_r (some 1), gp_i 2, gp_i p1] s K := by
  refine s_2846_e _ _ ?_
  refine zx1793_4 hs (by omega) (by omega) (by omega) (by omega) (by omega) (by omega) (by omega) (by omega) q14 q15 q16 q17 (⟨_, rfl, ?_⟩)
  refine ⟨fun h_1 => ?_, fun h_1 => ?_⟩
  · refine zx2857_1 _ hs (by omega) (by omega) (by omega) (by omega) (by omega) (by omega) (by omega) q14 q15 q16 q17 q18 q19 q20 (⟨_, rfl, ?_⟩)
    refine ⟨fun h_2 => ?_, fun h_2 => ?_⟩
    · exfalso; omega
    · refine s_2846_18 _ _ _ ?_
      refine zx2855_15 hs (by omega) (by omega) (by omega) (by omega) (by omega) (by omega) (by omega) (by omega) (by omega) (by omega) (by omega) (by omega) (by omega) (by omega) q14 q15 q16 q17 q18 q19 q20 q21 q22 (fun s_3 hs_4 q_5 q_6 q_7 q_8 q_9 q_10 q_11 q_12 q_13 q_14 q_15 q_16 q_17 q_18 q_19 q_20 q_21 q_22 q_23 q_24 q_25 q_26 q_27 q_28 => ⟨_, rfl, ?_⟩)
      exact k s_3 hs_4 (by omega) (by omega) (by omega) (by omega) (by omega) (by omega) (by omega) (by omega) (by omega) (by omega) (by omega) (by omega) (by omega) (by omega) (by omega) q_20 q_21 q_22 q_23 q_24 q_25 q_26 q_27 q_28
  · exfalso; omega
set_option maxRecDepth 100000 in
/-- GatheredPoints.judge [(3, 3), (-2147483648, -1)] -/
theorem zx2846_8 {z : gH} {L d : Nat} {K : Option gV → gH → Prop} {s : gH} (p1 : Int) (hs : xM z s) (h_p1 : (-2147483648) ≤ p1 ∧ p1 ≤ (-1)) (q0 : gp_I s 1 2 = 0) (q1 : gp_I s 1 6 = 0) (q2 : gp_I s 1 7 = 1) (q3 : gp_I s 51 8 = 0) (q4 : gp_I s 57 1 = 0) (q5 : gp_I s 57 3 = 0) (q6 : gp_I s 72 0 = 0) (q7 : gp_I s 72 1 = 0) (q8 : gp_I s 72 2 = 0) (q9 : gp_I s 72 3 = 0) (q10 : gp_I s 73 0 = 0) (q11 : gp_I s 73 1 = 0) (q12 : gp_I s 73 2 = 0) (q13 : gp_I s 73 3 = 0) (q14 : gp_R s 25 6 = none) (q15 : gp_R s 25 7 = none) (q16 : gp_R s 25 8 = none) (q17 : gp_R s 25 9 = none) (q18 : ∀ k, k < 8 → gp_R s 4 k = some 25) (q19 : gp_R s 51 6 = some 55) (q20 : gp_R s 51 7 = some 56) (q21 : gp_us s = 606895) (q22 : gp_sz s = 117) (k : ∀ (t : gH), xM z t → (gp_I t 1 2 = 0) → (gp_I t 1 6 = 0) → (gp_I t 1 7 = 1) → ((-2147483648) ≤ gp_I t 2 1 ∧ gp_I t 2 1 ≤ 2147483647) → (gp_I t 51 8 = 0) → (gp_I t 57 1 = 0) → (gp_I t 57 3 = 0) → (gp_I t 72 0 = 0) → (gp_I t 72 1 = 0) → (gp_I t 72 2 = 0) → (gp_I t 72 3 = 0) → (gp_I t 73 0 = 0) → (gp_I t 73 1 = 0) → (gp_I t 73 2 = 0) → (gp_I t 73 3 = 0) → (gp_R t 25 6 = none) → (gp_R t 25 7 = none) → (gp_R t 25 8 = none) → (gp_R t 25 9 = none) → (∀ k, k < 8 → gp_R t 4 k = some 25) → (gp_R t 51 6 = some 55) → (gp_R t 51 7 = some 56) → (gp_us t = 606895) → (gp_sz t = 117) → K (some (gp_i (-1000000001))) t) : gs_C L (d + 1) 2846 4 [gp_r (some 1), gp_i 3, gp_i p1] s K := by
  refine s_2846_e _ _ ?_
  refine zx1793_5 hs (by omega) (by omega) (by omega) (by omega) (by omega) (by omega) (by omega) (by omega) q14 q15 q16 q17 (⟨_, rfl, ?_⟩)
  refine ⟨fun h_1 => ?_, fun h_1 => ?_⟩
  · refine zx2857_0 _ hs (by omega) (by omega) (by omega) (by omega) (by omega) (by omega) (by omega) q14 q15 q16 q17 q18 q19 q20 (⟨_, rfl, ?_⟩)
    refine ⟨fun h_2 => ?_, fun h_2 => ?_⟩
    · exfalso; omega
    · refine s_2846_18 _ _ _ ?_
      refine zx2855_15 hs (by omega) (by omega) (by omega) (by omega) (by omega) (by omega) (by omega) (by omega) (by omega) (by omega) (by omega) (by omega) (by omega) (by omega) q14 q15 q16 q17 q18 q19 q20 q21 q22 (fun s_3 hs_4 q_5 q_6 q_7 q_8 q_9 q_10 q_11 q_12 q_13 q_14 q_15 q_16 q_17 q_18 q_19 q_20 q_21 q_22 q_23 q_24 q_25 q_26 q_27 q_28 => ⟨_, rfl, ?_⟩)
      exact k s_3 hs_4 (by omega) (by omega) (by omega) (by omega) (by omega) (by omega) (by omega) (by omega) (by omega) (by omega) (by omega) (by omega) (by omega) (by omega) (by omega) q_20 q_21 q_22 q_23 q_24 q_25 q_26 q_27 q_28
  · exfalso; omega
set_option maxRecDepth 100000 in
/-- GatheredPoints.judge [(3, 3), (2, 2147483647)] -/
theorem zx2846_9 {z : gH} {L d : Nat} {K : Option gV → gH → Prop} {s : gH} (p1 : Int) (hs : xM z s) (h_p1 : 2 ≤ p1 ∧ p1 ≤ 2147483647) (q0 : gp_I s 1 2 = 0) (q1 : gp_I s 1 6 = 0) (q2 : gp_I s 1 7 = 1) (q3 : gp_I s 51 8 = 0) (q4 : gp_I s 57 1 = 0) (q5 : gp_I s 57 3 = 0) (q6 : gp_I s 72 0 = 0) (q7 : gp_I s 72 1 = 0) (q8 : gp_I s 72 2 = 0) (q9 : gp_I s 72 3 = 0) (q10 : gp_I s 73 0 = 0) (q11 : gp_I s 73 1 = 0) (q12 : gp_I s 73 2 = 0) (q13 : gp_I s 73 3 = 0) (q14 : gp_R s 25 6 = none) (q15 : gp_R s 25 7 = none) (q16 : gp_R s 25 8 = none) (q17 : gp_R s 25 9 = none) (q18 : ∀ k, k < 8 → gp_R s 4 k = some 25) (q19 : gp_R s 51 6 = some 55) (q20 : gp_R s 51 7 = some 56) (q21 : gp_us s = 606895) (q22 : gp_sz s = 117) (k : ∀ (t : gH), xM z t → (gp_I t 1 2 = 0) → (gp_I t 1 6 = 0) → (gp_I t 1 7 = 1) → ((-2147483648) ≤ gp_I t 2 1 ∧ gp_I t 2 1 ≤ 2147483647) → (gp_I t 51 8 = 0) → (gp_I t 57 1 = 0) → (gp_I t 57 3 = 0) → (gp_I t 72 0 = 0) → (gp_I t 72 1 = 0) → (gp_I t 72 2 = 0) → (gp_I t 72 3 = 0) → (gp_I t 73 0 = 0) → (gp_I t 73 1 = 0) → (gp_I t 73 2 = 0) → (gp_I t 73 3 = 0) → (gp_R t 25 6 = none) → (gp_R t 25 7 = none) → (gp_R t 25 8 = none) → (gp_R t 25 9 = none) → (∀ k, k < 8 → gp_R t 4 k = some 25) → (gp_R t 51 6 = some 55) → (gp_R t 51 7 = some 56) → (gp_us t = 606895) → (gp_sz t = 117) → K (some (gp_i (-1000000001))) t) : gs_C L (d + 1) 2846 4 [gp_r (some 1), gp_i 3, gp_i p1] s K := by
  refine s_2846_e _ _ ?_
  refine zx1793_5 hs (by omega) (by omega) (by omega) (by omega) (by omega) (by omega) (by omega) (by omega) q14 q15 q16 q17 (⟨_, rfl, ?_⟩)
  refine ⟨fun h_1 => ?_, fun h_1 => ?_⟩
  · refine zx2857_1 _ hs (by omega) (by omega) (by omega) (by omega) (by omega) (by omega) (by omega) q14 q15 q16 q17 q18 q19 q20 (⟨_, rfl, ?_⟩)
    refine ⟨fun h_2 => ?_, fun h_2 => ?_⟩
    · exfalso; omega
    · refine s_2846_18 _ _ _ ?_
      refine zx2855_15 hs (by omega) (by omega) (by omega) (by omega) (by omega) (by omega) (by omega) (by omega) (by omega) (by omega) (by omega) (by omega) (by omega) (by omega) q14 q15 q16 q17 q18 q19 q20 q21 q22 (fun s_3 hs_4 q_5 q_6 q_7 q_8 q_9 q_10 q_11 q_12 q_13 q_14 q_15 q_16 q_17 q_18 q_19 q_20 q_21 q_22 q_23 q_24 q_25 q_26 q_27 q_28 => ⟨_, rfl, ?_⟩)
      exact k s_3 hs_4 (by omega) (by omega) (by omega) (by omega) (by omega) (by omega) (by omega) (by omega) (by omega) (by omega) (by omega) (by omega) (by omega) (by omega) (by omega) q_20 q_21 q_22 q_23 q_24 q_25 q_26 q_27 q_28
  · exfalso; omega
set_option maxRecDepth 100000 in
/-- GatheredPoints.refused [(2, 2)] -/
theorem zx2855_16 {z : gH} {L d : Nat} {K : Option gV → gH → Prop} {s : gH}  (hs : xM z s)  (q0 : gp_I s 1 2 = 0) (q1 : gp_I s 1 6 = 0) (q2 : gp_I s 1 7 = 1) (q3 : gp_I s 51 8 = 0) (q4 : gp_I s 57 1 = 0) (q5 : gp_I s 57 3 = 0) (q6 : gp_I s 72 0 = 0) (q7 : gp_I s 72 1 = 0) (q8 : gp_I s 72 2 = 0) (q9 : gp_I s 72 3 = 0) (q10 : gp_I s 73 0 = 0) (q11 : gp_I s 73 1 = 0) (q12 : gp_I s 73 2 = 0) (q13 : gp_I s 73 3 = 0) (q14 : gp_R s 25 6 = none) (q15 : gp_R s 25 7 = none) (q16 : gp_R s 25 8 = none) (q17 : gp_R s 25 9 = none) (q18 : ∀ k, k < 8 → gp_R s 4 k = some 25) (q19 : gp_R s 51 6 = some 55) (q20 : gp_R s 51 7 = some 56) (q21 : gp_us s = 606895) (q22 : gp_sz s = 117) (k : ∀ (t : gH), xM z t → (gp_I t 1 2 = 0) → (gp_I t 1 6 = 0) → (gp_I t 1 7 = 1) → ((-2147483648) ≤ gp_I t 2 2 ∧ gp_I t 2 2 ≤ 2147483647) → (gp_I t 51 8 = 0) → (gp_I t 57 1 = 0) → (gp_I t 57 3 = 0) → (gp_I t 72 0 = 0) → (gp_I t 72 1 = 0) → (gp_I t 72 2 = 0) → (gp_I t 72 3 = 0) → (gp_I t 73 0 = 0) → (gp_I t 73 1 = 0) → (gp_I t 73 2 = 0) → (gp_I t 73 3 = 0) → (gp_R t 25 6 = none) → (gp_R t 25 7 = none) → (gp_R t 25 8 = none) → (gp_R t 25 9 = none) → (∀ k, k < 8 → gp_R t 4 k = some 25) → (gp_R t 51 6 = some 55) → (gp_R t 51 7 = some 56) → (gp_us t = 606895) → (gp_sz t = 117) → K (some (gp_i (-1000000002))) t) : gs_C L d 2855 2 [gp_r (some 1), gp_i 2] s K := by
  refine s_2855_e _ ?_
  refine ⟨by omega, ?_⟩
  have w_1 := gz_w ((gp_I s 2 (2 : Int).toNat) + 1)
  refine ⟨by omega, ?_⟩
  intro s_2 e_3
  have hs_4 : xM z s_2 := by rw [e_3]; exact xw2 hs _ _
  have q_5 : gp_I s_2 1 2 = 0 := by rw [e_3]; exact q0
  have q_6 : gp_I s_2 1 6 = 0 := by rw [e_3]; exact q1
  have q_7 : gp_I s_2 1 7 = 1 := by rw [e_3]; exact q2
  have q_8 : gp_I s_2 51 8 = 0 := by rw [e_3]; exact q3
  have q_9 : gp_I s_2 57 1 = 0 := by rw [e_3]; exact q4
  have q_10 : gp_I s_2 57 3 = 0 := by rw [e_3]; exact q5
  have q_11 : gp_I s_2 72 0 = 0 := by rw [e_3]; exact q6
  have q_12 : gp_I s_2 72 1 = 0 := by rw [e_3]; exact q7
  have q_13 : gp_I s_2 72 2 = 0 := by rw [e_3]; exact q8
  have q_14 : gp_I s_2 72 3 = 0 := by rw [e_3]; exact q9
  have q_15 : gp_I s_2 73 0 = 0 := by rw [e_3]; exact q10
  have q_16 : gp_I s_2 73 1 = 0 := by rw [e_3]; exact q11
  have q_17 : gp_I s_2 73 2 = 0 := by rw [e_3]; exact q12
  have q_18 : gp_I s_2 73 3 = 0 := by rw [e_3]; exact q13
  have q_19 : gp_R s_2 25 6 = none := by rw [e_3]; exact q14
  have q_20 : gp_R s_2 25 7 = none := by rw [e_3]; exact q15
  have q_21 : gp_R s_2 25 8 = none := by rw [e_3]; exact q16
  have q_22 : gp_R s_2 25 9 = none := by rw [e_3]; exact q17
  have q_23 : ∀ k, k < 8 → gp_R s_2 4 k = some 25 := by rw [e_3]; exact q18
  have q_24 : gp_R s_2 51 6 = some 55 := by rw [e_3]; exact q19
  have q_25 : gp_R s_2 51 7 = some 56 := by rw [e_3]; exact q20
  have q_26 : gp_us s_2 = 606895 := by rw [e_3]; exact q21
  have q_27 : gp_sz s_2 = 117 := by rw [e_3]; exact q22
  have q_28 : (-2147483648) ≤ gp_I s_2 2 2 ∧ gp_I s_2 2 2 ≤ 2147483647 := by have x_29 : gp_I s_2 2 2 = gp_wr ((gp_I s 2 (2 : Int).toNat) + 1) := (by rw [e_3]; rfl); omega
  have w_30 := gz_w ((-1000000000) - 2)
  have e_31 : gp_wr ((-1000000000) - 2) = (-1000000002) := by omega
  try rw [e_31]
  exact k s_2 hs_4 (by omega) (by omega) (by omega) (by omega) (by omega) (by omega) (by omega) (by omega) (by omega) (by omega) (by omega) (by omega) (by omega) (by omega) (by omega) q_19 q_20 q_21 q_22 q_23 q_24 q_25 q_26 q_27
set_option maxRecDepth 100000 in
/-- GatheredPoints.judge [(0, 0), (0, 0)] -/
theorem zx2846_10 {z : gH} {L d : Nat} {K : Option gV → gH → Prop} {s : gH}  (hs : xM z s)  (q0 : gp_I s 1 2 = 0) (q1 : gp_I s 1 6 = 0) (q2 : gp_I s 1 7 = 1) (q3 : gp_I s 51 8 = 0) (q4 : gp_I s 57 1 = 0) (q5 : gp_I s 57 3 = 0) (q6 : gp_I s 72 0 = 0) (q7 : gp_I s 72 1 = 0) (q8 : gp_I s 72 2 = 0) (q9 : gp_I s 72 3 = 0) (q10 : gp_I s 73 0 = 0) (q11 : gp_I s 73 1 = 0) (q12 : gp_I s 73 2 = 0) (q13 : gp_I s 73 3 = 0) (q14 : gp_R s 25 6 = none) (q15 : gp_R s 25 7 = none) (q16 : gp_R s 25 8 = none) (q17 : gp_R s 25 9 = none) (q18 : ∀ k, k < 8 → gp_R s 4 k = some 25) (q19 : gp_R s 51 6 = some 55) (q20 : gp_R s 51 7 = some 56) (q21 : gp_us s = 606895) (q22 : gp_sz s = 117) (k : ∀ (t : gH), xM z t → (gp_I t 1 2 = 0) → (gp_I t 1 6 = 0) → (gp_I t 1 7 = 1) → ((-2147483648) ≤ gp_I t 2 2 ∧ gp_I t 2 2 ≤ 2147483647) → (gp_I t 51 8 = 0) → (gp_I t 57 1 = 0) → (gp_I t 57 3 = 0) → (gp_I t 72 0 = 0) → (gp_I t 72 1 = 0) → (gp_I t 72 2 = 0) → (gp_I t 72 3 = 0) → (gp_I t 73 0 = 0) → (gp_I t 73 1 = 0) → (gp_I t 73 2 = 0) → (gp_I t 73 3 = 0) → (gp_R t 25 6 = none) → (gp_R t 25 7 = none) → (gp_R t 25 8 = none) → (gp_R t 25 9 = none) → (∀ k, k < 8 → gp_R t 4 k = some 25) → (gp_R t 51 6 = some 55) → (gp_R t 51 7 = some 56) → (gp_us t = 606895) → (gp_sz t = 117) → K (some (gp_i (-1000000002))) t) : gs_C L (d + 1) 2846 4 [gp_r (some 1), gp_i 0, gp_i 0] s K := by
  refine s_2846_e _ _ ?_
  refine zx1793_2 hs (by omega) (by omega) (by omega) (by omega) (by omega) (by omega) (by omega) (by omega) q14 q15 q16 q17 (⟨_, rfl, ?_⟩)
  refine ⟨fun h_1 => ?_, fun h_1 => ?_⟩
  · refine zx2857_2 hs (by omega) (by omega) (by omega) (by omega) (by omega) (by omega) q14 q15 q16 q17 q18 q19 q20 (⟨_, rfl, ?_⟩)
    refine ⟨fun h_2 => ?_, fun h_2 => ?_⟩
    · refine zx1794_0 hs (by omega) (by omega) (by omega) (by omega) (by omega) (by omega) (by omega) (by omega) q14 q15 q16 q17 (⟨_, rfl, ?_⟩)
      refine ⟨fun h_3 => ?_, fun h_3 => ?_⟩
      · exfalso; omega
      · refine zx2855_16 hs (by omega) (by omega) (by omega) (by omega) (by omega) (by omega) (by omega) (by omega) (by omega) (by omega) (by omega) (by omega) (by omega) (by omega) q14 q15 q16 q17 q18 q19 q20 q21 q22 (fun s_4 hs_5 q_6 q_7 q_8 q_9 q_10 q_11 q_12 q_13 q_14 q_15 q_16 q_17 q_18 q_19 q_20 q_21 q_22 q_23 q_24 q_25 q_26 q_27 q_28 q_29 => ⟨_, rfl, ?_⟩)
        exact k s_4 hs_5 (by omega) (by omega) (by omega) (by omega) (by omega) (by omega) (by omega) (by omega) (by omega) (by omega) (by omega) (by omega) (by omega) (by omega) (by omega) q_21 q_22 q_23 q_24 q_25 q_26 q_27 q_28 q_29
    · exfalso; omega
  · exfalso; omega
set_option maxRecDepth 100000 in
/-- GatheredPoints.judge [(0, 0), (1, 1)] -/
theorem zx2846_11 {z : gH} {L d : Nat} {K : Option gV → gH → Prop} {s : gH}  (hs : xM z s)  (q0 : gp_I s 1 2 = 0) (q1 : gp_I s 1 6 = 0) (q2 : gp_I s 1 7 = 1) (q3 : gp_I s 51 8 = 0) (q4 : gp_I s 57 1 = 0) (q5 : gp_I s 57 3 = 0) (q6 : gp_I s 72 0 = 0) (q7 : gp_I s 72 1 = 0) (q8 : gp_I s 72 2 = 0) (q9 : gp_I s 72 3 = 0) (q10 : gp_I s 73 0 = 0) (q11 : gp_I s 73 1 = 0) (q12 : gp_I s 73 2 = 0) (q13 : gp_I s 73 3 = 0) (q14 : gp_R s 25 6 = none) (q15 : gp_R s 25 7 = none) (q16 : gp_R s 25 8 = none) (q17 : gp_R s 25 9 = none) (q18 : ∀ k, k < 8 → gp_R s 4 k = some 25) (q19 : gp_R s 51 6 = some 55) (q20 : gp_R s 51 7 = some 56) (q21 : gp_us s = 606895) (q22 : gp_sz s = 117) (k : ∀ (t : gH), xM z t → (gp_I t 1 2 = 0) → (gp_I t 1 6 = 0) → (gp_I t 1 7 = 1) → ((-2147483648) ≤ gp_I t 2 2 ∧ gp_I t 2 2 ≤ 2147483647) → (gp_I t 51 8 = 0) → (gp_I t 57 1 = 0) → (gp_I t 57 3 = 0) → (gp_I t 72 0 = 0) → (gp_I t 72 1 = 0) → (gp_I t 72 2 = 0) → (gp_I t 72 3 = 0) → (gp_I t 73 0 = 0) → (gp_I t 73 1 = 0) → (gp_I t 73 2 = 0) → (gp_I t 73 3 = 0) → (gp_R t 25 6 = none) → (gp_R t 25 7 = none) → (gp_R t 25 8 = none) → (gp_R t 25 9 = none) → (∀ k, k < 8 → gp_R t 4 k = some 25) → (gp_R t 51 6 = some 55) → (gp_R t 51 7 = some 56) → (gp_us t = 606895) → (gp_sz t = 117) → K (some (gp_i (-1000000002))) t) : gs_C L (d + 1) 2846 4 [gp_r (some 1), gp_i 0, gp_i 1] s K := by
  refine s_2846_e _ _ ?_
  refine zx1793_2 hs (by omega) (by omega) (by omega) (by omega) (by omega) (by omega) (by omega) (by omega) q14 q15 q16 q17 (⟨_, rfl, ?_⟩)
  refine ⟨fun h_1 => ?_, fun h_1 => ?_⟩
  · refine zx2857_3 hs (by omega) (by omega) (by omega) (by omega) (by omega) (by omega) q14 q15 q16 q17 q18 q19 q20 (⟨_, rfl, ?_⟩)
    refine ⟨fun h_2 => ?_, fun h_2 => ?_⟩
    · refine zx1794_0 hs (by omega) (by omega) (by omega) (by omega) (by omega) (by omega) (by omega) (by omega) q14 q15 q16 q17 (⟨_, rfl, ?_⟩)
      refine ⟨fun h_3 => ?_, fun h_3 => ?_⟩
      · exfalso; omega
      · refine zx2855_16 hs (by omega) (by omega) (by omega) (by omega) (by omega) (by omega) (by omega) (by omega) (by omega) (by omega) (by omega) (by omega) (by omega) (by omega) q14 q15 q16 q17 q18 q19 q20 q21 q22 (fun s_4 hs_5 q_6 q_7 q_8 q_9 q_10 q_11 q_12 q_13 q_14 q_15 q_16 q_17 q_18 q_19 q_20 q_21 q_22 q_23 q_24 q_25 q_26 q_27 q_28 q_29 => ⟨_, rfl, ?_⟩)
        exact k s_4 hs_5 (by omega) (by omega) (by omega) (by omega) (by omega) (by omega) (by omega) (by omega) (by omega) (by omega) (by omega) (by omega) (by omega) (by omega) (by omega) q_21 q_22 q_23 q_24 q_25 q_26 q_27 q_28 q_29
    · exfalso; omega
  · exfalso; omega
set_option maxRecDepth 100000 in
/-- GatheredPoints.judge [(1, 1), (0, 0)] -/
theorem zx2846_12 {z : gH} {L d : Nat} {K : Option gV → gH → Prop} {s : gH}  (hs : xM z s)  (q0 : gp_I s 1 2 = 0) (q1 : gp_I s 1 6 = 0) (q2 : gp_I s 1 7 = 1) (q3 : gp_I s 51 8 = 0) (q4 : gp_I s 57 1 = 0) (q5 : gp_I s 57 3 = 0) (q6 : gp_I s 72 0 = 0) (q7 : gp_I s 72 1 = 0) (q8 : gp_I s 72 2 = 0) (q9 : gp_I s 72 3 = 0) (q10 : gp_I s 73 0 = 0) (q11 : gp_I s 73 1 = 0) (q12 : gp_I s 73 2 = 0) (q13 : gp_I s 73 3 = 0) (q14 : gp_R s 25 6 = none) (q15 : gp_R s 25 7 = none) (q16 : gp_R s 25 8 = none) (q17 : gp_R s 25 9 = none) (q18 : ∀ k, k < 8 → gp_R s 4 k = some 25) (q19 : gp_R s 51 6 = some 55) (q20 : gp_R s 51 7 = some 56) (q21 : gp_us s = 606895) (q22 : gp_sz s = 117) (k : ∀ (t : gH), xM z t → (gp_I t 1 2 = 0) → (gp_I t 1 6 = 0) → (gp_I t 1 7 = 1) → ((-2147483648) ≤ gp_I t 2 2 ∧ gp_I t 2 2 ≤ 2147483647) → (gp_I t 51 8 = 0) → (gp_I t 57 1 = 0) → (gp_I t 57 3 = 0) → (gp_I t 72 0 = 0) → (gp_I t 72 1 = 0) → (gp_I t 72 2 = 0) → (gp_I t 72 3 = 0) → (gp_I t 73 0 = 0) → (gp_I t 73 1 = 0) → (gp_I t 73 2 = 0) → (gp_I t 73 3 = 0) → (gp_R t 25 6 = none) → (gp_R t 25 7 = none) → (gp_R t 25 8 = none) → (gp_R t 25 9 = none) → (∀ k, k < 8 → gp_R t 4 k = some 25) → (gp_R t 51 6 = some 55) → (gp_R t 51 7 = some 56) → (gp_us t = 606895) → (gp_sz t = 117) → K (some (gp_i (-1000000002))) t) : gs_C L (d + 1) 2846 4 [gp_r (some 1), gp_i 1, gp_i 0] s K := by
  refine s_2846_e _ _ ?_
  refine zx1793_3 hs (by omega) (by omega) (by omega) (by omega) (by omega) (by omega) (by omega) (by omega) q14 q15 q16 q17 (⟨_, rfl, ?_⟩)
  refine ⟨fun h_1 => ?_, fun h_1 => ?_⟩
  · refine zx2857_2 hs (by omega) (by omega) (by omega) (by omega) (by omega) (by omega) q14 q15 q16 q17 q18 q19 q20 (⟨_, rfl, ?_⟩)
    refine ⟨fun h_2 => ?_, fun h_2 => ?_⟩
    · refine zx1794_1 hs (by omega) (by omega) (by omega) (by omega) (by omega) (by omega) (by omega) (by omega) q14 q15 q16 q17 (⟨_, rfl, ?_⟩)
      refine ⟨fun h_3 => ?_, fun h_3 => ?_⟩
      · exfalso; omega
      · refine zx2855_16 hs (by omega) (by omega) (by omega) (by omega) (by omega) (by omega) (by omega) (by omega) (by omega) (by omega) (by omega) (by omega) (by omega) (by omega) q14 q15 q16 q17 q18 q19 q20 q21 q22 (fun s_4 hs_5 q_6 q_7 q_8 q_9 q_10 q_11 q_12 q_13 q_14 q_15 q_16 q_17 q_18 q_19 q_20 q_21 q_22 q_23 q_24 q_25 q_26 q_27 q_28 q_29 => ⟨_, rfl, ?_⟩)
        exact k s_4 hs_5 (by omega) (by omega) (by omega) (by omega) (by omega) (by omega) (by omega) (by omega) (by omega) (by omega) (by omega) (by omega) (by omega) (by omega) (by omega) q_21 q_22 q_23 q_24 q_25 q_26 q_27 q_28 q_29
    · exfalso; omega
  · exfalso; omega
set_option maxRecDepth 100000 in
/-- GatheredPoints.judge [(1, 1), (1, 1)] -/
theorem zx2846_13 {z : gH} {L d : Nat} {K : Option gV → gH → Prop} {s : gH}  (hs : xM z s)  (q0 : gp_I s 1 2 = 0) (q1 : gp_I s 1 6 = 0) (q2 : gp_I s 1 7 = 1) (q3 : gp_I s 51 8 = 0) (q4 : gp_I s 57 1 = 0) (q5 : gp_I s 57 3 = 0) (q6 : gp_I s 72 0 = 0) (q7 : gp_I s 72 1 = 0) (q8 : gp_I s 72 2 = 0) (q9 : gp_I s 72 3 = 0) (q10 : gp_I s 73 0 = 0) (q11 : gp_I s 73 1 = 0) (q12 : gp_I s 73 2 = 0) (q13 : gp_I s 73 3 = 0) (q14 : gp_R s 25 6 = none) (q15 : gp_R s 25 7 = none) (q16 : gp_R s 25 8 = none) (q17 : gp_R s 25 9 = none) (q18 : ∀ k, k < 8 → gp_R s 4 k = some 25) (q19 : gp_R s 51 6 = some 55) (q20 : gp_R s 51 7 = some 56) (q21 : gp_us s = 606895) (q22 : gp_sz s = 117) (k : ∀ (t : gH), xM z t → (gp_I t 1 2 = 0) → (gp_I t 1 6 = 0) → (gp_I t 1 7 = 1) → ((-2147483648) ≤ gp_I t 2 2 ∧ gp_I t 2 2 ≤ 2147483647) → (gp_I t 51 8 = 0) → (gp_I t 57 1 = 0) → (gp_I t 57 3 = 0) → (gp_I t 72 0 = 0) → (gp_I t 72 1 = 0) → (gp_I t 72 2 = 0) → (gp_I t 72 3 = 0) → (gp_I t 73 0 = 0) → (gp_I t 73 1 = 0) → (gp_I t 73 2 = 0) → (gp_I t 73 3 = 0) → (gp_R t 25 6 = none) → (gp_R t 25 7 = none) → (gp_R t 25 8 = none) → (gp_R t 25 9 = none) → (∀ k, k < 8 → gp_R t 4 k = some 25) → (gp_R t 51 6 = some 55) → (gp_R t 51 7 = some 56) → (gp_us t = 606895) → (gp_sz t = 117) → K (some (gp_i (-1000000002))) t) : gs_C L (d + 1) 2846 4 [gp_r (some 1), gp_i 1, gp_i 1] s K := by
  refine s_2846_e _ _ ?_
  refine zx1793_3 hs (by omega) (by omega) (by omega) (by omega) (by omega) (by omega) (by omega) (by omega) q14 q15 q16 q17 (⟨_, rfl, ?_⟩)
  refine ⟨fun h_1 => ?_, fun h_1 => ?_⟩
  · refine zx2857_3 hs (by omega) (by omega) (by omega) (by omega) (by omega) (by omega) q14 q15 q16 q17 q18 q19 q20 (⟨_, rfl, ?_⟩)
    refine ⟨fun h_2 => ?_, fun h_2 => ?_⟩
    · refine zx1794_1 hs (by omega) (by omega) (by omega) (by omega) (by omega) (by omega) (by omega) (by omega) q14 q15 q16 q17 (⟨_, rfl, ?_⟩)
      refine ⟨fun h_3 => ?_, fun h_3 => ?_⟩
      · exfalso; omega
      · refine zx2855_16 hs (by omega) (by omega) (by omega) (by omega) (by omega) (by omega) (by omega) (by omega) (by omega) (by omega) (by omega) (by omega) (by omega) (by omega) q14 q15 q16 q17 q18 q19 q20 q21 q22 (fun s_4 hs_5 q_6 q_7 q_8 q_9 q_10 q_11 q_12 q_13 q_14 q_15 q_16 q_17 q_18 q_19 q_20 q_21 q_22 q_23 q_24 q_25 q_26 q_27 q_28 q_29 => ⟨_, rfl, ?_⟩)
        exact k s_4 hs_5 (by omega) (by omega) (by omega) (by omega) (by omega) (by omega) (by omega) (by omega) (by omega) (by omega) (by omega) (by omega) (by omega) (by omega) (by omega) q_21 q_22 q_23 q_24 q_25 q_26 q_27 q_28 q_29
    · exfalso; omega
  · exfalso; omega
set_option maxRecDepth 100000 in
/-- GatheredPoints.judge [(2, 2), (0, 0)] -/
theorem zx2846_14 {z : gH} {L d : Nat} {K : Option gV → gH → Prop} {s : gH}  (hs : xM z s)  (q0 : gp_I s 1 2 = 0) (q1 : gp_I s 1 6 = 0) (q2 : gp_I s 1 7 = 1) (q3 : gp_I s 51 8 = 0) (q4 : gp_I s 57 1 = 0) (q5 : gp_I s 57 3 = 0) (q6 : gp_I s 72 0 = 0) (q7 : gp_I s 72 1 = 0) (q8 : gp_I s 72 2 = 0) (q9 : gp_I s 72 3 = 0) (q10 : gp_I s 73 0 = 0) (q11 : gp_I s 73 1 = 0) (q12 : gp_I s 73 2 = 0) (q13 : gp_I s 73 3 = 0) (q14 : gp_R s 25 6 = none) (q15 : gp_R s 25 7 = none) (q16 : gp_R s 25 8 = none) (q17 : gp_R s 25 9 = none) (q18 : ∀ k, k < 8 → gp_R s 4 k = some 25) (q19 : gp_R s 51 6 = some 55) (q20 : gp_R s 51 7 = some 56) (q21 : gp_us s = 606895) (q22 : gp_sz s = 117) (k : ∀ (t : gH), xM z t → (gp_I t 1 2 = 0) → (gp_I t 1 6 = 0) → (gp_I t 1 7 = 1) → ((-2147483648) ≤ gp_I t 2 2 ∧ gp_I t 2 2 ≤ 2147483647) → (gp_I t 51 8 = 0) → (gp_I t 57 1 = 0) → (gp_I t 57 3 = 0) → (gp_I t 72 0 = 0) → (gp_I t 72 1 = 0) → (gp_I t 72 2 = 0) → (gp_I t 72 3 = 0) → (gp_I t 73 0 = 0) → (gp_I t 73 1 = 0) → (gp_I t 73 2 = 0) → (gp_I t 73 3 = 0) → (gp_R t 25 6 = none) → (gp_R t 25 7 = none) → (gp_R t 25 8 = none) → (gp_R t 25 9 = none) → (∀ k, k < 8 → gp_R t 4 k = some 25) → (gp_R t 51 6 = some 55) → (gp_R t 51 7 = some 56) → (gp_us t = 606895) → (gp_sz t = 117) → K (some (gp_i (-1000000002))) t) : gs_C L (d + 1) 2846 4 [gp_r (some 1), gp_i 2, gp_i 0] s K := by
  refine s_2846_e _ _ ?_
  refine zx1793_4 hs (by omega) (by omega) (by omega) (by omega) (by omega) (by omega) (by omega) (by omega) q14 q15 q16 q17 (⟨_, rfl, ?_⟩)
  refine ⟨fun h_1 => ?_, fun h_1 => ?_⟩
  · refine zx2857_2 hs (by omega) (by omega) (by omega) (by omega) (by omega) (by omega) q14 q15 q16 q17 q18 q19 q20 (⟨_, rfl, ?_⟩)
    refine ⟨fun h_2 => ?_, fun h_2 => ?_⟩
    · refine zx1794_2 hs (by omega) (by omega) (by omega) (by omega) (by omega) (by omega) (by omega) (by omega) q14 q15 q16 q17 (⟨_, rfl, ?_⟩)
      refine ⟨fun h_3 => ?_, fun h_3 => ?_⟩
      · exfalso; omega
      · refine zx2855_16 hs (by omega) (by omega) (by omega) (by omega) (by omega) (by omega) (by omega) (by omega) (by omega) (by omega) (by omega) (by omega) (by omega) (by omega) q14 q15 q16 q17 q18 q19 q20 q21 q22 (fun s_4 hs_5 q_6 q_7 q_8 q_9 q_10 q_11 q_12 q_13 q_14 q_15 q_16 q_17 q_18 q_19 q_20 q_21 q_22 q_23 q_24 q_25 q_26 q_27 q_28 q_29 => ⟨_, rfl, ?_⟩)
        exact k s_4 hs_5 (by omega) (by omega) (by omega) (by omega) (by omega) (by omega) (by omega) (by omega) (by omega) (by omega) (by omega) (by omega) (by omega) (by omega) (by omega) q_21 q_22 q_23 q_24 q_25 q_26 q_27 q_28 q_29
    · exfalso; omega
  · exfalso; omega
set_option maxRecDepth 100000 in
/-- GatheredPoints.judge [(2, 2), (1, 1)] -/
theorem zx2846_15 {z : gH} {L d : Nat} {K : Option gV → gH → Prop} {s : gH}  (hs : xM z s)  (q0 : gp_I s 1 2 = 0) (q1 : gp_I s 1 6 = 0) (q2 : gp_I s 1 7 = 1) (q3 : gp_I s 51 8 = 0) (q4 : gp_I s 57 1 = 0) (q5 : gp_I s 57 3 = 0) (q6 : gp_I s 72 0 = 0) (q7 : gp_I s 72 1 = 0) (q8 : gp_I s 72 2 = 0) (q9 : gp_I s 72 3 = 0) (q10 : gp_I s 73 0 = 0) (q11 : gp_I s 73 1 = 0) (q12 : gp_I s 73 2 = 0) (q13 : gp_I s 73 3 = 0) (q14 : gp_R s 25 6 = none) (q15 : gp_R s 25 7 = none) (q16 : gp_R s 25 8 = none) (q17 : gp_R s 25 9 = none) (q18 : ∀ k, k < 8 → gp_R s 4 k = some 25) (q19 : gp_R s 51 6 = some 55) (q20 : gp_R s 51 7 = some 56) (q21 : gp_us s = 606895) (q22 : gp_sz s = 117) (k : ∀ (t : gH), xM z t → (gp_I t 1 2 = 0) → (gp_I t 1 6 = 0) → (gp_I t 1 7 = 1) → ((-2147483648) ≤ gp_I t 2 2 ∧ gp_I t 2 2 ≤ 2147483647) → (gp_I t 51 8 = 0) → (gp_I t 57 1 = 0) → (gp_I t 57 3 = 0) → (gp_I t 72 0 = 0) → (gp_I t 72 1 = 0) → (gp_I t 72 2 = 0) → (gp_I t 72 3 = 0) → (gp_I t 73 0 = 0) → (gp_I t 73 1 = 0) → (gp_I t 73 2 = 0) → (gp_I t 73 3 = 0) → (gp_R t 25 6 = none) → (gp_R t 25 7 = none) → (gp_R t 25 8 = none) → (gp_R t 25 9 = none) → (∀ k, k < 8 → gp_R t 4 k = some 25) → (gp_R t 51 6 = some 55) → (gp_R t 51 7 = some 56) → (gp_us t = 606895) → (gp_sz t = 117) → K (some (gp_i (-1000000002))) t) : gs_C L (d + 1) 2846 4 [gp_r (some 1), gp_i 2, gp_i 1] s K := by
  refine s_2846_e _ _ ?_
  refine zx1793_4 hs (by omega) (by omega) (by omega) (by omega) (by omega) (by omega) (by omega) (by omega) q14 q15 q16 q17 (⟨_, rfl, ?_⟩)
  refine ⟨fun h_1 => ?_, fun h_1 => ?_⟩
  · refine zx2857_3 hs (by omega) (by omega) (by omega) (by omega) (by omega) (by omega) q14 q15 q16 q17 q18 q19 q20 (⟨_, rfl, ?_⟩)
    refine ⟨fun h_2 => ?_, fun h_2 => ?_⟩
    · refine zx1794_2 hs (by omega) (by omega) (by omega) (by omega) (by omega) (by omega) (by omega) (by omega) q14 q15 q16 q17 (⟨_, rfl, ?_⟩)
      refine ⟨fun h_3 => ?_, fun h_3 => ?_⟩
      · exfalso; omega
      · refine zx2855_16 hs (by omega) (by omega) (by omega) (by omega) (by omega) (by omega) (by omega) (by omega) (by omega) (by omega) (by omega) (by omega) (by omega) (by omega) q14 q15 q16 q17 q18 q19 q20 q21 q22 (fun s_4 hs_5 q_6 q_7 q_8 q_9 q_10 q_11 q_12 q_13 q_14 q_15 q_16 q_17 q_18 q_19 q_20 q_21 q_22 q_23 q_24 q_25 q_26 q_27 q_28 q_29 => ⟨_, rfl, ?_⟩)
        exact k s_4 hs_5 (by omega) (by omega) (by omega) (by omega) (by omega) (by omega) (by omega) (by omega) (by omega) (by omega) (by omega) (by omega) (by omega) (by omega) (by omega) q_21 q_22 q_23 q_24 q_25 q_26 q_27 q_28 q_29
    · exfalso; omega
  · exfalso; omega
set_option maxRecDepth 100000 in
/-- GatheredPoints.judge [(3, 3), (0, 0)] -/
theorem zx2846_16 {z : gH} {L d : Nat} {K : Option gV → gH → Prop} {s : gH}  (hs : xM z s)  (q0 : gp_I s 1 2 = 0) (q1 : gp_I s 1 6 = 0) (q2 : gp_I s 1 7 = 1) (q3 : gp_I s 51 8 = 0) (q4 : gp_I s 57 1 = 0) (q5 : gp_I s 57 3 = 0) (q6 : gp_I s 72 0 = 0) (q7 : gp_I s 72 1 = 0) (q8 : gp_I s 72 2 = 0) (q9 : gp_I s 72 3 = 0) (q10 : gp_I s 73 0 = 0) (q11 : gp_I s 73 1 = 0) (q12 : gp_I s 73 2 = 0) (q13 : gp_I s 73 3 = 0) (q14 : gp_R s 25 6 = none) (q15 : gp_R s 25 7 = none) (q16 : gp_R s 25 8 = none) (q17 : gp_R s 25 9 = none) (q18 : ∀ k, k < 8 → gp_R s 4 k = some 25) (q19 : gp_R s 51 6 = some 55) (q20 : gp_R s 51 7 = some 56) (q21 : gp_us s = 606895) (q22 : gp_sz s = 117) (k : ∀ (t : gH), xM z t → (gp_I t 1 2 = 0) → (gp_I t 1 6 = 0) → (gp_I t 1 7 = 1) → ((-2147483648) ≤ gp_I t 2 2 ∧ gp_I t 2 2 ≤ 2147483647) → (gp_I t 51 8 = 0) → (gp_I t 57 1 = 0) → (gp_I t 57 3 = 0) → (gp_I t 72 0 = 0) → (gp_I t 72 1 = 0) → (gp_I t 72 2 = 0) → (gp_I t 72 3 = 0) → (gp_I t 73 0 = 0) → (gp_I t 73 1 = 0) → (gp_I t 73 2 = 0) → (gp_I t 73 3 = 0) → (gp_R t 25 6 = none) → (gp_R t 25 7 = none) → (gp_R t 25 8 = none) → (gp_R t 25 9 = none) → (∀ k, k < 8 → gp_R t 4 k = some 25) → (gp_R t 51 6 = some 55) → (gp_R t 51 7 = some 56) → (gp_us t = 606895) → (gp_sz t = 117) → K (some (gp_i (-1000000002))) t) : gs_C L (d + 1) 2846 4 [gp_r (some 1), gp_i 3, gp_i 0] s K := by
  refine s_2846_e _ _ ?_
  refine zx1793_5 hs (by omega) (by omega) (by omega) (by omega) (by omega) (by omega) (by omega) (by omega) q14 q15 q16 q17 (⟨_, rfl, ?_⟩)
  refine ⟨fun h_1 => ?_, fun h_1 => ?_⟩
  · refine zx2857_2 hs (by omega) (by omega) (by omega) (by omega) (by omega) (by omega) q14 q15 q16 q17 q18 q19 q20 (⟨_, rfl, ?_⟩)
    refine ⟨fun h_2 => ?_, fun h_2 => ?_⟩
    · refine zx1794_3 hs (by omega) (by omega) (by omega) (by omega) (by omega) (by omega) (by omega) (by omega) q14 q15 q16 q17 (⟨_, rfl, ?_⟩)
      refine ⟨fun h_3 => ?_, fun h_3 => ?_⟩
      · exfalso; omega
      · refine zx2855_16 hs (by omega) (by omega) (by omega) (by omega) (by omega) (by omega) (by omega) (by omega) (by omega) (by omega) (by omega) (by omega) (by omega) (by omega) q14 q15 q16 q17 q18 q19 q20 q21 q22 (fun s_4 hs_5 q_6 q_7 q_8 q_9 q_10 q_11 q_12 q_13 q_14 q_15 q_16 q_17 q_18 q_19 q_20 q_21 q_22 q_23 q_24 q_25 q_26 q_27 q_28 q_29 => ⟨_, rfl, ?_⟩)
        exact k s_4 hs_5 (by omega) (by omega) (by omega) (by omega) (by omega) (by omega) (by omega) (by omega) (by omega) (by omega) (by omega) (by omega) (by omega) (by omega) (by omega) q_21 q_22 q_23 q_24 q_25 q_26 q_27 q_28 q_29
    · exfalso; omega
  · exfalso; omega
set_option maxRecDepth 100000 in
/-- GatheredPoints.judge [(3, 3), (1, 1)] -/
theorem zx2846_17 {z : gH} {L d : Nat} {K : Option gV → gH → Prop} {s : gH}  (hs : xM z s)  (q0 : gp_I s 1 2 = 0) (q1 : gp_I s 1 6 = 0) (q2 : gp_I s 1 7 = 1) (q3 : gp_I s 51 8 = 0) (q4 : gp_I s 57 1 = 0) (q5 : gp_I s 57 3 = 0) (q6 : gp_I s 72 0 = 0) (q7 : gp_I s 72 1 = 0) (q8 : gp_I s 72 2 = 0) (q9 : gp_I s 72 3 = 0) (q10 : gp_I s 73 0 = 0) (q11 : gp_I s 73 1 = 0) (q12 : gp_I s 73 2 = 0) (q13 : gp_I s 73 3 = 0) (q14 : gp_R s 25 6 = none) (q15 : gp_R s 25 7 = none) (q16 : gp_R s 25 8 = none) (q17 : gp_R s 25 9 = none) (q18 : ∀ k, k < 8 → gp_R s 4 k = some 25) (q19 : gp_R s 51 6 = some 55) (q20 : gp_R s 51 7 = some 56) (q21 : gp_us s = 606895) (q22 : gp_sz s = 117) (k : ∀ (t : gH), xM z t → (gp_I t 1 2 = 0) → (gp_I t 1 6 = 0) → (gp_I t 1 7 = 1) → ((-2147483648) ≤ gp_I t 2 2 ∧ gp_I t 2 2 ≤ 2147483647) → (gp_I t 51 8 = 0) → (gp_I t 57 1 = 0) → (gp_I t 57 3 = 0) → (gp_I t 72 0 = 0) → (gp_I t 72 1 = 0) → (gp_I t 72 2 = 0) → (gp_I t 72 3 = 0) → (gp_I t 73 0 = 0) → (gp_I t 73 1 = 0) → (gp_I t 73 2 = 0) → (gp_I t 73 3 = 0) → (gp_R t 25 6 = none) → (gp_R t 25 7 = none) → (gp_R t 25 8 = none) → (gp_R t 25 9 = none) → (∀ k, k < 8 → gp_R t 4 k = some 25) → (gp_R t 51 6 = some 55) → (gp_R t 51 7 = some 56) → (gp_us t = 606895) → (gp_sz t = 117) → K (some (gp_i (-1000000002))) t) : gs_C L (d + 1) 2846 4 [gp_r (some 1), gp_i 3, gp_i 1] s K := by
  refine s_2846_e _ _ ?_
  refine zx1793_5 hs (by omega) (by omega) (by omega) (by omega) (by omega) (by omega) (by omega) (by omega) q14 q15 q16 q17 (⟨_, rfl, ?_⟩)
  refine ⟨fun h_1 => ?_, fun h_1 => ?_⟩
  · refine zx2857_3 hs (by omega) (by omega) (by omega) (by omega) (by omega) (by omega) q14 q15 q16 q17 q18 q19 q20 (⟨_, rfl, ?_⟩)
    refine ⟨fun h_2 => ?_, fun h_2 => ?_⟩
    · refine zx1794_3 hs (by omega) (by omega) (by omega) (by omega) (by omega) (by omega) (by omega) (by omega) q14 q15 q16 q17 (⟨_, rfl, ?_⟩)
      refine ⟨fun h_3 => ?_, fun h_3 => ?_⟩
      · exfalso; omega
      · refine zx2855_16 hs (by omega) (by omega) (by omega) (by omega) (by omega) (by omega) (by omega) (by omega) (by omega) (by omega) (by omega) (by omega) (by omega) (by omega) q14 q15 q16 q17 q18 q19 q20 q21 q22 (fun s_4 hs_5 q_6 q_7 q_8 q_9 q_10 q_11 q_12 q_13 q_14 q_15 q_16 q_17 q_18 q_19 q_20 q_21 q_22 q_23 q_24 q_25 q_26 q_27 q_28 q_29 => ⟨_, rfl, ?_⟩)
        exact k s_4 hs_5 (by omega) (by omega) (by omega) (by omega) (by omega) (by omega) (by omega) (by omega) (by omega) (by omega) (by omega) (by omega) (by omega) (by omega) (by omega) q_21 q_22 q_23 q_24 q_25 q_26 q_27 q_28 q_29
    · exfalso; omega
  · exfalso; omega
set_option maxRecDepth 100000 in
/-- GatheredPoints.seed [(-2147483648, 2147483647)] -/
theorem zx2847_0 {z : gH} {L d : Nat} {K : Option gV → gH → Prop} {s : gH} (p0 : Int) (hs : xM z s) (h_p0 : (-2147483648) ≤ p0 ∧ p0 ≤ 2147483647) (q0 : gp_I s 1 2 = 0) (q1 : gp_I s 1 6 = 0) (q2 : gp_I s 1 7 = 1) (q3 : gp_I s 51 8 = 0) (q4 : gp_I s 57 1 = 0) (q5 : gp_I s 57 3 = 0) (q6 : ∀ k, k < 8 → gp_R s 4 k = some 25) (q7 : gp_R s 51 6 = some 55) (q8 : gp_R s 51 7 = some 56) (q9 : gp_us s = 606895) (q10 : gp_sz s = 117) (k : ∀ (t : gH), xM z t → (gp_I t 1 2 = 0) → (gp_I t 1 6 = 0) → ((-2147483648) ≤ gp_I t 1 7 ∧ gp_I t 1 7 ≤ 2147483647) → (gp_I t 51 8 = 0) → (gp_I t 57 1 = 0) → (gp_I t 57 3 = 0) → (∀ k, k < 8 → gp_R t 4 k = some 25) → (gp_R t 51 6 = some 55) → (gp_R t 51 7 = some 56) → (gp_us t = 606895) → (gp_sz t = 117) → K (some (gp_i 1)) t) : gs_C L d 2847 3 [gp_r (some 1), gp_i p0] s K := by
  refine s_2847_e _ ?_
  try rw [show gp_I s 1 7 = 1 from q2]
  intro s_1 e_2
  have hs_3 : xM z s_1 := by rw [e_2]; exact xw1_7 hs 0 _
  have q_4 : gp_I s_1 1 2 = 0 := by rw [e_2]; exact q0
  have q_5 : gp_I s_1 1 6 = 0 := by rw [e_2]; exact q1
  have q_6 : gp_I s_1 51 8 = 0 := by rw [e_2]; exact q3
  have q_7 : gp_I s_1 57 1 = 0 := by rw [e_2]; exact q4
  have q_8 : gp_I s_1 57 3 = 0 := by rw [e_2]; exact q5
  have q_9 : ∀ k, k < 8 → gp_R s_1 4 k = some 25 := by rw [e_2]; exact q6
  have q_10 : gp_R s_1 51 6 = some 55 := by rw [e_2]; exact q7
  have q_11 : gp_R s_1 51 7 = some 56 := by rw [e_2]; exact q8
  have q_12 : gp_us s_1 = 606895 := by rw [e_2]; exact q9
  have q_13 : gp_sz s_1 = 117 := by rw [e_2]; exact q10
  have q_14 : (-2147483648) ≤ gp_I s_1 1 7 ∧ gp_I s_1 1 7 ≤ 2147483647 := by have x_15 : gp_I s_1 1 7 = p0 := (by rw [e_2]; rfl); omega
  exact k s_1 hs_3 (by omega) (by omega) (by omega) (by omega) (by omega) (by omega) q_9 q_10 q_11 q_12 q_13
set_option maxRecDepth 100000 in
/-- GatheredPoints.image, the loop at 2 -/
theorem zx2848_0_l2_0 {z : gH} {L d : Nat} {K : Option gV → gH → Prop}   (k : ∀ (t : gH), xM z t → (gp_I t 1 2 = 0) → (gp_I t 1 6 = 1) → (gp_I t 1 7 = 1) → (gp_I t 51 8 = 0) → (gp_I t 57 1 = 0) → (gp_I t 57 3 = 0) → (∀ k, k < 8 → gp_R t 4 k = some 25) → (gp_R t 51 6 = some 55) → (gp_R t 51 7 = some 56) → (gp_us t = 606895) → (gp_sz t = 117) → K (some (gp_i 1)) t)  : ∀ (n : Nat) (v1 : Int) (s : gH), xM z s → (9 - v1).toNat < n → (0 ≤ v1 ∧ v1 ≤ 8) → (gp_I s 1 2 = 0) → (gp_I s 1 6 = 0) → (gp_I s 1 7 = 1) → (gp_I s 51 8 = 0) → (gp_I s 57 1 = 0) → (gp_I s 57 3 = 0) → (∀ k, k < 8 → gp_R s 4 k = some 25) → (gp_R s 51 6 = some 55) → (gp_R s 51 7 = some 56) → (gp_us s = 606895) → (gp_sz s = 117) → gs_E L d 2848 2 [gp_r (some 1), gp_i v1] [] s K := by
  intro n
  induction n with
  | zero => intro v1 s hs hm i0 i1 i2 i3 i4 i5 i6 i7 i8 i9 i10 i11; exact absurd hm (Nat.not_lt_zero _)
  | succ n ih =>
    intro v1 s hs hm i0 i1 i2 i3 i4 i5 i6 i7 i8 i9 i10 i11
    refine s_2848_2 _ ?_
    refine ⟨fun h_1 => ?_, fun h_1 => ?_⟩
    · refine ⟨by omega, ?_⟩
      try rw [show gp_R (gp_mk L s) 4 v1.toNat = some 25 from (i7 _ (by omega))]
      refine ⟨25, rfl, ?_⟩
      refine ⟨by omega, ?_⟩
      refine ⟨rfl, ?_⟩
      intro s_2 e_3
      have hs_4 : xM z s_2 := by rw [e_3]; exact xI.wR hs _ _ _
      have q_5 : gp_I s_2 1 2 = 0 := by rw [e_3]; exact i1
      have q_6 : gp_I s_2 1 6 = 0 := by rw [e_3]; exact i2
      have q_7 : gp_I s_2 1 7 = 1 := by rw [e_3]; exact i3
      have q_8 : gp_I s_2 51 8 = 0 := by rw [e_3]; exact i4
      have q_9 : gp_I s_2 57 1 = 0 := by rw [e_3]; exact i5
      have q_10 : gp_I s_2 57 3 = 0 := by rw [e_3]; exact i6
      have q_11 : ∀ k, k < 8 → gp_R s_2 4 k = some 25 := by rw [e_3]; exact i7
      have q_12 : gp_R s_2 51 6 = some 55 := by rw [e_3]; exact i8
      have q_13 : gp_R s_2 51 7 = some 56 := by rw [e_3]; exact i9
      have q_14 : gp_us s_2 = 606895 := by rw [e_3]; exact i10
      have q_15 : gp_sz s_2 = 117 := by rw [e_3]; exact i11
      have w_16 := gz_w (v1 + 1)
      exact ih _ s_2 hs_4 (by omega) (by omega) (by omega) (by omega) (by omega) (by omega) (by omega) (by omega) q_11 q_12 q_13 q_14 q_15
    · have e_17 : v1 = 8 := by omega
      subst e_17
      try rw [show gp_I s 1 7 = 1 from i3]
      intro s_18 e_19
      have hs_20 : xM z s_18 := by rw [e_19]; exact xw1_5 hs 0 _
      have q_21 : gp_I s_18 1 2 = 0 := by rw [e_19]; exact i1
      have q_22 : gp_I s_18 1 6 = 0 := by rw [e_19]; exact i2
      have q_23 : gp_I s_18 1 7 = 1 := by rw [e_19]; exact i3
      have q_24 : gp_I s_18 51 8 = 0 := by rw [e_19]; exact i4
      have q_25 : gp_I s_18 57 1 = 0 := by rw [e_19]; exact i5
      have q_26 : gp_I s_18 57 3 = 0 := by rw [e_19]; exact i6
      have q_27 : ∀ k, k < 8 → gp_R s_18 4 k = some 25 := by rw [e_19]; exact i7
      have q_28 : gp_R s_18 51 6 = some 55 := by rw [e_19]; exact i8
      have q_29 : gp_R s_18 51 7 = some 56 := by rw [e_19]; exact i9
      have q_30 : gp_us s_18 = 606895 := by rw [e_19]; exact i10
      have q_31 : gp_sz s_18 = 117 := by rw [e_19]; exact i11
      try rw [show gp_I s_18 1 6 = 0 from q_22]
      have w_32 := gz_w (0 + 1)
      have e_33 : gp_wr (0 + 1) = 1 := by omega
      try rw [e_33]
      intro s_34 e_35
      have hs_36 : xM z s_34 := by rw [e_35]; exact xw1_6 hs_20 0 _
      have q_37 : gp_I s_34 1 2 = 0 := by rw [e_35]; exact q_21
      have q_38 : gp_I s_34 1 7 = 1 := by rw [e_35]; exact q_23
      have q_39 : gp_I s_34 51 8 = 0 := by rw [e_35]; exact q_24
      have q_40 : gp_I s_34 57 1 = 0 := by rw [e_35]; exact q_25
      have q_41 : gp_I s_34 57 3 = 0 := by rw [e_35]; exact q_26
      have q_42 : ∀ k, k < 8 → gp_R s_34 4 k = some 25 := by rw [e_35]; exact q_27
      have q_43 : gp_R s_34 51 6 = some 55 := by rw [e_35]; exact q_28
      have q_44 : gp_R s_34 51 7 = some 56 := by rw [e_35]; exact q_29
      have q_45 : gp_us s_34 = 606895 := by rw [e_35]; exact q_30
      have q_46 : gp_sz s_34 = 117 := by rw [e_35]; exact q_31
      have q_47 : gp_I s_34 1 6 = 1 := by rw [e_35]; rfl
      try rw [show gp_I s_34 1 6 = 1 from q_47]
      exact k s_34 hs_36 (by omega) (by omega) (by omega) (by omega) (by omega) (by omega) q_42 q_43 q_44 q_45 q_46
set_option maxRecDepth 100000 in
/-- GatheredPoints.image [] -/
theorem zx2848_0 {z : gH} {L d : Nat} {K : Option gV → gH → Prop} {s : gH}  (hs : xM z s)  (q0 : gp_I s 1 2 = 0) (q1 : gp_I s 1 6 = 0) (q2 : gp_I s 1 7 = 1) (q3 : gp_I s 51 8 = 0) (q4 : gp_I s 57 1 = 0) (q5 : gp_I s 57 3 = 0) (q6 : ∀ k, k < 8 → gp_R s 4 k = some 25) (q7 : gp_R s 51 6 = some 55) (q8 : gp_R s 51 7 = some 56) (q9 : gp_us s = 606895) (q10 : gp_sz s = 117) (k : ∀ (t : gH), xM z t → (gp_I t 1 2 = 0) → (gp_I t 1 6 = 1) → (gp_I t 1 7 = 1) → (gp_I t 51 8 = 0) → (gp_I t 57 1 = 0) → (gp_I t 57 3 = 0) → (∀ k, k < 8 → gp_R t 4 k = some 25) → (gp_R t 51 6 = some 55) → (gp_R t 51 7 = some 56) → (gp_us t = 606895) → (gp_sz t = 117) → K (some (gp_i 1)) t) : gs_C L d 2848 2 [gp_r (some 1)] s K := by
  refine s_2848_e ?_
  exact zx2848_0_l2_0 k _ _ s hs (Nat.lt_succ_self _) (by omega) (by omega) (by omega) (by omega) (by omega) (by omega) (by omega) q6 q7 q8 q9 q10
set_option maxRecDepth 100000 in
/-- GatheredPoints.refused [(2, 2)] -/
theorem zx2855_17 {z : gH} {L d : Nat} {K : Option gV → gH → Prop} {s : gH}  (hs : xM z s)  (q0 : gp_I s 1 2 = 0) (q1 : gp_I s 1 6 = 0) (q2 : gp_I s 1 7 = 1) (q3 : gp_I s 51 8 = 0) (q4 : gp_I s 57 1 = 0) (q5 : gp_I s 57 3 = 0) (q6 : ∀ k, k < 8 → gp_R s 4 k = some 25) (q7 : gp_R s 51 6 = some 55) (q8 : gp_R s 51 7 = some 56) (q9 : gp_us s = 606895) (q10 : gp_sz s = 117) (k : ∀ (t : gH), xM z t → (gp_I t 1 2 = 0) → (gp_I t 1 6 = 0) → (gp_I t 1 7 = 1) → ((-2147483648) ≤ gp_I t 2 2 ∧ gp_I t 2 2 ≤ 2147483647) → (gp_I t 51 8 = 0) → (gp_I t 57 1 = 0) → (gp_I t 57 3 = 0) → (∀ k, k < 8 → gp_R t 4 k = some 25) → (gp_R t 51 6 = some 55) → (gp_R t 51 7 = some 56) → (gp_us t = 606895) → (gp_sz t = 117) → K (some (gp_i (-1000000002))) t) : gs_C L d 2855 2 [gp_r (some 1), gp_i 2] s K := by
  refine s_2855_e _ ?_
  refine ⟨by omega, ?_⟩
  have w_1 := gz_w ((gp_I s 2 (2 : Int).toNat) + 1)
  refine ⟨by omega, ?_⟩
  intro s_2 e_3
  have hs_4 : xM z s_2 := by rw [e_3]; exact xw2 hs _ _
  have q_5 : gp_I s_2 1 2 = 0 := by rw [e_3]; exact q0
  have q_6 : gp_I s_2 1 6 = 0 := by rw [e_3]; exact q1
  have q_7 : gp_I s_2 1 7 = 1 := by rw [e_3]; exact q2
  have q_8 : gp_I s_2 51 8 = 0 := by rw [e_3]; exact q3
  have q_9 : gp_I s_2 57 1 = 0 := by rw [e_3]; exact q4
  have q_10 : gp_I s_2 57 3 = 0 := by rw [e_3]; exact q5
  have q_11 : ∀ k, k < 8 → gp_R s_2 4 k = some 25 := by rw [e_3]; exact q6
  have q_12 : gp_R s_2 51 6 = some 55 := by rw [e_3]; exact q7
  have q_13 : gp_R s_2 51 7 = some 56 := by rw [e_3]; exact q8
  have q_14 : gp_us s_2 = 606895 := by rw [e_3]; exact q9
  have q_15 : gp_sz s_2 = 117 := by rw [e_3]; exact q10
  have q_16 : (-2147483648) ≤ gp_I s_2 2 2 ∧ gp_I s_2 2 2 ≤ 2147483647 := by have x_17 : gp_I s_2 2 2 = gp_wr ((gp_I s 2 (2 : Int).toNat) + 1) := (by rw [e_3]; rfl); omega
  have w_18 := gz_w ((-1000000000) - 2)
  have e_19 : gp_wr ((-1000000000) - 2) = (-1000000002) := by omega
  try rw [e_19]
  exact k s_2 hs_4 (by omega) (by omega) (by omega) (by omega) (by omega) (by omega) (by omega) q_11 q_12 q_13 q_14 q_15
set_option maxRecDepth 100000 in
/-- GatheredPoints.restore [] -/
theorem zx2849_0 {z : gH} {L d : Nat} {K : Option gV → gH → Prop} {s : gH}  (hs : xM z s)  (q0 : gp_I s 1 2 = 0) (q1 : gp_I s 1 6 = 0) (q2 : gp_I s 1 7 = 1) (q3 : gp_I s 51 8 = 0) (q4 : gp_I s 57 1 = 0) (q5 : gp_I s 57 3 = 0) (q6 : ∀ k, k < 8 → gp_R s 4 k = some 25) (q7 : gp_R s 51 6 = some 55) (q8 : gp_R s 51 7 = some 56) (q9 : gp_us s = 606895) (q10 : gp_sz s = 117) (k : ∀ (t : gH), xM z t → (gp_I t 1 2 = 0) → (gp_I t 1 6 = 0) → (gp_I t 1 7 = 1) → ((-2147483648) ≤ gp_I t 2 2 ∧ gp_I t 2 2 ≤ 2147483647) → (gp_I t 51 8 = 0) → (gp_I t 57 1 = 0) → (gp_I t 57 3 = 0) → (∀ k, k < 8 → gp_R t 4 k = some 25) → (gp_R t 51 6 = some 55) → (gp_R t 51 7 = some 56) → (gp_us t = 606895) → (gp_sz t = 117) → K (some (gp_i (-1000000002))) t) : gs_C L (d + 1) 2849 2 [gp_r (some 1)] s K := by
  refine s_2849_e ?_
  try rw [show gp_I s 1 6 = 0 from q1]
  refine ⟨fun h_1 => ?_, fun h_1 => ?_⟩
  · refine zx2855_17 hs (by omega) (by omega) (by omega) (by omega) (by omega) (by omega) q6 q7 q8 q9 q10 (fun s_2 hs_3 q_4 q_5 q_6 q_7 q_8 q_9 q_10 q_11 q_12 q_13 q_14 q_15 => ⟨_, rfl, ?_⟩)
    exact k s_2 hs_3 (by omega) (by omega) (by omega) (by omega) (by omega) (by omega) (by omega) q_11 q_12 q_13 q_14 q_15
  · exfalso; omega
set_option maxRecDepth 100000 in
/-- GatheredPoints.count [(-2147483648, -1)] -/
theorem zx2850_0 {z : gH} {L d : Nat} {K : Option gV → gH → Prop} {s : gH} (p0 : Int) (hs : xM z s) (h_p0 : (-2147483648) ≤ p0 ∧ p0 ≤ (-1)) (q0 : gp_I s 1 2 = 0) (q1 : gp_I s 1 6 = 0) (q2 : gp_I s 1 7 = 1) (q3 : gp_I s 51 8 = 0) (q4 : gp_I s 57 1 = 0) (q5 : gp_I s 57 3 = 0) (q6 : gp_R s 25 6 = none) (q7 : gp_R s 25 7 = none) (q8 : gp_R s 25 8 = none) (q9 : gp_R s 25 9 = none) (q10 : ∀ k, k < 8 → gp_R s 4 k = some 25) (q11 : gp_R s 51 6 = some 55) (q12 : gp_R s 51 7 = some 56) (q13 : gp_us s = 606895) (q14 : gp_sz s = 117) (k : ∀ (t : gH), xM z t → (gp_I t 1 2 = 0) → (gp_I t 1 6 = 0) → (gp_I t 1 7 = 1) → ((-2147483648) ≤ gp_I t 2 1 ∧ gp_I t 2 1 ≤ 2147483647) → (gp_I t 51 8 = 0) → (gp_I t 57 1 = 0) → (gp_I t 57 3 = 0) → (gp_R t 25 6 = none) → (gp_R t 25 7 = none) → (gp_R t 25 8 = none) → (gp_R t 25 9 = none) → (∀ k, k < 8 → gp_R t 4 k = some 25) → (gp_R t 51 6 = some 55) → (gp_R t 51 7 = some 56) → (gp_us t = 606895) → (gp_sz t = 117) → K (some (gp_i (-1000000001))) t) : gs_C L (d + 1) 2850 2 [gp_r (some 1), gp_i p0] s K := by
  refine s_2850_e _ ?_
  refine ⟨fun h_1 => ?_, fun h_1 => ?_, fun h_1 => ?_, fun h_1 => ?_, fun h_1 => ?_, fun h_1 => ?_⟩
  · exfalso; omega
  · exfalso; omega
  · exfalso; omega
  · exfalso; omega
  · exfalso; omega
  · refine zx2855_4 hs (by omega) (by omega) (by omega) (by omega) (by omega) (by omega) q6 q7 q8 q9 q10 q11 q12 q13 q14 (fun s_2 hs_3 q_4 q_5 q_6 q_7 q_8 q_9 q_10 q_11 q_12 q_13 q_14 q_15 q_16 q_17 q_18 q_19 => ⟨_, rfl, ?_⟩)
    exact k s_2 hs_3 (by omega) (by omega) (by omega) (by omega) (by omega) (by omega) (by omega) q_11 q_12 q_13 q_14 q_15 q_16 q_17 q_18 q_19
set_option maxRecDepth 100000 in
/-- GatheredPoints.sizes [] -/
theorem zx2852_0 {z : gH} {L d : Nat} {K : Option gV → gH → Prop} {s : gH}  (hs : xM z s)  (q0 : gp_I s 1 2 = 0) (q1 : gp_I s 1 6 = 0) (q2 : gp_I s 1 7 = 1) (q3 : gp_I s 51 8 = 0) (q4 : gp_I s 57 1 = 0) (q5 : gp_I s 57 3 = 0) (q6 : gp_R s 25 6 = none) (q7 : gp_R s 25 7 = none) (q8 : gp_R s 25 8 = none) (q9 : gp_R s 25 9 = none) (q10 : ∀ k, k < 8 → gp_R s 4 k = some 25) (q11 : gp_R s 51 6 = some 55) (q12 : gp_R s 51 7 = some 56) (k : K (some (gp_i 8)) s) : gs_C L d 2852 3 [gp_r (some 1)] s K := by
  refine s_2852_e ?_
  refine s_2852_4 _ _ ?_
  refine ⟨fun h_1 => ?_, fun h_1 => ?_⟩
  · refine ⟨by omega, ?_⟩
    try rw [show gp_R (gp_mk L s) 4 (0 : Int).toNat = some 25 from (q10 _ (by omega))]
    refine ⟨25, rfl, ?_⟩
    refine ⟨rfl, ?_⟩
    have f_2 := xr25_0 hs 0
    have e_3 : gp_I s 25 0 = 1 := by omega
    try rw [e_3]
    have w_4 := gz_w (0 + 1)
    have e_5 : gp_wr (0 + 1) = 1 := by omega
    try rw [e_5]
    have w_6 := gz_w (0 + 1)
    have e_7 : gp_wr (0 + 1) = 1 := by omega
    try rw [e_7]
    refine s_2852_4 _ _ ?_
    refine ⟨fun h_8 => ?_, fun h_8 => ?_⟩
    · refine ⟨by omega, ?_⟩
      try rw [show gp_R (gp_mk L s) 4 (1 : Int).toNat = some 25 from (q10 _ (by omega))]
      refine ⟨25, rfl, ?_⟩
      refine ⟨rfl, ?_⟩
      have f_9 := xr25_0 hs 0
      have e_10 : gp_I s 25 0 = 1 := by omega
      try rw [e_10]
      have w_11 := gz_w (1 + 1)
      have e_12 : gp_wr (1 + 1) = 2 := by omega
      try rw [e_12]
      have w_13 := gz_w (1 + 1)
      have e_14 : gp_wr (1 + 1) = 2 := by omega
      try rw [e_14]
      refine s_2852_4 _ _ ?_
      refine ⟨fun h_15 => ?_, fun h_15 => ?_⟩
      · refine ⟨by omega, ?_⟩
        try rw [show gp_R (gp_mk L s) 4 (2 : Int).toNat = some 25 from (q10 _ (by omega))]
        refine ⟨25, rfl, ?_⟩
        refine ⟨rfl, ?_⟩
        have f_16 := xr25_0 hs 0
        have e_17 : gp_I s 25 0 = 1 := by omega
        try rw [e_17]
        have w_18 := gz_w (2 + 1)
        have e_19 : gp_wr (2 + 1) = 3 := by omega
        try rw [e_19]
        have w_20 := gz_w (2 + 1)
        have e_21 : gp_wr (2 + 1) = 3 := by omega
        try rw [e_21]
        refine s_2852_4 _ _ ?_
        refine ⟨fun h_22 => ?_, fun h_22 => ?_⟩
        · refine ⟨by omega, ?_⟩
          try rw [show gp_R (gp_mk L s) 4 (3 : Int).toNat = some 25 from (q10 _ (by omega))]
          refine ⟨25, rfl, ?_⟩
          refine ⟨rfl, ?_⟩
          have f_23 := xr25_0 hs 0
          have e_24 : gp_I s 25 0 = 1 := by omega
          try rw [e_24]
          have w_25 := gz_w (3 + 1)
          have e_26 : gp_wr (3 + 1) = 4 := by omega
          try rw [e_26]
          have w_27 := gz_w (3 + 1)
          have e_28 : gp_wr (3 + 1) = 4 := by omega
          try rw [e_28]
          refine s_2852_4 _ _ ?_
          refine ⟨fun h_29 => ?_, fun h_29 => ?_⟩
          · refine ⟨by omega, ?_⟩
            try rw [show gp_R (gp_mk L s) 4 (4 : Int).toNat = some 25 from (q10 _ (by omega))]
            refine ⟨25, rfl, ?_⟩
            refine ⟨rfl, ?_⟩
            have f_30 := xr25_0 hs 0
            have e_31 : gp_I s 25 0 = 1 := by omega
            try rw [e_31]
            have w_32 := gz_w (4 + 1)
            have e_33 : gp_wr (4 + 1) = 5 := by omega
            try rw [e_33]
            have w_34 := gz_w (4 + 1)
            have e_35 : gp_wr (4 + 1) = 5 := by omega
            try rw [e_35]
            refine s_2852_4 _ _ ?_
            refine ⟨fun h_36 => ?_, fun h_36 => ?_⟩
            · refine ⟨by omega, ?_⟩
              try rw [show gp_R (gp_mk L s) 4 (5 : Int).toNat = some 25 from (q10 _ (by omega))]
              refine ⟨25, rfl, ?_⟩
              refine ⟨rfl, ?_⟩
              have f_37 := xr25_0 hs 0
              have e_38 : gp_I s 25 0 = 1 := by omega
              try rw [e_38]
              have w_39 := gz_w (5 + 1)
              have e_40 : gp_wr (5 + 1) = 6 := by omega
              try rw [e_40]
              have w_41 := gz_w (5 + 1)
              have e_42 : gp_wr (5 + 1) = 6 := by omega
              try rw [e_42]
              refine s_2852_4 _ _ ?_
              refine ⟨fun h_43 => ?_, fun h_43 => ?_⟩
              · refine ⟨by omega, ?_⟩
                try rw [show gp_R (gp_mk L s) 4 (6 : Int).toNat = some 25 from (q10 _ (by omega))]
                refine ⟨25, rfl, ?_⟩
                refine ⟨rfl, ?_⟩
                have f_44 := xr25_0 hs 0
                have e_45 : gp_I s 25 0 = 1 := by omega
                try rw [e_45]
                have w_46 := gz_w (6 + 1)
                have e_47 : gp_wr (6 + 1) = 7 := by omega
                try rw [e_47]
                have w_48 := gz_w (6 + 1)
                have e_49 : gp_wr (6 + 1) = 7 := by omega
                try rw [e_49]
                refine s_2852_4 _ _ ?_
                refine ⟨fun h_50 => ?_, fun h_50 => ?_⟩
                · refine ⟨by omega, ?_⟩
                  try rw [show gp_R (gp_mk L s) 4 (7 : Int).toNat = some 25 from (q10 _ (by omega))]
                  refine ⟨25, rfl, ?_⟩
                  refine ⟨rfl, ?_⟩
                  have f_51 := xr25_0 hs 0
                  have e_52 : gp_I s 25 0 = 1 := by omega
                  try rw [e_52]
                  have w_53 := gz_w (7 + 1)
                  have e_54 : gp_wr (7 + 1) = 8 := by omega
                  try rw [e_54]
                  have w_55 := gz_w (7 + 1)
                  have e_56 : gp_wr (7 + 1) = 8 := by omega
                  try rw [e_56]
                  refine s_2852_4 _ _ ?_
                  refine ⟨fun h_57 => ?_, fun h_57 => ?_⟩
                  · exfalso; omega
                  · exact k
                · exfalso; omega
              · exfalso; omega
            · exfalso; omega
          · exfalso; omega
        · exfalso; omega
      · exfalso; omega
    · exfalso; omega
  · exfalso; omega
set_option maxRecDepth 100000 in
/-- GatheredPoints.count [(0, 0)] -/
theorem zx2850_1 {z : gH} {L d : Nat} {K : Option gV → gH → Prop} {s : gH}  (hs : xM z s)  (q0 : gp_I s 1 2 = 0) (q1 : gp_I s 1 6 = 0) (q2 : gp_I s 1 7 = 1) (q3 : gp_I s 51 8 = 0) (q4 : gp_I s 57 1 = 0) (q5 : gp_I s 57 3 = 0) (q6 : gp_R s 25 6 = none) (q7 : gp_R s 25 7 = none) (q8 : gp_R s 25 8 = none) (q9 : gp_R s 25 9 = none) (q10 : ∀ k, k < 8 → gp_R s 4 k = some 25) (q11 : gp_R s 51 6 = some 55) (q12 : gp_R s 51 7 = some 56) (q13 : gp_us s = 606895) (q14 : gp_sz s = 117) (k : K (some (gp_i 8)) s) : gs_C L (d + 1) 2850 2 [gp_r (some 1), gp_i 0] s K := by
  refine s_2850_e _ ?_
  refine ⟨fun h_1 => ?_, fun h_1 => ?_, fun h_1 => ?_, fun h_1 => ?_, fun h_1 => ?_, fun h_1 => ?_⟩
  · refine zx2852_0 hs (by omega) (by omega) (by omega) (by omega) (by omega) (by omega) q6 q7 q8 q9 q10 q11 q12 (⟨_, rfl, ?_⟩)
    exact k
  · exfalso; omega
  · exfalso; omega
  · exfalso; omega
  · exfalso; omega
  · exfalso; omega
set_option maxRecDepth 100000 in
/-- GatheredPoints.sureSlots [] -/
theorem zx2853_0 {z : gH} {L d : Nat} {K : Option gV → gH → Prop} {s : gH}  (hs : xM z s)  (q0 : gp_I s 1 2 = 0) (q1 : gp_I s 1 6 = 0) (q2 : gp_I s 1 7 = 1) (q3 : gp_I s 51 8 = 0) (q4 : gp_I s 57 1 = 0) (q5 : gp_I s 57 3 = 0) (q6 : gp_R s 25 6 = none) (q7 : gp_R s 25 7 = none) (q8 : gp_R s 25 8 = none) (q9 : gp_R s 25 9 = none) (q10 : ∀ k, k < 8 → gp_R s 4 k = some 25) (q11 : gp_R s 51 6 = some 55) (q12 : gp_R s 51 7 = some 56) (q13 : gp_us s = 606895) (q14 : gp_sz s = 117) (k : ∀ (t : gH), xM z t → (gp_I t 1 2 = 0) → (gp_I t 1 6 = 0) → (gp_I t 1 7 = 1) → (gp_I t 51 8 = 0) → (gp_I t 57 1 = 0) → (gp_I t 57 3 = 0) → (gp_R t 25 6 = none) → (gp_R t 25 7 = none) → (gp_R t 25 8 = none) → (gp_R t 25 9 = none) → (∀ k, k < 8 → gp_R t 4 k = some 25) → (gp_R t 51 6 = some 55) → (gp_R t 51 7 = some 56) → (gp_us t = 606895) → (gp_sz t = 117) → K (some (gp_i 8)) t) : gs_C L (d + 3) 2853 3 [gp_r (some 1)] s K := by
  refine s_2853_e ?_
  refine s_2853_4 _ _ ?_
  refine ⟨fun h_1 => ?_, fun h_1 => ?_⟩
  · refine ⟨by omega, ?_⟩
    try rw [show gp_R (gp_mk L s) 4 (0 : Int).toNat = some 25 from (q10 _ (by omega))]
    refine zx776_1 hs (by omega) (by omega) (by omega) (by omega) (by omega) (by omega) q6 q7 q8 q9 q10 q11 q12 q13 q14 (fun s_2 hs_3 q_4 q_5 q_6 q_7 q_8 q_9 q_10 q_11 q_12 q_13 q_14 q_15 q_16 q_17 q_18 => ⟨_, rfl, ?_⟩)
    refine ⟨fun h_19 => ?_, fun h_19 => ?_⟩
    · exfalso; omega
    · have w_20 := gz_w (0 + 1)
      have e_21 : gp_wr (0 + 1) = 1 := by omega
      try rw [e_21]
      refine s_2853_29 _ _ ?_
      have w_22 := gz_w (0 + 1)
      have e_23 : gp_wr (0 + 1) = 1 := by omega
      try rw [e_23]
      refine s_2853_4 _ _ ?_
      refine ⟨fun h_24 => ?_, fun h_24 => ?_⟩
      · refine ⟨by omega, ?_⟩
        try rw [show gp_R (gp_mk L s_2) 4 (1 : Int).toNat = some 25 from (q_14 _ (by omega))]
        refine zx776_1 hs_3 (by omega) (by omega) (by omega) (by omega) (by omega) (by omega) q_10 q_11 q_12 q_13 q_14 q_15 q_16 q_17 q_18 (fun s_25 hs_26 q_27 q_28 q_29 q_30 q_31 q_32 q_33 q_34 q_35 q_36 q_37 q_38 q_39 q_40 q_41 => ⟨_, rfl, ?_⟩)
        refine ⟨fun h_42 => ?_, fun h_42 => ?_⟩
        · exfalso; omega
        · have w_43 := gz_w (1 + 1)
          have e_44 : gp_wr (1 + 1) = 2 := by omega
          try rw [e_44]
          refine s_2853_29 _ _ ?_
          have w_45 := gz_w (1 + 1)
          have e_46 : gp_wr (1 + 1) = 2 := by omega
          try rw [e_46]
          refine s_2853_4 _ _ ?_
          refine ⟨fun h_47 => ?_, fun h_47 => ?_⟩
          · refine ⟨by omega, ?_⟩
            try rw [show gp_R (gp_mk L s_25) 4 (2 : Int).toNat = some 25 from (q_37 _ (by omega))]
            refine zx776_1 hs_26 (by omega) (by omega) (by omega) (by omega) (by omega) (by omega) q_33 q_34 q_35 q_36 q_37 q_38 q_39 q_40 q_41 (fun s_48 hs_49 q_50 q_51 q_52 q_53 q_54 q_55 q_56 q_57 q_58 q_59 q_60 q_61 q_62 q_63 q_64 => ⟨_, rfl, ?_⟩)
            refine ⟨fun h_65 => ?_, fun h_65 => ?_⟩
            · exfalso; omega
            · have w_66 := gz_w (2 + 1)
              have e_67 : gp_wr (2 + 1) = 3 := by omega
              try rw [e_67]
              refine s_2853_29 _ _ ?_
              have w_68 := gz_w (2 + 1)
              have e_69 : gp_wr (2 + 1) = 3 := by omega
              try rw [e_69]
              refine s_2853_4 _ _ ?_
              refine ⟨fun h_70 => ?_, fun h_70 => ?_⟩
              · refine ⟨by omega, ?_⟩
                try rw [show gp_R (gp_mk L s_48) 4 (3 : Int).toNat = some 25 from (q_60 _ (by omega))]
                refine zx776_1 hs_49 (by omega) (by omega) (by omega) (by omega) (by omega) (by omega) q_56 q_57 q_58 q_59 q_60 q_61 q_62 q_63 q_64 (fun s_71 hs_72 q_73 q_74 q_75 q_76 q_77 q_78 q_79 q_80 q_81 q_82 q_83 q_84 q_85 q_86 q_87 => ⟨_, rfl, ?_⟩)
                refine ⟨fun h_88 => ?_, fun h_88 => ?_⟩
                · exfalso; omega
                · have w_89 := gz_w (3 + 1)
                  have e_90 : gp_wr (3 + 1) = 4 := by omega
                  try rw [e_90]
                  refine s_2853_29 _ _ ?_
                  have w_91 := gz_w (3 + 1)
                  have e_92 : gp_wr (3 + 1) = 4 := by omega
                  try rw [e_92]
                  refine s_2853_4 _ _ ?_
                  refine ⟨fun h_93 => ?_, fun h_93 => ?_⟩
                  · refine ⟨by omega, ?_⟩
                    try rw [show gp_R (gp_mk L s_71) 4 (4 : Int).toNat = some 25 from (q_83 _ (by omega))]
                    refine zx776_1 hs_72 (by omega) (by omega) (by omega) (by omega) (by omega) (by omega) q_79 q_80 q_81 q_82 q_83 q_84 q_85 q_86 q_87 (fun s_94 hs_95 q_96 q_97 q_98 q_99 q_100 q_101 q_102 q_103 q_104 q_105 q_106 q_107 q_108 q_109 q_110 => ⟨_, rfl, ?_⟩)
                    refine ⟨fun h_111 => ?_, fun h_111 => ?_⟩
                    · exfalso; omega
                    · have w_112 := gz_w (4 + 1)
                      have e_113 : gp_wr (4 + 1) = 5 := by omega
                      try rw [e_113]
                      refine s_2853_29 _ _ ?_
                      have w_114 := gz_w (4 + 1)
                      have e_115 : gp_wr (4 + 1) = 5 := by omega
                      try rw [e_115]
                      refine s_2853_4 _ _ ?_
                      refine ⟨fun h_116 => ?_, fun h_116 => ?_⟩
                      · refine ⟨by omega, ?_⟩
                        try rw [show gp_R (gp_mk L s_94) 4 (5 : Int).toNat = some 25 from (q_106 _ (by omega))]
                        refine zx776_1 hs_95 (by omega) (by omega) (by omega) (by omega) (by omega) (by omega) q_102 q_103 q_104 q_105 q_106 q_107 q_108 q_109 q_110 (fun s_117 hs_118 q_119 q_120 q_121 q_122 q_123 q_124 q_125 q_126 q_127 q_128 q_129 q_130 q_131 q_132 q_133 => ⟨_, rfl, ?_⟩)
                        refine ⟨fun h_134 => ?_, fun h_134 => ?_⟩
                        · exfalso; omega
                        · have w_135 := gz_w (5 + 1)
                          have e_136 : gp_wr (5 + 1) = 6 := by omega
                          try rw [e_136]
                          refine s_2853_29 _ _ ?_
                          have w_137 := gz_w (5 + 1)
                          have e_138 : gp_wr (5 + 1) = 6 := by omega
                          try rw [e_138]
                          refine s_2853_4 _ _ ?_
                          refine ⟨fun h_139 => ?_, fun h_139 => ?_⟩
                          · refine ⟨by omega, ?_⟩
                            try rw [show gp_R (gp_mk L s_117) 4 (6 : Int).toNat = some 25 from (q_129 _ (by omega))]
                            refine zx776_1 hs_118 (by omega) (by omega) (by omega) (by omega) (by omega) (by omega) q_125 q_126 q_127 q_128 q_129 q_130 q_131 q_132 q_133 (fun s_140 hs_141 q_142 q_143 q_144 q_145 q_146 q_147 q_148 q_149 q_150 q_151 q_152 q_153 q_154 q_155 q_156 => ⟨_, rfl, ?_⟩)
                            refine ⟨fun h_157 => ?_, fun h_157 => ?_⟩
                            · exfalso; omega
                            · have w_158 := gz_w (6 + 1)
                              have e_159 : gp_wr (6 + 1) = 7 := by omega
                              try rw [e_159]
                              refine s_2853_29 _ _ ?_
                              have w_160 := gz_w (6 + 1)
                              have e_161 : gp_wr (6 + 1) = 7 := by omega
                              try rw [e_161]
                              refine s_2853_4 _ _ ?_
                              refine ⟨fun h_162 => ?_, fun h_162 => ?_⟩
                              · refine ⟨by omega, ?_⟩
                                try rw [show gp_R (gp_mk L s_140) 4 (7 : Int).toNat = some 25 from (q_152 _ (by omega))]
                                refine zx776_1 hs_141 (by omega) (by omega) (by omega) (by omega) (by omega) (by omega) q_148 q_149 q_150 q_151 q_152 q_153 q_154 q_155 q_156 (fun s_163 hs_164 q_165 q_166 q_167 q_168 q_169 q_170 q_171 q_172 q_173 q_174 q_175 q_176 q_177 q_178 q_179 => ⟨_, rfl, ?_⟩)
                                refine ⟨fun h_180 => ?_, fun h_180 => ?_⟩
                                · exfalso; omega
                                · have w_181 := gz_w (7 + 1)
                                  have e_182 : gp_wr (7 + 1) = 8 := by omega
                                  try rw [e_182]
                                  refine s_2853_29 _ _ ?_
                                  have w_183 := gz_w (7 + 1)
                                  have e_184 : gp_wr (7 + 1) = 8 := by omega
                                  try rw [e_184]
                                  refine s_2853_4 _ _ ?_
                                  refine ⟨fun h_185 => ?_, fun h_185 => ?_⟩
                                  · exfalso; omega
                                  · exact k s_163 hs_164 (by omega) (by omega) (by omega) (by omega) (by omega) (by omega) q_171 q_172 q_173 q_174 q_175 q_176 q_177 q_178 q_179
                              · exfalso; omega
                          · exfalso; omega
                      · exfalso; omega
                  · exfalso; omega
              · exfalso; omega
          · exfalso; omega
      · exfalso; omega
  · exfalso; omega
