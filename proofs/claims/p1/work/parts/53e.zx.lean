set_option maxRecDepth 100000 in
/-- Maker.pauses, the loop at 13 -/
theorem zx258_17_l13_0 {z : gH} {L d : Nat} {K : Option gV → gH → Prop}   (k : ∀ (t : gH), xM z t → (gp_I t 1 2 = 0) → (gp_I t 1 6 = 0) → (gp_I t 1 7 = 1) → (gp_I t 117 0 = 18) → (gp_I t 51 8 = 0) → (gp_I t 57 1 = 0) → (gp_I t 57 3 = 0) → (gp_I t 6 4 = 0) → (gp_R t 117 1 = some 118) → (gp_R t 117 2 = some 119) → (gp_R t 117 3 = some 120) → (gp_R t 117 4 = some 121) → (gp_R t 117 5 = some 122) → (gp_R t 117 6 = none) → (gp_R t 117 7 = none) → (gp_R t 117 8 = none) → (gp_R t 117 9 = none) → (gp_R t 25 6 = none) → (gp_R t 25 7 = none) → (gp_R t 25 8 = none) → (gp_R t 25 9 = none) → (∀ k, k < 8 → gp_R t 4 k = some 25) → (gp_R t 51 6 = some 55) → (gp_R t 51 7 = some 56) → (gp_sh t 117 = (9, 10)) → (gp_sh t 118 = (101, 18)) → (gp_sh t 119 = (101, 18)) → (gp_sh t 120 = (100, 18)) → (gp_sh t 121 = (100, 18)) → (gp_sh t 122 = (100, 18)) → (gp_us t = 606995) → (gp_sz t = 123) → K (some (gp_r (some 117))) t)  : ∀ (n : Nat) (v1 : Int) (v2 : Option Nat) (v3 : Int) (s : gH), xM z s → (61 - v3).toNat < n → (v1 = 17) → (v2 = some 117) → (1 ≤ v3 ∧ v3 ≤ 60) → (gp_I s 1 2 = 0) → (gp_I s 1 6 = 0) → (gp_I s 1 7 = 1) → (gp_I s 117 0 = 18) → (gp_I s 51 8 = 0) → (gp_I s 57 1 = 0) → (gp_I s 57 3 = 0) → (gp_I s 6 4 = 0) → (gp_R s 117 1 = some 118) → (gp_R s 117 2 = some 119) → (gp_R s 117 3 = some 120) → (gp_R s 117 4 = some 121) → (gp_R s 117 5 = some 122) → (gp_R s 117 6 = none) → (gp_R s 117 7 = none) → (gp_R s 117 8 = none) → (gp_R s 117 9 = none) → (gp_R s 25 6 = none) → (gp_R s 25 7 = none) → (gp_R s 25 8 = none) → (gp_R s 25 9 = none) → (∀ k, k < 8 → gp_R s 4 k = some 25) → (gp_R s 51 6 = some 55) → (gp_R s 51 7 = some 56) → (gp_sh s 117 = (9, 10)) → (gp_sh s 118 = (101, 18)) → (gp_sh s 119 = (101, 18)) → (gp_sh s 120 = (100, 18)) → (gp_sh s 121 = (100, 18)) → (gp_sh s 122 = (100, 18)) → (gp_us s = 606995) → (gp_sz s = 123) → gs_E L (d + 1) 258 13 [gp_r (some 20), gp_i v1, gp_r v2, gp_i v3] [] s K := by
  intro n
  induction n with
  | zero => intro v1 v2 v3 s hs hm i0 i1 i2 i3 i4 i5 i6 i7 i8 i9 i10 i11 i12 i13 i14 i15 i16 i17 i18 i19 i20 i21 i22 i23 i24 i25 i26 i27 i28 i29 i30 i31 i32 i33 i34; exact absurd hm (Nat.not_lt_zero _)
  | succ n ih =>
    intro v1 v2 v3 s hs hm i0 i1 i2 i3 i4 i5 i6 i7 i8 i9 i10 i11 i12 i13 i14 i15 i16 i17 i18 i19 i20 i21 i22 i23 i24 i25 i26 i27 i28 i29 i30 i31 i32 i33 i34
    subst i0
    subst i1
    refine s_258_13 _ _ _ ?_
    refine ⟨fun h_1 => ?_, fun h_1 => ?_⟩
    · exact k s hs (by omega) (by omega) (by omega) (by omega) (by omega) (by omega) (by omega) (by omega) i11 i12 i13 i14 i15 i16 i17 i18 i19 i20 i21 i22 i23 i24 i25 i26 i27 i28 i29 i30 i31 i32 i33 i34
    · refine ⟨117, rfl, ?_⟩
      refine ⟨(by show (gp_sh s 117).1 = 9; rw [i27]), ?_⟩
      try rw [show gp_R (gp_mk L s) 117 1 = some 118 from i11]
      have w_2 := gz_w (v3 - 1)
      refine ⟨118, rfl, ?_⟩
      refine ⟨⟨by show (gp_sh s 118).1 = 101; rw [i28], by omega, by show v3 < ((gp_sh s 118).2 : Int); rw [i28]; show v3 < 18; omega⟩, ?_⟩
      intro s_3 e_4
      have hs_5 : xM z s_3 := by rw [e_4]; exact xI.wLd hs _ _ _ (by omega)
      have q_6 : gp_I s_3 1 2 = 0 := by rw [e_4]; exact i3
      have q_7 : gp_I s_3 1 6 = 0 := by rw [e_4]; exact i4
      have q_8 : gp_I s_3 1 7 = 1 := by rw [e_4]; exact i5
      have q_9 : gp_I s_3 117 0 = 18 := by rw [e_4]; exact i6
      have q_10 : gp_I s_3 51 8 = 0 := by rw [e_4]; exact i7
      have q_11 : gp_I s_3 57 1 = 0 := by rw [e_4]; exact i8
      have q_12 : gp_I s_3 57 3 = 0 := by rw [e_4]; exact i9
      have q_13 : gp_I s_3 6 4 = 0 := by rw [e_4]; exact i10
      have q_14 : gp_R s_3 117 1 = some 118 := by rw [e_4]; exact i11
      have q_15 : gp_R s_3 117 2 = some 119 := by rw [e_4]; exact i12
      have q_16 : gp_R s_3 117 3 = some 120 := by rw [e_4]; exact i13
      have q_17 : gp_R s_3 117 4 = some 121 := by rw [e_4]; exact i14
      have q_18 : gp_R s_3 117 5 = some 122 := by rw [e_4]; exact i15
      have q_19 : gp_R s_3 117 6 = none := by rw [e_4]; exact i16
      have q_20 : gp_R s_3 117 7 = none := by rw [e_4]; exact i17
      have q_21 : gp_R s_3 117 8 = none := by rw [e_4]; exact i18
      have q_22 : gp_R s_3 117 9 = none := by rw [e_4]; exact i19
      have q_23 : gp_R s_3 25 6 = none := by rw [e_4]; exact i20
      have q_24 : gp_R s_3 25 7 = none := by rw [e_4]; exact i21
      have q_25 : gp_R s_3 25 8 = none := by rw [e_4]; exact i22
      have q_26 : gp_R s_3 25 9 = none := by rw [e_4]; exact i23
      have q_27 : ∀ k, k < 8 → gp_R s_3 4 k = some 25 := by rw [e_4]; exact i24
      have q_28 : gp_R s_3 51 6 = some 55 := by rw [e_4]; exact i25
      have q_29 : gp_R s_3 51 7 = some 56 := by rw [e_4]; exact i26
      have q_30 : gp_sh s_3 117 = (9, 10) := by rw [e_4]; exact i27
      have q_31 : gp_sh s_3 118 = (101, 18) := by rw [e_4]; exact i28
      have q_32 : gp_sh s_3 119 = (101, 18) := by rw [e_4]; exact i29
      have q_33 : gp_sh s_3 120 = (100, 18) := by rw [e_4]; exact i30
      have q_34 : gp_sh s_3 121 = (100, 18) := by rw [e_4]; exact i31
      have q_35 : gp_sh s_3 122 = (100, 18) := by rw [e_4]; exact i32
      have q_36 : gp_us s_3 = 606995 := by rw [e_4]; exact i33
      have q_37 : gp_sz s_3 = 123 := by rw [e_4]; exact i34
      refine ⟨(by show (gp_sh s_3 117).1 = 9; rw [q_30]), ?_⟩
      try rw [show gp_R (gp_mk L s_3) 117 5 = some 122 from q_18]
      refine ⟨122, rfl, ?_⟩
      refine ⟨⟨by show (gp_sh s_3 122).1 = 100; rw [q_35], by omega, by show v3 < ((gp_sh s_3 122).2 : Int); rw [q_35]; show v3 < 18; omega⟩, ?_⟩
      intro s_38 e_39
      have hs_40 : xM z s_38 := by rw [e_39]; exact xI.wId hs_5 _ _ _ (by omega)
      have q_41 : gp_I s_38 1 2 = 0 := by rw [e_39]; exact q_6
      have q_42 : gp_I s_38 1 6 = 0 := by rw [e_39]; exact q_7
      have q_43 : gp_I s_38 1 7 = 1 := by rw [e_39]; exact q_8
      have q_44 : gp_I s_38 117 0 = 18 := by rw [e_39]; exact q_9
      have q_45 : gp_I s_38 51 8 = 0 := by rw [e_39]; exact q_10
      have q_46 : gp_I s_38 57 1 = 0 := by rw [e_39]; exact q_11
      have q_47 : gp_I s_38 57 3 = 0 := by rw [e_39]; exact q_12
      have q_48 : gp_I s_38 6 4 = 0 := by rw [e_39]; exact q_13
      have q_49 : gp_R s_38 117 1 = some 118 := by rw [e_39]; exact q_14
      have q_50 : gp_R s_38 117 2 = some 119 := by rw [e_39]; exact q_15
      have q_51 : gp_R s_38 117 3 = some 120 := by rw [e_39]; exact q_16
      have q_52 : gp_R s_38 117 4 = some 121 := by rw [e_39]; exact q_17
      have q_53 : gp_R s_38 117 5 = some 122 := by rw [e_39]; exact q_18
      have q_54 : gp_R s_38 117 6 = none := by rw [e_39]; exact q_19
      have q_55 : gp_R s_38 117 7 = none := by rw [e_39]; exact q_20
      have q_56 : gp_R s_38 117 8 = none := by rw [e_39]; exact q_21
      have q_57 : gp_R s_38 117 9 = none := by rw [e_39]; exact q_22
      have q_58 : gp_R s_38 25 6 = none := by rw [e_39]; exact q_23
      have q_59 : gp_R s_38 25 7 = none := by rw [e_39]; exact q_24
      have q_60 : gp_R s_38 25 8 = none := by rw [e_39]; exact q_25
      have q_61 : gp_R s_38 25 9 = none := by rw [e_39]; exact q_26
      have q_62 : ∀ k, k < 8 → gp_R s_38 4 k = some 25 := by rw [e_39]; exact q_27
      have q_63 : gp_R s_38 51 6 = some 55 := by rw [e_39]; exact q_28
      have q_64 : gp_R s_38 51 7 = some 56 := by rw [e_39]; exact q_29
      have q_65 : gp_sh s_38 117 = (9, 10) := by rw [e_39]; exact q_30
      have q_66 : gp_sh s_38 118 = (101, 18) := by rw [e_39]; exact q_31
      have q_67 : gp_sh s_38 119 = (101, 18) := by rw [e_39]; exact q_32
      have q_68 : gp_sh s_38 120 = (100, 18) := by rw [e_39]; exact q_33
      have q_69 : gp_sh s_38 121 = (100, 18) := by rw [e_39]; exact q_34
      have q_70 : gp_sh s_38 122 = (100, 18) := by rw [e_39]; exact q_35
      have q_71 : gp_us s_38 = 606995 := by rw [e_39]; exact q_36
      have q_72 : gp_sz s_38 = 123 := by rw [e_39]; exact q_37
      have w_73 := gz_w (v3 + 1)
      exact ih _ _ _ s_38 hs_40 (by omega) (by omega) rfl (by omega) (by omega) (by omega) (by omega) (by omega) (by omega) (by omega) (by omega) (by omega) q_49 q_50 q_51 q_52 q_53 q_54 q_55 q_56 q_57 q_58 q_59 q_60 q_61 q_62 q_63 q_64 q_65 q_66 q_67 q_68 q_69 q_70 q_71 q_72
set_option maxRecDepth 100000 in
/-- Maker.pauses [(17, 17)] -/
theorem zx258_17 {z : gH} {L d : Nat} {K : Option gV → gH → Prop} {s : gH}  (hs : xM z s)  (q0 : gp_I s 1 2 = 0) (q1 : gp_I s 1 6 = 0) (q2 : gp_I s 1 7 = 1) (q3 : gp_I s 51 8 = 0) (q4 : gp_I s 57 1 = 0) (q5 : gp_I s 57 3 = 0) (q6 : gp_I s 6 4 = 0) (q7 : gp_R s 25 6 = none) (q8 : gp_R s 25 7 = none) (q9 : gp_R s 25 8 = none) (q10 : gp_R s 25 9 = none) (q11 : ∀ k, k < 8 → gp_R s 4 k = some 25) (q12 : gp_R s 51 6 = some 55) (q13 : gp_R s 51 7 = some 56) (q14 : gp_us s = 606895) (q15 : gp_sz s = 117) (k : ∀ (t : gH), xM z t → (gp_I t 1 2 = 0) → (gp_I t 1 6 = 0) → (gp_I t 1 7 = 1) → (gp_I t 117 0 = 18) → (gp_I t 51 8 = 0) → (gp_I t 57 1 = 0) → (gp_I t 57 3 = 0) → (gp_I t 6 4 = 0) → (gp_R t 117 1 = some 118) → (gp_R t 117 2 = some 119) → (gp_R t 117 3 = some 120) → (gp_R t 117 4 = some 121) → (gp_R t 117 5 = some 122) → (gp_R t 117 6 = none) → (gp_R t 117 7 = none) → (gp_R t 117 8 = none) → (gp_R t 117 9 = none) → (gp_R t 25 6 = none) → (gp_R t 25 7 = none) → (gp_R t 25 8 = none) → (gp_R t 25 9 = none) → (∀ k, k < 8 → gp_R t 4 k = some 25) → (gp_R t 51 6 = some 55) → (gp_R t 51 7 = some 56) → (gp_sh t 117 = (9, 10)) → (gp_sh t 118 = (101, 18)) → (gp_sh t 119 = (101, 18)) → (gp_sh t 120 = (100, 18)) → (gp_sh t 121 = (100, 18)) → (gp_sh t 122 = (100, 18)) → (gp_us t = 606995) → (gp_sz t = 123) → K (some (gp_r (some 117))) t) : gs_C L (d + 1) 258 4 [gp_r (some 20), gp_i 17] s K := by
  refine s_258_e _ ?_
  refine ⟨by omega, ?_⟩
  try rw [show gp_sz s = 117 from q15]
  intro s_1 e_2
  have hs_3 : xM z s_1 := by rw [e_2]; exact xI.new hs (by omega)
  have q_4 : gp_I s_1 1 2 = 0 := by rw [e_2, gz_nI q15 (by decide)]; exact q0
  have q_5 : gp_I s_1 1 6 = 0 := by rw [e_2, gz_nI q15 (by decide)]; exact q1
  have q_6 : gp_I s_1 1 7 = 1 := by rw [e_2, gz_nI q15 (by decide)]; exact q2
  have q_7 : gp_I s_1 51 8 = 0 := by rw [e_2, gz_nI q15 (by decide)]; exact q3
  have q_8 : gp_I s_1 57 1 = 0 := by rw [e_2, gz_nI q15 (by decide)]; exact q4
  have q_9 : gp_I s_1 57 3 = 0 := by rw [e_2, gz_nI q15 (by decide)]; exact q5
  have q_10 : gp_I s_1 6 4 = 0 := by rw [e_2, gz_nI q15 (by decide)]; exact q6
  have q_11 : gp_R s_1 25 6 = none := by rw [e_2, gz_nR q15 (by decide)]; exact q7
  have q_12 : gp_R s_1 25 7 = none := by rw [e_2, gz_nR q15 (by decide)]; exact q8
  have q_13 : gp_R s_1 25 8 = none := by rw [e_2, gz_nR q15 (by decide)]; exact q9
  have q_14 : gp_R s_1 25 9 = none := by rw [e_2, gz_nR q15 (by decide)]; exact q10
  have q_15 : ∀ k, k < 8 → gp_R s_1 4 k = some 25 := fun k hk => by rw [e_2, gz_nR q15 (by decide)]; exact q11 k hk
  have q_16 : gp_R s_1 51 6 = some 55 := by rw [e_2, gz_nR q15 (by decide)]; exact q12
  have q_17 : gp_R s_1 51 7 = some 56 := by rw [e_2, gz_nR q15 (by decide)]; exact q13
  have q_18 : gp_us s_1 = 606905 := by rw [e_2]; show gp_us s + 10 = 606905; rw [q14]; try rfl
  have q_19 : gp_sz s_1 = 118 := by rw [e_2]; exact congrArg Nat.succ q15
  have q_20 : gp_sh s_1 117 = (9, 10) := by rw [e_2]; exact gz_nSs q15
  have q_21 : gp_I s_1 117 0 = 0 := by rw [e_2]; exact gz_nIs q15
  have q_22 : gp_R s_1 117 1 = none := by rw [e_2]; exact gz_nRs q15
  have q_23 : gp_R s_1 117 2 = none := by rw [e_2]; exact gz_nRs q15
  have q_24 : gp_R s_1 117 3 = none := by rw [e_2]; exact gz_nRs q15
  have q_25 : gp_R s_1 117 4 = none := by rw [e_2]; exact gz_nRs q15
  have q_26 : gp_R s_1 117 5 = none := by rw [e_2]; exact gz_nRs q15
  have q_27 : gp_R s_1 117 6 = none := by rw [e_2]; exact gz_nRs q15
  have q_28 : gp_R s_1 117 7 = none := by rw [e_2]; exact gz_nRs q15
  have q_29 : gp_R s_1 117 8 = none := by rw [e_2]; exact gz_nRs q15
  have q_30 : gp_R s_1 117 9 = none := by rw [e_2]; exact gz_nRs q15
  have w_31 := gz_w (17 + 1)
  have e_32 : gp_wr (17 + 1) = 18 := by omega
  try rw [e_32]
  refine zx2304_17 hs_3 (by omega) (by omega) (by omega) (by omega) (by omega) (by omega) (by omega) (by omega) q_22 q_23 q_24 q_25 q_26 q_27 q_28 q_29 q_30 q_11 q_12 q_13 q_14 q_15 q_16 q_17 q_20 q_18 q_19 (fun s_33 hs_34 q_35 q_36 q_37 q_38 q_39 q_40 q_41 q_42 q_43 q_44 q_45 q_46 q_47 q_48 q_49 q_50 q_51 q_52 q_53 q_54 q_55 q_56 q_57 q_58 q_59 q_60 q_61 q_62 q_63 q_64 q_65 q_66 => ⟨rfl, ?_⟩)
  exact zx258_17_l13_0 k _ _ _ _ s_33 hs_34 (Nat.lt_succ_self _) (by omega) rfl (by omega) (by omega) (by omega) (by omega) (by omega) (by omega) (by omega) (by omega) (by omega) q_43 q_44 q_45 q_46 q_47 q_48 q_49 q_50 q_51 q_52 q_53 q_54 q_55 q_56 q_57 q_58 q_59 q_60 q_61 q_62 q_63 q_64 q_65 q_66
set_option maxRecDepth 100000 in
/-- GatheredPoints.hold [(0, 7), 117] -/
theorem zx2854_17 {z : gH} {L d : Nat} {K : Option gV → gH → Prop} {s : gH} (p0 : Int) (hs : xM z s) (h_p0 : 0 ≤ p0 ∧ p0 ≤ 7) (q0 : gp_I s 1 2 = 0) (q1 : gp_I s 1 6 = 0) (q2 : gp_I s 1 7 = 1) (q3 : gp_I s 117 0 = 18) (q4 : gp_I s 51 8 = 0) (q5 : gp_I s 57 1 = 0) (q6 : gp_I s 57 3 = 0) (q7 : gp_I s 6 4 = 0) (q8 : gp_R s 117 1 = some 118) (q9 : gp_R s 117 2 = some 119) (q10 : gp_R s 117 3 = some 120) (q11 : gp_R s 117 4 = some 121) (q12 : gp_R s 117 5 = some 122) (q13 : gp_R s 117 6 = none) (q14 : gp_R s 117 7 = none) (q15 : gp_R s 117 8 = none) (q16 : gp_R s 117 9 = none) (q17 : gp_R s 25 6 = none) (q18 : gp_R s 25 7 = none) (q19 : gp_R s 25 8 = none) (q20 : gp_R s 25 9 = none) (q21 : ∀ k, k < 8 → gp_R s 4 k = some 25) (q22 : gp_R s 51 6 = some 55) (q23 : gp_R s 51 7 = some 56) (q24 : gp_sh s 117 = (9, 10)) (q25 : gp_sh s 118 = (101, 18)) (q26 : gp_sh s 119 = (101, 18)) (q27 : gp_sh s 120 = (100, 18)) (q28 : gp_sh s 121 = (100, 18)) (q29 : gp_sh s 122 = (100, 18)) (q30 : gp_us s = 606995) (q31 : gp_sz s = 123) (k : ∀ (t : gH), xM z t → (gp_I t 1 2 = 0) → (gp_I t 1 6 = 0) → (gp_I t 1 7 = 1) → (gp_I t 117 0 = 18) → (gp_I t 51 8 = 0) → (gp_I t 57 1 = 0) → (gp_I t 57 3 = 0) → (gp_I t 6 4 = 0) → (gp_R t 117 1 = some 118) → (gp_R t 117 2 = some 119) → (gp_R t 117 3 = some 120) → (gp_R t 117 4 = some 121) → (gp_R t 117 5 = some 122) → (gp_R t 117 6 = none) → (gp_R t 117 7 = none) → (gp_R t 117 8 = none) → (gp_R t 117 9 = none) → (gp_R t 25 6 = none) → (gp_R t 25 7 = none) → (gp_R t 25 8 = none) → (gp_R t 25 9 = none) → (gp_R t 51 6 = some 55) → (gp_R t 51 7 = some 56) → (gp_sh t 117 = (9, 10)) → (gp_sh t 118 = (101, 18)) → (gp_sh t 119 = (101, 18)) → (gp_sh t 120 = (100, 18)) → (gp_sh t 121 = (100, 18)) → (gp_sh t 122 = (100, 18)) → (gp_us t = 606995) → (gp_sz t = 123) → K (some (gp_i 18)) t) : gs_C L d 2854 3 [gp_r (some 1), gp_i p0, gp_r (some 117)] s K := by
  refine s_2854_e _ _ ?_
  refine ⟨117, rfl, ?_⟩
  refine ⟨by omega, ?_⟩
  refine ⟨(by show (gp_sh s 117).1 = 9; rw [q24]), ?_⟩
  intro s_1 e_2
  have hs_3 : xM z s_1 := by rw [e_2]; exact xI.wR hs _ _ _
  have q_4 : gp_I s_1 1 2 = 0 := by rw [e_2]; exact q0
  have q_5 : gp_I s_1 1 6 = 0 := by rw [e_2]; exact q1
  have q_6 : gp_I s_1 1 7 = 1 := by rw [e_2]; exact q2
  have q_7 : gp_I s_1 117 0 = 18 := by rw [e_2]; exact q3
  have q_8 : gp_I s_1 51 8 = 0 := by rw [e_2]; exact q4
  have q_9 : gp_I s_1 57 1 = 0 := by rw [e_2]; exact q5
  have q_10 : gp_I s_1 57 3 = 0 := by rw [e_2]; exact q6
  have q_11 : gp_I s_1 6 4 = 0 := by rw [e_2]; exact q7
  have q_12 : gp_R s_1 117 1 = some 118 := by rw [e_2]; exact q8
  have q_13 : gp_R s_1 117 2 = some 119 := by rw [e_2]; exact q9
  have q_14 : gp_R s_1 117 3 = some 120 := by rw [e_2]; exact q10
  have q_15 : gp_R s_1 117 4 = some 121 := by rw [e_2]; exact q11
  have q_16 : gp_R s_1 117 5 = some 122 := by rw [e_2]; exact q12
  have q_17 : gp_R s_1 117 6 = none := by rw [e_2]; exact q13
  have q_18 : gp_R s_1 117 7 = none := by rw [e_2]; exact q14
  have q_19 : gp_R s_1 117 8 = none := by rw [e_2]; exact q15
  have q_20 : gp_R s_1 117 9 = none := by rw [e_2]; exact q16
  have q_21 : gp_R s_1 25 6 = none := by rw [e_2]; exact q17
  have q_22 : gp_R s_1 25 7 = none := by rw [e_2]; exact q18
  have q_23 : gp_R s_1 25 8 = none := by rw [e_2]; exact q19
  have q_24 : gp_R s_1 25 9 = none := by rw [e_2]; exact q20
  have q_25 : gp_R s_1 51 6 = some 55 := by rw [e_2]; exact q22
  have q_26 : gp_R s_1 51 7 = some 56 := by rw [e_2]; exact q23
  have q_27 : gp_sh s_1 117 = (9, 10) := by rw [e_2]; exact q24
  have q_28 : gp_sh s_1 118 = (101, 18) := by rw [e_2]; exact q25
  have q_29 : gp_sh s_1 119 = (101, 18) := by rw [e_2]; exact q26
  have q_30 : gp_sh s_1 120 = (100, 18) := by rw [e_2]; exact q27
  have q_31 : gp_sh s_1 121 = (100, 18) := by rw [e_2]; exact q28
  have q_32 : gp_sh s_1 122 = (100, 18) := by rw [e_2]; exact q29
  have q_33 : gp_us s_1 = 606995 := by rw [e_2]; exact q30
  have q_34 : gp_sz s_1 = 123 := by rw [e_2]; exact q31
  refine ⟨(by show (gp_sh s_1 117).1 = 9; rw [q_27]), ?_⟩
  try rw [show gp_I s_1 117 0 = 18 from q_7]
  exact k s_1 hs_3 (by omega) (by omega) (by omega) (by omega) (by omega) (by omega) (by omega) (by omega) q_12 q_13 q_14 q_15 q_16 q_17 q_18 q_19 q_20 q_21 q_22 q_23 q_24 q_25 q_26 q_27 q_28 q_29 q_30 q_31 q_32 q_33 q_34
set_option maxRecDepth 100000 in
/-- GatheredPoints.waits [(0, 7), (17, 17)] -/
theorem zx2821_21 {z : gH} {L d : Nat} {K : Option gV → gH → Prop} {s : gH} (p0 : Int) (hs : xM z s) (h_p0 : 0 ≤ p0 ∧ p0 ≤ 7) (q0 : gp_I s 1 2 = 0) (q1 : gp_I s 1 6 = 0) (q2 : gp_I s 1 7 = 1) (q3 : gp_I s 51 8 = 0) (q4 : gp_I s 57 1 = 0) (q5 : gp_I s 57 3 = 0) (q6 : gp_I s 6 4 = 0) (q7 : gp_R s 25 6 = none) (q8 : gp_R s 25 7 = none) (q9 : gp_R s 25 8 = none) (q10 : gp_R s 25 9 = none) (q11 : ∀ k, k < 8 → gp_R s 4 k = some 25) (q12 : gp_R s 51 6 = some 55) (q13 : gp_R s 51 7 = some 56) (q14 : gp_us s = 606895) (q15 : gp_sz s = 117) (k : ∀ (t : gH), xM z t → (gp_I t 1 2 = 0) → (gp_I t 1 6 = 0) → (gp_I t 1 7 = 1) → (gp_I t 117 0 = 18) → (gp_I t 51 8 = 0) → (gp_I t 57 1 = 0) → (gp_I t 57 3 = 0) → (gp_I t 6 4 = 0) → (gp_R t 117 1 = some 118) → (gp_R t 117 2 = some 119) → (gp_R t 117 3 = some 120) → (gp_R t 117 4 = some 121) → (gp_R t 117 5 = some 122) → (gp_R t 117 6 = none) → (gp_R t 117 7 = none) → (gp_R t 117 8 = none) → (gp_R t 117 9 = none) → (gp_R t 25 6 = none) → (gp_R t 25 7 = none) → (gp_R t 25 8 = none) → (gp_R t 25 9 = none) → (gp_R t 51 6 = some 55) → (gp_R t 51 7 = some 56) → (gp_sh t 117 = (9, 10)) → (gp_sh t 118 = (101, 18)) → (gp_sh t 119 = (101, 18)) → (gp_sh t 120 = (100, 18)) → (gp_sh t 121 = (100, 18)) → (gp_sh t 122 = (100, 18)) → (gp_us t = 606995) → (gp_sz t = 123) → K (some (gp_i 18)) t) : gs_C L (d + 2) 2821 3 [gp_r (some 1), gp_i p0, gp_i 17] s K := by
  refine s_2821_e _ _ ?_
  refine zx2856_2 _ hs (by omega) (by omega) (by omega) (by omega) (by omega) (by omega) (by omega) q7 q8 q9 q10 q11 q12 q13 (⟨_, rfl, ?_⟩)
  refine ⟨fun h_1 => ?_, fun h_1 => ?_⟩
  · refine ⟨fun h_2 => ?_, fun h_2 => ?_⟩
    · exfalso; omega
    · refine ⟨fun h_3 => ?_, fun h_3 => ?_⟩
      · exfalso; omega
      · refine zx258_17 hs (by omega) (by omega) (by omega) (by omega) (by omega) (by omega) (by omega) q7 q8 q9 q10 q11 q12 q13 q14 q15 (fun s_5 hs_6 q_7 q_8 q_9 q_10 q_11 q_12 q_13 q_14 q_15 q_16 q_17 q_18 q_19 q_20 q_21 q_22 q_23 q_24 q_25 q_26 q_27 q_28 q_29 q_30 q_31 q_32 q_33 q_34 q_35 q_36 q_37 q_38 => ⟨_, rfl, ?_⟩)
        refine zx2854_17 _ hs_6 (by omega) (by omega) (by omega) (by omega) (by omega) (by omega) (by omega) (by omega) (by omega) q_15 q_16 q_17 q_18 q_19 q_20 q_21 q_22 q_23 q_24 q_25 q_26 q_27 q_28 q_29 q_30 q_31 q_32 q_33 q_34 q_35 q_36 q_37 q_38 (fun s_39 hs_40 q_41 q_42 q_43 q_44 q_45 q_46 q_47 q_48 q_49 q_50 q_51 q_52 q_53 q_54 q_55 q_56 q_57 q_58 q_59 q_60 q_61 q_62 q_63 q_64 q_65 q_66 q_67 q_68 q_69 q_70 q_71 => ⟨_, rfl, ?_⟩)
        exact k s_39 hs_40 (by omega) (by omega) (by omega) (by omega) (by omega) (by omega) (by omega) (by omega) q_49 q_50 q_51 q_52 q_53 q_54 q_55 q_56 q_57 q_58 q_59 q_60 q_61 q_62 q_63 q_64 q_65 q_66 q_67 q_68 q_69 q_70 q_71
  · exfalso; omega
set_option maxRecDepth 100000 in
/-- Table.<init> [117, (19, 19)] -/
theorem zx2304_18 {z : gH} {L d : Nat} {K : Option gV → gH → Prop} {s : gH}  (hs : xM z s)  (q0 : gp_I s 1 2 = 0) (q1 : gp_I s 1 6 = 0) (q2 : gp_I s 1 7 = 1) (q3 : gp_I s 117 0 = 0) (q4 : gp_I s 51 8 = 0) (q5 : gp_I s 57 1 = 0) (q6 : gp_I s 57 3 = 0) (q7 : gp_I s 6 4 = 0) (q8 : gp_R s 117 1 = none) (q9 : gp_R s 117 2 = none) (q10 : gp_R s 117 3 = none) (q11 : gp_R s 117 4 = none) (q12 : gp_R s 117 5 = none) (q13 : gp_R s 117 6 = none) (q14 : gp_R s 117 7 = none) (q15 : gp_R s 117 8 = none) (q16 : gp_R s 117 9 = none) (q17 : gp_R s 25 6 = none) (q18 : gp_R s 25 7 = none) (q19 : gp_R s 25 8 = none) (q20 : gp_R s 25 9 = none) (q21 : ∀ k, k < 8 → gp_R s 4 k = some 25) (q22 : gp_R s 51 6 = some 55) (q23 : gp_R s 51 7 = some 56) (q24 : gp_sh s 117 = (9, 10)) (q25 : gp_us s = 606905) (q26 : gp_sz s = 118) (k : ∀ (t : gH), xM z t → (gp_I t 1 2 = 0) → (gp_I t 1 6 = 0) → (gp_I t 1 7 = 1) → (gp_I t 117 0 = 19) → (gp_I t 51 8 = 0) → (gp_I t 57 1 = 0) → (gp_I t 57 3 = 0) → (gp_I t 6 4 = 0) → (gp_R t 117 1 = some 118) → (gp_R t 117 2 = some 119) → (gp_R t 117 3 = some 120) → (gp_R t 117 4 = some 121) → (gp_R t 117 5 = some 122) → (gp_R t 117 6 = none) → (gp_R t 117 7 = none) → (gp_R t 117 8 = none) → (gp_R t 117 9 = none) → (gp_R t 25 6 = none) → (gp_R t 25 7 = none) → (gp_R t 25 8 = none) → (gp_R t 25 9 = none) → (∀ k, k < 8 → gp_R t 4 k = some 25) → (gp_R t 51 6 = some 55) → (gp_R t 51 7 = some 56) → (gp_sh t 117 = (9, 10)) → (gp_sh t 118 = (101, 19)) → (gp_sh t 119 = (101, 19)) → (gp_sh t 120 = (100, 19)) → (gp_sh t 121 = (100, 19)) → (gp_sh t 122 = (100, 19)) → (gp_us t = 607000) → (gp_sz t = 123) → K none t) : gs_C L d 2304 2 [gp_r (some 117), gp_i 19] s K := by
  refine s_2304_e _ _ ?_
  refine ⟨117, rfl, ?_⟩
  refine ⟨(by show (gp_sh s 117).1 = 9; rw [q24]), ?_⟩
  intro s_1 e_2
  have hs_3 : xM z s_1 := by rw [e_2]; exact xI.wId hs _ _ _ (by omega)
  have q_4 : gp_I s_1 1 2 = 0 := by rw [e_2]; exact q0
  have q_5 : gp_I s_1 1 6 = 0 := by rw [e_2]; exact q1
  have q_6 : gp_I s_1 1 7 = 1 := by rw [e_2]; exact q2
  have q_7 : gp_I s_1 51 8 = 0 := by rw [e_2]; exact q4
  have q_8 : gp_I s_1 57 1 = 0 := by rw [e_2]; exact q5
  have q_9 : gp_I s_1 57 3 = 0 := by rw [e_2]; exact q6
  have q_10 : gp_I s_1 6 4 = 0 := by rw [e_2]; exact q7
  have q_11 : gp_R s_1 117 1 = none := by rw [e_2]; exact q8
  have q_12 : gp_R s_1 117 2 = none := by rw [e_2]; exact q9
  have q_13 : gp_R s_1 117 3 = none := by rw [e_2]; exact q10
  have q_14 : gp_R s_1 117 4 = none := by rw [e_2]; exact q11
  have q_15 : gp_R s_1 117 5 = none := by rw [e_2]; exact q12
  have q_16 : gp_R s_1 117 6 = none := by rw [e_2]; exact q13
  have q_17 : gp_R s_1 117 7 = none := by rw [e_2]; exact q14
  have q_18 : gp_R s_1 117 8 = none := by rw [e_2]; exact q15
  have q_19 : gp_R s_1 117 9 = none := by rw [e_2]; exact q16
  have q_20 : gp_R s_1 25 6 = none := by rw [e_2]; exact q17
  have q_21 : gp_R s_1 25 7 = none := by rw [e_2]; exact q18
  have q_22 : gp_R s_1 25 8 = none := by rw [e_2]; exact q19
  have q_23 : gp_R s_1 25 9 = none := by rw [e_2]; exact q20
  have q_24 : ∀ k, k < 8 → gp_R s_1 4 k = some 25 := by rw [e_2]; exact q21
  have q_25 : gp_R s_1 51 6 = some 55 := by rw [e_2]; exact q22
  have q_26 : gp_R s_1 51 7 = some 56 := by rw [e_2]; exact q23
  have q_27 : gp_sh s_1 117 = (9, 10) := by rw [e_2]; exact q24
  have q_28 : gp_us s_1 = 606905 := by rw [e_2]; exact q25
  have q_29 : gp_sz s_1 = 118 := by rw [e_2]; exact q26
  have q_30 : gp_I s_1 117 0 = 19 := by rw [e_2]; rfl
  refine ⟨by omega, ?_⟩
  refine ⟨by omega, ?_⟩
  try rw [show gp_sz s_1 = 118 from q_29]
  intro s_32 e_33
  have hs_34 : xM z s_32 := by rw [e_33]; exact xI.new hs_3 (by omega)
  have q_35 : gp_I s_32 1 2 = 0 := by rw [e_33, gz_nI q_29 (by decide)]; exact q_4
  have q_36 : gp_I s_32 1 6 = 0 := by rw [e_33, gz_nI q_29 (by decide)]; exact q_5
  have q_37 : gp_I s_32 1 7 = 1 := by rw [e_33, gz_nI q_29 (by decide)]; exact q_6
  have q_38 : gp_I s_32 51 8 = 0 := by rw [e_33, gz_nI q_29 (by decide)]; exact q_7
  have q_39 : gp_I s_32 57 1 = 0 := by rw [e_33, gz_nI q_29 (by decide)]; exact q_8
  have q_40 : gp_I s_32 57 3 = 0 := by rw [e_33, gz_nI q_29 (by decide)]; exact q_9
  have q_41 : gp_I s_32 6 4 = 0 := by rw [e_33, gz_nI q_29 (by decide)]; exact q_10
  have q_42 : gp_R s_32 117 1 = none := by rw [e_33, gz_nR q_29 (by decide)]; exact q_11
  have q_43 : gp_R s_32 117 2 = none := by rw [e_33, gz_nR q_29 (by decide)]; exact q_12
  have q_44 : gp_R s_32 117 3 = none := by rw [e_33, gz_nR q_29 (by decide)]; exact q_13
  have q_45 : gp_R s_32 117 4 = none := by rw [e_33, gz_nR q_29 (by decide)]; exact q_14
  have q_46 : gp_R s_32 117 5 = none := by rw [e_33, gz_nR q_29 (by decide)]; exact q_15
  have q_47 : gp_R s_32 117 6 = none := by rw [e_33, gz_nR q_29 (by decide)]; exact q_16
  have q_48 : gp_R s_32 117 7 = none := by rw [e_33, gz_nR q_29 (by decide)]; exact q_17
  have q_49 : gp_R s_32 117 8 = none := by rw [e_33, gz_nR q_29 (by decide)]; exact q_18
  have q_50 : gp_R s_32 117 9 = none := by rw [e_33, gz_nR q_29 (by decide)]; exact q_19
  have q_51 : gp_R s_32 25 6 = none := by rw [e_33, gz_nR q_29 (by decide)]; exact q_20
  have q_52 : gp_R s_32 25 7 = none := by rw [e_33, gz_nR q_29 (by decide)]; exact q_21
  have q_53 : gp_R s_32 25 8 = none := by rw [e_33, gz_nR q_29 (by decide)]; exact q_22
  have q_54 : gp_R s_32 25 9 = none := by rw [e_33, gz_nR q_29 (by decide)]; exact q_23
  have q_55 : ∀ k, k < 8 → gp_R s_32 4 k = some 25 := fun k hk => by rw [e_33, gz_nR q_29 (by decide)]; exact q_24 k hk
  have q_56 : gp_R s_32 51 6 = some 55 := by rw [e_33, gz_nR q_29 (by decide)]; exact q_25
  have q_57 : gp_R s_32 51 7 = some 56 := by rw [e_33, gz_nR q_29 (by decide)]; exact q_26
  have q_58 : gp_sh s_32 117 = (9, 10) := by rw [e_33, gz_nS q_29 (by decide)]; exact q_27
  have q_59 : gp_us s_32 = 606924 := by rw [e_33]; show gp_us s_1 + 19 = 606924; rw [q_28]; try rfl
  have q_60 : gp_sz s_32 = 119 := by rw [e_33]; exact congrArg Nat.succ q_29
  have q_61 : gp_I s_32 117 0 = 19 := by rw [e_33, gz_nI q_29 (by decide)]; exact q_30
  have q_62 : gp_sh s_32 118 = (101, 19) := by rw [e_33]; exact gz_nSs q_29
  refine ⟨(by show (gp_sh s_32 117).1 = 9; rw [q_58]), ?_⟩
  refine ⟨rfl, ?_⟩
  intro s_63 e_64
  have hs_65 : xM z s_63 := by rw [e_64]; exact xI.wR hs_34 _ _ _
  have q_66 : gp_I s_63 1 2 = 0 := by rw [e_64]; exact q_35
  have q_67 : gp_I s_63 1 6 = 0 := by rw [e_64]; exact q_36
  have q_68 : gp_I s_63 1 7 = 1 := by rw [e_64]; exact q_37
  have q_69 : gp_I s_63 51 8 = 0 := by rw [e_64]; exact q_38
  have q_70 : gp_I s_63 57 1 = 0 := by rw [e_64]; exact q_39
  have q_71 : gp_I s_63 57 3 = 0 := by rw [e_64]; exact q_40
  have q_72 : gp_I s_63 6 4 = 0 := by rw [e_64]; exact q_41
  have q_73 : gp_R s_63 117 2 = none := by rw [e_64]; exact q_43
  have q_74 : gp_R s_63 117 3 = none := by rw [e_64]; exact q_44
  have q_75 : gp_R s_63 117 4 = none := by rw [e_64]; exact q_45
  have q_76 : gp_R s_63 117 5 = none := by rw [e_64]; exact q_46
  have q_77 : gp_R s_63 117 6 = none := by rw [e_64]; exact q_47
  have q_78 : gp_R s_63 117 7 = none := by rw [e_64]; exact q_48
  have q_79 : gp_R s_63 117 8 = none := by rw [e_64]; exact q_49
  have q_80 : gp_R s_63 117 9 = none := by rw [e_64]; exact q_50
  have q_81 : gp_R s_63 25 6 = none := by rw [e_64]; exact q_51
  have q_82 : gp_R s_63 25 7 = none := by rw [e_64]; exact q_52
  have q_83 : gp_R s_63 25 8 = none := by rw [e_64]; exact q_53
  have q_84 : gp_R s_63 25 9 = none := by rw [e_64]; exact q_54
  have q_85 : ∀ k, k < 8 → gp_R s_63 4 k = some 25 := by rw [e_64]; exact q_55
  have q_86 : gp_R s_63 51 6 = some 55 := by rw [e_64]; exact q_56
  have q_87 : gp_R s_63 51 7 = some 56 := by rw [e_64]; exact q_57
  have q_88 : gp_sh s_63 117 = (9, 10) := by rw [e_64]; exact q_58
  have q_89 : gp_us s_63 = 606924 := by rw [e_64]; exact q_59
  have q_90 : gp_sz s_63 = 119 := by rw [e_64]; exact q_60
  have q_91 : gp_I s_63 117 0 = 19 := by rw [e_64]; exact q_61
  have q_92 : gp_sh s_63 118 = (101, 19) := by rw [e_64]; exact q_62
  have q_93 : gp_R s_63 117 1 = some 118 := by rw [e_64]; rfl
  refine ⟨by omega, ?_⟩
  refine ⟨by omega, ?_⟩
  try rw [show gp_sz s_63 = 119 from q_90]
  intro s_94 e_95
  have hs_96 : xM z s_94 := by rw [e_95]; exact xI.new hs_65 (by omega)
  have q_97 : gp_I s_94 1 2 = 0 := by rw [e_95, gz_nI q_90 (by decide)]; exact q_66
  have q_98 : gp_I s_94 1 6 = 0 := by rw [e_95, gz_nI q_90 (by decide)]; exact q_67
  have q_99 : gp_I s_94 1 7 = 1 := by rw [e_95, gz_nI q_90 (by decide)]; exact q_68
  have q_100 : gp_I s_94 51 8 = 0 := by rw [e_95, gz_nI q_90 (by decide)]; exact q_69
  have q_101 : gp_I s_94 57 1 = 0 := by rw [e_95, gz_nI q_90 (by decide)]; exact q_70
  have q_102 : gp_I s_94 57 3 = 0 := by rw [e_95, gz_nI q_90 (by decide)]; exact q_71
  have q_103 : gp_I s_94 6 4 = 0 := by rw [e_95, gz_nI q_90 (by decide)]; exact q_72
  have q_104 : gp_R s_94 117 2 = none := by rw [e_95, gz_nR q_90 (by decide)]; exact q_73
  have q_105 : gp_R s_94 117 3 = none := by rw [e_95, gz_nR q_90 (by decide)]; exact q_74
  have q_106 : gp_R s_94 117 4 = none := by rw [e_95, gz_nR q_90 (by decide)]; exact q_75
  have q_107 : gp_R s_94 117 5 = none := by rw [e_95, gz_nR q_90 (by decide)]; exact q_76
  have q_108 : gp_R s_94 117 6 = none := by rw [e_95, gz_nR q_90 (by decide)]; exact q_77
  have q_109 : gp_R s_94 117 7 = none := by rw [e_95, gz_nR q_90 (by decide)]; exact q_78
  have q_110 : gp_R s_94 117 8 = none := by rw [e_95, gz_nR q_90 (by decide)]; exact q_79
  have q_111 : gp_R s_94 117 9 = none := by rw [e_95, gz_nR q_90 (by decide)]; exact q_80
  have q_112 : gp_R s_94 25 6 = none := by rw [e_95, gz_nR q_90 (by decide)]; exact q_81
  have q_113 : gp_R s_94 25 7 = none := by rw [e_95, gz_nR q_90 (by decide)]; exact q_82
  have q_114 : gp_R s_94 25 8 = none := by rw [e_95, gz_nR q_90 (by decide)]; exact q_83
  have q_115 : gp_R s_94 25 9 = none := by rw [e_95, gz_nR q_90 (by decide)]; exact q_84
  have q_116 : ∀ k, k < 8 → gp_R s_94 4 k = some 25 := fun k hk => by rw [e_95, gz_nR q_90 (by decide)]; exact q_85 k hk
  have q_117 : gp_R s_94 51 6 = some 55 := by rw [e_95, gz_nR q_90 (by decide)]; exact q_86
  have q_118 : gp_R s_94 51 7 = some 56 := by rw [e_95, gz_nR q_90 (by decide)]; exact q_87
  have q_119 : gp_sh s_94 117 = (9, 10) := by rw [e_95, gz_nS q_90 (by decide)]; exact q_88
  have q_120 : gp_us s_94 = 606943 := by rw [e_95]; show gp_us s_63 + 19 = 606943; rw [q_89]; try rfl
  have q_121 : gp_sz s_94 = 120 := by rw [e_95]; exact congrArg Nat.succ q_90
  have q_122 : gp_I s_94 117 0 = 19 := by rw [e_95, gz_nI q_90 (by decide)]; exact q_91
  have q_123 : gp_sh s_94 118 = (101, 19) := by rw [e_95, gz_nS q_90 (by decide)]; exact q_92
  have q_124 : gp_R s_94 117 1 = some 118 := by rw [e_95, gz_nR q_90 (by decide)]; exact q_93
  have q_125 : gp_sh s_94 119 = (101, 19) := by rw [e_95]; exact gz_nSs q_90
  refine ⟨(by show (gp_sh s_94 117).1 = 9; rw [q_119]), ?_⟩
  refine ⟨rfl, ?_⟩
  intro s_126 e_127
  have hs_128 : xM z s_126 := by rw [e_127]; exact xI.wR hs_96 _ _ _
  have q_129 : gp_I s_126 1 2 = 0 := by rw [e_127]; exact q_97
  have q_130 : gp_I s_126 1 6 = 0 := by rw [e_127]; exact q_98
  have q_131 : gp_I s_126 1 7 = 1 := by rw [e_127]; exact q_99
  have q_132 : gp_I s_126 51 8 = 0 := by rw [e_127]; exact q_100
  have q_133 : gp_I s_126 57 1 = 0 := by rw [e_127]; exact q_101
  have q_134 : gp_I s_126 57 3 = 0 := by rw [e_127]; exact q_102
  have q_135 : gp_I s_126 6 4 = 0 := by rw [e_127]; exact q_103
  have q_136 : gp_R s_126 117 3 = none := by rw [e_127]; exact q_105
  have q_137 : gp_R s_126 117 4 = none := by rw [e_127]; exact q_106
  have q_138 : gp_R s_126 117 5 = none := by rw [e_127]; exact q_107
  have q_139 : gp_R s_126 117 6 = none := by rw [e_127]; exact q_108
  have q_140 : gp_R s_126 117 7 = none := by rw [e_127]; exact q_109
  have q_141 : gp_R s_126 117 8 = none := by rw [e_127]; exact q_110
  have q_142 : gp_R s_126 117 9 = none := by rw [e_127]; exact q_111
  have q_143 : gp_R s_126 25 6 = none := by rw [e_127]; exact q_112
  have q_144 : gp_R s_126 25 7 = none := by rw [e_127]; exact q_113
  have q_145 : gp_R s_126 25 8 = none := by rw [e_127]; exact q_114
  have q_146 : gp_R s_126 25 9 = none := by rw [e_127]; exact q_115
  have q_147 : ∀ k, k < 8 → gp_R s_126 4 k = some 25 := by rw [e_127]; exact q_116
  have q_148 : gp_R s_126 51 6 = some 55 := by rw [e_127]; exact q_117
  have q_149 : gp_R s_126 51 7 = some 56 := by rw [e_127]; exact q_118
  have q_150 : gp_sh s_126 117 = (9, 10) := by rw [e_127]; exact q_119
  have q_151 : gp_us s_126 = 606943 := by rw [e_127]; exact q_120
  have q_152 : gp_sz s_126 = 120 := by rw [e_127]; exact q_121
  have q_153 : gp_I s_126 117 0 = 19 := by rw [e_127]; exact q_122
  have q_154 : gp_sh s_126 118 = (101, 19) := by rw [e_127]; exact q_123
  have q_155 : gp_R s_126 117 1 = some 118 := by rw [e_127]; exact q_124
  have q_156 : gp_sh s_126 119 = (101, 19) := by rw [e_127]; exact q_125
  have q_157 : gp_R s_126 117 2 = some 119 := by rw [e_127]; rfl
  refine ⟨by omega, ?_⟩
  refine ⟨by omega, ?_⟩
  try rw [show gp_sz s_126 = 120 from q_152]
  intro s_158 e_159
  have hs_160 : xM z s_158 := by rw [e_159]; exact xI.new hs_128 (by omega)
  have q_161 : gp_I s_158 1 2 = 0 := by rw [e_159, gz_nI q_152 (by decide)]; exact q_129
  have q_162 : gp_I s_158 1 6 = 0 := by rw [e_159, gz_nI q_152 (by decide)]; exact q_130
  have q_163 : gp_I s_158 1 7 = 1 := by rw [e_159, gz_nI q_152 (by decide)]; exact q_131
  have q_164 : gp_I s_158 51 8 = 0 := by rw [e_159, gz_nI q_152 (by decide)]; exact q_132
  have q_165 : gp_I s_158 57 1 = 0 := by rw [e_159, gz_nI q_152 (by decide)]; exact q_133
  have q_166 : gp_I s_158 57 3 = 0 := by rw [e_159, gz_nI q_152 (by decide)]; exact q_134
  have q_167 : gp_I s_158 6 4 = 0 := by rw [e_159, gz_nI q_152 (by decide)]; exact q_135
  have q_168 : gp_R s_158 117 3 = none := by rw [e_159, gz_nR q_152 (by decide)]; exact q_136
  have q_169 : gp_R s_158 117 4 = none := by rw [e_159, gz_nR q_152 (by decide)]; exact q_137
  have q_170 : gp_R s_158 117 5 = none := by rw [e_159, gz_nR q_152 (by decide)]; exact q_138
  have q_171 : gp_R s_158 117 6 = none := by rw [e_159, gz_nR q_152 (by decide)]; exact q_139
  have q_172 : gp_R s_158 117 7 = none := by rw [e_159, gz_nR q_152 (by decide)]; exact q_140
  have q_173 : gp_R s_158 117 8 = none := by rw [e_159, gz_nR q_152 (by decide)]; exact q_141
  have q_174 : gp_R s_158 117 9 = none := by rw [e_159, gz_nR q_152 (by decide)]; exact q_142
  have q_175 : gp_R s_158 25 6 = none := by rw [e_159, gz_nR q_152 (by decide)]; exact q_143
  have q_176 : gp_R s_158 25 7 = none := by rw [e_159, gz_nR q_152 (by decide)]; exact q_144
  have q_177 : gp_R s_158 25 8 = none := by rw [e_159, gz_nR q_152 (by decide)]; exact q_145
  have q_178 : gp_R s_158 25 9 = none := by rw [e_159, gz_nR q_152 (by decide)]; exact q_146
  have q_179 : ∀ k, k < 8 → gp_R s_158 4 k = some 25 := fun k hk => by rw [e_159, gz_nR q_152 (by decide)]; exact q_147 k hk
  have q_180 : gp_R s_158 51 6 = some 55 := by rw [e_159, gz_nR q_152 (by decide)]; exact q_148
  have q_181 : gp_R s_158 51 7 = some 56 := by rw [e_159, gz_nR q_152 (by decide)]; exact q_149
  have q_182 : gp_sh s_158 117 = (9, 10) := by rw [e_159, gz_nS q_152 (by decide)]; exact q_150
  have q_183 : gp_us s_158 = 606962 := by rw [e_159]; show gp_us s_126 + 19 = 606962; rw [q_151]; try rfl
  have q_184 : gp_sz s_158 = 121 := by rw [e_159]; exact congrArg Nat.succ q_152
  have q_185 : gp_I s_158 117 0 = 19 := by rw [e_159, gz_nI q_152 (by decide)]; exact q_153
  have q_186 : gp_sh s_158 118 = (101, 19) := by rw [e_159, gz_nS q_152 (by decide)]; exact q_154
  have q_187 : gp_R s_158 117 1 = some 118 := by rw [e_159, gz_nR q_152 (by decide)]; exact q_155
  have q_188 : gp_sh s_158 119 = (101, 19) := by rw [e_159, gz_nS q_152 (by decide)]; exact q_156
  have q_189 : gp_R s_158 117 2 = some 119 := by rw [e_159, gz_nR q_152 (by decide)]; exact q_157
  have q_190 : gp_sh s_158 120 = (100, 19) := by rw [e_159]; exact gz_nSs q_152
  refine ⟨(by show (gp_sh s_158 117).1 = 9; rw [q_182]), ?_⟩
  refine ⟨rfl, ?_⟩
  intro s_191 e_192
  have hs_193 : xM z s_191 := by rw [e_192]; exact xI.wR hs_160 _ _ _
  have q_194 : gp_I s_191 1 2 = 0 := by rw [e_192]; exact q_161
  have q_195 : gp_I s_191 1 6 = 0 := by rw [e_192]; exact q_162
  have q_196 : gp_I s_191 1 7 = 1 := by rw [e_192]; exact q_163
  have q_197 : gp_I s_191 51 8 = 0 := by rw [e_192]; exact q_164
  have q_198 : gp_I s_191 57 1 = 0 := by rw [e_192]; exact q_165
  have q_199 : gp_I s_191 57 3 = 0 := by rw [e_192]; exact q_166
  have q_200 : gp_I s_191 6 4 = 0 := by rw [e_192]; exact q_167
  have q_201 : gp_R s_191 117 4 = none := by rw [e_192]; exact q_169
  have q_202 : gp_R s_191 117 5 = none := by rw [e_192]; exact q_170
  have q_203 : gp_R s_191 117 6 = none := by rw [e_192]; exact q_171
  have q_204 : gp_R s_191 117 7 = none := by rw [e_192]; exact q_172
  have q_205 : gp_R s_191 117 8 = none := by rw [e_192]; exact q_173
  have q_206 : gp_R s_191 117 9 = none := by rw [e_192]; exact q_174
  have q_207 : gp_R s_191 25 6 = none := by rw [e_192]; exact q_175
  have q_208 : gp_R s_191 25 7 = none := by rw [e_192]; exact q_176
  have q_209 : gp_R s_191 25 8 = none := by rw [e_192]; exact q_177
  have q_210 : gp_R s_191 25 9 = none := by rw [e_192]; exact q_178
  have q_211 : ∀ k, k < 8 → gp_R s_191 4 k = some 25 := by rw [e_192]; exact q_179
  have q_212 : gp_R s_191 51 6 = some 55 := by rw [e_192]; exact q_180
  have q_213 : gp_R s_191 51 7 = some 56 := by rw [e_192]; exact q_181
  have q_214 : gp_sh s_191 117 = (9, 10) := by rw [e_192]; exact q_182
  have q_215 : gp_us s_191 = 606962 := by rw [e_192]; exact q_183
  have q_216 : gp_sz s_191 = 121 := by rw [e_192]; exact q_184
  have q_217 : gp_I s_191 117 0 = 19 := by rw [e_192]; exact q_185
  have q_218 : gp_sh s_191 118 = (101, 19) := by rw [e_192]; exact q_186
  have q_219 : gp_R s_191 117 1 = some 118 := by rw [e_192]; exact q_187
  have q_220 : gp_sh s_191 119 = (101, 19) := by rw [e_192]; exact q_188
  have q_221 : gp_R s_191 117 2 = some 119 := by rw [e_192]; exact q_189
  have q_222 : gp_sh s_191 120 = (100, 19) := by rw [e_192]; exact q_190
  have q_223 : gp_R s_191 117 3 = some 120 := by rw [e_192]; rfl
  refine ⟨by omega, ?_⟩
  refine ⟨by omega, ?_⟩
  try rw [show gp_sz s_191 = 121 from q_216]
  intro s_224 e_225
  have hs_226 : xM z s_224 := by rw [e_225]; exact xI.new hs_193 (by omega)
  have q_227 : gp_I s_224 1 2 = 0 := by rw [e_225, gz_nI q_216 (by decide)]; exact q_194
  have q_228 : gp_I s_224 1 6 = 0 := by rw [e_225, gz_nI q_216 (by decide)]; exact q_195
  have q_229 : gp_I s_224 1 7 = 1 := by rw [e_225, gz_nI q_216 (by decide)]; exact q_196
  have q_230 : gp_I s_224 51 8 = 0 := by rw [e_225, gz_nI q_216 (by decide)]; exact q_197
  have q_231 : gp_I s_224 57 1 = 0 := by rw [e_225, gz_nI q_216 (by decide)]; exact q_198
  have q_232 : gp_I s_224 57 3 = 0 := by rw [e_225, gz_nI q_216 (by decide)]; exact q_199
  have q_233 : gp_I s_224 6 4 = 0 := by rw [e_225, gz_nI q_216 (by decide)]; exact q_200
  have q_234 : gp_R s_224 117 4 = none := by rw [e_225, gz_nR q_216 (by decide)]; exact q_201
  have q_235 : gp_R s_224 117 5 = none := by rw [e_225, gz_nR q_216 (by decide)]; exact q_202
  have q_236 : gp_R s_224 117 6 = none := by rw [e_225, gz_nR q_216 (by decide)]; exact q_203
  have q_237 : gp_R s_224 117 7 = none := by rw [e_225, gz_nR q_216 (by decide)]; exact q_204
  have q_238 : gp_R s_224 117 8 = none := by rw [e_225, gz_nR q_216 (by decide)]; exact q_205
  have q_239 : gp_R s_224 117 9 = none := by rw [e_225, gz_nR q_216 (by decide)]; exact q_206
  have q_240 : gp_R s_224 25 6 = none := by rw [e_225, gz_nR q_216 (by decide)]; exact q_207
  have q_241 : gp_R s_224 25 7 = none := by rw [e_225, gz_nR q_216 (by decide)]; exact q_208
  have q_242 : gp_R s_224 25 8 = none := by rw [e_225, gz_nR q_216 (by decide)]; exact q_209
  have q_243 : gp_R s_224 25 9 = none := by rw [e_225, gz_nR q_216 (by decide)]; exact q_210
  have q_244 : ∀ k, k < 8 → gp_R s_224 4 k = some 25 := fun k hk => by rw [e_225, gz_nR q_216 (by decide)]; exact q_211 k hk
  have q_245 : gp_R s_224 51 6 = some 55 := by rw [e_225, gz_nR q_216 (by decide)]; exact q_212
  have q_246 : gp_R s_224 51 7 = some 56 := by rw [e_225, gz_nR q_216 (by decide)]; exact q_213
  have q_247 : gp_sh s_224 117 = (9, 10) := by rw [e_225, gz_nS q_216 (by decide)]; exact q_214
  have q_248 : gp_us s_224 = 606981 := by rw [e_225]; show gp_us s_191 + 19 = 606981; rw [q_215]; try rfl
  have q_249 : gp_sz s_224 = 122 := by rw [e_225]; exact congrArg Nat.succ q_216
  have q_250 : gp_I s_224 117 0 = 19 := by rw [e_225, gz_nI q_216 (by decide)]; exact q_217
  have q_251 : gp_sh s_224 118 = (101, 19) := by rw [e_225, gz_nS q_216 (by decide)]; exact q_218
  have q_252 : gp_R s_224 117 1 = some 118 := by rw [e_225, gz_nR q_216 (by decide)]; exact q_219
  have q_253 : gp_sh s_224 119 = (101, 19) := by rw [e_225, gz_nS q_216 (by decide)]; exact q_220
  have q_254 : gp_R s_224 117 2 = some 119 := by rw [e_225, gz_nR q_216 (by decide)]; exact q_221
  have q_255 : gp_sh s_224 120 = (100, 19) := by rw [e_225, gz_nS q_216 (by decide)]; exact q_222
  have q_256 : gp_R s_224 117 3 = some 120 := by rw [e_225, gz_nR q_216 (by decide)]; exact q_223
  have q_257 : gp_sh s_224 121 = (100, 19) := by rw [e_225]; exact gz_nSs q_216
  refine ⟨(by show (gp_sh s_224 117).1 = 9; rw [q_247]), ?_⟩
  refine ⟨rfl, ?_⟩
  intro s_258 e_259
  have hs_260 : xM z s_258 := by rw [e_259]; exact xI.wR hs_226 _ _ _
  have q_261 : gp_I s_258 1 2 = 0 := by rw [e_259]; exact q_227
  have q_262 : gp_I s_258 1 6 = 0 := by rw [e_259]; exact q_228
  have q_263 : gp_I s_258 1 7 = 1 := by rw [e_259]; exact q_229
  have q_264 : gp_I s_258 51 8 = 0 := by rw [e_259]; exact q_230
  have q_265 : gp_I s_258 57 1 = 0 := by rw [e_259]; exact q_231
  have q_266 : gp_I s_258 57 3 = 0 := by rw [e_259]; exact q_232
  have q_267 : gp_I s_258 6 4 = 0 := by rw [e_259]; exact q_233
  have q_268 : gp_R s_258 117 5 = none := by rw [e_259]; exact q_235
  have q_269 : gp_R s_258 117 6 = none := by rw [e_259]; exact q_236
  have q_270 : gp_R s_258 117 7 = none := by rw [e_259]; exact q_237
  have q_271 : gp_R s_258 117 8 = none := by rw [e_259]; exact q_238
  have q_272 : gp_R s_258 117 9 = none := by rw [e_259]; exact q_239
  have q_273 : gp_R s_258 25 6 = none := by rw [e_259]; exact q_240
  have q_274 : gp_R s_258 25 7 = none := by rw [e_259]; exact q_241
  have q_275 : gp_R s_258 25 8 = none := by rw [e_259]; exact q_242
  have q_276 : gp_R s_258 25 9 = none := by rw [e_259]; exact q_243
  have q_277 : ∀ k, k < 8 → gp_R s_258 4 k = some 25 := by rw [e_259]; exact q_244
  have q_278 : gp_R s_258 51 6 = some 55 := by rw [e_259]; exact q_245
  have q_279 : gp_R s_258 51 7 = some 56 := by rw [e_259]; exact q_246
  have q_280 : gp_sh s_258 117 = (9, 10) := by rw [e_259]; exact q_247
  have q_281 : gp_us s_258 = 606981 := by rw [e_259]; exact q_248
  have q_282 : gp_sz s_258 = 122 := by rw [e_259]; exact q_249
  have q_283 : gp_I s_258 117 0 = 19 := by rw [e_259]; exact q_250
  have q_284 : gp_sh s_258 118 = (101, 19) := by rw [e_259]; exact q_251
  have q_285 : gp_R s_258 117 1 = some 118 := by rw [e_259]; exact q_252
  have q_286 : gp_sh s_258 119 = (101, 19) := by rw [e_259]; exact q_253
  have q_287 : gp_R s_258 117 2 = some 119 := by rw [e_259]; exact q_254
  have q_288 : gp_sh s_258 120 = (100, 19) := by rw [e_259]; exact q_255
  have q_289 : gp_R s_258 117 3 = some 120 := by rw [e_259]; exact q_256
  have q_290 : gp_sh s_258 121 = (100, 19) := by rw [e_259]; exact q_257
  have q_291 : gp_R s_258 117 4 = some 121 := by rw [e_259]; rfl
  refine ⟨by omega, ?_⟩
  refine ⟨by omega, ?_⟩
  try rw [show gp_sz s_258 = 122 from q_282]
  intro s_292 e_293
  have hs_294 : xM z s_292 := by rw [e_293]; exact xI.new hs_260 (by omega)
  have q_295 : gp_I s_292 1 2 = 0 := by rw [e_293, gz_nI q_282 (by decide)]; exact q_261
  have q_296 : gp_I s_292 1 6 = 0 := by rw [e_293, gz_nI q_282 (by decide)]; exact q_262
  have q_297 : gp_I s_292 1 7 = 1 := by rw [e_293, gz_nI q_282 (by decide)]; exact q_263
  have q_298 : gp_I s_292 51 8 = 0 := by rw [e_293, gz_nI q_282 (by decide)]; exact q_264
  have q_299 : gp_I s_292 57 1 = 0 := by rw [e_293, gz_nI q_282 (by decide)]; exact q_265
  have q_300 : gp_I s_292 57 3 = 0 := by rw [e_293, gz_nI q_282 (by decide)]; exact q_266
  have q_301 : gp_I s_292 6 4 = 0 := by rw [e_293, gz_nI q_282 (by decide)]; exact q_267
  have q_302 : gp_R s_292 117 5 = none := by rw [e_293, gz_nR q_282 (by decide)]; exact q_268
  have q_303 : gp_R s_292 117 6 = none := by rw [e_293, gz_nR q_282 (by decide)]; exact q_269
  have q_304 : gp_R s_292 117 7 = none := by rw [e_293, gz_nR q_282 (by decide)]; exact q_270
  have q_305 : gp_R s_292 117 8 = none := by rw [e_293, gz_nR q_282 (by decide)]; exact q_271
  have q_306 : gp_R s_292 117 9 = none := by rw [e_293, gz_nR q_282 (by decide)]; exact q_272
  have q_307 : gp_R s_292 25 6 = none := by rw [e_293, gz_nR q_282 (by decide)]; exact q_273
  have q_308 : gp_R s_292 25 7 = none := by rw [e_293, gz_nR q_282 (by decide)]; exact q_274
  have q_309 : gp_R s_292 25 8 = none := by rw [e_293, gz_nR q_282 (by decide)]; exact q_275
  have q_310 : gp_R s_292 25 9 = none := by rw [e_293, gz_nR q_282 (by decide)]; exact q_276
  have q_311 : ∀ k, k < 8 → gp_R s_292 4 k = some 25 := fun k hk => by rw [e_293, gz_nR q_282 (by decide)]; exact q_277 k hk
  have q_312 : gp_R s_292 51 6 = some 55 := by rw [e_293, gz_nR q_282 (by decide)]; exact q_278
  have q_313 : gp_R s_292 51 7 = some 56 := by rw [e_293, gz_nR q_282 (by decide)]; exact q_279
  have q_314 : gp_sh s_292 117 = (9, 10) := by rw [e_293, gz_nS q_282 (by decide)]; exact q_280
  have q_315 : gp_us s_292 = 607000 := by rw [e_293]; show gp_us s_258 + 19 = 607000; rw [q_281]; try rfl
  have q_316 : gp_sz s_292 = 123 := by rw [e_293]; exact congrArg Nat.succ q_282
  have q_317 : gp_I s_292 117 0 = 19 := by rw [e_293, gz_nI q_282 (by decide)]; exact q_283
  have q_318 : gp_sh s_292 118 = (101, 19) := by rw [e_293, gz_nS q_282 (by decide)]; exact q_284
  have q_319 : gp_R s_292 117 1 = some 118 := by rw [e_293, gz_nR q_282 (by decide)]; exact q_285
  have q_320 : gp_sh s_292 119 = (101, 19) := by rw [e_293, gz_nS q_282 (by decide)]; exact q_286
  have q_321 : gp_R s_292 117 2 = some 119 := by rw [e_293, gz_nR q_282 (by decide)]; exact q_287
  have q_322 : gp_sh s_292 120 = (100, 19) := by rw [e_293, gz_nS q_282 (by decide)]; exact q_288
  have q_323 : gp_R s_292 117 3 = some 120 := by rw [e_293, gz_nR q_282 (by decide)]; exact q_289
  have q_324 : gp_sh s_292 121 = (100, 19) := by rw [e_293, gz_nS q_282 (by decide)]; exact q_290
  have q_325 : gp_R s_292 117 4 = some 121 := by rw [e_293, gz_nR q_282 (by decide)]; exact q_291
  have q_326 : gp_sh s_292 122 = (100, 19) := by rw [e_293]; exact gz_nSs q_282
  refine ⟨(by show (gp_sh s_292 117).1 = 9; rw [q_314]), ?_⟩
  refine ⟨rfl, ?_⟩
  intro s_327 e_328
  have hs_329 : xM z s_327 := by rw [e_328]; exact xI.wR hs_294 _ _ _
  have q_330 : gp_I s_327 1 2 = 0 := by rw [e_328]; exact q_295
  have q_331 : gp_I s_327 1 6 = 0 := by rw [e_328]; exact q_296
  have q_332 : gp_I s_327 1 7 = 1 := by rw [e_328]; exact q_297
  have q_333 : gp_I s_327 51 8 = 0 := by rw [e_328]; exact q_298
  have q_334 : gp_I s_327 57 1 = 0 := by rw [e_328]; exact q_299
  have q_335 : gp_I s_327 57 3 = 0 := by rw [e_328]; exact q_300
  have q_336 : gp_I s_327 6 4 = 0 := by rw [e_328]; exact q_301
  have q_337 : gp_R s_327 117 6 = none := by rw [e_328]; exact q_303
  have q_338 : gp_R s_327 117 7 = none := by rw [e_328]; exact q_304
  have q_339 : gp_R s_327 117 8 = none := by rw [e_328]; exact q_305
  have q_340 : gp_R s_327 117 9 = none := by rw [e_328]; exact q_306
  have q_341 : gp_R s_327 25 6 = none := by rw [e_328]; exact q_307
  have q_342 : gp_R s_327 25 7 = none := by rw [e_328]; exact q_308
  have q_343 : gp_R s_327 25 8 = none := by rw [e_328]; exact q_309
  have q_344 : gp_R s_327 25 9 = none := by rw [e_328]; exact q_310
  have q_345 : ∀ k, k < 8 → gp_R s_327 4 k = some 25 := by rw [e_328]; exact q_311
  have q_346 : gp_R s_327 51 6 = some 55 := by rw [e_328]; exact q_312
  have q_347 : gp_R s_327 51 7 = some 56 := by rw [e_328]; exact q_313
  have q_348 : gp_sh s_327 117 = (9, 10) := by rw [e_328]; exact q_314
  have q_349 : gp_us s_327 = 607000 := by rw [e_328]; exact q_315
  have q_350 : gp_sz s_327 = 123 := by rw [e_328]; exact q_316
  have q_351 : gp_I s_327 117 0 = 19 := by rw [e_328]; exact q_317
  have q_352 : gp_sh s_327 118 = (101, 19) := by rw [e_328]; exact q_318
  have q_353 : gp_R s_327 117 1 = some 118 := by rw [e_328]; exact q_319
  have q_354 : gp_sh s_327 119 = (101, 19) := by rw [e_328]; exact q_320
  have q_355 : gp_R s_327 117 2 = some 119 := by rw [e_328]; exact q_321
  have q_356 : gp_sh s_327 120 = (100, 19) := by rw [e_328]; exact q_322
  have q_357 : gp_R s_327 117 3 = some 120 := by rw [e_328]; exact q_323
  have q_358 : gp_sh s_327 121 = (100, 19) := by rw [e_328]; exact q_324
  have q_359 : gp_R s_327 117 4 = some 121 := by rw [e_328]; exact q_325
  have q_360 : gp_sh s_327 122 = (100, 19) := by rw [e_328]; exact q_326
  have q_361 : gp_R s_327 117 5 = some 122 := by rw [e_328]; rfl
  exact k s_327 hs_329 (by omega) (by omega) (by omega) (by omega) (by omega) (by omega) (by omega) (by omega) q_353 q_355 q_357 q_359 q_361 q_337 q_338 q_339 q_340 q_341 q_342 q_343 q_344 q_345 q_346 q_347 q_348 q_352 q_354 q_356 q_358 q_360 q_349 q_350
set_option maxRecDepth 100000 in
/-- Maker.pauses, the loop at 13 -/
theorem zx258_18_l13_0 {z : gH} {L d : Nat} {K : Option gV → gH → Prop}   (k : ∀ (t : gH), xM z t → (gp_I t 1 2 = 0) → (gp_I t 1 6 = 0) → (gp_I t 1 7 = 1) → (gp_I t 117 0 = 19) → (gp_I t 51 8 = 0) → (gp_I t 57 1 = 0) → (gp_I t 57 3 = 0) → (gp_I t 6 4 = 0) → (gp_R t 117 1 = some 118) → (gp_R t 117 2 = some 119) → (gp_R t 117 3 = some 120) → (gp_R t 117 4 = some 121) → (gp_R t 117 5 = some 122) → (gp_R t 117 6 = none) → (gp_R t 117 7 = none) → (gp_R t 117 8 = none) → (gp_R t 117 9 = none) → (gp_R t 25 6 = none) → (gp_R t 25 7 = none) → (gp_R t 25 8 = none) → (gp_R t 25 9 = none) → (∀ k, k < 8 → gp_R t 4 k = some 25) → (gp_R t 51 6 = some 55) → (gp_R t 51 7 = some 56) → (gp_sh t 117 = (9, 10)) → (gp_sh t 118 = (101, 19)) → (gp_sh t 119 = (101, 19)) → (gp_sh t 120 = (100, 19)) → (gp_sh t 121 = (100, 19)) → (gp_sh t 122 = (100, 19)) → (gp_us t = 607000) → (gp_sz t = 123) → K (some (gp_r (some 117))) t)  : ∀ (n : Nat) (v1 : Int) (v2 : Option Nat) (v3 : Int) (s : gH), xM z s → (61 - v3).toNat < n → (v1 = 18) → (v2 = some 117) → (1 ≤ v3 ∧ v3 ≤ 60) → (gp_I s 1 2 = 0) → (gp_I s 1 6 = 0) → (gp_I s 1 7 = 1) → (gp_I s 117 0 = 19) → (gp_I s 51 8 = 0) → (gp_I s 57 1 = 0) → (gp_I s 57 3 = 0) → (gp_I s 6 4 = 0) → (gp_R s 117 1 = some 118) → (gp_R s 117 2 = some 119) → (gp_R s 117 3 = some 120) → (gp_R s 117 4 = some 121) → (gp_R s 117 5 = some 122) → (gp_R s 117 6 = none) → (gp_R s 117 7 = none) → (gp_R s 117 8 = none) → (gp_R s 117 9 = none) → (gp_R s 25 6 = none) → (gp_R s 25 7 = none) → (gp_R s 25 8 = none) → (gp_R s 25 9 = none) → (∀ k, k < 8 → gp_R s 4 k = some 25) → (gp_R s 51 6 = some 55) → (gp_R s 51 7 = some 56) → (gp_sh s 117 = (9, 10)) → (gp_sh s 118 = (101, 19)) → (gp_sh s 119 = (101, 19)) → (gp_sh s 120 = (100, 19)) → (gp_sh s 121 = (100, 19)) → (gp_sh s 122 = (100, 19)) → (gp_us s = 607000) → (gp_sz s = 123) → gs_E L (d + 1) 258 13 [gp_r (some 20), gp_i v1, gp_r v2, gp_i v3] [] s K := by
  intro n
  induction n with
  | zero => intro v1 v2 v3 s hs hm i0 i1 i2 i3 i4 i5 i6 i7 i8 i9 i10 i11 i12 i13 i14 i15 i16 i17 i18 i19 i20 i21 i22 i23 i24 i25 i26 i27 i28 i29 i30 i31 i32 i33 i34; exact absurd hm (Nat.not_lt_zero _)
  | succ n ih =>
    intro v1 v2 v3 s hs hm i0 i1 i2 i3 i4 i5 i6 i7 i8 i9 i10 i11 i12 i13 i14 i15 i16 i17 i18 i19 i20 i21 i22 i23 i24 i25 i26 i27 i28 i29 i30 i31 i32 i33 i34
    subst i0
    subst i1
    refine s_258_13 _ _ _ ?_
    refine ⟨fun h_1 => ?_, fun h_1 => ?_⟩
    · exact k s hs (by omega) (by omega) (by omega) (by omega) (by omega) (by omega) (by omega) (by omega) i11 i12 i13 i14 i15 i16 i17 i18 i19 i20 i21 i22 i23 i24 i25 i26 i27 i28 i29 i30 i31 i32 i33 i34
    · refine ⟨117, rfl, ?_⟩
      refine ⟨(by show (gp_sh s 117).1 = 9; rw [i27]), ?_⟩
      try rw [show gp_R (gp_mk L s) 117 1 = some 118 from i11]
      have w_2 := gz_w (v3 - 1)
      refine ⟨118, rfl, ?_⟩
      refine ⟨⟨by show (gp_sh s 118).1 = 101; rw [i28], by omega, by show v3 < ((gp_sh s 118).2 : Int); rw [i28]; show v3 < 19; omega⟩, ?_⟩
      intro s_3 e_4
      have hs_5 : xM z s_3 := by rw [e_4]; exact xI.wLd hs _ _ _ (by omega)
      have q_6 : gp_I s_3 1 2 = 0 := by rw [e_4]; exact i3
      have q_7 : gp_I s_3 1 6 = 0 := by rw [e_4]; exact i4
      have q_8 : gp_I s_3 1 7 = 1 := by rw [e_4]; exact i5
      have q_9 : gp_I s_3 117 0 = 19 := by rw [e_4]; exact i6
      have q_10 : gp_I s_3 51 8 = 0 := by rw [e_4]; exact i7
      have q_11 : gp_I s_3 57 1 = 0 := by rw [e_4]; exact i8
      have q_12 : gp_I s_3 57 3 = 0 := by rw [e_4]; exact i9
      have q_13 : gp_I s_3 6 4 = 0 := by rw [e_4]; exact i10
      have q_14 : gp_R s_3 117 1 = some 118 := by rw [e_4]; exact i11
      have q_15 : gp_R s_3 117 2 = some 119 := by rw [e_4]; exact i12
      have q_16 : gp_R s_3 117 3 = some 120 := by rw [e_4]; exact i13
      have q_17 : gp_R s_3 117 4 = some 121 := by rw [e_4]; exact i14
      have q_18 : gp_R s_3 117 5 = some 122 := by rw [e_4]; exact i15
      have q_19 : gp_R s_3 117 6 = none := by rw [e_4]; exact i16
      have q_20 : gp_R s_3 117 7 = none := by rw [e_4]; exact i17
      have q_21 : gp_R s_3 117 8 = none := by rw [e_4]; exact i18
      have q_22 : gp_R s_3 117 9 = none := by rw [e_4]; exact i19
      have q_23 : gp_R s_3 25 6 = none := by rw [e_4]; exact i20
      have q_24 : gp_R s_3 25 7 = none := by rw [e_4]; exact i21
      have q_25 : gp_R s_3 25 8 = none := by rw [e_4]; exact i22
      have q_26 : gp_R s_3 25 9 = none := by rw [e_4]; exact i23
      have q_27 : ∀ k, k < 8 → gp_R s_3 4 k = some 25 := by rw [e_4]; exact i24
      have q_28 : gp_R s_3 51 6 = some 55 := by rw [e_4]; exact i25
      have q_29 : gp_R s_3 51 7 = some 56 := by rw [e_4]; exact i26
      have q_30 : gp_sh s_3 117 = (9, 10) := by rw [e_4]; exact i27
      have q_31 : gp_sh s_3 118 = (101, 19) := by rw [e_4]; exact i28
      have q_32 : gp_sh s_3 119 = (101, 19) := by rw [e_4]; exact i29
      have q_33 : gp_sh s_3 120 = (100, 19) := by rw [e_4]; exact i30
      have q_34 : gp_sh s_3 121 = (100, 19) := by rw [e_4]; exact i31
      have q_35 : gp_sh s_3 122 = (100, 19) := by rw [e_4]; exact i32
      have q_36 : gp_us s_3 = 607000 := by rw [e_4]; exact i33
      have q_37 : gp_sz s_3 = 123 := by rw [e_4]; exact i34
      refine ⟨(by show (gp_sh s_3 117).1 = 9; rw [q_30]), ?_⟩
      try rw [show gp_R (gp_mk L s_3) 117 5 = some 122 from q_18]
      refine ⟨122, rfl, ?_⟩
      refine ⟨⟨by show (gp_sh s_3 122).1 = 100; rw [q_35], by omega, by show v3 < ((gp_sh s_3 122).2 : Int); rw [q_35]; show v3 < 19; omega⟩, ?_⟩
      intro s_38 e_39
      have hs_40 : xM z s_38 := by rw [e_39]; exact xI.wId hs_5 _ _ _ (by omega)
      have q_41 : gp_I s_38 1 2 = 0 := by rw [e_39]; exact q_6
      have q_42 : gp_I s_38 1 6 = 0 := by rw [e_39]; exact q_7
      have q_43 : gp_I s_38 1 7 = 1 := by rw [e_39]; exact q_8
      have q_44 : gp_I s_38 117 0 = 19 := by rw [e_39]; exact q_9
      have q_45 : gp_I s_38 51 8 = 0 := by rw [e_39]; exact q_10
      have q_46 : gp_I s_38 57 1 = 0 := by rw [e_39]; exact q_11
      have q_47 : gp_I s_38 57 3 = 0 := by rw [e_39]; exact q_12
      have q_48 : gp_I s_38 6 4 = 0 := by rw [e_39]; exact q_13
      have q_49 : gp_R s_38 117 1 = some 118 := by rw [e_39]; exact q_14
      have q_50 : gp_R s_38 117 2 = some 119 := by rw [e_39]; exact q_15
      have q_51 : gp_R s_38 117 3 = some 120 := by rw [e_39]; exact q_16
      have q_52 : gp_R s_38 117 4 = some 121 := by rw [e_39]; exact q_17
      have q_53 : gp_R s_38 117 5 = some 122 := by rw [e_39]; exact q_18
      have q_54 : gp_R s_38 117 6 = none := by rw [e_39]; exact q_19
      have q_55 : gp_R s_38 117 7 = none := by rw [e_39]; exact q_20
      have q_56 : gp_R s_38 117 8 = none := by rw [e_39]; exact q_21
      have q_57 : gp_R s_38 117 9 = none := by rw [e_39]; exact q_22
      have q_58 : gp_R s_38 25 6 = none := by rw [e_39]; exact q_23
      have q_59 : gp_R s_38 25 7 = none := by rw [e_39]; exact q_24
      have q_60 : gp_R s_38 25 8 = none := by rw [e_39]; exact q_25
      have q_61 : gp_R s_38 25 9 = none := by rw [e_39]; exact q_26
      have q_62 : ∀ k, k < 8 → gp_R s_38 4 k = some 25 := by rw [e_39]; exact q_27
      have q_63 : gp_R s_38 51 6 = some 55 := by rw [e_39]; exact q_28
      have q_64 : gp_R s_38 51 7 = some 56 := by rw [e_39]; exact q_29
      have q_65 : gp_sh s_38 117 = (9, 10) := by rw [e_39]; exact q_30
      have q_66 : gp_sh s_38 118 = (101, 19) := by rw [e_39]; exact q_31
      have q_67 : gp_sh s_38 119 = (101, 19) := by rw [e_39]; exact q_32
      have q_68 : gp_sh s_38 120 = (100, 19) := by rw [e_39]; exact q_33
      have q_69 : gp_sh s_38 121 = (100, 19) := by rw [e_39]; exact q_34
      have q_70 : gp_sh s_38 122 = (100, 19) := by rw [e_39]; exact q_35
      have q_71 : gp_us s_38 = 607000 := by rw [e_39]; exact q_36
      have q_72 : gp_sz s_38 = 123 := by rw [e_39]; exact q_37
      have w_73 := gz_w (v3 + 1)
      exact ih _ _ _ s_38 hs_40 (by omega) (by omega) rfl (by omega) (by omega) (by omega) (by omega) (by omega) (by omega) (by omega) (by omega) (by omega) q_49 q_50 q_51 q_52 q_53 q_54 q_55 q_56 q_57 q_58 q_59 q_60 q_61 q_62 q_63 q_64 q_65 q_66 q_67 q_68 q_69 q_70 q_71 q_72
set_option maxRecDepth 100000 in
/-- Maker.pauses [(18, 18)] -/
theorem zx258_18 {z : gH} {L d : Nat} {K : Option gV → gH → Prop} {s : gH}  (hs : xM z s)  (q0 : gp_I s 1 2 = 0) (q1 : gp_I s 1 6 = 0) (q2 : gp_I s 1 7 = 1) (q3 : gp_I s 51 8 = 0) (q4 : gp_I s 57 1 = 0) (q5 : gp_I s 57 3 = 0) (q6 : gp_I s 6 4 = 0) (q7 : gp_R s 25 6 = none) (q8 : gp_R s 25 7 = none) (q9 : gp_R s 25 8 = none) (q10 : gp_R s 25 9 = none) (q11 : ∀ k, k < 8 → gp_R s 4 k = some 25) (q12 : gp_R s 51 6 = some 55) (q13 : gp_R s 51 7 = some 56) (q14 : gp_us s = 606895) (q15 : gp_sz s = 117) (k : ∀ (t : gH), xM z t → (gp_I t 1 2 = 0) → (gp_I t 1 6 = 0) → (gp_I t 1 7 = 1) → (gp_I t 117 0 = 19) → (gp_I t 51 8 = 0) → (gp_I t 57 1 = 0) → (gp_I t 57 3 = 0) → (gp_I t 6 4 = 0) → (gp_R t 117 1 = some 118) → (gp_R t 117 2 = some 119) → (gp_R t 117 3 = some 120) → (gp_R t 117 4 = some 121) → (gp_R t 117 5 = some 122) → (gp_R t 117 6 = none) → (gp_R t 117 7 = none) → (gp_R t 117 8 = none) → (gp_R t 117 9 = none) → (gp_R t 25 6 = none) → (gp_R t 25 7 = none) → (gp_R t 25 8 = none) → (gp_R t 25 9 = none) → (∀ k, k < 8 → gp_R t 4 k = some 25) → (gp_R t 51 6 = some 55) → (gp_R t 51 7 = some 56) → (gp_sh t 117 = (9, 10)) → (gp_sh t 118 = (101, 19)) → (gp_sh t 119 = (101, 19)) → (gp_sh t 120 = (100, 19)) → (gp_sh t 121 = (100, 19)) → (gp_sh t 122 = (100, 19)) → (gp_us t = 607000) → (gp_sz t = 123) → K (some (gp_r (some 117))) t) : gs_C L (d + 1) 258 4 [gp_r (some 20), gp_i 18] s K := by
  refine s_258_e _ ?_
  refine ⟨by omega, ?_⟩
  try rw [show gp_sz s = 117 from q15]
  intro s_1 e_2
  have hs_3 : xM z s_1 := by rw [e_2]; exact xI.new hs (by omega)
  have q_4 : gp_I s_1 1 2 = 0 := by rw [e_2, gz_nI q15 (by decide)]; exact q0
  have q_5 : gp_I s_1 1 6 = 0 := by rw [e_2, gz_nI q15 (by decide)]; exact q1
  have q_6 : gp_I s_1 1 7 = 1 := by rw [e_2, gz_nI q15 (by decide)]; exact q2
  have q_7 : gp_I s_1 51 8 = 0 := by rw [e_2, gz_nI q15 (by decide)]; exact q3
  have q_8 : gp_I s_1 57 1 = 0 := by rw [e_2, gz_nI q15 (by decide)]; exact q4
  have q_9 : gp_I s_1 57 3 = 0 := by rw [e_2, gz_nI q15 (by decide)]; exact q5
  have q_10 : gp_I s_1 6 4 = 0 := by rw [e_2, gz_nI q15 (by decide)]; exact q6
  have q_11 : gp_R s_1 25 6 = none := by rw [e_2, gz_nR q15 (by decide)]; exact q7
  have q_12 : gp_R s_1 25 7 = none := by rw [e_2, gz_nR q15 (by decide)]; exact q8
  have q_13 : gp_R s_1 25 8 = none := by rw [e_2, gz_nR q15 (by decide)]; exact q9
  have q_14 : gp_R s_1 25 9 = none := by rw [e_2, gz_nR q15 (by decide)]; exact q10
  have q_15 : ∀ k, k < 8 → gp_R s_1 4 k = some 25 := fun k hk => by rw [e_2, gz_nR q15 (by decide)]; exact q11 k hk
  have q_16 : gp_R s_1 51 6 = some 55 := by rw [e_2, gz_nR q15 (by decide)]; exact q12
  have q_17 : gp_R s_1 51 7 = some 56 := by rw [e_2, gz_nR q15 (by decide)]; exact q13
  have q_18 : gp_us s_1 = 606905 := by rw [e_2]; show gp_us s + 10 = 606905; rw [q14]; try rfl
  have q_19 : gp_sz s_1 = 118 := by rw [e_2]; exact congrArg Nat.succ q15
  have q_20 : gp_sh s_1 117 = (9, 10) := by rw [e_2]; exact gz_nSs q15
  have q_21 : gp_I s_1 117 0 = 0 := by rw [e_2]; exact gz_nIs q15
  have q_22 : gp_R s_1 117 1 = none := by rw [e_2]; exact gz_nRs q15
  have q_23 : gp_R s_1 117 2 = none := by rw [e_2]; exact gz_nRs q15
  have q_24 : gp_R s_1 117 3 = none := by rw [e_2]; exact gz_nRs q15
  have q_25 : gp_R s_1 117 4 = none := by rw [e_2]; exact gz_nRs q15
  have q_26 : gp_R s_1 117 5 = none := by rw [e_2]; exact gz_nRs q15
  have q_27 : gp_R s_1 117 6 = none := by rw [e_2]; exact gz_nRs q15
  have q_28 : gp_R s_1 117 7 = none := by rw [e_2]; exact gz_nRs q15
  have q_29 : gp_R s_1 117 8 = none := by rw [e_2]; exact gz_nRs q15
  have q_30 : gp_R s_1 117 9 = none := by rw [e_2]; exact gz_nRs q15
  have w_31 := gz_w (18 + 1)
  have e_32 : gp_wr (18 + 1) = 19 := by omega
  try rw [e_32]
  refine zx2304_18 hs_3 (by omega) (by omega) (by omega) (by omega) (by omega) (by omega) (by omega) (by omega) q_22 q_23 q_24 q_25 q_26 q_27 q_28 q_29 q_30 q_11 q_12 q_13 q_14 q_15 q_16 q_17 q_20 q_18 q_19 (fun s_33 hs_34 q_35 q_36 q_37 q_38 q_39 q_40 q_41 q_42 q_43 q_44 q_45 q_46 q_47 q_48 q_49 q_50 q_51 q_52 q_53 q_54 q_55 q_56 q_57 q_58 q_59 q_60 q_61 q_62 q_63 q_64 q_65 q_66 => ⟨rfl, ?_⟩)
  exact zx258_18_l13_0 k _ _ _ _ s_33 hs_34 (Nat.lt_succ_self _) (by omega) rfl (by omega) (by omega) (by omega) (by omega) (by omega) (by omega) (by omega) (by omega) (by omega) q_43 q_44 q_45 q_46 q_47 q_48 q_49 q_50 q_51 q_52 q_53 q_54 q_55 q_56 q_57 q_58 q_59 q_60 q_61 q_62 q_63 q_64 q_65 q_66
set_option maxRecDepth 100000 in
/-- GatheredPoints.hold [(0, 7), 117] -/
theorem zx2854_18 {z : gH} {L d : Nat} {K : Option gV → gH → Prop} {s : gH} (p0 : Int) (hs : xM z s) (h_p0 : 0 ≤ p0 ∧ p0 ≤ 7) (q0 : gp_I s 1 2 = 0) (q1 : gp_I s 1 6 = 0) (q2 : gp_I s 1 7 = 1) (q3 : gp_I s 117 0 = 19) (q4 : gp_I s 51 8 = 0) (q5 : gp_I s 57 1 = 0) (q6 : gp_I s 57 3 = 0) (q7 : gp_I s 6 4 = 0) (q8 : gp_R s 117 1 = some 118) (q9 : gp_R s 117 2 = some 119) (q10 : gp_R s 117 3 = some 120) (q11 : gp_R s 117 4 = some 121) (q12 : gp_R s 117 5 = some 122) (q13 : gp_R s 117 6 = none) (q14 : gp_R s 117 7 = none) (q15 : gp_R s 117 8 = none) (q16 : gp_R s 117 9 = none) (q17 : gp_R s 25 6 = none) (q18 : gp_R s 25 7 = none) (q19 : gp_R s 25 8 = none) (q20 : gp_R s 25 9 = none) (q21 : ∀ k, k < 8 → gp_R s 4 k = some 25) (q22 : gp_R s 51 6 = some 55) (q23 : gp_R s 51 7 = some 56) (q24 : gp_sh s 117 = (9, 10)) (q25 : gp_sh s 118 = (101, 19)) (q26 : gp_sh s 119 = (101, 19)) (q27 : gp_sh s 120 = (100, 19)) (q28 : gp_sh s 121 = (100, 19)) (q29 : gp_sh s 122 = (100, 19)) (q30 : gp_us s = 607000) (q31 : gp_sz s = 123) (k : ∀ (t : gH), xM z t → (gp_I t 1 2 = 0) → (gp_I t 1 6 = 0) → (gp_I t 1 7 = 1) → (gp_I t 117 0 = 19) → (gp_I t 51 8 = 0) → (gp_I t 57 1 = 0) → (gp_I t 57 3 = 0) → (gp_I t 6 4 = 0) → (gp_R t 117 1 = some 118) → (gp_R t 117 2 = some 119) → (gp_R t 117 3 = some 120) → (gp_R t 117 4 = some 121) → (gp_R t 117 5 = some 122) → (gp_R t 117 6 = none) → (gp_R t 117 7 = none) → (gp_R t 117 8 = none) → (gp_R t 117 9 = none) → (gp_R t 25 6 = none) → (gp_R t 25 7 = none) → (gp_R t 25 8 = none) → (gp_R t 25 9 = none) → (gp_R t 51 6 = some 55) → (gp_R t 51 7 = some 56) → (gp_sh t 117 = (9, 10)) → (gp_sh t 118 = (101, 19)) → (gp_sh t 119 = (101, 19)) → (gp_sh t 120 = (100, 19)) → (gp_sh t 121 = (100, 19)) → (gp_sh t 122 = (100, 19)) → (gp_us t = 607000) → (gp_sz t = 123) → K (some (gp_i 19)) t) : gs_C L d 2854 3 [gp_r (some 1), gp_i p0, gp_r (some 117)] s K := by
  refine s_2854_e _ _ ?_
  refine ⟨117, rfl, ?_⟩
  refine ⟨by omega, ?_⟩
  refine ⟨(by show (gp_sh s 117).1 = 9; rw [q24]), ?_⟩
  intro s_1 e_2
  have hs_3 : xM z s_1 := by rw [e_2]; exact xI.wR hs _ _ _
  have q_4 : gp_I s_1 1 2 = 0 := by rw [e_2]; exact q0
  have q_5 : gp_I s_1 1 6 = 0 := by rw [e_2]; exact q1
  have q_6 : gp_I s_1 1 7 = 1 := by rw [e_2]; exact q2
  have q_7 : gp_I s_1 117 0 = 19 := by rw [e_2]; exact q3
  have q_8 : gp_I s_1 51 8 = 0 := by rw [e_2]; exact q4
  have q_9 : gp_I s_1 57 1 = 0 := by rw [e_2]; exact q5
  have q_10 : gp_I s_1 57 3 = 0 := by rw [e_2]; exact q6
  have q_11 : gp_I s_1 6 4 = 0 := by rw [e_2]; exact q7
  have q_12 : gp_R s_1 117 1 = some 118 := by rw [e_2]; exact q8
  have q_13 : gp_R s_1 117 2 = some 119 := by rw [e_2]; exact q9
  have q_14 : gp_R s_1 117 3 = some 120 := by rw [e_2]; exact q10
  have q_15 : gp_R s_1 117 4 = some 121 := by rw [e_2]; exact q11
  have q_16 : gp_R s_1 117 5 = some 122 := by rw [e_2]; exact q12
  have q_17 : gp_R s_1 117 6 = none := by rw [e_2]; exact q13
  have q_18 : gp_R s_1 117 7 = none := by rw [e_2]; exact q14
  have q_19 : gp_R s_1 117 8 = none := by rw [e_2]; exact q15
  have q_20 : gp_R s_1 117 9 = none := by rw [e_2]; exact q16
  have q_21 : gp_R s_1 25 6 = none := by rw [e_2]; exact q17
  have q_22 : gp_R s_1 25 7 = none := by rw [e_2]; exact q18
  have q_23 : gp_R s_1 25 8 = none := by rw [e_2]; exact q19
  have q_24 : gp_R s_1 25 9 = none := by rw [e_2]; exact q20
  have q_25 : gp_R s_1 51 6 = some 55 := by rw [e_2]; exact q22
  have q_26 : gp_R s_1 51 7 = some 56 := by rw [e_2]; exact q23
  have q_27 : gp_sh s_1 117 = (9, 10) := by rw [e_2]; exact q24
  have q_28 : gp_sh s_1 118 = (101, 19) := by rw [e_2]; exact q25
  have q_29 : gp_sh s_1 119 = (101, 19) := by rw [e_2]; exact q26
  have q_30 : gp_sh s_1 120 = (100, 19) := by rw [e_2]; exact q27
  have q_31 : gp_sh s_1 121 = (100, 19) := by rw [e_2]; exact q28
  have q_32 : gp_sh s_1 122 = (100, 19) := by rw [e_2]; exact q29
  have q_33 : gp_us s_1 = 607000 := by rw [e_2]; exact q30
  have q_34 : gp_sz s_1 = 123 := by rw [e_2]; exact q31
  refine ⟨(by show (gp_sh s_1 117).1 = 9; rw [q_27]), ?_⟩
  try rw [show gp_I s_1 117 0 = 19 from q_7]
  exact k s_1 hs_3 (by omega) (by omega) (by omega) (by omega) (by omega) (by omega) (by omega) (by omega) q_12 q_13 q_14 q_15 q_16 q_17 q_18 q_19 q_20 q_21 q_22 q_23 q_24 q_25 q_26 q_27 q_28 q_29 q_30 q_31 q_32 q_33 q_34
set_option maxRecDepth 100000 in
/-- GatheredPoints.waits [(0, 7), (18, 18)] -/
theorem zx2821_22 {z : gH} {L d : Nat} {K : Option gV → gH → Prop} {s : gH} (p0 : Int) (hs : xM z s) (h_p0 : 0 ≤ p0 ∧ p0 ≤ 7) (q0 : gp_I s 1 2 = 0) (q1 : gp_I s 1 6 = 0) (q2 : gp_I s 1 7 = 1) (q3 : gp_I s 51 8 = 0) (q4 : gp_I s 57 1 = 0) (q5 : gp_I s 57 3 = 0) (q6 : gp_I s 6 4 = 0) (q7 : gp_R s 25 6 = none) (q8 : gp_R s 25 7 = none) (q9 : gp_R s 25 8 = none) (q10 : gp_R s 25 9 = none) (q11 : ∀ k, k < 8 → gp_R s 4 k = some 25) (q12 : gp_R s 51 6 = some 55) (q13 : gp_R s 51 7 = some 56) (q14 : gp_us s = 606895) (q15 : gp_sz s = 117) (k : ∀ (t : gH), xM z t → (gp_I t 1 2 = 0) → (gp_I t 1 6 = 0) → (gp_I t 1 7 = 1) → (gp_I t 117 0 = 19) → (gp_I t 51 8 = 0) → (gp_I t 57 1 = 0) → (gp_I t 57 3 = 0) → (gp_I t 6 4 = 0) → (gp_R t 117 1 = some 118) → (gp_R t 117 2 = some 119) → (gp_R t 117 3 = some 120) → (gp_R t 117 4 = some 121) → (gp_R t 117 5 = some 122) → (gp_R t 117 6 = none) → (gp_R t 117 7 = none) → (gp_R t 117 8 = none) → (gp_R t 117 9 = none) → (gp_R t 25 6 = none) → (gp_R t 25 7 = none) → (gp_R t 25 8 = none) → (gp_R t 25 9 = none) → (gp_R t 51 6 = some 55) → (gp_R t 51 7 = some 56) → (gp_sh t 117 = (9, 10)) → (gp_sh t 118 = (101, 19)) → (gp_sh t 119 = (101, 19)) → (gp_sh t 120 = (100, 19)) → (gp_sh t 121 = (100, 19)) → (gp_sh t 122 = (100, 19)) → (gp_us t = 607000) → (gp_sz t = 123) → K (some (gp_i 19)) t) : gs_C L (d + 2) 2821 3 [gp_r (some 1), gp_i p0, gp_i 18] s K := by
  refine s_2821_e _ _ ?_
  refine zx2856_2 _ hs (by omega) (by omega) (by omega) (by omega) (by omega) (by omega) (by omega) q7 q8 q9 q10 q11 q12 q13 (⟨_, rfl, ?_⟩)
  refine ⟨fun h_1 => ?_, fun h_1 => ?_⟩
  · refine ⟨fun h_2 => ?_, fun h_2 => ?_⟩
    · exfalso; omega
    · refine ⟨fun h_3 => ?_, fun h_3 => ?_⟩
      · exfalso; omega
      · refine zx258_18 hs (by omega) (by omega) (by omega) (by omega) (by omega) (by omega) (by omega) q7 q8 q9 q10 q11 q12 q13 q14 q15 (fun s_5 hs_6 q_7 q_8 q_9 q_10 q_11 q_12 q_13 q_14 q_15 q_16 q_17 q_18 q_19 q_20 q_21 q_22 q_23 q_24 q_25 q_26 q_27 q_28 q_29 q_30 q_31 q_32 q_33 q_34 q_35 q_36 q_37 q_38 => ⟨_, rfl, ?_⟩)
        refine zx2854_18 _ hs_6 (by omega) (by omega) (by omega) (by omega) (by omega) (by omega) (by omega) (by omega) (by omega) q_15 q_16 q_17 q_18 q_19 q_20 q_21 q_22 q_23 q_24 q_25 q_26 q_27 q_28 q_29 q_30 q_31 q_32 q_33 q_34 q_35 q_36 q_37 q_38 (fun s_39 hs_40 q_41 q_42 q_43 q_44 q_45 q_46 q_47 q_48 q_49 q_50 q_51 q_52 q_53 q_54 q_55 q_56 q_57 q_58 q_59 q_60 q_61 q_62 q_63 q_64 q_65 q_66 q_67 q_68 q_69 q_70 q_71 => ⟨_, rfl, ?_⟩)
        exact k s_39 hs_40 (by omega) (by omega) (by omega) (by omega) (by omega) (by omega) (by omega) (by omega) q_49 q_50 q_51 q_52 q_53 q_54 q_55 q_56 q_57 q_58 q_59 q_60 q_61 q_62 q_63 q_64 q_65 q_66 q_67 q_68 q_69 q_70 q_71
  · exfalso; omega
set_option maxRecDepth 100000 in
/-- Table.<init> [117, (20, 20)] -/
theorem zx2304_19 {z : gH} {L d : Nat} {K : Option gV → gH → Prop} {s : gH}  (hs : xM z s)  (q0 : gp_I s 1 2 = 0) (q1 : gp_I s 1 6 = 0) (q2 : gp_I s 1 7 = 1) (q3 : gp_I s 117 0 = 0) (q4 : gp_I s 51 8 = 0) (q5 : gp_I s 57 1 = 0) (q6 : gp_I s 57 3 = 0) (q7 : gp_I s 6 4 = 0) (q8 : gp_R s 117 1 = none) (q9 : gp_R s 117 2 = none) (q10 : gp_R s 117 3 = none) (q11 : gp_R s 117 4 = none) (q12 : gp_R s 117 5 = none) (q13 : gp_R s 117 6 = none) (q14 : gp_R s 117 7 = none) (q15 : gp_R s 117 8 = none) (q16 : gp_R s 117 9 = none) (q17 : gp_R s 25 6 = none) (q18 : gp_R s 25 7 = none) (q19 : gp_R s 25 8 = none) (q20 : gp_R s 25 9 = none) (q21 : ∀ k, k < 8 → gp_R s 4 k = some 25) (q22 : gp_R s 51 6 = some 55) (q23 : gp_R s 51 7 = some 56) (q24 : gp_sh s 117 = (9, 10)) (q25 : gp_us s = 606905) (q26 : gp_sz s = 118) (k : ∀ (t : gH), xM z t → (gp_I t 1 2 = 0) → (gp_I t 1 6 = 0) → (gp_I t 1 7 = 1) → (gp_I t 117 0 = 20) → (gp_I t 51 8 = 0) → (gp_I t 57 1 = 0) → (gp_I t 57 3 = 0) → (gp_I t 6 4 = 0) → (gp_R t 117 1 = some 118) → (gp_R t 117 2 = some 119) → (gp_R t 117 3 = some 120) → (gp_R t 117 4 = some 121) → (gp_R t 117 5 = some 122) → (gp_R t 117 6 = none) → (gp_R t 117 7 = none) → (gp_R t 117 8 = none) → (gp_R t 117 9 = none) → (gp_R t 25 6 = none) → (gp_R t 25 7 = none) → (gp_R t 25 8 = none) → (gp_R t 25 9 = none) → (∀ k, k < 8 → gp_R t 4 k = some 25) → (gp_R t 51 6 = some 55) → (gp_R t 51 7 = some 56) → (gp_sh t 117 = (9, 10)) → (gp_sh t 118 = (101, 20)) → (gp_sh t 119 = (101, 20)) → (gp_sh t 120 = (100, 20)) → (gp_sh t 121 = (100, 20)) → (gp_sh t 122 = (100, 20)) → (gp_us t = 607005) → (gp_sz t = 123) → K none t) : gs_C L d 2304 2 [gp_r (some 117), gp_i 20] s K := by
  refine s_2304_e _ _ ?_
  refine ⟨117, rfl, ?_⟩
  refine ⟨(by show (gp_sh s 117).1 = 9; rw [q24]), ?_⟩
  intro s_1 e_2
  have hs_3 : xM z s_1 := by rw [e_2]; exact xI.wId hs _ _ _ (by omega)
  have q_4 : gp_I s_1 1 2 = 0 := by rw [e_2]; exact q0
  have q_5 : gp_I s_1 1 6 = 0 := by rw [e_2]; exact q1
  have q_6 : gp_I s_1 1 7 = 1 := by rw [e_2]; exact q2
  have q_7 : gp_I s_1 51 8 = 0 := by rw [e_2]; exact q4
  have q_8 : gp_I s_1 57 1 = 0 := by rw [e_2]; exact q5
  have q_9 : gp_I s_1 57 3 = 0 := by rw [e_2]; exact q6
  have q_10 : gp_I s_1 6 4 = 0 := by rw [e_2]; exact q7
  have q_11 : gp_R s_1 117 1 = none := by rw [e_2]; exact q8
  have q_12 : gp_R s_1 117 2 = none := by rw [e_2]; exact q9
  have q_13 : gp_R s_1 117 3 = none := by rw [e_2]; exact q10
  have q_14 : gp_R s_1 117 4 = none := by rw [e_2]; exact q11
  have q_15 : gp_R s_1 117 5 = none := by rw [e_2]; exact q12
  have q_16 : gp_R s_1 117 6 = none := by rw [e_2]; exact q13
  have q_17 : gp_R s_1 117 7 = none := by rw [e_2]; exact q14
  have q_18 : gp_R s_1 117 8 = none := by rw [e_2]; exact q15
  have q_19 : gp_R s_1 117 9 = none := by rw [e_2]; exact q16
  have q_20 : gp_R s_1 25 6 = none := by rw [e_2]; exact q17
  have q_21 : gp_R s_1 25 7 = none := by rw [e_2]; exact q18
  have q_22 : gp_R s_1 25 8 = none := by rw [e_2]; exact q19
  have q_23 : gp_R s_1 25 9 = none := by rw [e_2]; exact q20
  have q_24 : ∀ k, k < 8 → gp_R s_1 4 k = some 25 := by rw [e_2]; exact q21
  have q_25 : gp_R s_1 51 6 = some 55 := by rw [e_2]; exact q22
  have q_26 : gp_R s_1 51 7 = some 56 := by rw [e_2]; exact q23
  have q_27 : gp_sh s_1 117 = (9, 10) := by rw [e_2]; exact q24
  have q_28 : gp_us s_1 = 606905 := by rw [e_2]; exact q25
  have q_29 : gp_sz s_1 = 118 := by rw [e_2]; exact q26
  have q_30 : gp_I s_1 117 0 = 20 := by rw [e_2]; rfl
  refine ⟨by omega, ?_⟩
  refine ⟨by omega, ?_⟩
  try rw [show gp_sz s_1 = 118 from q_29]
  intro s_32 e_33
  have hs_34 : xM z s_32 := by rw [e_33]; exact xI.new hs_3 (by omega)
  have q_35 : gp_I s_32 1 2 = 0 := by rw [e_33, gz_nI q_29 (by decide)]; exact q_4
  have q_36 : gp_I s_32 1 6 = 0 := by rw [e_33, gz_nI q_29 (by decide)]; exact q_5
  have q_37 : gp_I s_32 1 7 = 1 := by rw [e_33, gz_nI q_29 (by decide)]; exact q_6
  have q_38 : gp_I s_32 51 8 = 0 := by rw [e_33, gz_nI q_29 (by decide)]; exact q_7
  have q_39 : gp_I s_32 57 1 = 0 := by rw [e_33, gz_nI q_29 (by decide)]; exact q_8
  have q_40 : gp_I s_32 57 3 = 0 := by rw [e_33, gz_nI q_29 (by decide)]; exact q_9
  have q_41 : gp_I s_32 6 4 = 0 := by rw [e_33, gz_nI q_29 (by decide)]; exact q_10
  have q_42 : gp_R s_32 117 1 = none := by rw [e_33, gz_nR q_29 (by decide)]; exact q_11
  have q_43 : gp_R s_32 117 2 = none := by rw [e_33, gz_nR q_29 (by decide)]; exact q_12
  have q_44 : gp_R s_32 117 3 = none := by rw [e_33, gz_nR q_29 (by decide)]; exact q_13
  have q_45 : gp_R s_32 117 4 = none := by rw [e_33, gz_nR q_29 (by decide)]; exact q_14
  have q_46 : gp_R s_32 117 5 = none := by rw [e_33, gz_nR q_29 (by decide)]; exact q_15
  have q_47 : gp_R s_32 117 6 = none := by rw [e_33, gz_nR q_29 (by decide)]; exact q_16
  have q_48 : gp_R s_32 117 7 = none := by rw [e_33, gz_nR q_29 (by decide)]; exact q_17
  have q_49 : gp_R s_32 117 8 = none := by rw [e_33, gz_nR q_29 (by decide)]; exact q_18
  have q_50 : gp_R s_32 117 9 = none := by rw [e_33, gz_nR q_29 (by decide)]; exact q_19
  have q_51 : gp_R s_32 25 6 = none := by rw [e_33, gz_nR q_29 (by decide)]; exact q_20
  have q_52 : gp_R s_32 25 7 = none := by rw [e_33, gz_nR q_29 (by decide)]; exact q_21
  have q_53 : gp_R s_32 25 8 = none := by rw [e_33, gz_nR q_29 (by decide)]; exact q_22
  have q_54 : gp_R s_32 25 9 = none := by rw [e_33, gz_nR q_29 (by decide)]; exact q_23
  have q_55 : ∀ k, k < 8 → gp_R s_32 4 k = some 25 := fun k hk => by rw [e_33, gz_nR q_29 (by decide)]; exact q_24 k hk
  have q_56 : gp_R s_32 51 6 = some 55 := by rw [e_33, gz_nR q_29 (by decide)]; exact q_25
  have q_57 : gp_R s_32 51 7 = some 56 := by rw [e_33, gz_nR q_29 (by decide)]; exact q_26
  have q_58 : gp_sh s_32 117 = (9, 10) := by rw [e_33, gz_nS q_29 (by decide)]; exact q_27
  have q_59 : gp_us s_32 = 606925 := by rw [e_33]; show gp_us s_1 + 20 = 606925; rw [q_28]; try rfl
  have q_60 : gp_sz s_32 = 119 := by rw [e_33]; exact congrArg Nat.succ q_29
  have q_61 : gp_I s_32 117 0 = 20 := by rw [e_33, gz_nI q_29 (by decide)]; exact q_30
  have q_62 : gp_sh s_32 118 = (101, 20) := by rw [e_33]; exact gz_nSs q_29
  refine ⟨(by show (gp_sh s_32 117).1 = 9; rw [q_58]), ?_⟩
  refine ⟨rfl, ?_⟩
  intro s_63 e_64
  have hs_65 : xM z s_63 := by rw [e_64]; exact xI.wR hs_34 _ _ _
  have q_66 : gp_I s_63 1 2 = 0 := by rw [e_64]; exact q_35
  have q_67 : gp_I s_63 1 6 = 0 := by rw [e_64]; exact q_36
  have q_68 : gp_I s_63 1 7 = 1 := by rw [e_64]; exact q_37
  have q_69 : gp_I s_63 51 8 = 0 := by rw [e_64]; exact q_38
  have q_70 : gp_I s_63 57 1 = 0 := by rw [e_64]; exact q_39
  have q_71 : gp_I s_63 57 3 = 0 := by rw [e_64]; exact q_40
  have q_72 : gp_I s_63 6 4 = 0 := by rw [e_64]; exact q_41
  have q_73 : gp_R s_63 117 2 = none := by rw [e_64]; exact q_43
  have q_74 : gp_R s_63 117 3 = none := by rw [e_64]; exact q_44
  have q_75 : gp_R s_63 117 4 = none := by rw [e_64]; exact q_45
  have q_76 : gp_R s_63 117 5 = none := by rw [e_64]; exact q_46
  have q_77 : gp_R s_63 117 6 = none := by rw [e_64]; exact q_47
  have q_78 : gp_R s_63 117 7 = none := by rw [e_64]; exact q_48
  have q_79 : gp_R s_63 117 8 = none := by rw [e_64]; exact q_49
  have q_80 : gp_R s_63 117 9 = none := by rw [e_64]; exact q_50
  have q_81 : gp_R s_63 25 6 = none := by rw [e_64]; exact q_51
  have q_82 : gp_R s_63 25 7 = none := by rw [e_64]; exact q_52
  have q_83 : gp_R s_63 25 8 = none := by rw [e_64]; exact q_53
  have q_84 : gp_R s_63 25 9 = none := by rw [e_64]; exact q_54
  have q_85 : ∀ k, k < 8 → gp_R s_63 4 k = some 25 := by rw [e_64]; exact q_55
  have q_86 : gp_R s_63 51 6 = some 55 := by rw [e_64]; exact q_56
  have q_87 : gp_R s_63 51 7 = some 56 := by rw [e_64]; exact q_57
  have q_88 : gp_sh s_63 117 = (9, 10) := by rw [e_64]; exact q_58
  have q_89 : gp_us s_63 = 606925 := by rw [e_64]; exact q_59
  have q_90 : gp_sz s_63 = 119 := by rw [e_64]; exact q_60
  have q_91 : gp_I s_63 117 0 = 20 := by rw [e_64]; exact q_61
  have q_92 : gp_sh s_63 118 = (101, 20) := by rw [e_64]; exact q_62
  have q_93 : gp_R s_63 117 1 = some 118 := by rw [e_64]; rfl
  refine ⟨by omega, ?_⟩
  refine ⟨by omega, ?_⟩
  try rw [show gp_sz s_63 = 119 from q_90]
  intro s_94 e_95
  have hs_96 : xM z s_94 := by rw [e_95]; exact xI.new hs_65 (by omega)
  have q_97 : gp_I s_94 1 2 = 0 := by rw [e_95, gz_nI q_90 (by decide)]; exact q_66
  have q_98 : gp_I s_94 1 6 = 0 := by rw [e_95, gz_nI q_90 (by decide)]; exact q_67
  have q_99 : gp_I s_94 1 7 = 1 := by rw [e_95, gz_nI q_90 (by decide)]; exact q_68
  have q_100 : gp_I s_94 51 8 = 0 := by rw [e_95, gz_nI q_90 (by decide)]; exact q_69
  have q_101 : gp_I s_94 57 1 = 0 := by rw [e_95, gz_nI q_90 (by decide)]; exact q_70
  have q_102 : gp_I s_94 57 3 = 0 := by rw [e_95, gz_nI q_90 (by decide)]; exact q_71
  have q_103 : gp_I s_94 6 4 = 0 := by rw [e_95, gz_nI q_90 (by decide)]; exact q_72
  have q_104 : gp_R s_94 117 2 = none := by rw [e_95, gz_nR q_90 (by decide)]; exact q_73
  have q_105 : gp_R s_94 117 3 = none := by rw [e_95, gz_nR q_90 (by decide)]; exact q_74
  have q_106 : gp_R s_94 117 4 = none := by rw [e_95, gz_nR q_90 (by decide)]; exact q_75
  have q_107 : gp_R s_94 117 5 = none := by rw [e_95, gz_nR q_90 (by decide)]; exact q_76
  have q_108 : gp_R s_94 117 6 = none := by rw [e_95, gz_nR q_90 (by decide)]; exact q_77
  have q_109 : gp_R s_94 117 7 = none := by rw [e_95, gz_nR q_90 (by decide)]; exact q_78
  have q_110 : gp_R s_94 117 8 = none := by rw [e_95, gz_nR q_90 (by decide)]; exact q_79
  have q_111 : gp_R s_94 117 9 = none := by rw [e_95, gz_nR q_90 (by decide)]; exact q_80
  have q_112 : gp_R s_94 25 6 = none := by rw [e_95, gz_nR q_90 (by decide)]; exact q_81
  have q_113 : gp_R s_94 25 7 = none := by rw [e_95, gz_nR q_90 (by decide)]; exact q_82
  have q_114 : gp_R s_94 25 8 = none := by rw [e_95, gz_nR q_90 (by decide)]; exact q_83
  have q_115 : gp_R s_94 25 9 = none := by rw [e_95, gz_nR q_90 (by decide)]; exact q_84
  have q_116 : ∀ k, k < 8 → gp_R s_94 4 k = some 25 := fun k hk => by rw [e_95, gz_nR q_90 (by decide)]; exact q_85 k hk
  have q_117 : gp_R s_94 51 6 = some 55 := by rw [e_95, gz_nR q_90 (by decide)]; exact q_86
  have q_118 : gp_R s_94 51 7 = some 56 := by rw [e_95, gz_nR q_90 (by decide)]; exact q_87
  have q_119 : gp_sh s_94 117 = (9, 10) := by rw [e_95, gz_nS q_90 (by decide)]; exact q_88
  have q_120 : gp_us s_94 = 606945 := by rw [e_95]; show gp_us s_63 + 20 = 606945; rw [q_89]; try rfl
  have q_121 : gp_sz s_94 = 120 := by rw [e_95]; exact congrArg Nat.succ q_90
  have q_122 : gp_I s_94 117 0 = 20 := by rw [e_95, gz_nI q_90 (by decide)]; exact q_91
  have q_123 : gp_sh s_94 118 = (101, 20) := by rw [e_95, gz_nS q_90 (by decide)]; exact q_92
  have q_124 : gp_R s_94 117 1 = some 118 := by rw [e_95, gz_nR q_90 (by decide)]; exact q_93
  have q_125 : gp_sh s_94 119 = (101, 20) := by rw [e_95]; exact gz_nSs q_90
  refine ⟨(by show (gp_sh s_94 117).1 = 9; rw [q_119]), ?_⟩
  refine ⟨rfl, ?_⟩
  intro s_126 e_127
  have hs_128 : xM z s_126 := by rw [e_127]; exact xI.wR hs_96 _ _ _
  have q_129 : gp_I s_126 1 2 = 0 := by rw [e_127]; exact q_97
  have q_130 : gp_I s_126 1 6 = 0 := by rw [e_127]; exact q_98
  have q_131 : gp_I s_126 1 7 = 1 := by rw [e_127]; exact q_99
  have q_132 : gp_I s_126 51 8 = 0 := by rw [e_127]; exact q_100
  have q_133 : gp_I s_126 57 1 = 0 := by rw [e_127]; exact q_101
  have q_134 : gp_I s_126 57 3 = 0 := by rw [e_127]; exact q_102
  have q_135 : gp_I s_126 6 4 = 0 := by rw [e_127]; exact q_103
  have q_136 : gp_R s_126 117 3 = none := by rw [e_127]; exact q_105
  have q_137 : gp_R s_126 117 4 = none := by rw [e_127]; exact q_106
  have q_138 : gp_R s_126 117 5 = none := by rw [e_127]; exact q_107
  have q_139 : gp_R s_126 117 6 = none := by rw [e_127]; exact q_108
  have q_140 : gp_R s_126 117 7 = none := by rw [e_127]; exact q_109
  have q_141 : gp_R s_126 117 8 = none := by rw [e_127]; exact q_110
  have q_142 : gp_R s_126 117 9 = none := by rw [e_127]; exact q_111
  have q_143 : gp_R s_126 25 6 = none := by rw [e_127]; exact q_112
  have q_144 : gp_R s_126 25 7 = none := by rw [e_127]; exact q_113
  have q_145 : gp_R s_126 25 8 = none := by rw [e_127]; exact q_114
  have q_146 : gp_R s_126 25 9 = none := by rw [e_127]; exact q_115
  have q_147 : ∀ k, k < 8 → gp_R s_126 4 k = some 25 := by rw [e_127]; exact q_116
  have q_148 : gp_R s_126 51 6 = some 55 := by rw [e_127]; exact q_117
  have q_149 : gp_R s_126 51 7 = some 56 := by rw [e_127]; exact q_118
  have q_150 : gp_sh s_126 117 = (9, 10) := by rw [e_127]; exact q_119
  have q_151 : gp_us s_126 = 606945 := by rw [e_127]; exact q_120
  have q_152 : gp_sz s_126 = 120 := by rw [e_127]; exact q_121
  have q_153 : gp_I s_126 117 0 = 20 := by rw [e_127]; exact q_122
  have q_154 : gp_sh s_126 118 = (101, 20) := by rw [e_127]; exact q_123
  have q_155 : gp_R s_126 117 1 = some 118 := by rw [e_127]; exact q_124
  have q_156 : gp_sh s_126 119 = (101, 20) := by rw [e_127]; exact q_125
  have q_157 : gp_R s_126 117 2 = some 119 := by rw [e_127]; rfl
  refine ⟨by omega, ?_⟩
  refine ⟨by omega, ?_⟩
  try rw [show gp_sz s_126 = 120 from q_152]
  intro s_158 e_159
  have hs_160 : xM z s_158 := by rw [e_159]; exact xI.new hs_128 (by omega)
  have q_161 : gp_I s_158 1 2 = 0 := by rw [e_159, gz_nI q_152 (by decide)]; exact q_129
  have q_162 : gp_I s_158 1 6 = 0 := by rw [e_159, gz_nI q_152 (by decide)]; exact q_130
  have q_163 : gp_I s_158 1 7 = 1 := by rw [e_159, gz_nI q_152 (by decide)]; exact q_131
  have q_164 : gp_I s_158 51 8 = 0 := by rw [e_159, gz_nI q_152 (by decide)]; exact q_132
  have q_165 : gp_I s_158 57 1 = 0 := by rw [e_159, gz_nI q_152 (by decide)]; exact q_133
  have q_166 : gp_I s_158 57 3 = 0 := by rw [e_159, gz_nI q_152 (by decide)]; exact q_134
  have q_167 : gp_I s_158 6 4 = 0 := by rw [e_159, gz_nI q_152 (by decide)]; exact q_135
  have q_168 : gp_R s_158 117 3 = none := by rw [e_159, gz_nR q_152 (by decide)]; exact q_136
  have q_169 : gp_R s_158 117 4 = none := by rw [e_159, gz_nR q_152 (by decide)]; exact q_137
  have q_170 : gp_R s_158 117 5 = none := by rw [e_159, gz_nR q_152 (by decide)]; exact q_138
  have q_171 : gp_R s_158 117 6 = none := by rw [e_159, gz_nR q_152 (by decide)]; exact q_139
  have q_172 : gp_R s_158 117 7 = none := by rw [e_159, gz_nR q_152 (by decide)]; exact q_140
  have q_173 : gp_R s_158 117 8 = none := by rw [e_159, gz_nR q_152 (by decide)]; exact q_141
  have q_174 : gp_R s_158 117 9 = none := by rw [e_159, gz_nR q_152 (by decide)]; exact q_142
  have q_175 : gp_R s_158 25 6 = none := by rw [e_159, gz_nR q_152 (by decide)]; exact q_143
  have q_176 : gp_R s_158 25 7 = none := by rw [e_159, gz_nR q_152 (by decide)]; exact q_144
  have q_177 : gp_R s_158 25 8 = none := by rw [e_159, gz_nR q_152 (by decide)]; exact q_145
  have q_178 : gp_R s_158 25 9 = none := by rw [e_159, gz_nR q_152 (by decide)]; exact q_146
  have q_179 : ∀ k, k < 8 → gp_R s_158 4 k = some 25 := fun k hk => by rw [e_159, gz_nR q_152 (by decide)]; exact q_147 k hk
  have q_180 : gp_R s_158 51 6 = some 55 := by rw [e_159, gz_nR q_152 (by decide)]; exact q_148
  have q_181 : gp_R s_158 51 7 = some 56 := by rw [e_159, gz_nR q_152 (by decide)]; exact q_149
  have q_182 : gp_sh s_158 117 = (9, 10) := by rw [e_159, gz_nS q_152 (by decide)]; exact q_150
  have q_183 : gp_us s_158 = 606965 := by rw [e_159]; show gp_us s_126 + 20 = 606965; rw [q_151]; try rfl
  have q_184 : gp_sz s_158 = 121 := by rw [e_159]; exact congrArg Nat.succ q_152
  have q_185 : gp_I s_158 117 0 = 20 := by rw [e_159, gz_nI q_152 (by decide)]; exact q_153
  have q_186 : gp_sh s_158 118 = (101, 20) := by rw [e_159, gz_nS q_152 (by decide)]; exact q_154
  have q_187 : gp_R s_158 117 1 = some 118 := by rw [e_159, gz_nR q_152 (by decide)]; exact q_155
  have q_188 : gp_sh s_158 119 = (101, 20) := by rw [e_159, gz_nS q_152 (by decide)]; exact q_156
  have q_189 : gp_R s_158 117 2 = some 119 := by rw [e_159, gz_nR q_152 (by decide)]; exact q_157
  have q_190 : gp_sh s_158 120 = (100, 20) := by rw [e_159]; exact gz_nSs q_152
  refine ⟨(by show (gp_sh s_158 117).1 = 9; rw [q_182]), ?_⟩
  refine ⟨rfl, ?_⟩
  intro s_191 e_192
  have hs_193 : xM z s_191 := by rw [e_192]; exact xI.wR hs_160 _ _ _
  have q_194 : gp_I s_191 1 2 = 0 := by rw [e_192]; exact q_161
  have q_195 : gp_I s_191 1 6 = 0 := by rw [e_192]; exact q_162
  have q_196 : gp_I s_191 1 7 = 1 := by rw [e_192]; exact q_163
  have q_197 : gp_I s_191 51 8 = 0 := by rw [e_192]; exact q_164
  have q_198 : gp_I s_191 57 1 = 0 := by rw [e_192]; exact q_165
  have q_199 : gp_I s_191 57 3 = 0 := by rw [e_192]; exact q_166
  have q_200 : gp_I s_191 6 4 = 0 := by rw [e_192]; exact q_167
  have q_201 : gp_R s_191 117 4 = none := by rw [e_192]; exact q_169
  have q_202 : gp_R s_191 117 5 = none := by rw [e_192]; exact q_170
  have q_203 : gp_R s_191 117 6 = none := by rw [e_192]; exact q_171
  have q_204 : gp_R s_191 117 7 = none := by rw [e_192]; exact q_172
  have q_205 : gp_R s_191 117 8 = none := by rw [e_192]; exact q_173
  have q_206 : gp_R s_191 117 9 = none := by rw [e_192]; exact q_174
  have q_207 : gp_R s_191 25 6 = none := by rw [e_192]; exact q_175
  have q_208 : gp_R s_191 25 7 = none := by rw [e_192]; exact q_176
  have q_209 : gp_R s_191 25 8 = none := by rw [e_192]; exact q_177
  have q_210 : gp_R s_191 25 9 = none := by rw [e_192]; exact q_178
  have q_211 : ∀ k, k < 8 → gp_R s_191 4 k = some 25 := by rw [e_192]; exact q_179
  have q_212 : gp_R s_191 51 6 = some 55 := by rw [e_192]; exact q_180
  have q_213 : gp_R s_191 51 7 = some 56 := by rw [e_192]; exact q_181
  have q_214 : gp_sh s_191 117 = (9, 10) := by rw [e_192]; exact q_182
  have q_215 : gp_us s_191 = 606965 := by rw [e_192]; exact q_183
  have q_216 : gp_sz s_191 = 121 := by rw [e_192]; exact q_184
  have q_217 : gp_I s_191 117 0 = 20 := by rw [e_192]; exact q_185
  have q_218 : gp_sh s_191 118 = (101, 20) := by rw [e_192]; exact q_186
  have q_219 : gp_R s_191 117 1 = some 118 := by rw [e_192]; exact q_187
  have q_220 : gp_sh s_191 119 = (101, 20) := by rw [e_192]; exact q_188
  have q_221 : gp_R s_191 117 2 = some 119 := by rw [e_192]; exact q_189
  have q_222 : gp_sh s_191 120 = (100, 20) := by rw [e_192]; exact q_190
  have q_223 : gp_R s_191 117 3 = some 120 := by rw [e_192]; rfl
  refine ⟨by omega, ?_⟩
  refine ⟨by omega, ?_⟩
  try rw [show gp_sz s_191 = 121 from q_216]
  intro s_224 e_225
  have hs_226 : xM z s_224 := by rw [e_225]; exact xI.new hs_193 (by omega)
  have q_227 : gp_I s_224 1 2 = 0 := by rw [e_225, gz_nI q_216 (by decide)]; exact q_194
  have q_228 : gp_I s_224 1 6 = 0 := by rw [e_225, gz_nI q_216 (by decide)]; exact q_195
  have q_229 : gp_I s_224 1 7 = 1 := by rw [e_225, gz_nI q_216 (by decide)]; exact q_196
  have q_230 : gp_I s_224 51 8 = 0 := by rw [e_225, gz_nI q_216 (by decide)]; exact q_197
  have q_231 : gp_I s_224 57 1 = 0 := by rw [e_225, gz_nI q_216 (by decide)]; exact q_198
  have q_232 : gp_I s_224 57 3 = 0 := by rw [e_225, gz_nI q_216 (by decide)]; exact q_199
  have q_233 : gp_I s_224 6 4 = 0 := by rw [e_225, gz_nI q_216 (by decide)]; exact q_200
  have q_234 : gp_R s_224 117 4 = none := by rw [e_225, gz_nR q_216 (by decide)]; exact q_201
  have q_235 : gp_R s_224 117 5 = none := by rw [e_225, gz_nR q_216 (by decide)]; exact q_202
  have q_236 : gp_R s_224 117 6 = none := by rw [e_225, gz_nR q_216 (by decide)]; exact q_203
  have q_237 : gp_R s_224 117 7 = none := by rw [e_225, gz_nR q_216 (by decide)]; exact q_204
  have q_238 : gp_R s_224 117 8 = none := by rw [e_225, gz_nR q_216 (by decide)]; exact q_205
  have q_239 : gp_R s_224 117 9 = none := by rw [e_225, gz_nR q_216 (by decide)]; exact q_206
  have q_240 : gp_R s_224 25 6 = none := by rw [e_225, gz_nR q_216 (by decide)]; exact q_207
  have q_241 : gp_R s_224 25 7 = none := by rw [e_225, gz_nR q_216 (by decide)]; exact q_208
  have q_242 : gp_R s_224 25 8 = none := by rw [e_225, gz_nR q_216 (by decide)]; exact q_209
  have q_243 : gp_R s_224 25 9 = none := by rw [e_225, gz_nR q_216 (by decide)]; exact q_210
  have q_244 : ∀ k, k < 8 → gp_R s_224 4 k = some 25 := fun k hk => by rw [e_225, gz_nR q_216 (by decide)]; exact q_211 k hk
  have q_245 : gp_R s_224 51 6 = some 55 := by rw [e_225, gz_nR q_216 (by decide)]; exact q_212
  have q_246 : gp_R s_224 51 7 = some 56 := by rw [e_225, gz_nR q_216 (by decide)]; exact q_213
  have q_247 : gp_sh s_224 117 = (9, 10) := by rw [e_225, gz_nS q_216 (by decide)]; exact q_214
  have q_248 : gp_us s_224 = 606985 := by rw [e_225]; show gp_us s_191 + 20 = 606985; rw [q_215]; try rfl
  have q_249 : gp_sz s_224 = 122 := by rw [e_225]; exact congrArg Nat.succ q_216
  have q_250 : gp_I s_224 117 0 = 20 := by rw [e_225, gz_nI q_216 (by decide)]; exact q_217
  have q_251 : gp_sh s_224 118 = (101, 20) := by rw [e_225, gz_nS q_216 (by decide)]; exact q_218
  have q_252 : gp_R s_224 117 1 = some 118 := by rw [e_225, gz_nR q_216 (by decide)]; exact q_219
  have q_253 : gp_sh s_224 119 = (101, 20) := by rw [e_225, gz_nS q_216 (by decide)]; exact q_220
  have q_254 : gp_R s_224 117 2 = some 119 := by rw [e_225, gz_nR q_216 (by decide)]; exact q_221
  have q_255 : gp_sh s_224 120 = (100, 20) := by rw [e_225, gz_nS q_216 (by decide)]; exact q_222
  have q_256 : gp_R s_224 117 3 = some 120 := by rw [e_225, gz_nR q_216 (by decide)]; exact q_223
  have q_257 : gp_sh s_224 121 = (100, 20) := by rw [e_225]; exact gz_nSs q_216
  refine ⟨(by show (gp_sh s_224 117).1 = 9; rw [q_247]), ?_⟩
  refine ⟨rfl, ?_⟩
  intro s_258 e_259
  have hs_260 : xM z s_258 := by rw [e_259]; exact xI.wR hs_226 _ _ _
  have q_261 : gp_I s_258 1 2 = 0 := by rw [e_259]; exact q_227
  have q_262 : gp_I s_258 1 6 = 0 := by rw [e_259]; exact q_228
  have q_263 : gp_I s_258 1 7 = 1 := by rw [e_259]; exact q_229
  have q_264 : gp_I s_258 51 8 = 0 := by rw [e_259]; exact q_230
  have q_265 : gp_I s_258 57 1 = 0 := by rw [e_259]; exact q_231
  have q_266 : gp_I s_258 57 3 = 0 := by rw [e_259]; exact q_232
  have q_267 : gp_I s_258 6 4 = 0 := by rw [e_259]; exact q_233
  have q_268 : gp_R s_258 117 5 = none := by rw [e_259]; exact q_235
  have q_269 : gp_R s_258 117 6 = none := by rw [e_259]; exact q_236
  have q_270 : gp_R s_258 117 7 = none := by rw [e_259]; exact q_237
  have q_271 : gp_R s_258 117 8 = none := by rw [e_259]; exact q_238
  have q_272 : gp_R s_258 117 9 = none := by rw [e_259]; exact q_239
  have q_273 : gp_R s_258 25 6 = none := by rw [e_259]; exact q_240
  have q_274 : gp_R s_258 25 7 = none := by rw [e_259]; exact q_241
  have q_275 : gp_R s_258 25 8 = none := by rw [e_259]; exact q_242
  have q_276 : gp_R s_258 25 9 = none := by rw [e_259]; exact q_243
  have q_277 : ∀ k, k < 8 → gp_R s_258 4 k = some 25 := by rw [e_259]; exact q_244
  have q_278 : gp_R s_258 51 6 = some 55 := by rw [e_259]; exact q_245
  have q_279 : gp_R s_258 51 7 = some 56 := by rw [e_259]; exact q_246
  have q_280 : gp_sh s_258 117 = (9, 10) := by rw [e_259]; exact q_247
  have q_281 : gp_us s_258 = 606985 := by rw [e_259]; exact q_248
  have q_282 : gp_sz s_258 = 122 := by rw [e_259]; exact q_249
  have q_283 : gp_I s_258 117 0 = 20 := by rw [e_259]; exact q_250
  have q_284 : gp_sh s_258 118 = (101, 20) := by rw [e_259]; exact q_251
  have q_285 : gp_R s_258 117 1 = some 118 := by rw [e_259]; exact q_252
  have q_286 : gp_sh s_258 119 = (101, 20) := by rw [e_259]; exact q_253
  have q_287 : gp_R s_258 117 2 = some 119 := by rw [e_259]; exact q_254
  have q_288 : gp_sh s_258 120 = (100, 20) := by rw [e_259]; exact q_255
  have q_289 : gp_R s_258 117 3 = some 120 := by rw [e_259]; exact q_256
  have q_290 : gp_sh s_258 121 = (100, 20) := by rw [e_259]; exact q_257
  have q_291 : gp_R s_258 117 4 = some 121 := by rw [e_259]; rfl
  refine ⟨by omega, ?_⟩
  refine ⟨by omega, ?_⟩
  try rw [show gp_sz s_258 = 122 from q_282]
  intro s_292 e_293
  have hs_294 : xM z s_292 := by rw [e_293]; exact xI.new hs_260 (by omega)
  have q_295 : gp_I s_292 1 2 = 0 := by rw [e_293, gz_nI q_282 (by decide)]; exact q_261
  have q_296 : gp_I s_292 1 6 = 0 := by rw [e_293, gz_nI q_282 (by decide)]; exact q_262
  have q_297 : gp_I s_292 1 7 = 1 := by rw [e_293, gz_nI q_282 (by decide)]; exact q_263
  have q_298 : gp_I s_292 51 8 = 0 := by rw [e_293, gz_nI q_282 (by decide)]; exact q_264
  have q_299 : gp_I s_292 57 1 = 0 := by rw [e_293, gz_nI q_282 (by decide)]; exact q_265
  have q_300 : gp_I s_292 57 3 = 0 := by rw [e_293, gz_nI q_282 (by decide)]; exact q_266
  have q_301 : gp_I s_292 6 4 = 0 := by rw [e_293, gz_nI q_282 (by decide)]; exact q_267
  have q_302 : gp_R s_292 117 5 = none := by rw [e_293, gz_nR q_282 (by decide)]; exact q_268
  have q_303 : gp_R s_292 117 6 = none := by rw [e_293, gz_nR q_282 (by decide)]; exact q_269
  have q_304 : gp_R s_292 117 7 = none := by rw [e_293, gz_nR q_282 (by decide)]; exact q_270
  have q_305 : gp_R s_292 117 8 = none := by rw [e_293, gz_nR q_282 (by decide)]; exact q_271
  have q_306 : gp_R s_292 117 9 = none := by rw [e_293, gz_nR q_282 (by decide)]; exact q_272
  have q_307 : gp_R s_292 25 6 = none := by rw [e_293, gz_nR q_282 (by decide)]; exact q_273
  have q_308 : gp_R s_292 25 7 = none := by rw [e_293, gz_nR q_282 (by decide)]; exact q_274
  have q_309 : gp_R s_292 25 8 = none := by rw [e_293, gz_nR q_282 (by decide)]; exact q_275
  have q_310 : gp_R s_292 25 9 = none := by rw [e_293, gz_nR q_282 (by decide)]; exact q_276
  have q_311 : ∀ k, k < 8 → gp_R s_292 4 k = some 25 := fun k hk => by rw [e_293, gz_nR q_282 (by decide)]; exact q_277 k hk
  have q_312 : gp_R s_292 51 6 = some 55 := by rw [e_293, gz_nR q_282 (by decide)]; exact q_278
  have q_313 : gp_R s_292 51 7 = some 56 := by rw [e_293, gz_nR q_282 (by decide)]; exact q_279
  have q_314 : gp_sh s_292 117 = (9, 10) := by rw [e_293, gz_nS q_282 (by decide)]; exact q_280
  have q_315 : gp_us s_292 = 607005 := by rw [e_293]; show gp_us s_258 + 20 = 607005; rw [q_281]; try rfl
  have q_316 : gp_sz s_292 = 123 := by rw [e_293]; exact congrArg Nat.succ q_282
  have q_317 : gp_I s_292 117 0 = 20 := by rw [e_293, gz_nI q_282 (by decide)]; exact q_283
  have q_318 : gp_sh s_292 118 = (101, 20) := by rw [e_293, gz_nS q_282 (by decide)]; exact q_284
  have q_319 : gp_R s_292 117 1 = some 118 := by rw [e_293, gz_nR q_282 (by decide)]; exact q_285
  have q_320 : gp_sh s_292 119 = (101, 20) := by rw [e_293, gz_nS q_282 (by decide)]; exact q_286
  have q_321 : gp_R s_292 117 2 = some 119 := by rw [e_293, gz_nR q_282 (by decide)]; exact q_287
  have q_322 : gp_sh s_292 120 = (100, 20) := by rw [e_293, gz_nS q_282 (by decide)]; exact q_288
  have q_323 : gp_R s_292 117 3 = some 120 := by rw [e_293, gz_nR q_282 (by decide)]; exact q_289
  have q_324 : gp_sh s_292 121 = (100, 20) := by rw [e_293, gz_nS q_282 (by decide)]; exact q_290
  have q_325 : gp_R s_292 117 4 = some 121 := by rw [e_293, gz_nR q_282 (by decide)]; exact q_291
  have q_326 : gp_sh s_292 122 = (100, 20) := by rw [e_293]; exact gz_nSs q_282
  refine ⟨(by show (gp_sh s_292 117).1 = 9; rw [q_314]), ?_⟩
  refine ⟨rfl, ?_⟩
  intro s_327 e_328
  have hs_329 : xM z s_327 := by rw [e_328]; exact xI.wR hs_294 _ _ _
  have q_330 : gp_I s_327 1 2 = 0 := by rw [e_328]; exact q_295
  have q_331 : gp_I s_327 1 6 = 0 := by rw [e_328]; exact q_296
  have q_332 : gp_I s_327 1 7 = 1 := by rw [e_328]; exact q_297
  have q_333 : gp_I s_327 51 8 = 0 := by rw [e_328]; exact q_298
  have q_334 : gp_I s_327 57 1 = 0 := by rw [e_328]; exact q_299
  have q_335 : gp_I s_327 57 3 = 0 := by rw [e_328]; exact q_300
  have q_336 : gp_I s_327 6 4 = 0 := by rw [e_328]; exact q_301
  have q_337 : gp_R s_327 117 6 = none := by rw [e_328]; exact q_303
  have q_338 : gp_R s_327 117 7 = none := by rw [e_328]; exact q_304
  have q_339 : gp_R s_327 117 8 = none := by rw [e_328]; exact q_305
  have q_340 : gp_R s_327 117 9 = none := by rw [e_328]; exact q_306
  have q_341 : gp_R s_327 25 6 = none := by rw [e_328]; exact q_307
  have q_342 : gp_R s_327 25 7 = none := by rw [e_328]; exact q_308
  have q_343 : gp_R s_327 25 8 = none := by rw [e_328]; exact q_309
  have q_344 : gp_R s_327 25 9 = none := by rw [e_328]; exact q_310
  have q_345 : ∀ k, k < 8 → gp_R s_327 4 k = some 25 := by rw [e_328]; exact q_311
  have q_346 : gp_R s_327 51 6 = some 55 := by rw [e_328]; exact q_312
  have q_347 : gp_R s_327 51 7 = some 56 := by rw [e_328]; exact q_313
  have q_348 : gp_sh s_327 117 = (9, 10) := by rw [e_328]; exact q_314
  have q_349 : gp_us s_327 = 607005 := by rw [e_328]; exact q_315
  have q_350 : gp_sz s_327 = 123 := by rw [e_328]; exact q_316
  have q_351 : gp_I s_327 117 0 = 20 := by rw [e_328]; exact q_317
  have q_352 : gp_sh s_327 118 = (101, 20) := by rw [e_328]; exact q_318
  have q_353 : gp_R s_327 117 1 = some 118 := by rw [e_328]; exact q_319
  have q_354 : gp_sh s_327 119 = (101, 20) := by rw [e_328]; exact q_320
  have q_355 : gp_R s_327 117 2 = some 119 := by rw [e_328]; exact q_321
  have q_356 : gp_sh s_327 120 = (100, 20) := by rw [e_328]; exact q_322
  have q_357 : gp_R s_327 117 3 = some 120 := by rw [e_328]; exact q_323
  have q_358 : gp_sh s_327 121 = (100, 20) := by rw [e_328]; exact q_324
  have q_359 : gp_R s_327 117 4 = some 121 := by rw [e_328]; exact q_325
  have q_360 : gp_sh s_327 122 = (100, 20) := by rw [e_328]; exact q_326
  have q_361 : gp_R s_327 117 5 = some 122 := by rw [e_328]; rfl
  exact k s_327 hs_329 (by omega) (by omega) (by omega) (by omega) (by omega) (by omega) (by omega) (by omega) q_353 q_355 q_357 q_359 q_361 q_337 q_338 q_339 q_340 q_341 q_342 q_343 q_344 q_345 q_346 q_347 q_348 q_352 q_354 q_356 q_358 q_360 q_349 q_350
set_option maxRecDepth 100000 in
/-- Maker.pauses, the loop at 13 -/
theorem zx258_19_l13_0 {z : gH} {L d : Nat} {K : Option gV → gH → Prop}   (k : ∀ (t : gH), xM z t → (gp_I t 1 2 = 0) → (gp_I t 1 6 = 0) → (gp_I t 1 7 = 1) → (gp_I t 117 0 = 20) → (gp_I t 51 8 = 0) → (gp_I t 57 1 = 0) → (gp_I t 57 3 = 0) → (gp_I t 6 4 = 0) → (gp_R t 117 1 = some 118) → (gp_R t 117 2 = some 119) → (gp_R t 117 3 = some 120) → (gp_R t 117 4 = some 121) → (gp_R t 117 5 = some 122) → (gp_R t 117 6 = none) → (gp_R t 117 7 = none) → (gp_R t 117 8 = none) → (gp_R t 117 9 = none) → (gp_R t 25 6 = none) → (gp_R t 25 7 = none) → (gp_R t 25 8 = none) → (gp_R t 25 9 = none) → (∀ k, k < 8 → gp_R t 4 k = some 25) → (gp_R t 51 6 = some 55) → (gp_R t 51 7 = some 56) → (gp_sh t 117 = (9, 10)) → (gp_sh t 118 = (101, 20)) → (gp_sh t 119 = (101, 20)) → (gp_sh t 120 = (100, 20)) → (gp_sh t 121 = (100, 20)) → (gp_sh t 122 = (100, 20)) → (gp_us t = 607005) → (gp_sz t = 123) → K (some (gp_r (some 117))) t)  : ∀ (n : Nat) (v1 : Int) (v2 : Option Nat) (v3 : Int) (s : gH), xM z s → (61 - v3).toNat < n → (v1 = 19) → (v2 = some 117) → (1 ≤ v3 ∧ v3 ≤ 60) → (gp_I s 1 2 = 0) → (gp_I s 1 6 = 0) → (gp_I s 1 7 = 1) → (gp_I s 117 0 = 20) → (gp_I s 51 8 = 0) → (gp_I s 57 1 = 0) → (gp_I s 57 3 = 0) → (gp_I s 6 4 = 0) → (gp_R s 117 1 = some 118) → (gp_R s 117 2 = some 119) → (gp_R s 117 3 = some 120) → (gp_R s 117 4 = some 121) → (gp_R s 117 5 = some 122) → (gp_R s 117 6 = none) → (gp_R s 117 7 = none) → (gp_R s 117 8 = none) → (gp_R s 117 9 = none) → (gp_R s 25 6 = none) → (gp_R s 25 7 = none) → (gp_R s 25 8 = none) → (gp_R s 25 9 = none) → (∀ k, k < 8 → gp_R s 4 k = some 25) → (gp_R s 51 6 = some 55) → (gp_R s 51 7 = some 56) → (gp_sh s 117 = (9, 10)) → (gp_sh s 118 = (101, 20)) → (gp_sh s 119 = (101, 20)) → (gp_sh s 120 = (100, 20)) → (gp_sh s 121 = (100, 20)) → (gp_sh s 122 = (100, 20)) → (gp_us s = 607005) → (gp_sz s = 123) → gs_E L (d + 1) 258 13 [gp_r (some 20), gp_i v1, gp_r v2, gp_i v3] [] s K := by
  intro n
  induction n with
  | zero => intro v1 v2 v3 s hs hm i0 i1 i2 i3 i4 i5 i6 i7 i8 i9 i10 i11 i12 i13 i14 i15 i16 i17 i18 i19 i20 i21 i22 i23 i24 i25 i26 i27 i28 i29 i30 i31 i32 i33 i34; exact absurd hm (Nat.not_lt_zero _)
  | succ n ih =>
    intro v1 v2 v3 s hs hm i0 i1 i2 i3 i4 i5 i6 i7 i8 i9 i10 i11 i12 i13 i14 i15 i16 i17 i18 i19 i20 i21 i22 i23 i24 i25 i26 i27 i28 i29 i30 i31 i32 i33 i34
    subst i0
    subst i1
    refine s_258_13 _ _ _ ?_
    refine ⟨fun h_1 => ?_, fun h_1 => ?_⟩
    · exact k s hs (by omega) (by omega) (by omega) (by omega) (by omega) (by omega) (by omega) (by omega) i11 i12 i13 i14 i15 i16 i17 i18 i19 i20 i21 i22 i23 i24 i25 i26 i27 i28 i29 i30 i31 i32 i33 i34
    · refine ⟨117, rfl, ?_⟩
      refine ⟨(by show (gp_sh s 117).1 = 9; rw [i27]), ?_⟩
      try rw [show gp_R (gp_mk L s) 117 1 = some 118 from i11]
      have w_2 := gz_w (v3 - 1)
      refine ⟨118, rfl, ?_⟩
      refine ⟨⟨by show (gp_sh s 118).1 = 101; rw [i28], by omega, by show v3 < ((gp_sh s 118).2 : Int); rw [i28]; show v3 < 20; omega⟩, ?_⟩
      intro s_3 e_4
      have hs_5 : xM z s_3 := by rw [e_4]; exact xI.wLd hs _ _ _ (by omega)
      have q_6 : gp_I s_3 1 2 = 0 := by rw [e_4]; exact i3
      have q_7 : gp_I s_3 1 6 = 0 := by rw [e_4]; exact i4
      have q_8 : gp_I s_3 1 7 = 1 := by rw [e_4]; exact i5
      have q_9 : gp_I s_3 117 0 = 20 := by rw [e_4]; exact i6
      have q_10 : gp_I s_3 51 8 = 0 := by rw [e_4]; exact i7
      have q_11 : gp_I s_3 57 1 = 0 := by rw [e_4]; exact i8
      have q_12 : gp_I s_3 57 3 = 0 := by rw [e_4]; exact i9
      have q_13 : gp_I s_3 6 4 = 0 := by rw [e_4]; exact i10
      have q_14 : gp_R s_3 117 1 = some 118 := by rw [e_4]; exact i11
      have q_15 : gp_R s_3 117 2 = some 119 := by rw [e_4]; exact i12
      have q_16 : gp_R s_3 117 3 = some 120 := by rw [e_4]; exact i13
      have q_17 : gp_R s_3 117 4 = some 121 := by rw [e_4]; exact i14
      have q_18 : gp_R s_3 117 5 = some 122 := by rw [e_4]; exact i15
      have q_19 : gp_R s_3 117 6 = none := by rw [e_4]; exact i16
      have q_20 : gp_R s_3 117 7 = none := by rw [e_4]; exact i17
      have q_21 : gp_R s_3 117 8 = none := by rw [e_4]; exact i18
      have q_22 : gp_R s_3 117 9 = none := by rw [e_4]; exact i19
      have q_23 : gp_R s_3 25 6 = none := by rw [e_4]; exact i20
      have q_24 : gp_R s_3 25 7 = none := by rw [e_4]; exact i21
      have q_25 : gp_R s_3 25 8 = none := by rw [e_4]; exact i22
      have q_26 : gp_R s_3 25 9 = none := by rw [e_4]; exact i23
      have q_27 : ∀ k, k < 8 → gp_R s_3 4 k = some 25 := by rw [e_4]; exact i24
      have q_28 : gp_R s_3 51 6 = some 55 := by rw [e_4]; exact i25
      have q_29 : gp_R s_3 51 7 = some 56 := by rw [e_4]; exact i26
      have q_30 : gp_sh s_3 117 = (9, 10) := by rw [e_4]; exact i27
      have q_31 : gp_sh s_3 118 = (101, 20) := by rw [e_4]; exact i28
      have q_32 : gp_sh s_3 119 = (101, 20) := by rw [e_4]; exact i29
      have q_33 : gp_sh s_3 120 = (100, 20) := by rw [e_4]; exact i30
      have q_34 : gp_sh s_3 121 = (100, 20) := by rw [e_4]; exact i31
      have q_35 : gp_sh s_3 122 = (100, 20) := by rw [e_4]; exact i32
      have q_36 : gp_us s_3 = 607005 := by rw [e_4]; exact i33
      have q_37 : gp_sz s_3 = 123 := by rw [e_4]; exact i34
      refine ⟨(by show (gp_sh s_3 117).1 = 9; rw [q_30]), ?_⟩
      try rw [show gp_R (gp_mk L s_3) 117 5 = some 122 from q_18]
      refine ⟨122, rfl, ?_⟩
      refine ⟨⟨by show (gp_sh s_3 122).1 = 100; rw [q_35], by omega, by show v3 < ((gp_sh s_3 122).2 : Int); rw [q_35]; show v3 < 20; omega⟩, ?_⟩
      intro s_38 e_39
      have hs_40 : xM z s_38 := by rw [e_39]; exact xI.wId hs_5 _ _ _ (by omega)
      have q_41 : gp_I s_38 1 2 = 0 := by rw [e_39]; exact q_6
      have q_42 : gp_I s_38 1 6 = 0 := by rw [e_39]; exact q_7
      have q_43 : gp_I s_38 1 7 = 1 := by rw [e_39]; exact q_8
      have q_44 : gp_I s_38 117 0 = 20 := by rw [e_39]; exact q_9
      have q_45 : gp_I s_38 51 8 = 0 := by rw [e_39]; exact q_10
      have q_46 : gp_I s_38 57 1 = 0 := by rw [e_39]; exact q_11
      have q_47 : gp_I s_38 57 3 = 0 := by rw [e_39]; exact q_12
      have q_48 : gp_I s_38 6 4 = 0 := by rw [e_39]; exact q_13
      have q_49 : gp_R s_38 117 1 = some 118 := by rw [e_39]; exact q_14
      have q_50 : gp_R s_38 117 2 = some 119 := by rw [e_39]; exact q_15
      have q_51 : gp_R s_38 117 3 = some 120 := by rw [e_39]; exact q_16
      have q_52 : gp_R s_38 117 4 = some 121 := by rw [e_39]; exact q_17
      have q_53 : gp_R s_38 117 5 = some 122 := by rw [e_39]; exact q_18
      have q_54 : gp_R s_38 117 6 = none := by rw [e_39]; exact q_19
      have q_55 : gp_R s_38 117 7 = none := by rw [e_39]; exact q_20
      have q_56 : gp_R s_38 117 8 = none := by rw [e_39]; exact q_21
      have q_57 : gp_R s_38 117 9 = none := by rw [e_39]; exact q_22
      have q_58 : gp_R s_38 25 6 = none := by rw [e_39]; exact q_23
      have q_59 : gp_R s_38 25 7 = none := by rw [e_39]; exact q_24
      have q_60 : gp_R s_38 25 8 = none := by rw [e_39]; exact q_25
      have q_61 : gp_R s_38 25 9 = none := by rw [e_39]; exact q_26
      have q_62 : ∀ k, k < 8 → gp_R s_38 4 k = some 25 := by rw [e_39]; exact q_27
      have q_63 : gp_R s_38 51 6 = some 55 := by rw [e_39]; exact q_28
      have q_64 : gp_R s_38 51 7 = some 56 := by rw [e_39]; exact q_29
      have q_65 : gp_sh s_38 117 = (9, 10) := by rw [e_39]; exact q_30
      have q_66 : gp_sh s_38 118 = (101, 20) := by rw [e_39]; exact q_31
      have q_67 : gp_sh s_38 119 = (101, 20) := by rw [e_39]; exact q_32
      have q_68 : gp_sh s_38 120 = (100, 20) := by rw [e_39]; exact q_33
      have q_69 : gp_sh s_38 121 = (100, 20) := by rw [e_39]; exact q_34
      have q_70 : gp_sh s_38 122 = (100, 20) := by rw [e_39]; exact q_35
      have q_71 : gp_us s_38 = 607005 := by rw [e_39]; exact q_36
      have q_72 : gp_sz s_38 = 123 := by rw [e_39]; exact q_37
      have w_73 := gz_w (v3 + 1)
      exact ih _ _ _ s_38 hs_40 (by omega) (by omega) rfl (by omega) (by omega) (by omega) (by omega) (by omega) (by omega) (by omega) (by omega) (by omega) q_49 q_50 q_51 q_52 q_53 q_54 q_55 q_56 q_57 q_58 q_59 q_60 q_61 q_62 q_63 q_64 q_65 q_66 q_67 q_68 q_69 q_70 q_71 q_72
set_option maxRecDepth 100000 in
/-- Maker.pauses [(19, 19)] -/
theorem zx258_19 {z : gH} {L d : Nat} {K : Option gV → gH → Prop} {s : gH}  (hs : xM z s)  (q0 : gp_I s 1 2 = 0) (q1 : gp_I s 1 6 = 0) (q2 : gp_I s 1 7 = 1) (q3 : gp_I s 51 8 = 0) (q4 : gp_I s 57 1 = 0) (q5 : gp_I s 57 3 = 0) (q6 : gp_I s 6 4 = 0) (q7 : gp_R s 25 6 = none) (q8 : gp_R s 25 7 = none) (q9 : gp_R s 25 8 = none) (q10 : gp_R s 25 9 = none) (q11 : ∀ k, k < 8 → gp_R s 4 k = some 25) (q12 : gp_R s 51 6 = some 55) (q13 : gp_R s 51 7 = some 56) (q14 : gp_us s = 606895) (q15 : gp_sz s = 117) (k : ∀ (t : gH), xM z t → (gp_I t 1 2 = 0) → (gp_I t 1 6 = 0) → (gp_I t 1 7 = 1) → (gp_I t 117 0 = 20) → (gp_I t 51 8 = 0) → (gp_I t 57 1 = 0) → (gp_I t 57 3 = 0) → (gp_I t 6 4 = 0) → (gp_R t 117 1 = some 118) → (gp_R t 117 2 = some 119) → (gp_R t 117 3 = some 120) → (gp_R t 117 4 = some 121) → (gp_R t 117 5 = some 122) → (gp_R t 117 6 = none) → (gp_R t 117 7 = none) → (gp_R t 117 8 = none) → (gp_R t 117 9 = none) → (gp_R t 25 6 = none) → (gp_R t 25 7 = none) → (gp_R t 25 8 = none) → (gp_R t 25 9 = none) → (∀ k, k < 8 → gp_R t 4 k = some 25) → (gp_R t 51 6 = some 55) → (gp_R t 51 7 = some 56) → (gp_sh t 117 = (9, 10)) → (gp_sh t 118 = (101, 20)) → (gp_sh t 119 = (101, 20)) → (gp_sh t 120 = (100, 20)) → (gp_sh t 121 = (100, 20)) → (gp_sh t 122 = (100, 20)) → (gp_us t = 607005) → (gp_sz t = 123) → K (some (gp_r (some 117))) t) : gs_C L (d + 1) 258 4 [gp_r (some 20), gp_i 19] s K := by
  refine s_258_e _ ?_
  refine ⟨by omega, ?_⟩
  try rw [show gp_sz s = 117 from q15]
  intro s_1 e_2
  have hs_3 : xM z s_1 := by rw [e_2]; exact xI.new hs (by omega)
  have q_4 : gp_I s_1 1 2 = 0 := by rw [e_2, gz_nI q15 (by decide)]; exact q0
  have q_5 : gp_I s_1 1 6 = 0 := by rw [e_2, gz_nI q15 (by decide)]; exact q1
  have q_6 : gp_I s_1 1 7 = 1 := by rw [e_2, gz_nI q15 (by decide)]; exact q2
  have q_7 : gp_I s_1 51 8 = 0 := by rw [e_2, gz_nI q15 (by decide)]; exact q3
  have q_8 : gp_I s_1 57 1 = 0 := by rw [e_2, gz_nI q15 (by decide)]; exact q4
  have q_9 : gp_I s_1 57 3 = 0 := by rw [e_2, gz_nI q15 (by decide)]; exact q5
  have q_10 : gp_I s_1 6 4 = 0 := by rw [e_2, gz_nI q15 (by decide)]; exact q6
  have q_11 : gp_R s_1 25 6 = none := by rw [e_2, gz_nR q15 (by decide)]; exact q7
  have q_12 : gp_R s_1 25 7 = none := by rw [e_2, gz_nR q15 (by decide)]; exact q8
  have q_13 : gp_R s_1 25 8 = none := by rw [e_2, gz_nR q15 (by decide)]; exact q9
  have q_14 : gp_R s_1 25 9 = none := by rw [e_2, gz_nR q15 (by decide)]; exact q10
  have q_15 : ∀ k, k < 8 → gp_R s_1 4 k = some 25 := fun k hk => by rw [e_2, gz_nR q15 (by decide)]; exact q11 k hk
  have q_16 : gp_R s_1 51 6 = some 55 := by rw [e_2, gz_nR q15 (by decide)]; exact q12
  have q_17 : gp_R s_1 51 7 = some 56 := by rw [e_2, gz_nR q15 (by decide)]; exact q13
  have q_18 : gp_us s_1 = 606905 := by rw [e_2]; show gp_us s + 10 = 606905; rw [q14]; try rfl
  have q_19 : gp_sz s_1 = 118 := by rw [e_2]; exact congrArg Nat.succ q15
  have q_20 : gp_sh s_1 117 = (9, 10) := by rw [e_2]; exact gz_nSs q15
  have q_21 : gp_I s_1 117 0 = 0 := by rw [e_2]; exact gz_nIs q15
  have q_22 : gp_R s_1 117 1 = none := by rw [e_2]; exact gz_nRs q15
  have q_23 : gp_R s_1 117 2 = none := by rw [e_2]; exact gz_nRs q15
  have q_24 : gp_R s_1 117 3 = none := by rw [e_2]; exact gz_nRs q15
  have q_25 : gp_R s_1 117 4 = none := by rw [e_2]; exact gz_nRs q15
  have q_26 : gp_R s_1 117 5 = none := by rw [e_2]; exact gz_nRs q15
  have q_27 : gp_R s_1 117 6 = none := by rw [e_2]; exact gz_nRs q15
  have q_28 : gp_R s_1 117 7 = none := by rw [e_2]; exact gz_nRs q15
  have q_29 : gp_R s_1 117 8 = none := by rw [e_2]; exact gz_nRs q15
  have q_30 : gp_R s_1 117 9 = none := by rw [e_2]; exact gz_nRs q15
  have w_31 := gz_w (19 + 1)
  have e_32 : gp_wr (19 + 1) = 20 := by omega
  try rw [e_32]
  refine zx2304_19 hs_3 (by omega) (by omega) (by omega) (by omega) (by omega) (by omega) (by omega) (by omega) q_22 q_23 q_24 q_25 q_26 q_27 q_28 q_29 q_30 q_11 q_12 q_13 q_14 q_15 q_16 q_17 q_20 q_18 q_19 (fun s_33 hs_34 q_35 q_36 q_37 q_38 q_39 q_40 q_41 q_42 q_43 q_44 q_45 q_46 q_47 q_48 q_49 q_50 q_51 q_52 q_53 q_54 q_55 q_56 q_57 q_58 q_59 q_60 q_61 q_62 q_63 q_64 q_65 q_66 => ⟨rfl, ?_⟩)
  exact zx258_19_l13_0 k _ _ _ _ s_33 hs_34 (Nat.lt_succ_self _) (by omega) rfl (by omega) (by omega) (by omega) (by omega) (by omega) (by omega) (by omega) (by omega) (by omega) q_43 q_44 q_45 q_46 q_47 q_48 q_49 q_50 q_51 q_52 q_53 q_54 q_55 q_56 q_57 q_58 q_59 q_60 q_61 q_62 q_63 q_64 q_65 q_66
set_option maxRecDepth 100000 in
/-- GatheredPoints.hold [(0, 7), 117] -/
theorem zx2854_19 {z : gH} {L d : Nat} {K : Option gV → gH → Prop} {s : gH} (p0 : Int) (hs : xM z s) (h_p0 : 0 ≤ p0 ∧ p0 ≤ 7) (q0 : gp_I s 1 2 = 0) (q1 : gp_I s 1 6 = 0) (q2 : gp_I s 1 7 = 1) (q3 : gp_I s 117 0 = 20) (q4 : gp_I s 51 8 = 0) (q5 : gp_I s 57 1 = 0) (q6 : gp_I s 57 3 = 0) (q7 : gp_I s 6 4 = 0) (q8 : gp_R s 117 1 = some 118) (q9 : gp_R s 117 2 = some 119) (q10 : gp_R s 117 3 = some 120) (q11 : gp_R s 117 4 = some 121) (q12 : gp_R s 117 5 = some 122) (q13 : gp_R s 117 6 = none) (q14 : gp_R s 117 7 = none) (q15 : gp_R s 117 8 = none) (q16 : gp_R s 117 9 = none) (q17 : gp_R s 25 6 = none) (q18 : gp_R s 25 7 = none) (q19 : gp_R s 25 8 = none) (q20 : gp_R s 25 9 = none) (q21 : ∀ k, k < 8 → gp_R s 4 k = some 25) (q22 : gp_R s 51 6 = some 55) (q23 : gp_R s 51 7 = some 56) (q24 : gp_sh s 117 = (9, 10)) (q25 : gp_sh s 118 = (101, 20)) (q26 : gp_sh s 119 = (101, 20)) (q27 : gp_sh s 120 = (100, 20)) (q28 : gp_sh s 121 = (100, 20)) (q29 : gp_sh s 122 = (100, 20)) (q30 : gp_us s = 607005) (q31 : gp_sz s = 123) (k : ∀ (t : gH), xM z t → (gp_I t 1 2 = 0) → (gp_I t 1 6 = 0) → (gp_I t 1 7 = 1) → (gp_I t 117 0 = 20) → (gp_I t 51 8 = 0) → (gp_I t 57 1 = 0) → (gp_I t 57 3 = 0) → (gp_I t 6 4 = 0) → (gp_R t 117 1 = some 118) → (gp_R t 117 2 = some 119) → (gp_R t 117 3 = some 120) → (gp_R t 117 4 = some 121) → (gp_R t 117 5 = some 122) → (gp_R t 117 6 = none) → (gp_R t 117 7 = none) → (gp_R t 117 8 = none) → (gp_R t 117 9 = none) → (gp_R t 25 6 = none) → (gp_R t 25 7 = none) → (gp_R t 25 8 = none) → (gp_R t 25 9 = none) → (gp_R t 51 6 = some 55) → (gp_R t 51 7 = some 56) → (gp_sh t 117 = (9, 10)) → (gp_sh t 118 = (101, 20)) → (gp_sh t 119 = (101, 20)) → (gp_sh t 120 = (100, 20)) → (gp_sh t 121 = (100, 20)) → (gp_sh t 122 = (100, 20)) → (gp_us t = 607005) → (gp_sz t = 123) → K (some (gp_i 20)) t) : gs_C L d 2854 3 [gp_r (some 1), gp_i p0, gp_r (some 117)] s K := by
  refine s_2854_e _ _ ?_
  refine ⟨117, rfl, ?_⟩
  refine ⟨by omega, ?_⟩
  refine ⟨(by show (gp_sh s 117).1 = 9; rw [q24]), ?_⟩
  intro s_1 e_2
  have hs_3 : xM z s_1 := by rw [e_2]; exact xI.wR hs _ _ _
  have q_4 : gp_I s_1 1 2 = 0 := by rw [e_2]; exact q0
  have q_5 : gp_I s_1 1 6 = 0 := by rw [e_2]; exact q1
  have q_6 : gp_I s_1 1 7 = 1 := by rw [e_2]; exact q2
  have q_7 : gp_I s_1 117 0 = 20 := by rw [e_2]; exact q3
  have q_8 : gp_I s_1 51 8 = 0 := by rw [e_2]; exact q4
  have q_9 : gp_I s_1 57 1 = 0 := by rw [e_2]; exact q5
  have q_10 : gp_I s_1 57 3 = 0 := by rw [e_2]; exact q6
  have q_11 : gp_I s_1 6 4 = 0 := by rw [e_2]; exact q7
  have q_12 : gp_R s_1 117 1 = some 118 := by rw [e_2]; exact q8
  have q_13 : gp_R s_1 117 2 = some 119 := by rw [e_2]; exact q9
  have q_14 : gp_R s_1 117 3 = some 120 := by rw [e_2]; exact q10
  have q_15 : gp_R s_1 117 4 = some 121 := by rw [e_2]; exact q11
  have q_16 : gp_R s_1 117 5 = some 122 := by rw [e_2]; exact q12
  have q_17 : gp_R s_1 117 6 = none := by rw [e_2]; exact q13
  have q_18 : gp_R s_1 117 7 = none := by rw [e_2]; exact q14
  have q_19 : gp_R s_1 117 8 = none := by rw [e_2]; exact q15
  have q_20 : gp_R s_1 117 9 = none := by rw [e_2]; exact q16
  have q_21 : gp_R s_1 25 6 = none := by rw [e_2]; exact q17
  have q_22 : gp_R s_1 25 7 = none := by rw [e_2]; exact q18
  have q_23 : gp_R s_1 25 8 = none := by rw [e_2]; exact q19
  have q_24 : gp_R s_1 25 9 = none := by rw [e_2]; exact q20
  have q_25 : gp_R s_1 51 6 = some 55 := by rw [e_2]; exact q22
  have q_26 : gp_R s_1 51 7 = some 56 := by rw [e_2]; exact q23
  have q_27 : gp_sh s_1 117 = (9, 10) := by rw [e_2]; exact q24
  have q_28 : gp_sh s_1 118 = (101, 20) := by rw [e_2]; exact q25
  have q_29 : gp_sh s_1 119 = (101, 20) := by rw [e_2]; exact q26
  have q_30 : gp_sh s_1 120 = (100, 20) := by rw [e_2]; exact q27
  have q_31 : gp_sh s_1 121 = (100, 20) := by rw [e_2]; exact q28
  have q_32 : gp_sh s_1 122 = (100, 20) := by rw [e_2]; exact q29
  have q_33 : gp_us s_1 = 607005 := by rw [e_2]; exact q30
  have q_34 : gp_sz s_1 = 123 := by rw [e_2]; exact q31
  refine ⟨(by show (gp_sh s_1 117).1 = 9; rw [q_27]), ?_⟩
  try rw [show gp_I s_1 117 0 = 20 from q_7]
  exact k s_1 hs_3 (by omega) (by omega) (by omega) (by omega) (by omega) (by omega) (by omega) (by omega) q_12 q_13 q_14 q_15 q_16 q_17 q_18 q_19 q_20 q_21 q_22 q_23 q_24 q_25 q_26 q_27 q_28 q_29 q_30 q_31 q_32 q_33 q_34
set_option maxRecDepth 100000 in
/-- GatheredPoints.waits [(0, 7), (19, 19)] -/
theorem zx2821_23 {z : gH} {L d : Nat} {K : Option gV → gH → Prop} {s : gH} (p0 : Int) (hs : xM z s) (h_p0 : 0 ≤ p0 ∧ p0 ≤ 7) (q0 : gp_I s 1 2 = 0) (q1 : gp_I s 1 6 = 0) (q2 : gp_I s 1 7 = 1) (q3 : gp_I s 51 8 = 0) (q4 : gp_I s 57 1 = 0) (q5 : gp_I s 57 3 = 0) (q6 : gp_I s 6 4 = 0) (q7 : gp_R s 25 6 = none) (q8 : gp_R s 25 7 = none) (q9 : gp_R s 25 8 = none) (q10 : gp_R s 25 9 = none) (q11 : ∀ k, k < 8 → gp_R s 4 k = some 25) (q12 : gp_R s 51 6 = some 55) (q13 : gp_R s 51 7 = some 56) (q14 : gp_us s = 606895) (q15 : gp_sz s = 117) (k : ∀ (t : gH), xM z t → (gp_I t 1 2 = 0) → (gp_I t 1 6 = 0) → (gp_I t 1 7 = 1) → (gp_I t 117 0 = 20) → (gp_I t 51 8 = 0) → (gp_I t 57 1 = 0) → (gp_I t 57 3 = 0) → (gp_I t 6 4 = 0) → (gp_R t 117 1 = some 118) → (gp_R t 117 2 = some 119) → (gp_R t 117 3 = some 120) → (gp_R t 117 4 = some 121) → (gp_R t 117 5 = some 122) → (gp_R t 117 6 = none) → (gp_R t 117 7 = none) → (gp_R t 117 8 = none) → (gp_R t 117 9 = none) → (gp_R t 25 6 = none) → (gp_R t 25 7 = none) → (gp_R t 25 8 = none) → (gp_R t 25 9 = none) → (gp_R t 51 6 = some 55) → (gp_R t 51 7 = some 56) → (gp_sh t 117 = (9, 10)) → (gp_sh t 118 = (101, 20)) → (gp_sh t 119 = (101, 20)) → (gp_sh t 120 = (100, 20)) → (gp_sh t 121 = (100, 20)) → (gp_sh t 122 = (100, 20)) → (gp_us t = 607005) → (gp_sz t = 123) → K (some (gp_i 20)) t) : gs_C L (d + 2) 2821 3 [gp_r (some 1), gp_i p0, gp_i 19] s K := by
  refine s_2821_e _ _ ?_
  refine zx2856_2 _ hs (by omega) (by omega) (by omega) (by omega) (by omega) (by omega) (by omega) q7 q8 q9 q10 q11 q12 q13 (⟨_, rfl, ?_⟩)
  refine ⟨fun h_1 => ?_, fun h_1 => ?_⟩
  · refine ⟨fun h_2 => ?_, fun h_2 => ?_⟩
    · exfalso; omega
    · refine ⟨fun h_3 => ?_, fun h_3 => ?_⟩
      · exfalso; omega
      · refine zx258_19 hs (by omega) (by omega) (by omega) (by omega) (by omega) (by omega) (by omega) q7 q8 q9 q10 q11 q12 q13 q14 q15 (fun s_5 hs_6 q_7 q_8 q_9 q_10 q_11 q_12 q_13 q_14 q_15 q_16 q_17 q_18 q_19 q_20 q_21 q_22 q_23 q_24 q_25 q_26 q_27 q_28 q_29 q_30 q_31 q_32 q_33 q_34 q_35 q_36 q_37 q_38 => ⟨_, rfl, ?_⟩)
        refine zx2854_19 _ hs_6 (by omega) (by omega) (by omega) (by omega) (by omega) (by omega) (by omega) (by omega) (by omega) q_15 q_16 q_17 q_18 q_19 q_20 q_21 q_22 q_23 q_24 q_25 q_26 q_27 q_28 q_29 q_30 q_31 q_32 q_33 q_34 q_35 q_36 q_37 q_38 (fun s_39 hs_40 q_41 q_42 q_43 q_44 q_45 q_46 q_47 q_48 q_49 q_50 q_51 q_52 q_53 q_54 q_55 q_56 q_57 q_58 q_59 q_60 q_61 q_62 q_63 q_64 q_65 q_66 q_67 q_68 q_69 q_70 q_71 => ⟨_, rfl, ?_⟩)
        exact k s_39 hs_40 (by omega) (by omega) (by omega) (by omega) (by omega) (by omega) (by omega) (by omega) q_49 q_50 q_51 q_52 q_53 q_54 q_55 q_56 q_57 q_58 q_59 q_60 q_61 q_62 q_63 q_64 q_65 q_66 q_67 q_68 q_69 q_70 q_71
  · exfalso; omega
set_option maxRecDepth 100000 in
/-- Table.<init> [117, (21, 21)] -/
theorem zx2304_20 {z : gH} {L d : Nat} {K : Option gV → gH → Prop} {s : gH}  (hs : xM z s)  (q0 : gp_I s 1 2 = 0) (q1 : gp_I s 1 6 = 0) (q2 : gp_I s 1 7 = 1) (q3 : gp_I s 117 0 = 0) (q4 : gp_I s 51 8 = 0) (q5 : gp_I s 57 1 = 0) (q6 : gp_I s 57 3 = 0) (q7 : gp_I s 6 4 = 0) (q8 : gp_R s 117 1 = none) (q9 : gp_R s 117 2 = none) (q10 : gp_R s 117 3 = none) (q11 : gp_R s 117 4 = none) (q12 : gp_R s 117 5 = none) (q13 : gp_R s 117 6 = none) (q14 : gp_R s 117 7 = none) (q15 : gp_R s 117 8 = none) (q16 : gp_R s 117 9 = none) (q17 : gp_R s 25 6 = none) (q18 : gp_R s 25 7 = none) (q19 : gp_R s 25 8 = none) (q20 : gp_R s 25 9 = none) (q21 : ∀ k, k < 8 → gp_R s 4 k = some 25) (q22 : gp_R s 51 6 = some 55) (q23 : gp_R s 51 7 = some 56) (q24 : gp_sh s 117 = (9, 10)) (q25 : gp_us s = 606905) (q26 : gp_sz s = 118) (k : ∀ (t : gH), xM z t → (gp_I t 1 2 = 0) → (gp_I t 1 6 = 0) → (gp_I t 1 7 = 1) → (gp_I t 117 0 = 21) → (gp_I t 51 8 = 0) → (gp_I t 57 1 = 0) → (gp_I t 57 3 = 0) → (gp_I t 6 4 = 0) → (gp_R t 117 1 = some 118) → (gp_R t 117 2 = some 119) → (gp_R t 117 3 = some 120) → (gp_R t 117 4 = some 121) → (gp_R t 117 5 = some 122) → (gp_R t 117 6 = none) → (gp_R t 117 7 = none) → (gp_R t 117 8 = none) → (gp_R t 117 9 = none) → (gp_R t 25 6 = none) → (gp_R t 25 7 = none) → (gp_R t 25 8 = none) → (gp_R t 25 9 = none) → (∀ k, k < 8 → gp_R t 4 k = some 25) → (gp_R t 51 6 = some 55) → (gp_R t 51 7 = some 56) → (gp_sh t 117 = (9, 10)) → (gp_sh t 118 = (101, 21)) → (gp_sh t 119 = (101, 21)) → (gp_sh t 120 = (100, 21)) → (gp_sh t 121 = (100, 21)) → (gp_sh t 122 = (100, 21)) → (gp_us t = 607010) → (gp_sz t = 123) → K none t) : gs_C L d 2304 2 [gp_r (some 117), gp_i 21] s K := by
  refine s_2304_e _ _ ?_
  refine ⟨117, rfl, ?_⟩
  refine ⟨(by show (gp_sh s 117).1 = 9; rw [q24]), ?_⟩
  intro s_1 e_2
  have hs_3 : xM z s_1 := by rw [e_2]; exact xI.wId hs _ _ _ (by omega)
  have q_4 : gp_I s_1 1 2 = 0 := by rw [e_2]; exact q0
  have q_5 : gp_I s_1 1 6 = 0 := by rw [e_2]; exact q1
  have q_6 : gp_I s_1 1 7 = 1 := by rw [e_2]; exact q2
  have q_7 : gp_I s_1 51 8 = 0 := by rw [e_2]; exact q4
  have q_8 : gp_I s_1 57 1 = 0 := by rw [e_2]; exact q5
  have q_9 : gp_I s_1 57 3 = 0 := by rw [e_2]; exact q6
  have q_10 : gp_I s_1 6 4 = 0 := by rw [e_2]; exact q7
  have q_11 : gp_R s_1 117 1 = none := by rw [e_2]; exact q8
  have q_12 : gp_R s_1 117 2 = none := by rw [e_2]; exact q9
  have q_13 : gp_R s_1 117 3 = none := by rw [e_2]; exact q10
  have q_14 : gp_R s_1 117 4 = none := by rw [e_2]; exact q11
  have q_15 : gp_R s_1 117 5 = none := by rw [e_2]; exact q12
  have q_16 : gp_R s_1 117 6 = none := by rw [e_2]; exact q13
  have q_17 : gp_R s_1 117 7 = none := by rw [e_2]; exact q14
  have q_18 : gp_R s_1 117 8 = none := by rw [e_2]; exact q15
  have q_19 : gp_R s_1 117 9 = none := by rw [e_2]; exact q16
  have q_20 : gp_R s_1 25 6 = none := by rw [e_2]; exact q17
  have q_21 : gp_R s_1 25 7 = none := by rw [e_2]; exact q18
  have q_22 : gp_R s_1 25 8 = none := by rw [e_2]; exact q19
  have q_23 : gp_R s_1 25 9 = none := by rw [e_2]; exact q20
  have q_24 : ∀ k, k < 8 → gp_R s_1 4 k = some 25 := by rw [e_2]; exact q21
  have q_25 : gp_R s_1 51 6 = some 55 := by rw [e_2]; exact q22
  have q_26 : gp_R s_1 51 7 = some 56 := by rw [e_2]; exact q23
  have q_27 : gp_sh s_1 117 = (9, 10) := by rw [e_2]; exact q24
  have q_28 : gp_us s_1 = 606905 := by rw [e_2]; exact q25
  have q_29 : gp_sz s_1 = 118 := by rw [e_2]; exact q26
  have q_30 : gp_I s_1 117 0 = 21 := by rw [e_2]; rfl
  refine ⟨by omega, ?_⟩
  refine ⟨by omega, ?_⟩
  try rw [show gp_sz s_1 = 118 from q_29]
  intro s_32 e_33
  have hs_34 : xM z s_32 := by rw [e_33]; exact xI.new hs_3 (by omega)
  have q_35 : gp_I s_32 1 2 = 0 := by rw [e_33, gz_nI q_29 (by decide)]; exact q_4
  have q_36 : gp_I s_32 1 6 = 0 := by rw [e_33, gz_nI q_29 (by decide)]; exact q_5
  have q_37 : gp_I s_32 1 7 = 1 := by rw [e_33, gz_nI q_29 (by decide)]; exact q_6
  have q_38 : gp_I s_32 51 8 = 0 := by rw [e_33, gz_nI q_29 (by decide)]; exact q_7
  have q_39 : gp_I s_32 57 1 = 0 := by rw [e_33, gz_nI q_29 (by decide)]; exact q_8
  have q_40 : gp_I s_32 57 3 = 0 := by rw [e_33, gz_nI q_29 (by decide)]; exact q_9
  have q_41 : gp_I s_32 6 4 = 0 := by rw [e_33, gz_nI q_29 (by decide)]; exact q_10
  have q_42 : gp_R s_32 117 1 = none := by rw [e_33, gz_nR q_29 (by decide)]; exact q_11
  have q_43 : gp_R s_32 117 2 = none := by rw [e_33, gz_nR q_29 (by decide)]; exact q_12
  have q_44 : gp_R s_32 117 3 = none := by rw [e_33, gz_nR q_29 (by decide)]; exact q_13
  have q_45 : gp_R s_32 117 4 = none := by rw [e_33, gz_nR q_29 (by decide)]; exact q_14
  have q_46 : gp_R s_32 117 5 = none := by rw [e_33, gz_nR q_29 (by decide)]; exact q_15
  have q_47 : gp_R s_32 117 6 = none := by rw [e_33, gz_nR q_29 (by decide)]; exact q_16
  have q_48 : gp_R s_32 117 7 = none := by rw [e_33, gz_nR q_29 (by decide)]; exact q_17
  have q_49 : gp_R s_32 117 8 = none := by rw [e_33, gz_nR q_29 (by decide)]; exact q_18
  have q_50 : gp_R s_32 117 9 = none := by rw [e_33, gz_nR q_29 (by decide)]; exact q_19
  have q_51 : gp_R s_32 25 6 = none := by rw [e_33, gz_nR q_29 (by decide)]; exact q_20
  have q_52 : gp_R s_32 25 7 = none := by rw [e_33, gz_nR q_29 (by decide)]; exact q_21
  have q_53 : gp_R s_32 25 8 = none := by rw [e_33, gz_nR q_29 (by decide)]; exact q_22
  have q_54 : gp_R s_32 25 9 = none := by rw [e_33, gz_nR q_29 (by decide)]; exact q_23
  have q_55 : ∀ k, k < 8 → gp_R s_32 4 k = some 25 := fun k hk => by rw [e_33, gz_nR q_29 (by decide)]; exact q_24 k hk
  have q_56 : gp_R s_32 51 6 = some 55 := by rw [e_33, gz_nR q_29 (by decide)]; exact q_25
  have q_57 : gp_R s_32 51 7 = some 56 := by rw [e_33, gz_nR q_29 (by decide)]; exact q_26
  have q_58 : gp_sh s_32 117 = (9, 10) := by rw [e_33, gz_nS q_29 (by decide)]; exact q_27
  have q_59 : gp_us s_32 = 606926 := by rw [e_33]; show gp_us s_1 + 21 = 606926; rw [q_28]; try rfl
  have q_60 : gp_sz s_32 = 119 := by rw [e_33]; exact congrArg Nat.succ q_29
  have q_61 : gp_I s_32 117 0 = 21 := by rw [e_33, gz_nI q_29 (by decide)]; exact q_30
  have q_62 : gp_sh s_32 118 = (101, 21) := by rw [e_33]; exact gz_nSs q_29
  refine ⟨(by show (gp_sh s_32 117).1 = 9; rw [q_58]), ?_⟩
  refine ⟨rfl, ?_⟩
  intro s_63 e_64
  have hs_65 : xM z s_63 := by rw [e_64]; exact xI.wR hs_34 _ _ _
  have q_66 : gp_I s_63 1 2 = 0 := by rw [e_64]; exact q_35
  have q_67 : gp_I s_63 1 6 = 0 := by rw [e_64]; exact q_36
  have q_68 : gp_I s_63 1 7 = 1 := by rw [e_64]; exact q_37
  have q_69 : gp_I s_63 51 8 = 0 := by rw [e_64]; exact q_38
  have q_70 : gp_I s_63 57 1 = 0 := by rw [e_64]; exact q_39
  have q_71 : gp_I s_63 57 3 = 0 := by rw [e_64]; exact q_40
  have q_72 : gp_I s_63 6 4 = 0 := by rw [e_64]; exact q_41
  have q_73 : gp_R s_63 117 2 = none := by rw [e_64]; exact q_43
  have q_74 : gp_R s_63 117 3 = none := by rw [e_64]; exact q_44
  have q_75 : gp_R s_63 117 4 = none := by rw [e_64]; exact q_45
  have q_76 : gp_R s_63 117 5 = none := by rw [e_64]; exact q_46
  have q_77 : gp_R s_63 117 6 = none := by rw [e_64]; exact q_47
  have q_78 : gp_R s_63 117 7 = none := by rw [e_64]; exact q_48
  have q_79 : gp_R s_63 117 8 = none := by rw [e_64]; exact q_49
  have q_80 : gp_R s_63 117 9 = none := by rw [e_64]; exact q_50
  have q_81 : gp_R s_63 25 6 = none := by rw [e_64]; exact q_51
  have q_82 : gp_R s_63 25 7 = none := by rw [e_64]; exact q_52
  have q_83 : gp_R s_63 25 8 = none := by rw [e_64]; exact q_53
  have q_84 : gp_R s_63 25 9 = none := by rw [e_64]; exact q_54
  have q_85 : ∀ k, k < 8 → gp_R s_63 4 k = some 25 := by rw [e_64]; exact q_55
  have q_86 : gp_R s_63 51 6 = some 55 := by rw [e_64]; exact q_56
  have q_87 : gp_R s_63 51 7 = some 56 := by rw [e_64]; exact q_57
  have q_88 : gp_sh s_63 117 = (9, 10) := by rw [e_64]; exact q_58
  have q_89 : gp_us s_63 = 606926 := by rw [e_64]; exact q_59
  have q_90 : gp_sz s_63 = 119 := by rw [e_64]; exact q_60
  have q_91 : gp_I s_63 117 0 = 21 := by rw [e_64]; exact q_61
  have q_92 : gp_sh s_63 118 = (101, 21) := by rw [e_64]; exact q_62
  have q_93 : gp_R s_63 117 1 = some 118 := by rw [e_64]; rfl
  refine ⟨by omega, ?_⟩
  refine ⟨by omega, ?_⟩
  try rw [show gp_sz s_63 = 119 from q_90]
  intro s_94 e_95
  have hs_96 : xM z s_94 := by rw [e_95]; exact xI.new hs_65 (by omega)
  have q_97 : gp_I s_94 1 2 = 0 := by rw [e_95, gz_nI q_90 (by decide)]; exact q_66
  have q_98 : gp_I s_94 1 6 = 0 := by rw [e_95, gz_nI q_90 (by decide)]; exact q_67
  have q_99 : gp_I s_94 1 7 = 1 := by rw [e_95, gz_nI q_90 (by decide)]; exact q_68
  have q_100 : gp_I s_94 51 8 = 0 := by rw [e_95, gz_nI q_90 (by decide)]; exact q_69
  have q_101 : gp_I s_94 57 1 = 0 := by rw [e_95, gz_nI q_90 (by decide)]; exact q_70
  have q_102 : gp_I s_94 57 3 = 0 := by rw [e_95, gz_nI q_90 (by decide)]; exact q_71
  have q_103 : gp_I s_94 6 4 = 0 := by rw [e_95, gz_nI q_90 (by decide)]; exact q_72
  have q_104 : gp_R s_94 117 2 = none := by rw [e_95, gz_nR q_90 (by decide)]; exact q_73
  have q_105 : gp_R s_94 117 3 = none := by rw [e_95, gz_nR q_90 (by decide)]; exact q_74
  have q_106 : gp_R s_94 117 4 = none := by rw [e_95, gz_nR q_90 (by decide)]; exact q_75
  have q_107 : gp_R s_94 117 5 = none := by rw [e_95, gz_nR q_90 (by decide)]; exact q_76
  have q_108 : gp_R s_94 117 6 = none := by rw [e_95, gz_nR q_90 (by decide)]; exact q_77
  have q_109 : gp_R s_94 117 7 = none := by rw [e_95, gz_nR q_90 (by decide)]; exact q_78
  have q_110 : gp_R s_94 117 8 = none := by rw [e_95, gz_nR q_90 (by decide)]; exact q_79
  have q_111 : gp_R s_94 117 9 = none := by rw [e_95, gz_nR q_90 (by decide)]; exact q_80
  have q_112 : gp_R s_94 25 6 = none := by rw [e_95, gz_nR q_90 (by decide)]; exact q_81
  have q_113 : gp_R s_94 25 7 = none := by rw [e_95, gz_nR q_90 (by decide)]; exact q_82
  have q_114 : gp_R s_94 25 8 = none := by rw [e_95, gz_nR q_90 (by decide)]; exact q_83
  have q_115 : gp_R s_94 25 9 = none := by rw [e_95, gz_nR q_90 (by decide)]; exact q_84
  have q_116 : ∀ k, k < 8 → gp_R s_94 4 k = some 25 := fun k hk => by rw [e_95, gz_nR q_90 (by decide)]; exact q_85 k hk
  have q_117 : gp_R s_94 51 6 = some 55 := by rw [e_95, gz_nR q_90 (by decide)]; exact q_86
  have q_118 : gp_R s_94 51 7 = some 56 := by rw [e_95, gz_nR q_90 (by decide)]; exact q_87
  have q_119 : gp_sh s_94 117 = (9, 10) := by rw [e_95, gz_nS q_90 (by decide)]; exact q_88
  have q_120 : gp_us s_94 = 606947 := by rw [e_95]; show gp_us s_63 + 21 = 606947; rw [q_89]; try rfl
  have q_121 : gp_sz s_94 = 120 := by rw [e_95]; exact congrArg Nat.succ q_90
  have q_122 : gp_I s_94 117 0 = 21 := by rw [e_95, gz_nI q_90 (by decide)]; exact q_91
  have q_123 : gp_sh s_94 118 = (101, 21) := by rw [e_95, gz_nS q_90 (by decide)]; exact q_92
  have q_124 : gp_R s_94 117 1 = some 118 := by rw [e_95, gz_nR q_90 (by decide)]; exact q_93
  have q_125 : gp_sh s_94 119 = (101, 21) := by rw [e_95]; exact gz_nSs q_90
  refine ⟨(by show (gp_sh s_94 117).1 = 9; rw [q_119]), ?_⟩
  refine ⟨rfl, ?_⟩
  intro s_126 e_127
  have hs_128 : xM z s_126 := by rw [e_127]; exact xI.wR hs_96 _ _ _
  have q_129 : gp_I s_126 1 2 = 0 := by rw [e_127]; exact q_97
  have q_130 : gp_I s_126 1 6 = 0 := by rw [e_127]; exact q_98
  have q_131 : gp_I s_126 1 7 = 1 := by rw [e_127]; exact q_99
  have q_132 : gp_I s_126 51 8 = 0 := by rw [e_127]; exact q_100
  have q_133 : gp_I s_126 57 1 = 0 := by rw [e_127]; exact q_101
  have q_134 : gp_I s_126 57 3 = 0 := by rw [e_127]; exact q_102
  have q_135 : gp_I s_126 6 4 = 0 := by rw [e_127]; exact q_103
  have q_136 : gp_R s_126 117 3 = none := by rw [e_127]; exact q_105
  have q_137 : gp_R s_126 117 4 = none := by rw [e_127]; exact q_106
  have q_138 : gp_R s_126 117 5 = none := by rw [e_127]; exact q_107
  have q_139 : gp_R s_126 117 6 = none := by rw [e_127]; exact q_108
  have q_140 : gp_R s_126 117 7 = none := by rw [e_127]; exact q_109
  have q_141 : gp_R s_126 117 8 = none := by rw [e_127]; exact q_110
  have q_142 : gp_R s_126 117 9 = none := by rw [e_127]; exact q_111
  have q_143 : gp_R s_126 25 6 = none := by rw [e_127]; exact q_112
  have q_144 : gp_R s_126 25 7 = none := by rw [e_127]; exact q_113
  have q_145 : gp_R s_126 25 8 = none := by rw [e_127]; exact q_114
  have q_146 : gp_R s_126 25 9 = none := by rw [e_127]; exact q_115
  have q_147 : ∀ k, k < 8 → gp_R s_126 4 k = some 25 := by rw [e_127]; exact q_116
  have q_148 : gp_R s_126 51 6 = some 55 := by rw [e_127]; exact q_117
  have q_149 : gp_R s_126 51 7 = some 56 := by rw [e_127]; exact q_118
  have q_150 : gp_sh s_126 117 = (9, 10) := by rw [e_127]; exact q_119
  have q_151 : gp_us s_126 = 606947 := by rw [e_127]; exact q_120
  have q_152 : gp_sz s_126 = 120 := by rw [e_127]; exact q_121
  have q_153 : gp_I s_126 117 0 = 21 := by rw [e_127]; exact q_122
  have q_154 : gp_sh s_126 118 = (101, 21) := by rw [e_127]; exact q_123
  have q_155 : gp_R s_126 117 1 = some 118 := by rw [e_127]; exact q_124
  have q_156 : gp_sh s_126 119 = (101, 21) := by rw [e_127]; exact q_125
  have q_157 : gp_R s_126 117 2 = some 119 := by rw [e_127]; rfl
  refine ⟨by omega, ?_⟩
  refine ⟨by omega, ?_⟩
  try rw [show gp_sz s_126 = 120 from q_152]
  intro s_158 e_159
  have hs_160 : xM z s_158 := by rw [e_159]; exact xI.new hs_128 (by omega)
  have q_161 : gp_I s_158 1 2 = 0 := by rw [e_159, gz_nI q_152 (by decide)]; exact q_129
  have q_162 : gp_I s_158 1 6 = 0 := by rw [e_159, gz_nI q_152 (by decide)]; exact q_130
  have q_163 : gp_I s_158 1 7 = 1 := by rw [e_159, gz_nI q_152 (by decide)]; exact q_131
  have q_164 : gp_I s_158 51 8 = 0 := by rw [e_159, gz_nI q_152 (by decide)]; exact q_132
  have q_165 : gp_I s_158 57 1 = 0 := by rw [e_159, gz_nI q_152 (by decide)]; exact q_133
  have q_166 : gp_I s_158 57 3 = 0 := by rw [e_159, gz_nI q_152 (by decide)]; exact q_134
  have q_167 : gp_I s_158 6 4 = 0 := by rw [e_159, gz_nI q_152 (by decide)]; exact q_135
  have q_168 : gp_R s_158 117 3 = none := by rw [e_159, gz_nR q_152 (by decide)]; exact q_136
  have q_169 : gp_R s_158 117 4 = none := by rw [e_159, gz_nR q_152 (by decide)]; exact q_137
  have q_170 : gp_R s_158 117 5 = none := by rw [e_159, gz_nR q_152 (by decide)]; exact q_138
  have q_171 : gp_R s_158 117 6 = none := by rw [e_159, gz_nR q_152 (by decide)]; exact q_139
  have q_172 : gp_R s_158 117 7 = none := by rw [e_159, gz_nR q_152 (by decide)]; exact q_140
  have q_173 : gp_R s_158 117 8 = none := by rw [e_159, gz_nR q_152 (by decide)]; exact q_141
  have q_174 : gp_R s_158 117 9 = none := by rw [e_159, gz_nR q_152 (by decide)]; exact q_142
  have q_175 : gp_R s_158 25 6 = none := by rw [e_159, gz_nR q_152 (by decide)]; exact q_143
  have q_176 : gp_R s_158 25 7 = none := by rw [e_159, gz_nR q_152 (by decide)]; exact q_144
  have q_177 : gp_R s_158 25 8 = none := by rw [e_159, gz_nR q_152 (by decide)]; exact q_145
  have q_178 : gp_R s_158 25 9 = none := by rw [e_159, gz_nR q_152 (by decide)]; exact q_146
  have q_179 : ∀ k, k < 8 → gp_R s_158 4 k = some 25 := fun k hk => by rw [e_159, gz_nR q_152 (by decide)]; exact q_147 k hk
  have q_180 : gp_R s_158 51 6 = some 55 := by rw [e_159, gz_nR q_152 (by decide)]; exact q_148
  have q_181 : gp_R s_158 51 7 = some 56 := by rw [e_159, gz_nR q_152 (by decide)]; exact q_149
  have q_182 : gp_sh s_158 117 = (9, 10) := by rw [e_159, gz_nS q_152 (by decide)]; exact q_150
  have q_183 : gp_us s_158 = 606968 := by rw [e_159]; show gp_us s_126 + 21 = 606968; rw [q_151]; try rfl
  have q_184 : gp_sz s_158 = 121 := by rw [e_159]; exact congrArg Nat.succ q_152
  have q_185 : gp_I s_158 117 0 = 21 := by rw [e_159, gz_nI q_152 (by decide)]; exact q_153
  have q_186 : gp_sh s_158 118 = (101, 21) := by rw [e_159, gz_nS q_152 (by decide)]; exact q_154
  have q_187 : gp_R s_158 117 1 = some 118 := by rw [e_159, gz_nR q_152 (by decide)]; exact q_155
  have q_188 : gp_sh s_158 119 = (101, 21) := by rw [e_159, gz_nS q_152 (by decide)]; exact q_156
  have q_189 : gp_R s_158 117 2 = some 119 := by rw [e_159, gz_nR q_152 (by decide)]; exact q_157
  have q_190 : gp_sh s_158 120 = (100, 21) := by rw [e_159]; exact gz_nSs q_152
  refine ⟨(by show (gp_sh s_158 117).1 = 9; rw [q_182]), ?_⟩
  refine ⟨rfl, ?_⟩
  intro s_191 e_192
  have hs_193 : xM z s_191 := by rw [e_192]; exact xI.wR hs_160 _ _ _
  have q_194 : gp_I s_191 1 2 = 0 := by rw [e_192]; exact q_161
  have q_195 : gp_I s_191 1 6 = 0 := by rw [e_192]; exact q_162
  have q_196 : gp_I s_191 1 7 = 1 := by rw [e_192]; exact q_163
  have q_197 : gp_I s_191 51 8 = 0 := by rw [e_192]; exact q_164
  have q_198 : gp_I s_191 57 1 = 0 := by rw [e_192]; exact q_165
  have q_199 : gp_I s_191 57 3 = 0 := by rw [e_192]; exact q_166
  have q_200 : gp_I s_191 6 4 = 0 := by rw [e_192]; exact q_167
  have q_201 : gp_R s_191 117 4 = none := by rw [e_192]; exact q_169
  have q_202 : gp_R s_191 117 5 = none := by rw [e_192]; exact q_170
  have q_203 : gp_R s_191 117 6 = none := by rw [e_192]; exact q_171
  have q_204 : gp_R s_191 117 7 = none := by rw [e_192]; exact q_172
  have q_205 : gp_R s_191 117 8 = none := by rw [e_192]; exact q_173
  have q_206 : gp_R s_191 117 9 = none := by rw [e_192]; exact q_174
  have q_207 : gp_R s_191 25 6 = none := by rw [e_192]; exact q_175
  have q_208 : gp_R s_191 25 7 = none := by rw [e_192]; exact q_176
  have q_209 : gp_R s_191 25 8 = none := by rw [e_192]; exact q_177
  have q_210 : gp_R s_191 25 9 = none := by rw [e_192]; exact q_178
  have q_211 : ∀ k, k < 8 → gp_R s_191 4 k = some 25 := by rw [e_192]; exact q_179
  have q_212 : gp_R s_191 51 6 = some 55 := by rw [e_192]; exact q_180
  have q_213 : gp_R s_191 51 7 = some 56 := by rw [e_192]; exact q_181
  have q_214 : gp_sh s_191 117 = (9, 10) := by rw [e_192]; exact q_182
  have q_215 : gp_us s_191 = 606968 := by rw [e_192]; exact q_183
  have q_216 : gp_sz s_191 = 121 := by rw [e_192]; exact q_184
  have q_217 : gp_I s_191 117 0 = 21 := by rw [e_192]; exact q_185
  have q_218 : gp_sh s_191 118 = (101, 21) := by rw [e_192]; exact q_186
  have q_219 : gp_R s_191 117 1 = some 118 := by rw [e_192]; exact q_187
  have q_220 : gp_sh s_191 119 = (101, 21) := by rw [e_192]; exact q_188
  have q_221 : gp_R s_191 117 2 = some 119 := by rw [e_192]; exact q_189
  have q_222 : gp_sh s_191 120 = (100, 21) := by rw [e_192]; exact q_190
  have q_223 : gp_R s_191 117 3 = some 120 := by rw [e_192]; rfl
  refine ⟨by omega, ?_⟩
  refine ⟨by omega, ?_⟩
  try rw [show gp_sz s_191 = 121 from q_216]
  intro s_224 e_225
  have hs_226 : xM z s_224 := by rw [e_225]; exact xI.new hs_193 (by omega)
  have q_227 : gp_I s_224 1 2 = 0 := by rw [e_225, gz_nI q_216 (by decide)]; exact q_194
  have q_228 : gp_I s_224 1 6 = 0 := by rw [e_225, gz_nI q_216 (by decide)]; exact q_195
  have q_229 : gp_I s_224 1 7 = 1 := by rw [e_225, gz_nI q_216 (by decide)]; exact q_196
  have q_230 : gp_I s_224 51 8 = 0 := by rw [e_225, gz_nI q_216 (by decide)]; exact q_197
  have q_231 : gp_I s_224 57 1 = 0 := by rw [e_225, gz_nI q_216 (by decide)]; exact q_198
  have q_232 : gp_I s_224 57 3 = 0 := by rw [e_225, gz_nI q_216 (by decide)]; exact q_199
  have q_233 : gp_I s_224 6 4 = 0 := by rw [e_225, gz_nI q_216 (by decide)]; exact q_200
  have q_234 : gp_R s_224 117 4 = none := by rw [e_225, gz_nR q_216 (by decide)]; exact q_201
  have q_235 : gp_R s_224 117 5 = none := by rw [e_225, gz_nR q_216 (by decide)]; exact q_202
  have q_236 : gp_R s_224 117 6 = none := by rw [e_225, gz_nR q_216 (by decide)]; exact q_203
  have q_237 : gp_R s_224 117 7 = none := by rw [e_225, gz_nR q_216 (by decide)]; exact q_204
  have q_238 : gp_R s_224 117 8 = none := by rw [e_225, gz_nR q_216 (by decide)]; exact q_205
  have q_239 : gp_R s_224 117 9 = none := by rw [e_225, gz_nR q_216 (by decide)]; exact q_206
  have q_240 : gp_R s_224 25 6 = none := by rw [e_225, gz_nR q_216 (by decide)]; exact q_207
  have q_241 : gp_R s_224 25 7 = none := by rw [e_225, gz_nR q_216 (by decide)]; exact q_208
  have q_242 : gp_R s_224 25 8 = none := by rw [e_225, gz_nR q_216 (by decide)]; exact q_209
  have q_243 : gp_R s_224 25 9 = none := by rw [e_225, gz_nR q_216 (by decide)]; exact q_210
  have q_244 : ∀ k, k < 8 → gp_R s_224 4 k = some 25 := fun k hk => by rw [e_225, gz_nR q_216 (by decide)]; exact q_211 k hk
  have q_245 : gp_R s_224 51 6 = some 55 := by rw [e_225, gz_nR q_216 (by decide)]; exact q_212
  have q_246 : gp_R s_224 51 7 = some 56 := by rw [e_225, gz_nR q_216 (by decide)]; exact q_213
  have q_247 : gp_sh s_224 117 = (9, 10) := by rw [e_225, gz_nS q_216 (by decide)]; exact q_214
  have q_248 : gp_us s_224 = 606989 := by rw [e_225]; show gp_us s_191 + 21 = 606989; rw [q_215]; try rfl
  have q_249 : gp_sz s_224 = 122 := by rw [e_225]; exact congrArg Nat.succ q_216
  have q_250 : gp_I s_224 117 0 = 21 := by rw [e_225, gz_nI q_216 (by decide)]; exact q_217
  have q_251 : gp_sh s_224 118 = (101, 21) := by rw [e_225, gz_nS q_216 (by decide)]; exact q_218
  have q_252 : gp_R s_224 117 1 = some 118 := by rw [e_225, gz_nR q_216 (by decide)]; exact q_219
  have q_253 : gp_sh s_224 119 = (101, 21) := by rw [e_225, gz_nS q_216 (by decide)]; exact q_220
  have q_254 : gp_R s_224 117 2 = some 119 := by rw [e_225, gz_nR q_216 (by decide)]; exact q_221
  have q_255 : gp_sh s_224 120 = (100, 21) := by rw [e_225, gz_nS q_216 (by decide)]; exact q_222
  have q_256 : gp_R s_224 117 3 = some 120 := by rw [e_225, gz_nR q_216 (by decide)]; exact q_223
  have q_257 : gp_sh s_224 121 = (100, 21) := by rw [e_225]; exact gz_nSs q_216
  refine ⟨(by show (gp_sh s_224 117).1 = 9; rw [q_247]), ?_⟩
  refine ⟨rfl, ?_⟩
  intro s_258 e_259
  have hs_260 : xM z s_258 := by rw [e_259]; exact xI.wR hs_226 _ _ _
  have q_261 : gp_I s_258 1 2 = 0 := by rw [e_259]; exact q_227
  have q_262 : gp_I s_258 1 6 = 0 := by rw [e_259]; exact q_228
  have q_263 : gp_I s_258 1 7 = 1 := by rw [e_259]; exact q_229
  have q_264 : gp_I s_258 51 8 = 0 := by rw [e_259]; exact q_230
  have q_265 : gp_I s_258 57 1 = 0 := by rw [e_259]; exact q_231
  have q_266 : gp_I s_258 57 3 = 0 := by rw [e_259]; exact q_232
  have q_267 : gp_I s_258 6 4 = 0 := by rw [e_259]; exact q_233
  have q_268 : gp_R s_258 117 5 = none := by rw [e_259]; exact q_235
  have q_269 : gp_R s_258 117 6 = none := by rw [e_259]; exact q_236
  have q_270 : gp_R s_258 117 7 = none := by rw [e_259]; exact q_237
  have q_271 : gp_R s_258 117 8 = none := by rw [e_259]; exact q_238
  have q_272 : gp_R s_258 117 9 = none := by rw [e_259]; exact q_239
  have q_273 : gp_R s_258 25 6 = none := by rw [e_259]; exact q_240
  have q_274 : gp_R s_258 25 7 = none := by rw [e_259]; exact q_241
  have q_275 : gp_R s_258 25 8 = none := by rw [e_259]; exact q_242
  have q_276 : gp_R s_258 25 9 = none := by rw [e_259]; exact q_243
  have q_277 : ∀ k, k < 8 → gp_R s_258 4 k = some 25 := by rw [e_259]; exact q_244
  have q_278 : gp_R s_258 51 6 = some 55 := by rw [e_259]; exact q_245
  have q_279 : gp_R s_258 51 7 = some 56 := by rw [e_259]; exact q_246
  have q_280 : gp_sh s_258 117 = (9, 10) := by rw [e_259]; exact q_247
  have q_281 : gp_us s_258 = 606989 := by rw [e_259]; exact q_248
  have q_282 : gp_sz s_258 = 122 := by rw [e_259]; exact q_249
  have q_283 : gp_I s_258 117 0 = 21 := by rw [e_259]; exact q_250
  have q_284 : gp_sh s_258 118 = (101, 21) := by rw [e_259]; exact q_251
  have q_285 : gp_R s_258 117 1 = some 118 := by rw [e_259]; exact q_252
  have q_286 : gp_sh s_258 119 = (101, 21) := by rw [e_259]; exact q_253
  have q_287 : gp_R s_258 117 2 = some 119 := by rw [e_259]; exact q_254
  have q_288 : gp_sh s_258 120 = (100, 21) := by rw [e_259]; exact q_255
  have q_289 : gp_R s_258 117 3 = some 120 := by rw [e_259]; exact q_256
  have q_290 : gp_sh s_258 121 = (100, 21) := by rw [e_259]; exact q_257
  have q_291 : gp_R s_258 117 4 = some 121 := by rw [e_259]; rfl
  refine ⟨by omega, ?_⟩
  refine ⟨by omega, ?_⟩
  try rw [show gp_sz s_258 = 122 from q_282]
  intro s_292 e_293
  have hs_294 : xM z s_292 := by rw [e_293]; exact xI.new hs_260 (by omega)
  have q_295 : gp_I s_292 1 2 = 0 := by rw [e_293, gz_nI q_282 (by decide)]; exact q_261
  have q_296 : gp_I s_292 1 6 = 0 := by rw [e_293, gz_nI q_282 (by decide)]; exact q_262
  have q_297 : gp_I s_292 1 7 = 1 := by rw [e_293, gz_nI q_282 (by decide)]; exact q_263
  have q_298 : gp_I s_292 51 8 = 0 := by rw [e_293, gz_nI q_282 (by decide)]; exact q_264
  have q_299 : gp_I s_292 57 1 = 0 := by rw [e_293, gz_nI q_282 (by decide)]; exact q_265
  have q_300 : gp_I s_292 57 3 = 0 := by rw [e_293, gz_nI q_282 (by decide)]; exact q_266
  have q_301 : gp_I s_292 6 4 = 0 := by rw [e_293, gz_nI q_282 (by decide)]; exact q_267
  have q_302 : gp_R s_292 117 5 = none := by rw [e_293, gz_nR q_282 (by decide)]; exact q_268
  have q_303 : gp_R s_292 117 6 = none := by rw [e_293, gz_nR q_282 (by decide)]; exact q_269
  have q_304 : gp_R s_292 117 7 = none := by rw [e_293, gz_nR q_282 (by decide)]; exact q_270
  have q_305 : gp_R s_292 117 8 = none := by rw [e_293, gz_nR q_282 (by decide)]; exact q_271
  have q_306 : gp_R s_292 117 9 = none := by rw [e_293, gz_nR q_282 (by decide)]; exact q_272
  have q_307 : gp_R s_292 25 6 = none := by rw [e_293, gz_nR q_282 (by decide)]; exact q_273
  have q_308 : gp_R s_292 25 7 = none := by rw [e_293, gz_nR q_282 (by decide)]; exact q_274
  have q_309 : gp_R s_292 25 8 = none := by rw [e_293, gz_nR q_282 (by decide)]; exact q_275
  have q_310 : gp_R s_292 25 9 = none := by rw [e_293, gz_nR q_282 (by decide)]; exact q_276
  have q_311 : ∀ k, k < 8 → gp_R s_292 4 k = some 25 := fun k hk => by rw [e_293, gz_nR q_282 (by decide)]; exact q_277 k hk
  have q_312 : gp_R s_292 51 6 = some 55 := by rw [e_293, gz_nR q_282 (by decide)]; exact q_278
  have q_313 : gp_R s_292 51 7 = some 56 := by rw [e_293, gz_nR q_282 (by decide)]; exact q_279
  have q_314 : gp_sh s_292 117 = (9, 10) := by rw [e_293, gz_nS q_282 (by decide)]; exact q_280
  have q_315 : gp_us s_292 = 607010 := by rw [e_293]; show gp_us s_258 + 21 = 607010; rw [q_281]; try rfl
  have q_316 : gp_sz s_292 = 123 := by rw [e_293]; exact congrArg Nat.succ q_282
  have q_317 : gp_I s_292 117 0 = 21 := by rw [e_293, gz_nI q_282 (by decide)]; exact q_283
  have q_318 : gp_sh s_292 118 = (101, 21) := by rw [e_293, gz_nS q_282 (by decide)]; exact q_284
  have q_319 : gp_R s_292 117 1 = some 118 := by rw [e_293, gz_nR q_282 (by decide)]; exact q_285
  have q_320 : gp_sh s_292 119 = (101, 21) := by rw [e_293, gz_nS q_282 (by decide)]; exact q_286
  have q_321 : gp_R s_292 117 2 = some 119 := by rw [e_293, gz_nR q_282 (by decide)]; exact q_287
  have q_322 : gp_sh s_292 120 = (100, 21) := by rw [e_293, gz_nS q_282 (by decide)]; exact q_288
  have q_323 : gp_R s_292 117 3 = some 120 := by rw [e_293, gz_nR q_282 (by decide)]; exact q_289
  have q_324 : gp_sh s_292 121 = (100, 21) := by rw [e_293, gz_nS q_282 (by decide)]; exact q_290
  have q_325 : gp_R s_292 117 4 = some 121 := by rw [e_293, gz_nR q_282 (by decide)]; exact q_291
  have q_326 : gp_sh s_292 122 = (100, 21) := by rw [e_293]; exact gz_nSs q_282
  refine ⟨(by show (gp_sh s_292 117).1 = 9; rw [q_314]), ?_⟩
  refine ⟨rfl, ?_⟩
  intro s_327 e_328
  have hs_329 : xM z s_327 := by rw [e_328]; exact xI.wR hs_294 _ _ _
  have q_330 : gp_I s_327 1 2 = 0 := by rw [e_328]; exact q_295
  have q_331 : gp_I s_327 1 6 = 0 := by rw [e_328]; exact q_296
  have q_332 : gp_I s_327 1 7 = 1 := by rw [e_328]; exact q_297
  have q_333 : gp_I s_327 51 8 = 0 := by rw [e_328]; exact q_298
  have q_334 : gp_I s_327 57 1 = 0 := by rw [e_328]; exact q_299
  have q_335 : gp_I s_327 57 3 = 0 := by rw [e_328]; exact q_300
  have q_336 : gp_I s_327 6 4 = 0 := by rw [e_328]; exact q_301
  have q_337 : gp_R s_327 117 6 = none := by rw [e_328]; exact q_303
  have q_338 : gp_R s_327 117 7 = none := by rw [e_328]; exact q_304
  have q_339 : gp_R s_327 117 8 = none := by rw [e_328]; exact q_305
  have q_340 : gp_R s_327 117 9 = none := by rw [e_328]; exact q_306
  have q_341 : gp_R s_327 25 6 = none := by rw [e_328]; exact q_307
  have q_342 : gp_R s_327 25 7 = none := by rw [e_328]; exact q_308
  have q_343 : gp_R s_327 25 8 = none := by rw [e_328]; exact q_309
  have q_344 : gp_R s_327 25 9 = none := by rw [e_328]; exact q_310
  have q_345 : ∀ k, k < 8 → gp_R s_327 4 k = some 25 := by rw [e_328]; exact q_311
  have q_346 : gp_R s_327 51 6 = some 55 := by rw [e_328]; exact q_312
  have q_347 : gp_R s_327 51 7 = some 56 := by rw [e_328]; exact q_313
  have q_348 : gp_sh s_327 117 = (9, 10) := by rw [e_328]; exact q_314
  have q_349 : gp_us s_327 = 607010 := by rw [e_328]; exact q_315
  have q_350 : gp_sz s_327 = 123 := by rw [e_328]; exact q_316
  have q_351 : gp_I s_327 117 0 = 21 := by rw [e_328]; exact q_317
  have q_352 : gp_sh s_327 118 = (101, 21) := by rw [e_328]; exact q_318
  have q_353 : gp_R s_327 117 1 = some 118 := by rw [e_328]; exact q_319
  have q_354 : gp_sh s_327 119 = (101, 21) := by rw [e_328]; exact q_320
  have q_355 : gp_R s_327 117 2 = some 119 := by rw [e_328]; exact q_321
  have q_356 : gp_sh s_327 120 = (100, 21) := by rw [e_328]; exact q_322
  have q_357 : gp_R s_327 117 3 = some 120 := by rw [e_328]; exact q_323
  have q_358 : gp_sh s_327 121 = (100, 21) := by rw [e_328]; exact q_324
  have q_359 : gp_R s_327 117 4 = some 121 := by rw [e_328]; exact q_325
  have q_360 : gp_sh s_327 122 = (100, 21) := by rw [e_328]; exact q_326
  have q_361 : gp_R s_327 117 5 = some 122 := by rw [e_328]; rfl
  exact k s_327 hs_329 (by omega) (by omega) (by omega) (by omega) (by omega) (by omega) (by omega) (by omega) q_353 q_355 q_357 q_359 q_361 q_337 q_338 q_339 q_340 q_341 q_342 q_343 q_344 q_345 q_346 q_347 q_348 q_352 q_354 q_356 q_358 q_360 q_349 q_350
set_option maxRecDepth 100000 in
/-- Maker.pauses, the loop at 13 -/
theorem zx258_20_l13_0 {z : gH} {L d : Nat} {K : Option gV → gH → Prop}   (k : ∀ (t : gH), xM z t → (gp_I t 1 2 = 0) → (gp_I t 1 6 = 0) → (gp_I t 1 7 = 1) → (gp_I t 117 0 = 21) → (gp_I t 51 8 = 0) → (gp_I t 57 1 = 0) → (gp_I t 57 3 = 0) → (gp_I t 6 4 = 0) → (gp_R t 117 1 = some 118) → (gp_R t 117 2 = some 119) → (gp_R t 117 3 = some 120) → (gp_R t 117 4 = some 121) → (gp_R t 117 5 = some 122) → (gp_R t 117 6 = none) → (gp_R t 117 7 = none) → (gp_R t 117 8 = none) → (gp_R t 117 9 = none) → (gp_R t 25 6 = none) → (gp_R t 25 7 = none) → (gp_R t 25 8 = none) → (gp_R t 25 9 = none) → (∀ k, k < 8 → gp_R t 4 k = some 25) → (gp_R t 51 6 = some 55) → (gp_R t 51 7 = some 56) → (gp_sh t 117 = (9, 10)) → (gp_sh t 118 = (101, 21)) → (gp_sh t 119 = (101, 21)) → (gp_sh t 120 = (100, 21)) → (gp_sh t 121 = (100, 21)) → (gp_sh t 122 = (100, 21)) → (gp_us t = 607010) → (gp_sz t = 123) → K (some (gp_r (some 117))) t)  : ∀ (n : Nat) (v1 : Int) (v2 : Option Nat) (v3 : Int) (s : gH), xM z s → (61 - v3).toNat < n → (v1 = 20) → (v2 = some 117) → (1 ≤ v3 ∧ v3 ≤ 60) → (gp_I s 1 2 = 0) → (gp_I s 1 6 = 0) → (gp_I s 1 7 = 1) → (gp_I s 117 0 = 21) → (gp_I s 51 8 = 0) → (gp_I s 57 1 = 0) → (gp_I s 57 3 = 0) → (gp_I s 6 4 = 0) → (gp_R s 117 1 = some 118) → (gp_R s 117 2 = some 119) → (gp_R s 117 3 = some 120) → (gp_R s 117 4 = some 121) → (gp_R s 117 5 = some 122) → (gp_R s 117 6 = none) → (gp_R s 117 7 = none) → (gp_R s 117 8 = none) → (gp_R s 117 9 = none) → (gp_R s 25 6 = none) → (gp_R s 25 7 = none) → (gp_R s 25 8 = none) → (gp_R s 25 9 = none) → (∀ k, k < 8 → gp_R s 4 k = some 25) → (gp_R s 51 6 = some 55) → (gp_R s 51 7 = some 56) → (gp_sh s 117 = (9, 10)) → (gp_sh s 118 = (101, 21)) → (gp_sh s 119 = (101, 21)) → (gp_sh s 120 = (100, 21)) → (gp_sh s 121 = (100, 21)) → (gp_sh s 122 = (100, 21)) → (gp_us s = 607010) → (gp_sz s = 123) → gs_E L (d + 1) 258 13 [gp_r (some 20), gp_i v1, gp_r v2, gp_i v3] [] s K := by
  intro n
  induction n with
  | zero => intro v1 v2 v3 s hs hm i0 i1 i2 i3 i4 i5 i6 i7 i8 i9 i10 i11 i12 i13 i14 i15 i16 i17 i18 i19 i20 i21 i22 i23 i24 i25 i26 i27 i28 i29 i30 i31 i32 i33 i34; exact absurd hm (Nat.not_lt_zero _)
  | succ n ih =>
    intro v1 v2 v3 s hs hm i0 i1 i2 i3 i4 i5 i6 i7 i8 i9 i10 i11 i12 i13 i14 i15 i16 i17 i18 i19 i20 i21 i22 i23 i24 i25 i26 i27 i28 i29 i30 i31 i32 i33 i34
    subst i0
    subst i1
    refine s_258_13 _ _ _ ?_
    refine ⟨fun h_1 => ?_, fun h_1 => ?_⟩
    · exact k s hs (by omega) (by omega) (by omega) (by omega) (by omega) (by omega) (by omega) (by omega) i11 i12 i13 i14 i15 i16 i17 i18 i19 i20 i21 i22 i23 i24 i25 i26 i27 i28 i29 i30 i31 i32 i33 i34
    · refine ⟨117, rfl, ?_⟩
      refine ⟨(by show (gp_sh s 117).1 = 9; rw [i27]), ?_⟩
      try rw [show gp_R (gp_mk L s) 117 1 = some 118 from i11]
      have w_2 := gz_w (v3 - 1)
      refine ⟨118, rfl, ?_⟩
      refine ⟨⟨by show (gp_sh s 118).1 = 101; rw [i28], by omega, by show v3 < ((gp_sh s 118).2 : Int); rw [i28]; show v3 < 21; omega⟩, ?_⟩
      intro s_3 e_4
      have hs_5 : xM z s_3 := by rw [e_4]; exact xI.wLd hs _ _ _ (by omega)
      have q_6 : gp_I s_3 1 2 = 0 := by rw [e_4]; exact i3
      have q_7 : gp_I s_3 1 6 = 0 := by rw [e_4]; exact i4
      have q_8 : gp_I s_3 1 7 = 1 := by rw [e_4]; exact i5
      have q_9 : gp_I s_3 117 0 = 21 := by rw [e_4]; exact i6
      have q_10 : gp_I s_3 51 8 = 0 := by rw [e_4]; exact i7
      have q_11 : gp_I s_3 57 1 = 0 := by rw [e_4]; exact i8
      have q_12 : gp_I s_3 57 3 = 0 := by rw [e_4]; exact i9
      have q_13 : gp_I s_3 6 4 = 0 := by rw [e_4]; exact i10
      have q_14 : gp_R s_3 117 1 = some 118 := by rw [e_4]; exact i11
      have q_15 : gp_R s_3 117 2 = some 119 := by rw [e_4]; exact i12
      have q_16 : gp_R s_3 117 3 = some 120 := by rw [e_4]; exact i13
      have q_17 : gp_R s_3 117 4 = some 121 := by rw [e_4]; exact i14
      have q_18 : gp_R s_3 117 5 = some 122 := by rw [e_4]; exact i15
      have q_19 : gp_R s_3 117 6 = none := by rw [e_4]; exact i16
      have q_20 : gp_R s_3 117 7 = none := by rw [e_4]; exact i17
      have q_21 : gp_R s_3 117 8 = none := by rw [e_4]; exact i18
      have q_22 : gp_R s_3 117 9 = none := by rw [e_4]; exact i19
      have q_23 : gp_R s_3 25 6 = none := by rw [e_4]; exact i20
      have q_24 : gp_R s_3 25 7 = none := by rw [e_4]; exact i21
      have q_25 : gp_R s_3 25 8 = none := by rw [e_4]; exact i22
      have q_26 : gp_R s_3 25 9 = none := by rw [e_4]; exact i23
      have q_27 : ∀ k, k < 8 → gp_R s_3 4 k = some 25 := by rw [e_4]; exact i24
      have q_28 : gp_R s_3 51 6 = some 55 := by rw [e_4]; exact i25
      have q_29 : gp_R s_3 51 7 = some 56 := by rw [e_4]; exact i26
      have q_30 : gp_sh s_3 117 = (9, 10) := by rw [e_4]; exact i27
      have q_31 : gp_sh s_3 118 = (101, 21) := by rw [e_4]; exact i28
      have q_32 : gp_sh s_3 119 = (101, 21) := by rw [e_4]; exact i29
      have q_33 : gp_sh s_3 120 = (100, 21) := by rw [e_4]; exact i30
      have q_34 : gp_sh s_3 121 = (100, 21) := by rw [e_4]; exact i31
      have q_35 : gp_sh s_3 122 = (100, 21) := by rw [e_4]; exact i32
      have q_36 : gp_us s_3 = 607010 := by rw [e_4]; exact i33
      have q_37 : gp_sz s_3 = 123 := by rw [e_4]; exact i34
      refine ⟨(by show (gp_sh s_3 117).1 = 9; rw [q_30]), ?_⟩
      try rw [show gp_R (gp_mk L s_3) 117 5 = some 122 from q_18]
      refine ⟨122, rfl, ?_⟩
      refine ⟨⟨by show (gp_sh s_3 122).1 = 100; rw [q_35], by omega, by show v3 < ((gp_sh s_3 122).2 : Int); rw [q_35]; show v3 < 21; omega⟩, ?_⟩
      intro s_38 e_39
      have hs_40 : xM z s_38 := by rw [e_39]; exact xI.wId hs_5 _ _ _ (by omega)
      have q_41 : gp_I s_38 1 2 = 0 := by rw [e_39]; exact q_6
      have q_42 : gp_I s_38 1 6 = 0 := by rw [e_39]; exact q_7
      have q_43 : gp_I s_38 1 7 = 1 := by rw [e_39]; exact q_8
      have q_44 : gp_I s_38 117 0 = 21 := by rw [e_39]; exact q_9
      have q_45 : gp_I s_38 51 8 = 0 := by rw [e_39]; exact q_10
      have q_46 : gp_I s_38 57 1 = 0 := by rw [e_39]; exact q_11
      have q_47 : gp_I s_38 57 3 = 0 := by rw [e_39]; exact q_12
      have q_48 : gp_I s_38 6 4 = 0 := by rw [e_39]; exact q_13
      have q_49 : gp_R s_38 117 1 = some 118 := by rw [e_39]; exact q_14
      have q_50 : gp_R s_38 117 2 = some 119 := by rw [e_39]; exact q_15
      have q_51 : gp_R s_38 117 3 = some 120 := by rw [e_39]; exact q_16
      have q_52 : gp_R s_38 117 4 = some 121 := by rw [e_39]; exact q_17
      have q_53 : gp_R s_38 117 5 = some 122 := by rw [e_39]; exact q_18
      have q_54 : gp_R s_38 117 6 = none := by rw [e_39]; exact q_19
      have q_55 : gp_R s_38 117 7 = none := by rw [e_39]; exact q_20
      have q_56 : gp_R s_38 117 8 = none := by rw [e_39]; exact q_21
      have q_57 : gp_R s_38 117 9 = none := by rw [e_39]; exact q_22
      have q_58 : gp_R s_38 25 6 = none := by rw [e_39]; exact q_23
      have q_59 : gp_R s_38 25 7 = none := by rw [e_39]; exact q_24
      have q_60 : gp_R s_38 25 8 = none := by rw [e_39]; exact q_25
      have q_61 : gp_R s_38 25 9 = none := by rw [e_39]; exact q_26
      have q_62 : ∀ k, k < 8 → gp_R s_38 4 k = some 25 := by rw [e_39]; exact q_27
      have q_63 : gp_R s_38 51 6 = some 55 := by rw [e_39]; exact q_28
      have q_64 : gp_R s_38 51 7 = some 56 := by rw [e_39]; exact q_29
      have q_65 : gp_sh s_38 117 = (9, 10) := by rw [e_39]; exact q_30
      have q_66 : gp_sh s_38 118 = (101, 21) := by rw [e_39]; exact q_31
      have q_67 : gp_sh s_38 119 = (101, 21) := by rw [e_39]; exact q_32
      have q_68 : gp_sh s_38 120 = (100, 21) := by rw [e_39]; exact q_33
      have q_69 : gp_sh s_38 121 = (100, 21) := by rw [e_39]; exact q_34
      have q_70 : gp_sh s_38 122 = (100, 21) := by rw [e_39]; exact q_35
      have q_71 : gp_us s_38 = 607010 := by rw [e_39]; exact q_36
      have q_72 : gp_sz s_38 = 123 := by rw [e_39]; exact q_37
      have w_73 := gz_w (v3 + 1)
      exact ih _ _ _ s_38 hs_40 (by omega) (by omega) rfl (by omega) (by omega) (by omega) (by omega) (by omega) (by omega) (by omega) (by omega) (by omega) q_49 q_50 q_51 q_52 q_53 q_54 q_55 q_56 q_57 q_58 q_59 q_60 q_61 q_62 q_63 q_64 q_65 q_66 q_67 q_68 q_69 q_70 q_71 q_72
set_option maxRecDepth 100000 in
/-- Maker.pauses [(20, 20)] -/
theorem zx258_20 {z : gH} {L d : Nat} {K : Option gV → gH → Prop} {s : gH}  (hs : xM z s)  (q0 : gp_I s 1 2 = 0) (q1 : gp_I s 1 6 = 0) (q2 : gp_I s 1 7 = 1) (q3 : gp_I s 51 8 = 0) (q4 : gp_I s 57 1 = 0) (q5 : gp_I s 57 3 = 0) (q6 : gp_I s 6 4 = 0) (q7 : gp_R s 25 6 = none) (q8 : gp_R s 25 7 = none) (q9 : gp_R s 25 8 = none) (q10 : gp_R s 25 9 = none) (q11 : ∀ k, k < 8 → gp_R s 4 k = some 25) (q12 : gp_R s 51 6 = some 55) (q13 : gp_R s 51 7 = some 56) (q14 : gp_us s = 606895) (q15 : gp_sz s = 117) (k : ∀ (t : gH), xM z t → (gp_I t 1 2 = 0) → (gp_I t 1 6 = 0) → (gp_I t 1 7 = 1) → (gp_I t 117 0 = 21) → (gp_I t 51 8 = 0) → (gp_I t 57 1 = 0) → (gp_I t 57 3 = 0) → (gp_I t 6 4 = 0) → (gp_R t 117 1 = some 118) → (gp_R t 117 2 = some 119) → (gp_R t 117 3 = some 120) → (gp_R t 117 4 = some 121) → (gp_R t 117 5 = some 122) → (gp_R t 117 6 = none) → (gp_R t 117 7 = none) → (gp_R t 117 8 = none) → (gp_R t 117 9 = none) → (gp_R t 25 6 = none) → (gp_R t 25 7 = none) → (gp_R t 25 8 = none) → (gp_R t 25 9 = none) → (∀ k, k < 8 → gp_R t 4 k = some 25) → (gp_R t 51 6 = some 55) → (gp_R t 51 7 = some 56) → (gp_sh t 117 = (9, 10)) → (gp_sh t 118 = (101, 21)) → (gp_sh t 119 = (101, 21)) → (gp_sh t 120 = (100, 21)) → (gp_sh t 121 = (100, 21)) → (gp_sh t 122 = (100, 21)) → (gp_us t = 607010) → (gp_sz t = 123) → K (some (gp_r (some 117))) t) : gs_C L (d + 1) 258 4 [gp_r (some 20), gp_i 20] s K := by
  refine s_258_e _ ?_
  refine ⟨by omega, ?_⟩
  try rw [show gp_sz s = 117 from q15]
  intro s_1 e_2
  have hs_3 : xM z s_1 := by rw [e_2]; exact xI.new hs (by omega)
  have q_4 : gp_I s_1 1 2 = 0 := by rw [e_2, gz_nI q15 (by decide)]; exact q0
  have q_5 : gp_I s_1 1 6 = 0 := by rw [e_2, gz_nI q15 (by decide)]; exact q1
  have q_6 : gp_I s_1 1 7 = 1 := by rw [e_2, gz_nI q15 (by decide)]; exact q2
  have q_7 : gp_I s_1 51 8 = 0 := by rw [e_2, gz_nI q15 (by decide)]; exact q3
  have q_8 : gp_I s_1 57 1 = 0 := by rw [e_2, gz_nI q15 (by decide)]; exact q4
  have q_9 : gp_I s_1 57 3 = 0 := by rw [e_2, gz_nI q15 (by decide)]; exact q5
  have q_10 : gp_I s_1 6 4 = 0 := by rw [e_2, gz_nI q15 (by decide)]; exact q6
  have q_11 : gp_R s_1 25 6 = none := by rw [e_2, gz_nR q15 (by decide)]; exact q7
  have q_12 : gp_R s_1 25 7 = none := by rw [e_2, gz_nR q15 (by decide)]; exact q8
  have q_13 : gp_R s_1 25 8 = none := by rw [e_2, gz_nR q15 (by decide)]; exact q9
  have q_14 : gp_R s_1 25 9 = none := by rw [e_2, gz_nR q15 (by decide)]; exact q10
  have q_15 : ∀ k, k < 8 → gp_R s_1 4 k = some 25 := fun k hk => by rw [e_2, gz_nR q15 (by decide)]; exact q11 k hk
  have q_16 : gp_R s_1 51 6 = some 55 := by rw [e_2, gz_nR q15 (by decide)]; exact q12
  have q_17 : gp_R s_1 51 7 = some 56 := by rw [e_2, gz_nR q15 (by decide)]; exact q13
  have q_18 : gp_us s_1 = 606905 := by rw [e_2]; show gp_us s + 10 = 606905; rw [q14]; try rfl
  have q_19 : gp_sz s_1 = 118 := by rw [e_2]; exact congrArg Nat.succ q15
  have q_20 : gp_sh s_1 117 = (9, 10) := by rw [e_2]; exact gz_nSs q15
  have q_21 : gp_I s_1 117 0 = 0 := by rw [e_2]; exact gz_nIs q15
  have q_22 : gp_R s_1 117 1 = none := by rw [e_2]; exact gz_nRs q15
  have q_23 : gp_R s_1 117 2 = none := by rw [e_2]; exact gz_nRs q15
  have q_24 : gp_R s_1 117 3 = none := by rw [e_2]; exact gz_nRs q15
  have q_25 : gp_R s_1 117 4 = none := by rw [e_2]; exact gz_nRs q15
  have q_26 : gp_R s_1 117 5 = none := by rw [e_2]; exact gz_nRs q15
  have q_27 : gp_R s_1 117 6 = none := by rw [e_2]; exact gz_nRs q15
  have q_28 : gp_R s_1 117 7 = none := by rw [e_2]; exact gz_nRs q15
  have q_29 : gp_R s_1 117 8 = none := by rw [e_2]; exact gz_nRs q15
  have q_30 : gp_R s_1 117 9 = none := by rw [e_2]; exact gz_nRs q15
  have w_31 := gz_w (20 + 1)
  have e_32 : gp_wr (20 + 1) = 21 := by omega
  try rw [e_32]
  refine zx2304_20 hs_3 (by omega) (by omega) (by omega) (by omega) (by omega) (by omega) (by omega) (by omega) q_22 q_23 q_24 q_25 q_26 q_27 q_28 q_29 q_30 q_11 q_12 q_13 q_14 q_15 q_16 q_17 q_20 q_18 q_19 (fun s_33 hs_34 q_35 q_36 q_37 q_38 q_39 q_40 q_41 q_42 q_43 q_44 q_45 q_46 q_47 q_48 q_49 q_50 q_51 q_52 q_53 q_54 q_55 q_56 q_57 q_58 q_59 q_60 q_61 q_62 q_63 q_64 q_65 q_66 => ⟨rfl, ?_⟩)
  exact zx258_20_l13_0 k _ _ _ _ s_33 hs_34 (Nat.lt_succ_self _) (by omega) rfl (by omega) (by omega) (by omega) (by omega) (by omega) (by omega) (by omega) (by omega) (by omega) q_43 q_44 q_45 q_46 q_47 q_48 q_49 q_50 q_51 q_52 q_53 q_54 q_55 q_56 q_57 q_58 q_59 q_60 q_61 q_62 q_63 q_64 q_65 q_66
set_option maxRecDepth 100000 in
/-- GatheredPoints.hold [(0, 7), 117] -/
theorem zx2854_20 {z : gH} {L d : Nat} {K : Option gV → gH → Prop} {s : gH} (p0 : Int) (hs : xM z s) (h_p0 : 0 ≤ p0 ∧ p0 ≤ 7) (q0 : gp_I s 1 2 = 0) (q1 : gp_I s 1 6 = 0) (q2 : gp_I s 1 7 = 1) (q3 : gp_I s 117 0 = 21) (q4 : gp_I s 51 8 = 0) (q5 : gp_I s 57 1 = 0) (q6 : gp_I s 57 3 = 0) (q7 : gp_I s 6 4 = 0) (q8 : gp_R s 117 1 = some 118) (q9 : gp_R s 117 2 = some 119) (q10 : gp_R s 117 3 = some 120) (q11 : gp_R s 117 4 = some 121) (q12 : gp_R s 117 5 = some 122) (q13 : gp_R s 117 6 = none) (q14 : gp_R s 117 7 = none) (q15 : gp_R s 117 8 = none) (q16 : gp_R s 117 9 = none) (q17 : gp_R s 25 6 = none) (q18 : gp_R s 25 7 = none) (q19 : gp_R s 25 8 = none) (q20 : gp_R s 25 9 = none) (q21 : ∀ k, k < 8 → gp_R s 4 k = some 25) (q22 : gp_R s 51 6 = some 55) (q23 : gp_R s 51 7 = some 56) (q24 : gp_sh s 117 = (9, 10)) (q25 : gp_sh s 118 = (101, 21)) (q26 : gp_sh s 119 = (101, 21)) (q27 : gp_sh s 120 = (100, 21)) (q28 : gp_sh s 121 = (100, 21)) (q29 : gp_sh s 122 = (100, 21)) (q30 : gp_us s = 607010) (q31 : gp_sz s = 123) (k : ∀ (t : gH), xM z t → (gp_I t 1 2 = 0) → (gp_I t 1 6 = 0) → (gp_I t 1 7 = 1) → (gp_I t 117 0 = 21) → (gp_I t 51 8 = 0) → (gp_I t 57 1 = 0) → (gp_I t 57 3 = 0) → (gp_I t 6 4 = 0) → (gp_R t 117 1 = some 118) → (gp_R t 117 2 = some 119) → (gp_R t 117 3 = some 120) → (gp_R t 117 4 = some 121) → (gp_R t 117 5 = some 122) → (gp_R t 117 6 = none) → (gp_R t 117 7 = none) → (gp_R t 117 8 = none) → (gp_R t 117 9 = none) → (gp_R t 25 6 = none) → (gp_R t 25 7 = none) → (gp_R t 25 8 = none) → (gp_R t 25 9 = none) → (gp_R t 51 6 = some 55) → (gp_R t 51 7 = some 56) → (gp_sh t 117 = (9, 10)) → (gp_sh t 118 = (101, 21)) → (gp_sh t 119 = (101, 21)) → (gp_sh t 120 = (100, 21)) → (gp_sh t 121 = (100, 21)) → (gp_sh t 122 = (100, 21)) → (gp_us t = 607010) → (gp_sz t = 123) → K (some (gp_i 21)) t) : gs_C L d 2854 3 [gp_r (some 1), gp_i p0, gp_r (some 117)] s K := by
  refine s_2854_e _ _ ?_
  refine ⟨117, rfl, ?_⟩
  refine ⟨by omega, ?_⟩
  refine ⟨(by show (gp_sh s 117).1 = 9; rw [q24]), ?_⟩
  intro s_1 e_2
  have hs_3 : xM z s_1 := by rw [e_2]; exact xI.wR hs _ _ _
  have q_4 : gp_I s_1 1 2 = 0 := by rw [e_2]; exact q0
  have q_5 : gp_I s_1 1 6 = 0 := by rw [e_2]; exact q1
  have q_6 : gp_I s_1 1 7 = 1 := by rw [e_2]; exact q2
  have q_7 : gp_I s_1 117 0 = 21 := by rw [e_2]; exact q3
  have q_8 : gp_I s_1 51 8 = 0 := by rw [e_2]; exact q4
  have q_9 : gp_I s_1 57 1 = 0 := by rw [e_2]; exact q5
  have q_10 : gp_I s_1 57 3 = 0 := by rw [e_2]; exact q6
  have q_11 : gp_I s_1 6 4 = 0 := by rw [e_2]; exact q7
  have q_12 : gp_R s_1 117 1 = some 118 := by rw [e_2]; exact q8
  have q_13 : gp_R s_1 117 2 = some 119 := by rw [e_2]; exact q9
  have q_14 : gp_R s_1 117 3 = some 120 := by rw [e_2]; exact q10
  have q_15 : gp_R s_1 117 4 = some 121 := by rw [e_2]; exact q11
  have q_16 : gp_R s_1 117 5 = some 122 := by rw [e_2]; exact q12
  have q_17 : gp_R s_1 117 6 = none := by rw [e_2]; exact q13
  have q_18 : gp_R s_1 117 7 = none := by rw [e_2]; exact q14
  have q_19 : gp_R s_1 117 8 = none := by rw [e_2]; exact q15
  have q_20 : gp_R s_1 117 9 = none := by rw [e_2]; exact q16
  have q_21 : gp_R s_1 25 6 = none := by rw [e_2]; exact q17
  have q_22 : gp_R s_1 25 7 = none := by rw [e_2]; exact q18
  have q_23 : gp_R s_1 25 8 = none := by rw [e_2]; exact q19
  have q_24 : gp_R s_1 25 9 = none := by rw [e_2]; exact q20
  have q_25 : gp_R s_1 51 6 = some 55 := by rw [e_2]; exact q22
  have q_26 : gp_R s_1 51 7 = some 56 := by rw [e_2]; exact q23
  have q_27 : gp_sh s_1 117 = (9, 10) := by rw [e_2]; exact q24
  have q_28 : gp_sh s_1 118 = (101, 21) := by rw [e_2]; exact q25
  have q_29 : gp_sh s_1 119 = (101, 21) := by rw [e_2]; exact q26
  have q_30 : gp_sh s_1 120 = (100, 21) := by rw [e_2]; exact q27
  have q_31 : gp_sh s_1 121 = (100, 21) := by rw [e_2]; exact q28
  have q_32 : gp_sh s_1 122 = (100, 21) := by rw [e_2]; exact q29
  have q_33 : gp_us s_1 = 607010 := by rw [e_2]; exact q30
  have q_34 : gp_sz s_1 = 123 := by rw [e_2]; exact q31
  refine ⟨(by show (gp_sh s_1 117).1 = 9; rw [q_27]), ?_⟩
  try rw [show gp_I s_1 117 0 = 21 from q_7]
  exact k s_1 hs_3 (by omega) (by omega) (by omega) (by omega) (by omega) (by omega) (by omega) (by omega) q_12 q_13 q_14 q_15 q_16 q_17 q_18 q_19 q_20 q_21 q_22 q_23 q_24 q_25 q_26 q_27 q_28 q_29 q_30 q_31 q_32 q_33 q_34
set_option maxRecDepth 100000 in
/-- GatheredPoints.waits [(0, 7), (20, 20)] -/
theorem zx2821_24 {z : gH} {L d : Nat} {K : Option gV → gH → Prop} {s : gH} (p0 : Int) (hs : xM z s) (h_p0 : 0 ≤ p0 ∧ p0 ≤ 7) (q0 : gp_I s 1 2 = 0) (q1 : gp_I s 1 6 = 0) (q2 : gp_I s 1 7 = 1) (q3 : gp_I s 51 8 = 0) (q4 : gp_I s 57 1 = 0) (q5 : gp_I s 57 3 = 0) (q6 : gp_I s 6 4 = 0) (q7 : gp_R s 25 6 = none) (q8 : gp_R s 25 7 = none) (q9 : gp_R s 25 8 = none) (q10 : gp_R s 25 9 = none) (q11 : ∀ k, k < 8 → gp_R s 4 k = some 25) (q12 : gp_R s 51 6 = some 55) (q13 : gp_R s 51 7 = some 56) (q14 : gp_us s = 606895) (q15 : gp_sz s = 117) (k : ∀ (t : gH), xM z t → (gp_I t 1 2 = 0) → (gp_I t 1 6 = 0) → (gp_I t 1 7 = 1) → (gp_I t 117 0 = 21) → (gp_I t 51 8 = 0) → (gp_I t 57 1 = 0) → (gp_I t 57 3 = 0) → (gp_I t 6 4 = 0) → (gp_R t 117 1 = some 118) → (gp_R t 117 2 = some 119) → (gp_R t 117 3 = some 120) → (gp_R t 117 4 = some 121) → (gp_R t 117 5 = some 122) → (gp_R t 117 6 = none) → (gp_R t 117 7 = none) → (gp_R t 117 8 = none) → (gp_R t 117 9 = none) → (gp_R t 25 6 = none) → (gp_R t 25 7 = none) → (gp_R t 25 8 = none) → (gp_R t 25 9 = none) → (gp_R t 51 6 = some 55) → (gp_R t 51 7 = some 56) → (gp_sh t 117 = (9, 10)) → (gp_sh t 118 = (101, 21)) → (gp_sh t 119 = (101, 21)) → (gp_sh t 120 = (100, 21)) → (gp_sh t 121 = (100, 21)) → (gp_sh t 122 = (100, 21)) → (gp_us t = 607010) → (gp_sz t = 123) → K (some (gp_i 21)) t) : gs_C L (d + 2) 2821 3 [gp_r (some 1), gp_i p0, gp_i 20] s K := by
  refine s_2821_e _ _ ?_
  refine zx2856_2 _ hs (by omega) (by omega) (by omega) (by omega) (by omega) (by omega) (by omega) q7 q8 q9 q10 q11 q12 q13 (⟨_, rfl, ?_⟩)
  refine ⟨fun h_1 => ?_, fun h_1 => ?_⟩
  · refine ⟨fun h_2 => ?_, fun h_2 => ?_⟩
    · exfalso; omega
    · refine ⟨fun h_3 => ?_, fun h_3 => ?_⟩
      · exfalso; omega
      · refine zx258_20 hs (by omega) (by omega) (by omega) (by omega) (by omega) (by omega) (by omega) q7 q8 q9 q10 q11 q12 q13 q14 q15 (fun s_5 hs_6 q_7 q_8 q_9 q_10 q_11 q_12 q_13 q_14 q_15 q_16 q_17 q_18 q_19 q_20 q_21 q_22 q_23 q_24 q_25 q_26 q_27 q_28 q_29 q_30 q_31 q_32 q_33 q_34 q_35 q_36 q_37 q_38 => ⟨_, rfl, ?_⟩)
        refine zx2854_20 _ hs_6 (by omega) (by omega) (by omega) (by omega) (by omega) (by omega) (by omega) (by omega) (by omega) q_15 q_16 q_17 q_18 q_19 q_20 q_21 q_22 q_23 q_24 q_25 q_26 q_27 q_28 q_29 q_30 q_31 q_32 q_33 q_34 q_35 q_36 q_37 q_38 (fun s_39 hs_40 q_41 q_42 q_43 q_44 q_45 q_46 q_47 q_48 q_49 q_50 q_51 q_52 q_53 q_54 q_55 q_56 q_57 q_58 q_59 q_60 q_61 q_62 q_63 q_64 q_65 q_66 q_67 q_68 q_69 q_70 q_71 => ⟨_, rfl, ?_⟩)
        exact k s_39 hs_40 (by omega) (by omega) (by omega) (by omega) (by omega) (by omega) (by omega) (by omega) q_49 q_50 q_51 q_52 q_53 q_54 q_55 q_56 q_57 q_58 q_59 q_60 q_61 q_62 q_63 q_64 q_65 q_66 q_67 q_68 q_69 q_70 q_71
  · exfalso; omega
set_option maxRecDepth 100000 in
/-- GatheredPoints.join [(-2147483648, -1), (-2147483648, 2147483647), (-2147483648, 2147483647)] -/
theorem zx2822_0 {z : gH} {L d : Nat} {K : Option gV → gH → Prop} {s : gH} (p0 : Int) (p1 : Int) (p2 : Int) (hs : xM z s) (h_p0 : (-2147483648) ≤ p0 ∧ p0 ≤ (-1)) (h_p1 : (-2147483648) ≤ p1 ∧ p1 ≤ 2147483647) (h_p2 : (-2147483648) ≤ p2 ∧ p2 ≤ 2147483647) (q0 : gp_I s 1 2 = 0) (q1 : gp_I s 1 6 = 0) (q2 : gp_I s 1 7 = 1) (q3 : gp_I s 51 8 = 0) (q4 : gp_I s 57 1 = 0) (q5 : gp_I s 57 3 = 0) (q6 : gp_I s 6 4 = 0) (q7 : gp_R s 25 6 = none) (q8 : gp_R s 25 7 = none) (q9 : gp_R s 25 8 = none) (q10 : gp_R s 25 9 = none) (q11 : ∀ k, k < 8 → gp_R s 4 k = some 25) (q12 : gp_R s 51 6 = some 55) (q13 : gp_R s 51 7 = some 56) (q14 : gp_us s = 606895) (q15 : gp_sz s = 117) (k : ∀ (t : gH), xM z t → (gp_I t 1 2 = 0) → (gp_I t 1 6 = 0) → (gp_I t 1 7 = 1) → ((-2147483648) ≤ gp_I t 2 1 ∧ gp_I t 2 1 ≤ 2147483647) → (gp_I t 51 8 = 0) → (gp_I t 57 1 = 0) → (gp_I t 57 3 = 0) → (gp_I t 6 4 = 0) → (gp_R t 25 6 = none) → (gp_R t 25 7 = none) → (gp_R t 25 8 = none) → (gp_R t 25 9 = none) → (∀ k, k < 8 → gp_R t 4 k = some 25) → (gp_R t 51 6 = some 55) → (gp_R t 51 7 = some 56) → (gp_us t = 606895) → (gp_sz t = 117) → K (some (gp_i (-1000000001))) t) : gs_C L (d + 1) 2822 5 [gp_r (some 1), gp_i p0, gp_i p1, gp_i p2] s K := by
  refine s_2822_e _ _ _ ?_
  refine zx2856_0 _ hs (by omega) (by omega) (by omega) (by omega) (by omega) (by omega) (by omega) q7 q8 q9 q10 q11 q12 q13 (⟨_, rfl, ?_⟩)
  refine ⟨fun h_1 => ?_, fun h_1 => ?_⟩
  · exfalso; omega
  · refine s_2822_21 _ _ _ _ ?_
    refine zx2855_1 hs (by omega) (by omega) (by omega) (by omega) (by omega) (by omega) (by omega) q7 q8 q9 q10 q11 q12 q13 q14 q15 (fun s_2 hs_3 q_4 q_5 q_6 q_7 q_8 q_9 q_10 q_11 q_12 q_13 q_14 q_15 q_16 q_17 q_18 q_19 q_20 => ⟨_, rfl, ?_⟩)
    exact k s_2 hs_3 (by omega) (by omega) (by omega) (by omega) (by omega) (by omega) (by omega) (by omega) q_12 q_13 q_14 q_15 q_16 q_17 q_18 q_19 q_20
set_option maxRecDepth 100000 in
/-- GatheredPoints.join [(8, 2147483647), (-2147483648, 2147483647), (-2147483648, 2147483647)] -/
theorem zx2822_1 {z : gH} {L d : Nat} {K : Option gV → gH → Prop} {s : gH} (p0 : Int) (p1 : Int) (p2 : Int) (hs : xM z s) (h_p0 : 8 ≤ p0 ∧ p0 ≤ 2147483647) (h_p1 : (-2147483648) ≤ p1 ∧ p1 ≤ 2147483647) (h_p2 : (-2147483648) ≤ p2 ∧ p2 ≤ 2147483647) (q0 : gp_I s 1 2 = 0) (q1 : gp_I s 1 6 = 0) (q2 : gp_I s 1 7 = 1) (q3 : gp_I s 51 8 = 0) (q4 : gp_I s 57 1 = 0) (q5 : gp_I s 57 3 = 0) (q6 : gp_I s 6 4 = 0) (q7 : gp_R s 25 6 = none) (q8 : gp_R s 25 7 = none) (q9 : gp_R s 25 8 = none) (q10 : gp_R s 25 9 = none) (q11 : ∀ k, k < 8 → gp_R s 4 k = some 25) (q12 : gp_R s 51 6 = some 55) (q13 : gp_R s 51 7 = some 56) (q14 : gp_us s = 606895) (q15 : gp_sz s = 117) (k : ∀ (t : gH), xM z t → (gp_I t 1 2 = 0) → (gp_I t 1 6 = 0) → (gp_I t 1 7 = 1) → ((-2147483648) ≤ gp_I t 2 1 ∧ gp_I t 2 1 ≤ 2147483647) → (gp_I t 51 8 = 0) → (gp_I t 57 1 = 0) → (gp_I t 57 3 = 0) → (gp_I t 6 4 = 0) → (gp_R t 25 6 = none) → (gp_R t 25 7 = none) → (gp_R t 25 8 = none) → (gp_R t 25 9 = none) → (∀ k, k < 8 → gp_R t 4 k = some 25) → (gp_R t 51 6 = some 55) → (gp_R t 51 7 = some 56) → (gp_us t = 606895) → (gp_sz t = 117) → K (some (gp_i (-1000000001))) t) : gs_C L (d + 1) 2822 5 [gp_r (some 1), gp_i p0, gp_i p1, gp_i p2] s K := by
  refine s_2822_e _ _ _ ?_
  refine zx2856_1 _ hs (by omega) (by omega) (by omega) (by omega) (by omega) (by omega) (by omega) q7 q8 q9 q10 q11 q12 q13 (⟨_, rfl, ?_⟩)
  refine ⟨fun h_1 => ?_, fun h_1 => ?_⟩
  · exfalso; omega
  · refine s_2822_21 _ _ _ _ ?_
    refine zx2855_1 hs (by omega) (by omega) (by omega) (by omega) (by omega) (by omega) (by omega) q7 q8 q9 q10 q11 q12 q13 q14 q15 (fun s_2 hs_3 q_4 q_5 q_6 q_7 q_8 q_9 q_10 q_11 q_12 q_13 q_14 q_15 q_16 q_17 q_18 q_19 q_20 => ⟨_, rfl, ?_⟩)
    exact k s_2 hs_3 (by omega) (by omega) (by omega) (by omega) (by omega) (by omega) (by omega) (by omega) q_12 q_13 q_14 q_15 q_16 q_17 q_18 q_19 q_20
set_option maxRecDepth 100000 in
/-- GatheredPoints.join [(0, 7), (-2147483648, -1), (-2147483648, 2147483647)] -/
theorem zx2822_2 {z : gH} {L d : Nat} {K : Option gV → gH → Prop} {s : gH} (p0 : Int) (p1 : Int) (p2 : Int) (hs : xM z s) (h_p0 : 0 ≤ p0 ∧ p0 ≤ 7) (h_p1 : (-2147483648) ≤ p1 ∧ p1 ≤ (-1)) (h_p2 : (-2147483648) ≤ p2 ∧ p2 ≤ 2147483647) (q0 : gp_I s 1 2 = 0) (q1 : gp_I s 1 6 = 0) (q2 : gp_I s 1 7 = 1) (q3 : gp_I s 51 8 = 0) (q4 : gp_I s 57 1 = 0) (q5 : gp_I s 57 3 = 0) (q6 : gp_I s 6 4 = 0) (q7 : gp_R s 25 6 = none) (q8 : gp_R s 25 7 = none) (q9 : gp_R s 25 8 = none) (q10 : gp_R s 25 9 = none) (q11 : ∀ k, k < 8 → gp_R s 4 k = some 25) (q12 : gp_R s 51 6 = some 55) (q13 : gp_R s 51 7 = some 56) (q14 : gp_us s = 606895) (q15 : gp_sz s = 117) (k : ∀ (t : gH), xM z t → (gp_I t 1 2 = 0) → (gp_I t 1 6 = 0) → (gp_I t 1 7 = 1) → ((-2147483648) ≤ gp_I t 2 1 ∧ gp_I t 2 1 ≤ 2147483647) → (gp_I t 51 8 = 0) → (gp_I t 57 1 = 0) → (gp_I t 57 3 = 0) → (gp_I t 6 4 = 0) → (gp_R t 25 6 = none) → (gp_R t 25 7 = none) → (gp_R t 25 8 = none) → (gp_R t 25 9 = none) → (∀ k, k < 8 → gp_R t 4 k = some 25) → (gp_R t 51 6 = some 55) → (gp_R t 51 7 = some 56) → (gp_us t = 606895) → (gp_sz t = 117) → K (some (gp_i (-1000000001))) t) : gs_C L (d + 1) 2822 5 [gp_r (some 1), gp_i p0, gp_i p1, gp_i p2] s K := by
  refine s_2822_e _ _ _ ?_
  refine zx2856_2 _ hs (by omega) (by omega) (by omega) (by omega) (by omega) (by omega) (by omega) q7 q8 q9 q10 q11 q12 q13 (⟨_, rfl, ?_⟩)
  refine ⟨fun h_1 => ?_, fun h_1 => ?_⟩
  · refine zx2856_0 _ hs (by omega) (by omega) (by omega) (by omega) (by omega) (by omega) (by omega) q7 q8 q9 q10 q11 q12 q13 (⟨_, rfl, ?_⟩)
    refine ⟨fun h_2 => ?_, fun h_2 => ?_⟩
    · exfalso; omega
    · refine s_2822_21 _ _ _ _ ?_
      refine zx2855_1 hs (by omega) (by omega) (by omega) (by omega) (by omega) (by omega) (by omega) q7 q8 q9 q10 q11 q12 q13 q14 q15 (fun s_3 hs_4 q_5 q_6 q_7 q_8 q_9 q_10 q_11 q_12 q_13 q_14 q_15 q_16 q_17 q_18 q_19 q_20 q_21 => ⟨_, rfl, ?_⟩)
      exact k s_3 hs_4 (by omega) (by omega) (by omega) (by omega) (by omega) (by omega) (by omega) (by omega) q_13 q_14 q_15 q_16 q_17 q_18 q_19 q_20 q_21
  · exfalso; omega
set_option maxRecDepth 100000 in
/-- GatheredPoints.join [(0, 7), (8, 2147483647), (-2147483648, 2147483647)] -/
theorem zx2822_3 {z : gH} {L d : Nat} {K : Option gV → gH → Prop} {s : gH} (p0 : Int) (p1 : Int) (p2 : Int) (hs : xM z s) (h_p0 : 0 ≤ p0 ∧ p0 ≤ 7) (h_p1 : 8 ≤ p1 ∧ p1 ≤ 2147483647) (h_p2 : (-2147483648) ≤ p2 ∧ p2 ≤ 2147483647) (q0 : gp_I s 1 2 = 0) (q1 : gp_I s 1 6 = 0) (q2 : gp_I s 1 7 = 1) (q3 : gp_I s 51 8 = 0) (q4 : gp_I s 57 1 = 0) (q5 : gp_I s 57 3 = 0) (q6 : gp_I s 6 4 = 0) (q7 : gp_R s 25 6 = none) (q8 : gp_R s 25 7 = none) (q9 : gp_R s 25 8 = none) (q10 : gp_R s 25 9 = none) (q11 : ∀ k, k < 8 → gp_R s 4 k = some 25) (q12 : gp_R s 51 6 = some 55) (q13 : gp_R s 51 7 = some 56) (q14 : gp_us s = 606895) (q15 : gp_sz s = 117) (k : ∀ (t : gH), xM z t → (gp_I t 1 2 = 0) → (gp_I t 1 6 = 0) → (gp_I t 1 7 = 1) → ((-2147483648) ≤ gp_I t 2 1 ∧ gp_I t 2 1 ≤ 2147483647) → (gp_I t 51 8 = 0) → (gp_I t 57 1 = 0) → (gp_I t 57 3 = 0) → (gp_I t 6 4 = 0) → (gp_R t 25 6 = none) → (gp_R t 25 7 = none) → (gp_R t 25 8 = none) → (gp_R t 25 9 = none) → (∀ k, k < 8 → gp_R t 4 k = some 25) → (gp_R t 51 6 = some 55) → (gp_R t 51 7 = some 56) → (gp_us t = 606895) → (gp_sz t = 117) → K (some (gp_i (-1000000001))) t) : gs_C L (d + 1) 2822 5 [gp_r (some 1), gp_i p0, gp_i p1, gp_i p2] s K := by
  refine s_2822_e _ _ _ ?_
  refine zx2856_2 _ hs (by omega) (by omega) (by omega) (by omega) (by omega) (by omega) (by omega) q7 q8 q9 q10 q11 q12 q13 (⟨_, rfl, ?_⟩)
  refine ⟨fun h_1 => ?_, fun h_1 => ?_⟩
  · refine zx2856_1 _ hs (by omega) (by omega) (by omega) (by omega) (by omega) (by omega) (by omega) q7 q8 q9 q10 q11 q12 q13 (⟨_, rfl, ?_⟩)
    refine ⟨fun h_2 => ?_, fun h_2 => ?_⟩
    · exfalso; omega
    · refine s_2822_21 _ _ _ _ ?_
      refine zx2855_1 hs (by omega) (by omega) (by omega) (by omega) (by omega) (by omega) (by omega) q7 q8 q9 q10 q11 q12 q13 q14 q15 (fun s_3 hs_4 q_5 q_6 q_7 q_8 q_9 q_10 q_11 q_12 q_13 q_14 q_15 q_16 q_17 q_18 q_19 q_20 q_21 => ⟨_, rfl, ?_⟩)
      exact k s_3 hs_4 (by omega) (by omega) (by omega) (by omega) (by omega) (by omega) (by omega) (by omega) q_13 q_14 q_15 q_16 q_17 q_18 q_19 q_20 q_21
  · exfalso; omega
set_option maxRecDepth 100000 in
/-- GatheredPoints.join [(0, 7), (0, 7), (-2147483648, -1)] -/
theorem zx2822_4 {z : gH} {L d : Nat} {K : Option gV → gH → Prop} {s : gH} (p0 : Int) (p1 : Int) (p2 : Int) (hs : xM z s) (h_p0 : 0 ≤ p0 ∧ p0 ≤ 7) (h_p1 : 0 ≤ p1 ∧ p1 ≤ 7) (h_p2 : (-2147483648) ≤ p2 ∧ p2 ≤ (-1)) (q0 : gp_I s 1 2 = 0) (q1 : gp_I s 1 6 = 0) (q2 : gp_I s 1 7 = 1) (q3 : gp_I s 51 8 = 0) (q4 : gp_I s 57 1 = 0) (q5 : gp_I s 57 3 = 0) (q6 : gp_I s 6 4 = 0) (q7 : gp_R s 25 6 = none) (q8 : gp_R s 25 7 = none) (q9 : gp_R s 25 8 = none) (q10 : gp_R s 25 9 = none) (q11 : ∀ k, k < 8 → gp_R s 4 k = some 25) (q12 : gp_R s 51 6 = some 55) (q13 : gp_R s 51 7 = some 56) (q14 : gp_us s = 606895) (q15 : gp_sz s = 117) (k : ∀ (t : gH), xM z t → (gp_I t 1 2 = 0) → (gp_I t 1 6 = 0) → (gp_I t 1 7 = 1) → ((-2147483648) ≤ gp_I t 2 1 ∧ gp_I t 2 1 ≤ 2147483647) → (gp_I t 51 8 = 0) → (gp_I t 57 1 = 0) → (gp_I t 57 3 = 0) → (gp_I t 6 4 = 0) → (gp_R t 25 6 = none) → (gp_R t 25 7 = none) → (gp_R t 25 8 = none) → (gp_R t 25 9 = none) → (∀ k, k < 8 → gp_R t 4 k = some 25) → (gp_R t 51 6 = some 55) → (gp_R t 51 7 = some 56) → (gp_us t = 606895) → (gp_sz t = 117) → K (some (gp_i (-1000000001))) t) : gs_C L (d + 1) 2822 5 [gp_r (some 1), gp_i p0, gp_i p1, gp_i p2] s K := by
  refine s_2822_e _ _ _ ?_
  refine zx2856_2 _ hs (by omega) (by omega) (by omega) (by omega) (by omega) (by omega) (by omega) q7 q8 q9 q10 q11 q12 q13 (⟨_, rfl, ?_⟩)
  refine ⟨fun h_1 => ?_, fun h_1 => ?_⟩
  · refine zx2856_2 _ hs (by omega) (by omega) (by omega) (by omega) (by omega) (by omega) (by omega) q7 q8 q9 q10 q11 q12 q13 (⟨_, rfl, ?_⟩)
    refine ⟨fun h_2 => ?_, fun h_2 => ?_⟩
    · refine zx2856_0 _ hs (by omega) (by omega) (by omega) (by omega) (by omega) (by omega) (by omega) q7 q8 q9 q10 q11 q12 q13 (⟨_, rfl, ?_⟩)
      refine ⟨fun h_3 => ?_, fun h_3 => ?_⟩
      · exfalso; omega
      · refine s_2822_21 _ _ _ _ ?_
        refine zx2855_1 hs (by omega) (by omega) (by omega) (by omega) (by omega) (by omega) (by omega) q7 q8 q9 q10 q11 q12 q13 q14 q15 (fun s_4 hs_5 q_6 q_7 q_8 q_9 q_10 q_11 q_12 q_13 q_14 q_15 q_16 q_17 q_18 q_19 q_20 q_21 q_22 => ⟨_, rfl, ?_⟩)
        exact k s_4 hs_5 (by omega) (by omega) (by omega) (by omega) (by omega) (by omega) (by omega) (by omega) q_14 q_15 q_16 q_17 q_18 q_19 q_20 q_21 q_22
    · exfalso; omega
  · exfalso; omega
set_option maxRecDepth 100000 in
/-- GatheredPoints.join [(0, 7), (0, 7), (8, 2147483647)] -/
theorem zx2822_5 {z : gH} {L d : Nat} {K : Option gV → gH → Prop} {s : gH} (p0 : Int) (p1 : Int) (p2 : Int) (hs : xM z s) (h_p0 : 0 ≤ p0 ∧ p0 ≤ 7) (h_p1 : 0 ≤ p1 ∧ p1 ≤ 7) (h_p2 : 8 ≤ p2 ∧ p2 ≤ 2147483647) (q0 : gp_I s 1 2 = 0) (q1 : gp_I s 1 6 = 0) (q2 : gp_I s 1 7 = 1) (q3 : gp_I s 51 8 = 0) (q4 : gp_I s 57 1 = 0) (q5 : gp_I s 57 3 = 0) (q6 : gp_I s 6 4 = 0) (q7 : gp_R s 25 6 = none) (q8 : gp_R s 25 7 = none) (q9 : gp_R s 25 8 = none) (q10 : gp_R s 25 9 = none) (q11 : ∀ k, k < 8 → gp_R s 4 k = some 25) (q12 : gp_R s 51 6 = some 55) (q13 : gp_R s 51 7 = some 56) (q14 : gp_us s = 606895) (q15 : gp_sz s = 117) (k : ∀ (t : gH), xM z t → (gp_I t 1 2 = 0) → (gp_I t 1 6 = 0) → (gp_I t 1 7 = 1) → ((-2147483648) ≤ gp_I t 2 1 ∧ gp_I t 2 1 ≤ 2147483647) → (gp_I t 51 8 = 0) → (gp_I t 57 1 = 0) → (gp_I t 57 3 = 0) → (gp_I t 6 4 = 0) → (gp_R t 25 6 = none) → (gp_R t 25 7 = none) → (gp_R t 25 8 = none) → (gp_R t 25 9 = none) → (∀ k, k < 8 → gp_R t 4 k = some 25) → (gp_R t 51 6 = some 55) → (gp_R t 51 7 = some 56) → (gp_us t = 606895) → (gp_sz t = 117) → K (some (gp_i (-1000000001))) t) : gs_C L (d + 1) 2822 5 [gp_r (some 1), gp_i p0, gp_i p1, gp_i p2] s K := by
  refine s_2822_e _ _ _ ?_
  refine zx2856_2 _ hs (by omega) (by omega) (by omega) (by omega) (by omega) (by omega) (by omega) q7 q8 q9 q10 q11 q12 q13 (⟨_, rfl, ?_⟩)
  refine ⟨fun h_1 => ?_, fun h_1 => ?_⟩
  · refine zx2856_2 _ hs (by omega) (by omega) (by omega) (by omega) (by omega) (by omega) (by omega) q7 q8 q9 q10 q11 q12 q13 (⟨_, rfl, ?_⟩)
    refine ⟨fun h_2 => ?_, fun h_2 => ?_⟩
    · refine zx2856_1 _ hs (by omega) (by omega) (by omega) (by omega) (by omega) (by omega) (by omega) q7 q8 q9 q10 q11 q12 q13 (⟨_, rfl, ?_⟩)
      refine ⟨fun h_3 => ?_, fun h_3 => ?_⟩
      · exfalso; omega
      · refine s_2822_21 _ _ _ _ ?_
        refine zx2855_1 hs (by omega) (by omega) (by omega) (by omega) (by omega) (by omega) (by omega) q7 q8 q9 q10 q11 q12 q13 q14 q15 (fun s_4 hs_5 q_6 q_7 q_8 q_9 q_10 q_11 q_12 q_13 q_14 q_15 q_16 q_17 q_18 q_19 q_20 q_21 q_22 => ⟨_, rfl, ?_⟩)
        exact k s_4 hs_5 (by omega) (by omega) (by omega) (by omega) (by omega) (by omega) (by omega) (by omega) q_14 q_15 q_16 q_17 q_18 q_19 q_20 q_21 q_22
    · exfalso; omega
  · exfalso; omega
set_option maxRecDepth 100000 in
/-- Pool.empty [] -/
theorem zx1025_0 {z : gH} {L d : Nat} {K : Option gV → gH → Prop} {s : gH}  (hs : xM z s)  (q0 : gp_I s 1 2 = 0) (q1 : gp_I s 1 6 = 0) (q2 : gp_I s 1 7 = 1) (q3 : gp_I s 51 8 = 0) (q4 : gp_I s 57 1 = 0) (q5 : gp_I s 57 3 = 0) (q6 : gp_I s 6 4 = 0) (q7 : gp_R s 25 6 = none) (q8 : gp_R s 25 7 = none) (q9 : gp_R s 25 8 = none) (q10 : gp_R s 25 9 = none) (q11 : ∀ k, k < 8 → gp_R s 4 k = some 25) (q12 : gp_R s 51 6 = some 55) (q13 : gp_R s 51 7 = some 56) (q14 : gp_us s = 606895) (q15 : gp_sz s = 117) (k : ∀ (t : gH), xM z t → (gp_I t 1 2 = 0) → (gp_I t 1 6 = 0) → (gp_I t 1 7 = 1) → (gp_I t 51 8 = 0) → (gp_I t 57 1 = 0) → (gp_I t 57 3 = 0) → (gp_I t 6 4 = 0) → (gp_R t 25 6 = none) → (gp_R t 25 7 = none) → (gp_R t 25 8 = none) → (gp_R t 25 9 = none) → (∀ k, k < 8 → gp_R t 4 k = some 25) → (gp_R t 51 6 = some 55) → (gp_R t 51 7 = some 56) → (gp_us t = 606895) → (gp_sz t = 117) → K none t) : gs_C L d 1025 1 [gp_r (some 6)] s K := by
  refine s_1025_e ?_
  intro s_1 e_2
  have hs_3 : xM z s_1 := by rw [e_2]; exact xw6_4 hs 0 _
  have q_4 : gp_I s_1 1 2 = 0 := by rw [e_2]; exact q0
  have q_5 : gp_I s_1 1 6 = 0 := by rw [e_2]; exact q1
  have q_6 : gp_I s_1 1 7 = 1 := by rw [e_2]; exact q2
  have q_7 : gp_I s_1 51 8 = 0 := by rw [e_2]; exact q3
  have q_8 : gp_I s_1 57 1 = 0 := by rw [e_2]; exact q4
  have q_9 : gp_I s_1 57 3 = 0 := by rw [e_2]; exact q5
  have q_10 : gp_R s_1 25 6 = none := by rw [e_2]; exact q7
  have q_11 : gp_R s_1 25 7 = none := by rw [e_2]; exact q8
  have q_12 : gp_R s_1 25 8 = none := by rw [e_2]; exact q9
  have q_13 : gp_R s_1 25 9 = none := by rw [e_2]; exact q10
  have q_14 : ∀ k, k < 8 → gp_R s_1 4 k = some 25 := by rw [e_2]; exact q11
  have q_15 : gp_R s_1 51 6 = some 55 := by rw [e_2]; exact q12
  have q_16 : gp_R s_1 51 7 = some 56 := by rw [e_2]; exact q13
  have q_17 : gp_us s_1 = 606895 := by rw [e_2]; exact q14
  have q_18 : gp_sz s_1 = 117 := by rw [e_2]; exact q15
  have q_19 : gp_I s_1 6 4 = 0 := by rw [e_2]; rfl
  exact k s_1 hs_3 (by omega) (by omega) (by omega) (by omega) (by omega) (by omega) (by omega) q_10 q_11 q_12 q_13 q_14 q_15 q_16 q_17 q_18
set_option maxRecDepth 100000 in
/-- Maker.pairMask [0, 0, (0, 0), (0, 0)] -/
theorem zx263_0 {z : gH} {L d : Nat} {K : Option gV → gH → Prop} {s : gH}  (hs : xM z s)  (q0 : gp_I s 1 2 = 0) (q1 : gp_I s 1 6 = 0) (q2 : gp_I s 1 7 = 1) (q3 : gp_I s 51 8 = 0) (q4 : gp_I s 57 1 = 0) (q5 : gp_I s 57 3 = 0) (q6 : gp_I s 6 4 = 0) (q7 : gp_R s 25 6 = none) (q8 : gp_R s 25 7 = none) (q9 : gp_R s 25 8 = none) (q10 : gp_R s 25 9 = none) (q11 : ∀ k, k < 8 → gp_R s 4 k = some 25) (q12 : gp_R s 51 6 = some 55) (q13 : gp_R s 51 7 = some 56) (k : K (some (gp_l (0#64))) s) : gs_C L (d + 1) 263 11 [gp_r (some 20), gp_l (0#64), gp_l (0#64), gp_i 0, gp_i 0] s K := by
  refine s_263_e _ _ _ _ ?_
  refine s_263_6 _ _ _ _ _ _ ?_
  have e_1 : gp_cmp (0#64) (0#64) = 0 := by decide
  try rw [e_1]
  refine ⟨fun h_2 => ?_, fun h_2 => ?_⟩
  · refine s_263_51 _ _ _ _ _ _ ?_
    have e_3 : gp_cmp (0#64) (0#64) = 0 := by decide
    try rw [e_3]
    refine ⟨fun h_4 => ?_, fun h_4 => ?_⟩
    · exact k
    · exfalso; omega
  · exfalso; omega
set_option maxRecDepth 100000 in
/-- Pool.sketch [0, 0, (0, 0), (0, 0)] -/
theorem zx1026_0 {z : gH} {L d : Nat} {K : Option gV → gH → Prop} {s : gH}  (hs : xM z s)  (q0 : gp_I s 1 2 = 0) (q1 : gp_I s 1 6 = 0) (q2 : gp_I s 1 7 = 1) (q3 : gp_I s 51 8 = 0) (q4 : gp_I s 57 1 = 0) (q5 : gp_I s 57 3 = 0) (q6 : gp_I s 6 4 = 0) (q7 : gp_R s 25 6 = none) (q8 : gp_R s 25 7 = none) (q9 : gp_R s 25 8 = none) (q10 : gp_R s 25 9 = none) (q11 : ∀ k, k < 8 → gp_R s 4 k = some 25) (q12 : gp_R s 51 6 = some 55) (q13 : gp_R s 51 7 = some 56) (q14 : gp_us s = 606895) (q15 : gp_sz s = 117) (k : ∀ (t : gH), xM z t → (gp_I t 1 2 = 0) → (gp_I t 1 6 = 0) → (gp_I t 1 7 = 1) → (gp_I t 51 8 = 0) → (gp_I t 57 1 = 0) → (gp_I t 57 3 = 0) → (gp_I t 6 4 = 0) → (gp_R t 25 6 = none) → (gp_R t 25 7 = none) → (gp_R t 25 8 = none) → (gp_R t 25 9 = none) → (∀ k, k < 8 → gp_R t 4 k = some 25) → (gp_R t 51 6 = some 55) → (gp_R t 51 7 = some 56) → (gp_us t = 606895) → (gp_sz t = 117) → K none t) : gs_C L (d + 1) 1026 10 [gp_r (some 6), gp_l (0#64), gp_l (0#64), gp_i 0, gp_i 0] s K := by
  refine s_1026_e _ _ _ _ ?_
  try rw [show gp_I s 6 4 = 0 from q6]
  refine ⟨by omega, ?_⟩
  intro s_1 e_2
  have hs_3 : xM z s_1 := by rw [e_2]; exact xw8 hs _ _ rfl
  have q_4 : gp_I s_1 1 2 = 0 := by rw [e_2]; exact q0
  have q_5 : gp_I s_1 1 6 = 0 := by rw [e_2]; exact q1
  have q_6 : gp_I s_1 1 7 = 1 := by rw [e_2]; exact q2
  have q_7 : gp_I s_1 51 8 = 0 := by rw [e_2]; exact q3
  have q_8 : gp_I s_1 57 1 = 0 := by rw [e_2]; exact q4
  have q_9 : gp_I s_1 57 3 = 0 := by rw [e_2]; exact q5
  have q_10 : gp_I s_1 6 4 = 0 := by rw [e_2]; exact q6
  have q_11 : gp_R s_1 25 6 = none := by rw [e_2]; exact q7
  have q_12 : gp_R s_1 25 7 = none := by rw [e_2]; exact q8
  have q_13 : gp_R s_1 25 8 = none := by rw [e_2]; exact q9
  have q_14 : gp_R s_1 25 9 = none := by rw [e_2]; exact q10
  have q_15 : ∀ k, k < 8 → gp_R s_1 4 k = some 25 := by rw [e_2]; exact q11
  have q_16 : gp_R s_1 51 6 = some 55 := by rw [e_2]; exact q12
  have q_17 : gp_R s_1 51 7 = some 56 := by rw [e_2]; exact q13
  have q_18 : gp_us s_1 = 606895 := by rw [e_2]; exact q14
  have q_19 : gp_sz s_1 = 117 := by rw [e_2]; exact q15
  try rw [show gp_I s_1 6 4 = 0 from q_10]
  refine ⟨by omega, ?_⟩
  intro s_20 e_21
  have hs_22 : xM z s_20 := by rw [e_21]; exact xw9 hs_3 _ _ rfl
  have q_23 : gp_I s_20 1 2 = 0 := by rw [e_21]; exact q_4
  have q_24 : gp_I s_20 1 6 = 0 := by rw [e_21]; exact q_5
  have q_25 : gp_I s_20 1 7 = 1 := by rw [e_21]; exact q_6
  have q_26 : gp_I s_20 51 8 = 0 := by rw [e_21]; exact q_7
  have q_27 : gp_I s_20 57 1 = 0 := by rw [e_21]; exact q_8
  have q_28 : gp_I s_20 57 3 = 0 := by rw [e_21]; exact q_9
  have q_29 : gp_I s_20 6 4 = 0 := by rw [e_21]; exact q_10
  have q_30 : gp_R s_20 25 6 = none := by rw [e_21]; exact q_11
  have q_31 : gp_R s_20 25 7 = none := by rw [e_21]; exact q_12
  have q_32 : gp_R s_20 25 8 = none := by rw [e_21]; exact q_13
  have q_33 : gp_R s_20 25 9 = none := by rw [e_21]; exact q_14
  have q_34 : ∀ k, k < 8 → gp_R s_20 4 k = some 25 := by rw [e_21]; exact q_15
  have q_35 : gp_R s_20 51 6 = some 55 := by rw [e_21]; exact q_16
  have q_36 : gp_R s_20 51 7 = some 56 := by rw [e_21]; exact q_17
  have q_37 : gp_us s_20 = 606895 := by rw [e_21]; exact q_18
  have q_38 : gp_sz s_20 = 117 := by rw [e_21]; exact q_19
  try rw [show gp_I s_20 6 4 = 0 from q_29]
  have e_39 : gp_cmp (0#64) (0#64) = 0 := by decide
  try rw [e_39]
  refine ⟨fun h_40 => ?_, fun h_40 => ?_⟩
  · refine s_1026_49 _ _ _ _ _ _ _ _ _ ?_
    refine ⟨by omega, ?_⟩
    intro s_41 e_42
    have hs_43 : xM z s_41 := by rw [e_42]; exact xw10 hs_22 _ _ (by omega)
    have q_44 : gp_I s_41 1 2 = 0 := by rw [e_42]; exact q_23
    have q_45 : gp_I s_41 1 6 = 0 := by rw [e_42]; exact q_24
    have q_46 : gp_I s_41 1 7 = 1 := by rw [e_42]; exact q_25
    have q_47 : gp_I s_41 51 8 = 0 := by rw [e_42]; exact q_26
    have q_48 : gp_I s_41 57 1 = 0 := by rw [e_42]; exact q_27
    have q_49 : gp_I s_41 57 3 = 0 := by rw [e_42]; exact q_28
    have q_50 : gp_I s_41 6 4 = 0 := by rw [e_42]; exact q_29
    have q_51 : gp_R s_41 25 6 = none := by rw [e_42]; exact q_30
    have q_52 : gp_R s_41 25 7 = none := by rw [e_42]; exact q_31
    have q_53 : gp_R s_41 25 8 = none := by rw [e_42]; exact q_32
    have q_54 : gp_R s_41 25 9 = none := by rw [e_42]; exact q_33
    have q_55 : ∀ k, k < 8 → gp_R s_41 4 k = some 25 := by rw [e_42]; exact q_34
    have q_56 : gp_R s_41 51 6 = some 55 := by rw [e_42]; exact q_35
    have q_57 : gp_R s_41 51 7 = some 56 := by rw [e_42]; exact q_36
    have q_58 : gp_us s_41 = 606895 := by rw [e_42]; exact q_37
    have q_59 : gp_sz s_41 = 117 := by rw [e_42]; exact q_38
    try rw [show gp_I s_41 6 4 = 0 from q_50]
    have e_60 : gp_cmp (0#64) (0#64) = 0 := by decide
    try rw [e_60]
    refine ⟨fun h_61 => ?_, fun h_61 => ?_⟩
    · refine s_1026_73 _ _ _ _ _ _ _ _ _ ?_
      refine ⟨by omega, ?_⟩
      intro s_62 e_63
      have hs_64 : xM z s_62 := by rw [e_63]; exact xw11 hs_43 _ _ (by omega)
      have q_65 : gp_I s_62 1 2 = 0 := by rw [e_63]; exact q_44
      have q_66 : gp_I s_62 1 6 = 0 := by rw [e_63]; exact q_45
      have q_67 : gp_I s_62 1 7 = 1 := by rw [e_63]; exact q_46
      have q_68 : gp_I s_62 51 8 = 0 := by rw [e_63]; exact q_47
      have q_69 : gp_I s_62 57 1 = 0 := by rw [e_63]; exact q_48
      have q_70 : gp_I s_62 57 3 = 0 := by rw [e_63]; exact q_49
      have q_71 : gp_I s_62 6 4 = 0 := by rw [e_63]; exact q_50
      have q_72 : gp_R s_62 25 6 = none := by rw [e_63]; exact q_51
      have q_73 : gp_R s_62 25 7 = none := by rw [e_63]; exact q_52
      have q_74 : gp_R s_62 25 8 = none := by rw [e_63]; exact q_53
      have q_75 : gp_R s_62 25 9 = none := by rw [e_63]; exact q_54
      have q_76 : ∀ k, k < 8 → gp_R s_62 4 k = some 25 := by rw [e_63]; exact q_55
      have q_77 : gp_R s_62 51 6 = some 55 := by rw [e_63]; exact q_56
      have q_78 : gp_R s_62 51 7 = some 56 := by rw [e_63]; exact q_57
      have q_79 : gp_us s_62 = 606895 := by rw [e_63]; exact q_58
      have q_80 : gp_sz s_62 = 117 := by rw [e_63]; exact q_59
      have e_81 : (0#64) ||| (0#64) = 0#64 := by decide
      try rw [e_81]
      refine s_1026_82 _ _ _ _ _ _ ?_
      have e_82 : gp_cmp (0#64) (0#64) = 0 := by decide
      try rw [e_82]
      refine ⟨fun h_83 => ?_, fun h_83 => ?_⟩
      · try rw [show gp_I s_62 6 4 = 0 from q_71]
        refine ⟨by omega, ?_⟩
        intro s_84 e_85
        have hs_86 : xM z s_84 := by rw [e_85]; exact xw12 hs_64 _ _ (by omega)
        have q_87 : gp_I s_84 1 2 = 0 := by rw [e_85]; exact q_65
        have q_88 : gp_I s_84 1 6 = 0 := by rw [e_85]; exact q_66
        have q_89 : gp_I s_84 1 7 = 1 := by rw [e_85]; exact q_67
        have q_90 : gp_I s_84 51 8 = 0 := by rw [e_85]; exact q_68
        have q_91 : gp_I s_84 57 1 = 0 := by rw [e_85]; exact q_69
        have q_92 : gp_I s_84 57 3 = 0 := by rw [e_85]; exact q_70
        have q_93 : gp_I s_84 6 4 = 0 := by rw [e_85]; exact q_71
        have q_94 : gp_R s_84 25 6 = none := by rw [e_85]; exact q_72
        have q_95 : gp_R s_84 25 7 = none := by rw [e_85]; exact q_73
        have q_96 : gp_R s_84 25 8 = none := by rw [e_85]; exact q_74
        have q_97 : gp_R s_84 25 9 = none := by rw [e_85]; exact q_75
        have q_98 : ∀ k, k < 8 → gp_R s_84 4 k = some 25 := by rw [e_85]; exact q_76
        have q_99 : gp_R s_84 51 6 = some 55 := by rw [e_85]; exact q_77
        have q_100 : gp_R s_84 51 7 = some 56 := by rw [e_85]; exact q_78
        have q_101 : gp_us s_84 = 606895 := by rw [e_85]; exact q_79
        have q_102 : gp_sz s_84 = 117 := by rw [e_85]; exact q_80
        exact k s_84 hs_86 (by omega) (by omega) (by omega) (by omega) (by omega) (by omega) (by omega) q_94 q_95 q_96 q_97 q_98 q_99 q_100 q_101 q_102
      · exfalso; omega
    · exfalso; omega
  · exfalso; omega
set_option maxRecDepth 100000 in
/-- Pool.settle [] -/
theorem zx1027_0 {z : gH} {L d : Nat} {K : Option gV → gH → Prop} {s : gH}  (hs : xM z s)  (q0 : gp_I s 1 2 = 0) (q1 : gp_I s 1 6 = 0) (q2 : gp_I s 1 7 = 1) (q3 : gp_I s 51 8 = 0) (q4 : gp_I s 57 1 = 0) (q5 : gp_I s 57 3 = 0) (q6 : gp_I s 6 4 = 0) (q7 : gp_R s 25 6 = none) (q8 : gp_R s 25 7 = none) (q9 : gp_R s 25 8 = none) (q10 : gp_R s 25 9 = none) (q11 : ∀ k, k < 8 → gp_R s 4 k = some 25) (q12 : gp_R s 51 6 = some 55) (q13 : gp_R s 51 7 = some 56) (q14 : gp_us s = 606895) (q15 : gp_sz s = 117) (k : ∀ (t : gH), xM z t → (gp_I t 1 2 = 0) → (gp_I t 1 6 = 0) → (gp_I t 1 7 = 1) → (gp_I t 51 8 = 0) → (gp_I t 57 1 = 0) → (gp_I t 57 3 = 0) → (gp_I t 6 4 = 1) → (gp_R t 25 6 = none) → (gp_R t 25 7 = none) → (gp_R t 25 8 = none) → (gp_R t 25 9 = none) → (∀ k, k < 8 → gp_R t 4 k = some 25) → (gp_R t 51 6 = some 55) → (gp_R t 51 7 = some 56) → (gp_us t = 606895) → (gp_sz t = 117) → K (some (gp_i 0)) t) : gs_C L (d + 1) 1027 6 [gp_r (some 6)] s K := by
  refine s_1027_e ?_
  try rw [show gp_I s 6 4 = 0 from q6]
  refine s_1027_7 _ _ _ _ _ ?_
  refine ⟨fun h_1 => ?_, fun h_1 => ?_⟩
  · exfalso; omega
  · try rw [show gp_I s 6 4 = 0 from q6]
    refine ⟨fun h_2 => ?_, fun h_2 => ?_⟩
    · try rw [show gp_I s 6 4 = 0 from q6]
      refine s_1027_140 _ _ _ _ _ ?_
      refine ⟨fun h_3 => ?_, fun h_3 => ?_⟩
      · exfalso; omega
      · try rw [show gp_I s 6 4 = 0 from q6]
        refine ⟨by omega, ?_⟩
        intro s_4 e_5
        have hs_6 : xM z s_4 := by rw [e_5]; exact xw14 hs _ _ (by omega)
        have q_7 : gp_I s_4 1 2 = 0 := by rw [e_5]; exact q0
        have q_8 : gp_I s_4 1 6 = 0 := by rw [e_5]; exact q1
        have q_9 : gp_I s_4 1 7 = 1 := by rw [e_5]; exact q2
        have q_10 : gp_I s_4 51 8 = 0 := by rw [e_5]; exact q3
        have q_11 : gp_I s_4 57 1 = 0 := by rw [e_5]; exact q4
        have q_12 : gp_I s_4 57 3 = 0 := by rw [e_5]; exact q5
        have q_13 : gp_I s_4 6 4 = 0 := by rw [e_5]; exact q6
        have q_14 : gp_R s_4 25 6 = none := by rw [e_5]; exact q7
        have q_15 : gp_R s_4 25 7 = none := by rw [e_5]; exact q8
        have q_16 : gp_R s_4 25 8 = none := by rw [e_5]; exact q9
        have q_17 : gp_R s_4 25 9 = none := by rw [e_5]; exact q10
        have q_18 : ∀ k, k < 8 → gp_R s_4 4 k = some 25 := by rw [e_5]; exact q11
        have q_19 : gp_R s_4 51 6 = some 55 := by rw [e_5]; exact q12
        have q_20 : gp_R s_4 51 7 = some 56 := by rw [e_5]; exact q13
        have q_21 : gp_us s_4 = 606895 := by rw [e_5]; exact q14
        have q_22 : gp_sz s_4 = 117 := by rw [e_5]; exact q15
        try rw [show gp_I s_4 6 4 = 0 from q_13]
        refine ⟨by omega, ?_⟩
        intro s_23 e_24
        have hs_25 : xM z s_23 := by rw [e_24]; exact xw13 hs_6 _ _ (by omega)
        have q_26 : gp_I s_23 1 2 = 0 := by rw [e_24]; exact q_7
        have q_27 : gp_I s_23 1 6 = 0 := by rw [e_24]; exact q_8
        have q_28 : gp_I s_23 1 7 = 1 := by rw [e_24]; exact q_9
        have q_29 : gp_I s_23 51 8 = 0 := by rw [e_24]; exact q_10
        have q_30 : gp_I s_23 57 1 = 0 := by rw [e_24]; exact q_11
        have q_31 : gp_I s_23 57 3 = 0 := by rw [e_24]; exact q_12
        have q_32 : gp_I s_23 6 4 = 0 := by rw [e_24]; exact q_13
        have q_33 : gp_R s_23 25 6 = none := by rw [e_24]; exact q_14
        have q_34 : gp_R s_23 25 7 = none := by rw [e_24]; exact q_15
        have q_35 : gp_R s_23 25 8 = none := by rw [e_24]; exact q_16
        have q_36 : gp_R s_23 25 9 = none := by rw [e_24]; exact q_17
        have q_37 : ∀ k, k < 8 → gp_R s_23 4 k = some 25 := by rw [e_24]; exact q_18
        have q_38 : gp_R s_23 51 6 = some 55 := by rw [e_24]; exact q_19
        have q_39 : gp_R s_23 51 7 = some 56 := by rw [e_24]; exact q_20
        have q_40 : gp_us s_23 = 606895 := by rw [e_24]; exact q_21
        have q_41 : gp_sz s_23 = 117 := by rw [e_24]; exact q_22
        try rw [show gp_I s_23 6 4 = 0 from q_32]
        have w_42 := gz_w (0 + 1)
        have e_43 : gp_wr (0 + 1) = 1 := by omega
        try rw [e_43]
        intro s_44 e_45
        have hs_46 : xM z s_44 := by rw [e_45]; exact xw6_4 hs_25 0 _
        have q_47 : gp_I s_44 1 2 = 0 := by rw [e_45]; exact q_26
        have q_48 : gp_I s_44 1 6 = 0 := by rw [e_45]; exact q_27
        have q_49 : gp_I s_44 1 7 = 1 := by rw [e_45]; exact q_28
        have q_50 : gp_I s_44 51 8 = 0 := by rw [e_45]; exact q_29
        have q_51 : gp_I s_44 57 1 = 0 := by rw [e_45]; exact q_30
        have q_52 : gp_I s_44 57 3 = 0 := by rw [e_45]; exact q_31
        have q_53 : gp_R s_44 25 6 = none := by rw [e_45]; exact q_33
        have q_54 : gp_R s_44 25 7 = none := by rw [e_45]; exact q_34
        have q_55 : gp_R s_44 25 8 = none := by rw [e_45]; exact q_35
        have q_56 : gp_R s_44 25 9 = none := by rw [e_45]; exact q_36
        have q_57 : ∀ k, k < 8 → gp_R s_44 4 k = some 25 := by rw [e_45]; exact q_37
        have q_58 : gp_R s_44 51 6 = some 55 := by rw [e_45]; exact q_38
        have q_59 : gp_R s_44 51 7 = some 56 := by rw [e_45]; exact q_39
        have q_60 : gp_us s_44 = 606895 := by rw [e_45]; exact q_40
        have q_61 : gp_sz s_44 = 117 := by rw [e_45]; exact q_41
        have q_62 : gp_I s_44 6 4 = 1 := by rw [e_45]; rfl
        try rw [show gp_I s_44 6 4 = 1 from q_62]
        have w_64 := gz_w (1 - 1)
        have e_65 : gp_wr (1 - 1) = 0 := by omega
        try rw [e_65]
        exact k s_44 hs_46 (by omega) (by omega) (by omega) (by omega) (by omega) (by omega) (by omega) q_53 q_54 q_55 q_56 q_57 q_58 q_59 q_60 q_61
    · exfalso; omega
set_option maxRecDepth 100000 in
/-- Table.root [25] -/
theorem zx2306_0 {z : gH} {L d : Nat} {K : Option gV → gH → Prop} {s : gH}  (hs : xM z s)  (q0 : gp_R s 25 6 = none) (q1 : gp_R s 25 7 = none) (q2 : gp_R s 25 8 = none) (q3 : gp_R s 25 9 = none) (k : K (some (gp_i 0)) s) : gs_C L d 2306 1 [gp_r (some 25)] s K := by
  refine s_2306_e _ ?_
  refine ⟨25, rfl, ?_⟩
  refine ⟨rfl, ?_⟩
  have f_1 := xr25_0 hs 0
  have e_2 : gp_I s 25 0 = 1 := by omega
  try rw [e_2]
  have w_3 := gz_w (1 - 1)
  have e_4 : gp_wr (1 - 1) = 0 := by omega
  try rw [e_4]
  exact k
set_option maxRecDepth 100000 in
/-- GatheredPoints.has [1, (0, 0)] -/
theorem zx2862_0 {z : gH} {L d : Nat} {K : Option gV → gH → Prop} {s : gH}  (hs : xM z s)  (q0 : gp_I s 1 2 = 0) (q1 : gp_I s 1 6 = 0) (q2 : gp_I s 1 7 = 1) (q3 : gp_I s 51 8 = 0) (q4 : gp_I s 57 1 = 0) (q5 : gp_I s 57 3 = 0) (q6 : gp_R s 25 6 = none) (q7 : gp_R s 25 7 = none) (q8 : gp_R s 25 8 = none) (q9 : gp_R s 25 9 = none) (q10 : ∀ k, k < 8 → gp_R s 4 k = some 25) (q11 : gp_R s 51 6 = some 55) (q12 : gp_R s 51 7 = some 56) (k : K (some (gp_i 1)) s) : gs_C L d 2862 3 [gp_l (1#64), gp_i 0] s K := by
  refine s_2862_e _ _ ?_
  have e_1 : (1#64) >>> ((0 : Int) % 64).toNat = 1#64 := by decide
  try rw [e_1]
  have e_2 : (1#64) &&& (1#64) = 1#64 := by decide
  try rw [e_2]
  have e_3 : gp_cmp (1#64) (0#64) = 1 := by decide
  try rw [e_3]
  refine ⟨fun h_4 => ?_, fun h_4 => ?_⟩
  · exfalso; omega
  · refine s_2862_15 _ _ _ ?_
    refine ⟨by omega, ?_⟩
    exact k
set_option maxRecDepth 100000 in
/-- Table.followers [7, (0, 0)] -/
theorem zx2309_0 {z : gH} {L d : Nat} {K : Option gV → gH → Prop} {s : gH}  (hs : xM z s)  (q0 : gp_I s 1 2 = 0) (q1 : gp_I s 1 6 = 0) (q2 : gp_I s 1 7 = 1) (q3 : gp_I s 51 8 = 0) (q4 : gp_I s 57 1 = 0) (q5 : gp_I s 57 3 = 0) (q6 : gp_R s 25 6 = none) (q7 : gp_R s 25 7 = none) (q8 : gp_R s 25 8 = none) (q9 : gp_R s 25 9 = none) (q10 : ∀ k, k < 8 → gp_R s 4 k = some 25) (q11 : gp_R s 51 6 = some 55) (q12 : gp_R s 51 7 = some 56) (k : K (some (gp_l (1#64))) s) : gs_C L (d + 1) 2309 5 [gp_r (some 7), gp_i 0] s K := by
  refine s_2309_e _ _ ?_
  have e_1 : (1#64) <<< ((0 : Int) % 64).toNat = 1#64 := by decide
  try rw [e_1]
  refine s_2309_7 _ _ _ _ ?_
  refine ⟨fun h_3 => ?_, fun h_3 => ?_⟩
  · exfalso; omega
  · refine zx2862_0 hs (by omega) (by omega) (by omega) (by omega) (by omega) (by omega) q6 q7 q8 q9 q10 q11 q12 (⟨_, rfl, ?_⟩)
    refine ⟨fun h_4 => ?_, fun h_4 => ?_⟩
    · exfalso; omega
    · refine ⟨7, rfl, ?_⟩
      refine ⟨rfl, ?_⟩
      try rw [show gp_R (gp_mk L s) 7 1 = some 8 from rfl]
      refine ⟨8, rfl, ?_⟩
      refine ⟨⟨rfl, by show 0 ≤ 0 ∧ 0 < 61; omega⟩, ?_⟩
      try rw [xr8 hs ((0 : Int).toNat)]
      refine ⟨rfl, ?_⟩
      try rw [show gp_R (gp_mk L s) 7 2 = some 9 from rfl]
      refine ⟨9, rfl, ?_⟩
      refine ⟨⟨rfl, by show 0 ≤ 0 ∧ 0 < 61; omega⟩, ?_⟩
      try rw [xr9 hs ((0 : Int).toNat)]
      have e_5 : (0#64) ||| (0#64) = 0#64 := by decide
      try rw [e_5]
      have e_6 : (1#64) ||| (0#64) = 1#64 := by decide
      try rw [e_6]
      refine s_2309_39 _ _ _ _ ?_
      have w_8 := gz_w (0 + (-1))
      have e_9 : gp_wr (0 + (-1)) = (-1) := by omega
      try rw [e_9]
      refine s_2309_7 _ _ _ _ ?_
      refine ⟨fun h_11 => ?_, fun h_11 => ?_⟩
      · exact k
      · exfalso; omega
set_option maxRecDepth 100000 in
/-- java/lang/Long.bitCount [1] -/
theorem zx3585_0 {z : gH} {L d : Nat} {K : Option gV → gH → Prop} {s : gH}  (hs : xM z s)  (q0 : gp_I s 117 0 = 0) (q1 : gp_R s 117 1 = none) (q2 : gp_R s 117 2 = none) (q3 : gp_R s 117 3 = none) (q4 : gp_R s 117 4 = none) (q5 : gp_R s 117 5 = none) (q6 : gp_R s 117 6 = none) (q7 : gp_R s 117 7 = none) (q8 : gp_R s 117 8 = none) (q9 : gp_R s 117 9 = none) (q10 : gp_R s 25 6 = none) (q11 : gp_R s 25 7 = none) (q12 : gp_R s 25 8 = none) (q13 : gp_R s 25 9 = none) (q14 : gp_sh s 117 = (9, 10)) (k : K (some (gp_i 1)) s) : gs_C L d 3585 2 [gp_l (1#64)] s K := by
  refine s_3585_e _ ?_
  have e_1 : (1#64) >>> 1 = 0#64 := by decide
  try rw [e_1]
  have e_2 : BitVec.ofInt 64 6148914691236517205 = 6148914691236517205#64 := by decide
  try rw [e_2]
  have e_3 : (0#64) &&& (6148914691236517205#64) = 0#64 := by decide
  try rw [e_3]
  have e_4 : (1#64) - (0#64) = 1#64 := by decide
  try rw [e_4]
  have e_5 : BitVec.ofInt 64 3689348814741910323 = 3689348814741910323#64 := by decide
  try rw [e_5]
  have e_6 : (1#64) &&& (3689348814741910323#64) = 1#64 := by decide
  try rw [e_6]
  have e_7 : (1#64) >>> 2 = 0#64 := by decide
  try rw [e_7]
  have e_8 : BitVec.ofInt 64 3689348814741910323 = 3689348814741910323#64 := by decide
  try rw [e_8]
  have e_9 : (0#64) &&& (3689348814741910323#64) = 0#64 := by decide
  try rw [e_9]
  have e_10 : (1#64) + (0#64) = 1#64 := by decide
  try rw [e_10]
  have e_11 : (1#64) >>> 4 = 0#64 := by decide
  try rw [e_11]
  have e_12 : (1#64) + (0#64) = 1#64 := by decide
  try rw [e_12]
  have e_13 : BitVec.ofInt 64 1085102592571150095 = 1085102592571150095#64 := by decide
  try rw [e_13]
  have e_14 : (1#64) &&& (1085102592571150095#64) = 1#64 := by decide
  try rw [e_14]
  have e_15 : (1#64) >>> 8 = 0#64 := by decide
  try rw [e_15]
  have e_16 : (1#64) + (0#64) = 1#64 := by decide
  try rw [e_16]
  have e_17 : (1#64) >>> 16 = 0#64 := by decide
  try rw [e_17]
  have e_18 : (1#64) + (0#64) = 1#64 := by decide
  try rw [e_18]
  have e_19 : (1#64) >>> 32 = 0#64 := by decide
  try rw [e_19]
  have e_20 : (1#64) + (0#64) = 1#64 := by decide
  try rw [e_20]
  have e_21 : gp_wr (1#64).toInt = 1 := by decide
  try rw [e_21]
  have e_22 : gp_and 1 127 = 1 := by decide
  try rw [e_22]
  exact k
set_option maxRecDepth 100000 in
/-- Table.<init> [117, (1, 1)] -/
theorem zx2304_21 {z : gH} {L d : Nat} {K : Option gV → gH → Prop} {s : gH}  (hs : xM z s)  (q0 : gp_I s 1 2 = 0) (q1 : gp_I s 1 6 = 0) (q2 : gp_I s 1 7 = 1) (q3 : gp_I s 117 0 = 0) (q4 : gp_I s 51 8 = 0) (q5 : gp_I s 57 1 = 0) (q6 : gp_I s 57 3 = 0) (q7 : gp_I s 6 4 = 1) (q8 : gp_R s 117 1 = none) (q9 : gp_R s 117 2 = none) (q10 : gp_R s 117 3 = none) (q11 : gp_R s 117 4 = none) (q12 : gp_R s 117 5 = none) (q13 : gp_R s 117 6 = none) (q14 : gp_R s 117 7 = none) (q15 : gp_R s 117 8 = none) (q16 : gp_R s 117 9 = none) (q17 : gp_R s 25 6 = none) (q18 : gp_R s 25 7 = none) (q19 : gp_R s 25 8 = none) (q20 : gp_R s 25 9 = none) (q21 : ∀ k, k < 8 → gp_R s 4 k = some 25) (q22 : gp_R s 51 6 = some 55) (q23 : gp_R s 51 7 = some 56) (q24 : gp_sh s 117 = (9, 10)) (q25 : gp_us s = 606905) (q26 : gp_sz s = 118) (k : ∀ (t : gH), xM z t → (gp_I t 1 2 = 0) → (gp_I t 1 6 = 0) → (gp_I t 1 7 = 1) → (gp_I t 117 0 = 1) → (gp_I t 120 0 = 0) → (gp_I t 121 0 = 0) → (gp_I t 122 0 = 0) → (gp_I t 51 8 = 0) → (gp_I t 57 1 = 0) → (gp_I t 57 3 = 0) → (gp_I t 6 4 = 1) → (gp_L t 118 0 = 0#64) → (gp_L t 119 0 = 0#64) → (gp_R t 117 1 = some 118) → (gp_R t 117 2 = some 119) → (gp_R t 117 3 = some 120) → (gp_R t 117 4 = some 121) → (gp_R t 117 5 = some 122) → (gp_R t 117 6 = none) → (gp_R t 117 7 = none) → (gp_R t 117 8 = none) → (gp_R t 117 9 = none) → (gp_R t 25 6 = none) → (gp_R t 25 7 = none) → (gp_R t 25 8 = none) → (gp_R t 25 9 = none) → (∀ k, k < 8 → gp_R t 4 k = some 25) → (gp_R t 51 6 = some 55) → (gp_R t 51 7 = some 56) → (gp_sh t 117 = (9, 10)) → (gp_sh t 118 = (101, 1)) → (gp_sh t 119 = (101, 1)) → (gp_sh t 120 = (100, 1)) → (gp_sh t 121 = (100, 1)) → (gp_sh t 122 = (100, 1)) → (gp_us t = 606910) → (gp_sz t = 123) → K none t) : gs_C L d 2304 2 [gp_r (some 117), gp_i 1] s K := by
  refine s_2304_e _ _ ?_
  refine ⟨117, rfl, ?_⟩
  refine ⟨(by show (gp_sh s 117).1 = 9; rw [q24]), ?_⟩
  intro s_1 e_2
  have hs_3 : xM z s_1 := by rw [e_2]; exact xI.wId hs _ _ _ (by omega)
  have q_4 : gp_I s_1 1 2 = 0 := by rw [e_2]; exact q0
  have q_5 : gp_I s_1 1 6 = 0 := by rw [e_2]; exact q1
  have q_6 : gp_I s_1 1 7 = 1 := by rw [e_2]; exact q2
  have q_7 : gp_I s_1 51 8 = 0 := by rw [e_2]; exact q4
  have q_8 : gp_I s_1 57 1 = 0 := by rw [e_2]; exact q5
  have q_9 : gp_I s_1 57 3 = 0 := by rw [e_2]; exact q6
  have q_10 : gp_I s_1 6 4 = 1 := by rw [e_2]; exact q7
  have q_11 : gp_R s_1 117 1 = none := by rw [e_2]; exact q8
  have q_12 : gp_R s_1 117 2 = none := by rw [e_2]; exact q9
  have q_13 : gp_R s_1 117 3 = none := by rw [e_2]; exact q10
  have q_14 : gp_R s_1 117 4 = none := by rw [e_2]; exact q11
  have q_15 : gp_R s_1 117 5 = none := by rw [e_2]; exact q12
  have q_16 : gp_R s_1 117 6 = none := by rw [e_2]; exact q13
  have q_17 : gp_R s_1 117 7 = none := by rw [e_2]; exact q14
  have q_18 : gp_R s_1 117 8 = none := by rw [e_2]; exact q15
  have q_19 : gp_R s_1 117 9 = none := by rw [e_2]; exact q16
  have q_20 : gp_R s_1 25 6 = none := by rw [e_2]; exact q17
  have q_21 : gp_R s_1 25 7 = none := by rw [e_2]; exact q18
  have q_22 : gp_R s_1 25 8 = none := by rw [e_2]; exact q19
  have q_23 : gp_R s_1 25 9 = none := by rw [e_2]; exact q20
  have q_24 : ∀ k, k < 8 → gp_R s_1 4 k = some 25 := by rw [e_2]; exact q21
  have q_25 : gp_R s_1 51 6 = some 55 := by rw [e_2]; exact q22
  have q_26 : gp_R s_1 51 7 = some 56 := by rw [e_2]; exact q23
  have q_27 : gp_sh s_1 117 = (9, 10) := by rw [e_2]; exact q24
  have q_28 : gp_us s_1 = 606905 := by rw [e_2]; exact q25
  have q_29 : gp_sz s_1 = 118 := by rw [e_2]; exact q26
  have q_30 : gp_I s_1 117 0 = 1 := by rw [e_2]; rfl
  refine ⟨by omega, ?_⟩
  refine ⟨by omega, ?_⟩
  try rw [show gp_sz s_1 = 118 from q_29]
  intro s_32 e_33
  have hs_34 : xM z s_32 := by rw [e_33]; exact xI.new hs_3 (by omega)
  have q_35 : gp_I s_32 1 2 = 0 := by rw [e_33, gz_nI q_29 (by decide)]; exact q_4
  have q_36 : gp_I s_32 1 6 = 0 := by rw [e_33, gz_nI q_29 (by decide)]; exact q_5
  have q_37 : gp_I s_32 1 7 = 1 := by rw [e_33, gz_nI q_29 (by decide)]; exact q_6
  have q_38 : gp_I s_32 51 8 = 0 := by rw [e_33, gz_nI q_29 (by decide)]; exact q_7
  have q_39 : gp_I s_32 57 1 = 0 := by rw [e_33, gz_nI q_29 (by decide)]; exact q_8
  have q_40 : gp_I s_32 57 3 = 0 := by rw [e_33, gz_nI q_29 (by decide)]; exact q_9
  have q_41 : gp_I s_32 6 4 = 1 := by rw [e_33, gz_nI q_29 (by decide)]; exact q_10
  have q_42 : gp_R s_32 117 1 = none := by rw [e_33, gz_nR q_29 (by decide)]; exact q_11
  have q_43 : gp_R s_32 117 2 = none := by rw [e_33, gz_nR q_29 (by decide)]; exact q_12
  have q_44 : gp_R s_32 117 3 = none := by rw [e_33, gz_nR q_29 (by decide)]; exact q_13
  have q_45 : gp_R s_32 117 4 = none := by rw [e_33, gz_nR q_29 (by decide)]; exact q_14
  have q_46 : gp_R s_32 117 5 = none := by rw [e_33, gz_nR q_29 (by decide)]; exact q_15
  have q_47 : gp_R s_32 117 6 = none := by rw [e_33, gz_nR q_29 (by decide)]; exact q_16
  have q_48 : gp_R s_32 117 7 = none := by rw [e_33, gz_nR q_29 (by decide)]; exact q_17
  have q_49 : gp_R s_32 117 8 = none := by rw [e_33, gz_nR q_29 (by decide)]; exact q_18
  have q_50 : gp_R s_32 117 9 = none := by rw [e_33, gz_nR q_29 (by decide)]; exact q_19
  have q_51 : gp_R s_32 25 6 = none := by rw [e_33, gz_nR q_29 (by decide)]; exact q_20
  have q_52 : gp_R s_32 25 7 = none := by rw [e_33, gz_nR q_29 (by decide)]; exact q_21
  have q_53 : gp_R s_32 25 8 = none := by rw [e_33, gz_nR q_29 (by decide)]; exact q_22
  have q_54 : gp_R s_32 25 9 = none := by rw [e_33, gz_nR q_29 (by decide)]; exact q_23
  have q_55 : ∀ k, k < 8 → gp_R s_32 4 k = some 25 := fun k hk => by rw [e_33, gz_nR q_29 (by decide)]; exact q_24 k hk
  have q_56 : gp_R s_32 51 6 = some 55 := by rw [e_33, gz_nR q_29 (by decide)]; exact q_25
  have q_57 : gp_R s_32 51 7 = some 56 := by rw [e_33, gz_nR q_29 (by decide)]; exact q_26
  have q_58 : gp_sh s_32 117 = (9, 10) := by rw [e_33, gz_nS q_29 (by decide)]; exact q_27
  have q_59 : gp_us s_32 = 606906 := by rw [e_33]; show gp_us s_1 + 1 = 606906; rw [q_28]; try rfl
  have q_60 : gp_sz s_32 = 119 := by rw [e_33]; exact congrArg Nat.succ q_29
  have q_61 : gp_I s_32 117 0 = 1 := by rw [e_33, gz_nI q_29 (by decide)]; exact q_30
  have q_62 : gp_sh s_32 118 = (101, 1) := by rw [e_33]; exact gz_nSs q_29
  have q_63 : gp_L s_32 118 0 = 0#64 := by rw [e_33]; exact gz_nLs q_29
  refine ⟨(by show (gp_sh s_32 117).1 = 9; rw [q_58]), ?_⟩
  refine ⟨rfl, ?_⟩
  intro s_64 e_65
  have hs_66 : xM z s_64 := by rw [e_65]; exact xI.wR hs_34 _ _ _
  have q_67 : gp_I s_64 1 2 = 0 := by rw [e_65]; exact q_35
  have q_68 : gp_I s_64 1 6 = 0 := by rw [e_65]; exact q_36
  have q_69 : gp_I s_64 1 7 = 1 := by rw [e_65]; exact q_37
  have q_70 : gp_I s_64 51 8 = 0 := by rw [e_65]; exact q_38
  have q_71 : gp_I s_64 57 1 = 0 := by rw [e_65]; exact q_39
  have q_72 : gp_I s_64 57 3 = 0 := by rw [e_65]; exact q_40
  have q_73 : gp_I s_64 6 4 = 1 := by rw [e_65]; exact q_41
  have q_74 : gp_R s_64 117 2 = none := by rw [e_65]; exact q_43
  have q_75 : gp_R s_64 117 3 = none := by rw [e_65]; exact q_44
  have q_76 : gp_R s_64 117 4 = none := by rw [e_65]; exact q_45
  have q_77 : gp_R s_64 117 5 = none := by rw [e_65]; exact q_46
  have q_78 : gp_R s_64 117 6 = none := by rw [e_65]; exact q_47
  have q_79 : gp_R s_64 117 7 = none := by rw [e_65]; exact q_48
  have q_80 : gp_R s_64 117 8 = none := by rw [e_65]; exact q_49
  have q_81 : gp_R s_64 117 9 = none := by rw [e_65]; exact q_50
  have q_82 : gp_R s_64 25 6 = none := by rw [e_65]; exact q_51
  have q_83 : gp_R s_64 25 7 = none := by rw [e_65]; exact q_52
  have q_84 : gp_R s_64 25 8 = none := by rw [e_65]; exact q_53
  have q_85 : gp_R s_64 25 9 = none := by rw [e_65]; exact q_54
  have q_86 : ∀ k, k < 8 → gp_R s_64 4 k = some 25 := by rw [e_65]; exact q_55
  have q_87 : gp_R s_64 51 6 = some 55 := by rw [e_65]; exact q_56
  have q_88 : gp_R s_64 51 7 = some 56 := by rw [e_65]; exact q_57
  have q_89 : gp_sh s_64 117 = (9, 10) := by rw [e_65]; exact q_58
  have q_90 : gp_us s_64 = 606906 := by rw [e_65]; exact q_59
  have q_91 : gp_sz s_64 = 119 := by rw [e_65]; exact q_60
  have q_92 : gp_I s_64 117 0 = 1 := by rw [e_65]; exact q_61
  have q_93 : gp_sh s_64 118 = (101, 1) := by rw [e_65]; exact q_62
  have q_94 : gp_L s_64 118 0 = 0#64 := by rw [e_65]; exact q_63
  have q_95 : gp_R s_64 117 1 = some 118 := by rw [e_65]; rfl
  refine ⟨by omega, ?_⟩
  refine ⟨by omega, ?_⟩
  try rw [show gp_sz s_64 = 119 from q_91]
  intro s_96 e_97
  have hs_98 : xM z s_96 := by rw [e_97]; exact xI.new hs_66 (by omega)
  have q_99 : gp_I s_96 1 2 = 0 := by rw [e_97, gz_nI q_91 (by decide)]; exact q_67
  have q_100 : gp_I s_96 1 6 = 0 := by rw [e_97, gz_nI q_91 (by decide)]; exact q_68
  have q_101 : gp_I s_96 1 7 = 1 := by rw [e_97, gz_nI q_91 (by decide)]; exact q_69
  have q_102 : gp_I s_96 51 8 = 0 := by rw [e_97, gz_nI q_91 (by decide)]; exact q_70
  have q_103 : gp_I s_96 57 1 = 0 := by rw [e_97, gz_nI q_91 (by decide)]; exact q_71
  have q_104 : gp_I s_96 57 3 = 0 := by rw [e_97, gz_nI q_91 (by decide)]; exact q_72
  have q_105 : gp_I s_96 6 4 = 1 := by rw [e_97, gz_nI q_91 (by decide)]; exact q_73
  have q_106 : gp_R s_96 117 2 = none := by rw [e_97, gz_nR q_91 (by decide)]; exact q_74
  have q_107 : gp_R s_96 117 3 = none := by rw [e_97, gz_nR q_91 (by decide)]; exact q_75
  have q_108 : gp_R s_96 117 4 = none := by rw [e_97, gz_nR q_91 (by decide)]; exact q_76
  have q_109 : gp_R s_96 117 5 = none := by rw [e_97, gz_nR q_91 (by decide)]; exact q_77
  have q_110 : gp_R s_96 117 6 = none := by rw [e_97, gz_nR q_91 (by decide)]; exact q_78
  have q_111 : gp_R s_96 117 7 = none := by rw [e_97, gz_nR q_91 (by decide)]; exact q_79
  have q_112 : gp_R s_96 117 8 = none := by rw [e_97, gz_nR q_91 (by decide)]; exact q_80
  have q_113 : gp_R s_96 117 9 = none := by rw [e_97, gz_nR q_91 (by decide)]; exact q_81
  have q_114 : gp_R s_96 25 6 = none := by rw [e_97, gz_nR q_91 (by decide)]; exact q_82
  have q_115 : gp_R s_96 25 7 = none := by rw [e_97, gz_nR q_91 (by decide)]; exact q_83
  have q_116 : gp_R s_96 25 8 = none := by rw [e_97, gz_nR q_91 (by decide)]; exact q_84
  have q_117 : gp_R s_96 25 9 = none := by rw [e_97, gz_nR q_91 (by decide)]; exact q_85
  have q_118 : ∀ k, k < 8 → gp_R s_96 4 k = some 25 := fun k hk => by rw [e_97, gz_nR q_91 (by decide)]; exact q_86 k hk
  have q_119 : gp_R s_96 51 6 = some 55 := by rw [e_97, gz_nR q_91 (by decide)]; exact q_87
  have q_120 : gp_R s_96 51 7 = some 56 := by rw [e_97, gz_nR q_91 (by decide)]; exact q_88
  have q_121 : gp_sh s_96 117 = (9, 10) := by rw [e_97, gz_nS q_91 (by decide)]; exact q_89
  have q_122 : gp_us s_96 = 606907 := by rw [e_97]; show gp_us s_64 + 1 = 606907; rw [q_90]; try rfl
  have q_123 : gp_sz s_96 = 120 := by rw [e_97]; exact congrArg Nat.succ q_91
  have q_124 : gp_I s_96 117 0 = 1 := by rw [e_97, gz_nI q_91 (by decide)]; exact q_92
  have q_125 : gp_sh s_96 118 = (101, 1) := by rw [e_97, gz_nS q_91 (by decide)]; exact q_93
  have q_126 : gp_L s_96 118 0 = 0#64 := by rw [e_97, gz_nL q_91 (by decide)]; exact q_94
  have q_127 : gp_R s_96 117 1 = some 118 := by rw [e_97, gz_nR q_91 (by decide)]; exact q_95
  have q_128 : gp_sh s_96 119 = (101, 1) := by rw [e_97]; exact gz_nSs q_91
  have q_129 : gp_L s_96 119 0 = 0#64 := by rw [e_97]; exact gz_nLs q_91
  refine ⟨(by show (gp_sh s_96 117).1 = 9; rw [q_121]), ?_⟩
  refine ⟨rfl, ?_⟩
  intro s_130 e_131
  have hs_132 : xM z s_130 := by rw [e_131]; exact xI.wR hs_98 _ _ _
  have q_133 : gp_I s_130 1 2 = 0 := by rw [e_131]; exact q_99
  have q_134 : gp_I s_130 1 6 = 0 := by rw [e_131]; exact q_100
  have q_135 : gp_I s_130 1 7 = 1 := by rw [e_131]; exact q_101
  have q_136 : gp_I s_130 51 8 = 0 := by rw [e_131]; exact q_102
  have q_137 : gp_I s_130 57 1 = 0 := by rw [e_131]; exact q_103
  have q_138 : gp_I s_130 57 3 = 0 := by rw [e_131]; exact q_104
  have q_139 : gp_I s_130 6 4 = 1 := by rw [e_131]; exact q_105
  have q_140 : gp_R s_130 117 3 = none := by rw [e_131]; exact q_107
  have q_141 : gp_R s_130 117 4 = none := by rw [e_131]; exact q_108
  have q_142 : gp_R s_130 117 5 = none := by rw [e_131]; exact q_109
  have q_143 : gp_R s_130 117 6 = none := by rw [e_131]; exact q_110
  have q_144 : gp_R s_130 117 7 = none := by rw [e_131]; exact q_111
  have q_145 : gp_R s_130 117 8 = none := by rw [e_131]; exact q_112
  have q_146 : gp_R s_130 117 9 = none := by rw [e_131]; exact q_113
  have q_147 : gp_R s_130 25 6 = none := by rw [e_131]; exact q_114
  have q_148 : gp_R s_130 25 7 = none := by rw [e_131]; exact q_115
  have q_149 : gp_R s_130 25 8 = none := by rw [e_131]; exact q_116
  have q_150 : gp_R s_130 25 9 = none := by rw [e_131]; exact q_117
  have q_151 : ∀ k, k < 8 → gp_R s_130 4 k = some 25 := by rw [e_131]; exact q_118
  have q_152 : gp_R s_130 51 6 = some 55 := by rw [e_131]; exact q_119
  have q_153 : gp_R s_130 51 7 = some 56 := by rw [e_131]; exact q_120
  have q_154 : gp_sh s_130 117 = (9, 10) := by rw [e_131]; exact q_121
  have q_155 : gp_us s_130 = 606907 := by rw [e_131]; exact q_122
  have q_156 : gp_sz s_130 = 120 := by rw [e_131]; exact q_123
  have q_157 : gp_I s_130 117 0 = 1 := by rw [e_131]; exact q_124
  have q_158 : gp_sh s_130 118 = (101, 1) := by rw [e_131]; exact q_125
  have q_159 : gp_L s_130 118 0 = 0#64 := by rw [e_131]; exact q_126
  have q_160 : gp_R s_130 117 1 = some 118 := by rw [e_131]; exact q_127
  have q_161 : gp_sh s_130 119 = (101, 1) := by rw [e_131]; exact q_128
  have q_162 : gp_L s_130 119 0 = 0#64 := by rw [e_131]; exact q_129
  have q_163 : gp_R s_130 117 2 = some 119 := by rw [e_131]; rfl
  refine ⟨by omega, ?_⟩
  refine ⟨by omega, ?_⟩
  try rw [show gp_sz s_130 = 120 from q_156]
  intro s_164 e_165
  have hs_166 : xM z s_164 := by rw [e_165]; exact xI.new hs_132 (by omega)
  have q_167 : gp_I s_164 1 2 = 0 := by rw [e_165, gz_nI q_156 (by decide)]; exact q_133
  have q_168 : gp_I s_164 1 6 = 0 := by rw [e_165, gz_nI q_156 (by decide)]; exact q_134
  have q_169 : gp_I s_164 1 7 = 1 := by rw [e_165, gz_nI q_156 (by decide)]; exact q_135
  have q_170 : gp_I s_164 51 8 = 0 := by rw [e_165, gz_nI q_156 (by decide)]; exact q_136
  have q_171 : gp_I s_164 57 1 = 0 := by rw [e_165, gz_nI q_156 (by decide)]; exact q_137
  have q_172 : gp_I s_164 57 3 = 0 := by rw [e_165, gz_nI q_156 (by decide)]; exact q_138
  have q_173 : gp_I s_164 6 4 = 1 := by rw [e_165, gz_nI q_156 (by decide)]; exact q_139
  have q_174 : gp_R s_164 117 3 = none := by rw [e_165, gz_nR q_156 (by decide)]; exact q_140
  have q_175 : gp_R s_164 117 4 = none := by rw [e_165, gz_nR q_156 (by decide)]; exact q_141
  have q_176 : gp_R s_164 117 5 = none := by rw [e_165, gz_nR q_156 (by decide)]; exact q_142
  have q_177 : gp_R s_164 117 6 = none := by rw [e_165, gz_nR q_156 (by decide)]; exact q_143
  have q_178 : gp_R s_164 117 7 = none := by rw [e_165, gz_nR q_156 (by decide)]; exact q_144
  have q_179 : gp_R s_164 117 8 = none := by rw [e_165, gz_nR q_156 (by decide)]; exact q_145
  have q_180 : gp_R s_164 117 9 = none := by rw [e_165, gz_nR q_156 (by decide)]; exact q_146
  have q_181 : gp_R s_164 25 6 = none := by rw [e_165, gz_nR q_156 (by decide)]; exact q_147
  have q_182 : gp_R s_164 25 7 = none := by rw [e_165, gz_nR q_156 (by decide)]; exact q_148
  have q_183 : gp_R s_164 25 8 = none := by rw [e_165, gz_nR q_156 (by decide)]; exact q_149
  have q_184 : gp_R s_164 25 9 = none := by rw [e_165, gz_nR q_156 (by decide)]; exact q_150
  have q_185 : ∀ k, k < 8 → gp_R s_164 4 k = some 25 := fun k hk => by rw [e_165, gz_nR q_156 (by decide)]; exact q_151 k hk
  have q_186 : gp_R s_164 51 6 = some 55 := by rw [e_165, gz_nR q_156 (by decide)]; exact q_152
  have q_187 : gp_R s_164 51 7 = some 56 := by rw [e_165, gz_nR q_156 (by decide)]; exact q_153
  have q_188 : gp_sh s_164 117 = (9, 10) := by rw [e_165, gz_nS q_156 (by decide)]; exact q_154
  have q_189 : gp_us s_164 = 606908 := by rw [e_165]; show gp_us s_130 + 1 = 606908; rw [q_155]; try rfl
  have q_190 : gp_sz s_164 = 121 := by rw [e_165]; exact congrArg Nat.succ q_156
  have q_191 : gp_I s_164 117 0 = 1 := by rw [e_165, gz_nI q_156 (by decide)]; exact q_157
  have q_192 : gp_sh s_164 118 = (101, 1) := by rw [e_165, gz_nS q_156 (by decide)]; exact q_158
  have q_193 : gp_L s_164 118 0 = 0#64 := by rw [e_165, gz_nL q_156 (by decide)]; exact q_159
  have q_194 : gp_R s_164 117 1 = some 118 := by rw [e_165, gz_nR q_156 (by decide)]; exact q_160
  have q_195 : gp_sh s_164 119 = (101, 1) := by rw [e_165, gz_nS q_156 (by decide)]; exact q_161
  have q_196 : gp_L s_164 119 0 = 0#64 := by rw [e_165, gz_nL q_156 (by decide)]; exact q_162
  have q_197 : gp_R s_164 117 2 = some 119 := by rw [e_165, gz_nR q_156 (by decide)]; exact q_163
  have q_198 : gp_sh s_164 120 = (100, 1) := by rw [e_165]; exact gz_nSs q_156
  have q_199 : gp_I s_164 120 0 = 0 := by rw [e_165]; exact gz_nIs q_156
  refine ⟨(by show (gp_sh s_164 117).1 = 9; rw [q_188]), ?_⟩
  refine ⟨rfl, ?_⟩
  intro s_200 e_201
  have hs_202 : xM z s_200 := by rw [e_201]; exact xI.wR hs_166 _ _ _
  have q_203 : gp_I s_200 1 2 = 0 := by rw [e_201]; exact q_167
  have q_204 : gp_I s_200 1 6 = 0 := by rw [e_201]; exact q_168
  have q_205 : gp_I s_200 1 7 = 1 := by rw [e_201]; exact q_169
  have q_206 : gp_I s_200 51 8 = 0 := by rw [e_201]; exact q_170
  have q_207 : gp_I s_200 57 1 = 0 := by rw [e_201]; exact q_171
  have q_208 : gp_I s_200 57 3 = 0 := by rw [e_201]; exact q_172
  have q_209 : gp_I s_200 6 4 = 1 := by rw [e_201]; exact q_173
  have q_210 : gp_R s_200 117 4 = none := by rw [e_201]; exact q_175
  have q_211 : gp_R s_200 117 5 = none := by rw [e_201]; exact q_176
  have q_212 : gp_R s_200 117 6 = none := by rw [e_201]; exact q_177
  have q_213 : gp_R s_200 117 7 = none := by rw [e_201]; exact q_178
  have q_214 : gp_R s_200 117 8 = none := by rw [e_201]; exact q_179
  have q_215 : gp_R s_200 117 9 = none := by rw [e_201]; exact q_180
  have q_216 : gp_R s_200 25 6 = none := by rw [e_201]; exact q_181
  have q_217 : gp_R s_200 25 7 = none := by rw [e_201]; exact q_182
  have q_218 : gp_R s_200 25 8 = none := by rw [e_201]; exact q_183
  have q_219 : gp_R s_200 25 9 = none := by rw [e_201]; exact q_184
  have q_220 : ∀ k, k < 8 → gp_R s_200 4 k = some 25 := by rw [e_201]; exact q_185
  have q_221 : gp_R s_200 51 6 = some 55 := by rw [e_201]; exact q_186
  have q_222 : gp_R s_200 51 7 = some 56 := by rw [e_201]; exact q_187
  have q_223 : gp_sh s_200 117 = (9, 10) := by rw [e_201]; exact q_188
  have q_224 : gp_us s_200 = 606908 := by rw [e_201]; exact q_189
  have q_225 : gp_sz s_200 = 121 := by rw [e_201]; exact q_190
  have q_226 : gp_I s_200 117 0 = 1 := by rw [e_201]; exact q_191
  have q_227 : gp_sh s_200 118 = (101, 1) := by rw [e_201]; exact q_192
  have q_228 : gp_L s_200 118 0 = 0#64 := by rw [e_201]; exact q_193
  have q_229 : gp_R s_200 117 1 = some 118 := by rw [e_201]; exact q_194
  have q_230 : gp_sh s_200 119 = (101, 1) := by rw [e_201]; exact q_195
  have q_231 : gp_L s_200 119 0 = 0#64 := by rw [e_201]; exact q_196
  have q_232 : gp_R s_200 117 2 = some 119 := by rw [e_201]; exact q_197
  have q_233 : gp_sh s_200 120 = (100, 1) := by rw [e_201]; exact q_198
  have q_234 : gp_I s_200 120 0 = 0 := by rw [e_201]; exact q_199
  have q_235 : gp_R s_200 117 3 = some 120 := by rw [e_201]; rfl
  refine ⟨by omega, ?_⟩
  refine ⟨by omega, ?_⟩
  try rw [show gp_sz s_200 = 121 from q_225]
  intro s_236 e_237
  have hs_238 : xM z s_236 := by rw [e_237]; exact xI.new hs_202 (by omega)
  have q_239 : gp_I s_236 1 2 = 0 := by rw [e_237, gz_nI q_225 (by decide)]; exact q_203
  have q_240 : gp_I s_236 1 6 = 0 := by rw [e_237, gz_nI q_225 (by decide)]; exact q_204
  have q_241 : gp_I s_236 1 7 = 1 := by rw [e_237, gz_nI q_225 (by decide)]; exact q_205
  have q_242 : gp_I s_236 51 8 = 0 := by rw [e_237, gz_nI q_225 (by decide)]; exact q_206
  have q_243 : gp_I s_236 57 1 = 0 := by rw [e_237, gz_nI q_225 (by decide)]; exact q_207
  have q_244 : gp_I s_236 57 3 = 0 := by rw [e_237, gz_nI q_225 (by decide)]; exact q_208
  have q_245 : gp_I s_236 6 4 = 1 := by rw [e_237, gz_nI q_225 (by decide)]; exact q_209
  have q_246 : gp_R s_236 117 4 = none := by rw [e_237, gz_nR q_225 (by decide)]; exact q_210
  have q_247 : gp_R s_236 117 5 = none := by rw [e_237, gz_nR q_225 (by decide)]; exact q_211
  have q_248 : gp_R s_236 117 6 = none := by rw [e_237, gz_nR q_225 (by decide)]; exact q_212
  have q_249 : gp_R s_236 117 7 = none := by rw [e_237, gz_nR q_225 (by decide)]; exact q_213
  have q_250 : gp_R s_236 117 8 = none := by rw [e_237, gz_nR q_225 (by decide)]; exact q_214
  have q_251 : gp_R s_236 117 9 = none := by rw [e_237, gz_nR q_225 (by decide)]; exact q_215
  have q_252 : gp_R s_236 25 6 = none := by rw [e_237, gz_nR q_225 (by decide)]; exact q_216
  have q_253 : gp_R s_236 25 7 = none := by rw [e_237, gz_nR q_225 (by decide)]; exact q_217
  have q_254 : gp_R s_236 25 8 = none := by rw [e_237, gz_nR q_225 (by decide)]; exact q_218
  have q_255 : gp_R s_236 25 9 = none := by rw [e_237, gz_nR q_225 (by decide)]; exact q_219
  have q_256 : ∀ k, k < 8 → gp_R s_236 4 k = some 25 := fun k hk => by rw [e_237, gz_nR q_225 (by decide)]; exact q_220 k hk
  have q_257 : gp_R s_236 51 6 = some 55 := by rw [e_237, gz_nR q_225 (by decide)]; exact q_221
  have q_258 : gp_R s_236 51 7 = some 56 := by rw [e_237, gz_nR q_225 (by decide)]; exact q_222
  have q_259 : gp_sh s_236 117 = (9, 10) := by rw [e_237, gz_nS q_225 (by decide)]; exact q_223
  have q_260 : gp_us s_236 = 606909 := by rw [e_237]; show gp_us s_200 + 1 = 606909; rw [q_224]; try rfl
  have q_261 : gp_sz s_236 = 122 := by rw [e_237]; exact congrArg Nat.succ q_225
  have q_262 : gp_I s_236 117 0 = 1 := by rw [e_237, gz_nI q_225 (by decide)]; exact q_226
  have q_263 : gp_sh s_236 118 = (101, 1) := by rw [e_237, gz_nS q_225 (by decide)]; exact q_227
  have q_264 : gp_L s_236 118 0 = 0#64 := by rw [e_237, gz_nL q_225 (by decide)]; exact q_228
  have q_265 : gp_R s_236 117 1 = some 118 := by rw [e_237, gz_nR q_225 (by decide)]; exact q_229
  have q_266 : gp_sh s_236 119 = (101, 1) := by rw [e_237, gz_nS q_225 (by decide)]; exact q_230
  have q_267 : gp_L s_236 119 0 = 0#64 := by rw [e_237, gz_nL q_225 (by decide)]; exact q_231
  have q_268 : gp_R s_236 117 2 = some 119 := by rw [e_237, gz_nR q_225 (by decide)]; exact q_232
  have q_269 : gp_sh s_236 120 = (100, 1) := by rw [e_237, gz_nS q_225 (by decide)]; exact q_233
  have q_270 : gp_I s_236 120 0 = 0 := by rw [e_237, gz_nI q_225 (by decide)]; exact q_234
  have q_271 : gp_R s_236 117 3 = some 120 := by rw [e_237, gz_nR q_225 (by decide)]; exact q_235
  have q_272 : gp_sh s_236 121 = (100, 1) := by rw [e_237]; exact gz_nSs q_225
  have q_273 : gp_I s_236 121 0 = 0 := by rw [e_237]; exact gz_nIs q_225
  refine ⟨(by show (gp_sh s_236 117).1 = 9; rw [q_259]), ?_⟩
  refine ⟨rfl, ?_⟩
  intro s_274 e_275
  have hs_276 : xM z s_274 := by rw [e_275]; exact xI.wR hs_238 _ _ _
  have q_277 : gp_I s_274 1 2 = 0 := by rw [e_275]; exact q_239
  have q_278 : gp_I s_274 1 6 = 0 := by rw [e_275]; exact q_240
  have q_279 : gp_I s_274 1 7 = 1 := by rw [e_275]; exact q_241
  have q_280 : gp_I s_274 51 8 = 0 := by rw [e_275]; exact q_242
  have q_281 : gp_I s_274 57 1 = 0 := by rw [e_275]; exact q_243
  have q_282 : gp_I s_274 57 3 = 0 := by rw [e_275]; exact q_244
  have q_283 : gp_I s_274 6 4 = 1 := by rw [e_275]; exact q_245
  have q_284 : gp_R s_274 117 5 = none := by rw [e_275]; exact q_247
  have q_285 : gp_R s_274 117 6 = none := by rw [e_275]; exact q_248
  have q_286 : gp_R s_274 117 7 = none := by rw [e_275]; exact q_249
  have q_287 : gp_R s_274 117 8 = none := by rw [e_275]; exact q_250
  have q_288 : gp_R s_274 117 9 = none := by rw [e_275]; exact q_251
  have q_289 : gp_R s_274 25 6 = none := by rw [e_275]; exact q_252
  have q_290 : gp_R s_274 25 7 = none := by rw [e_275]; exact q_253
  have q_291 : gp_R s_274 25 8 = none := by rw [e_275]; exact q_254
  have q_292 : gp_R s_274 25 9 = none := by rw [e_275]; exact q_255
  have q_293 : ∀ k, k < 8 → gp_R s_274 4 k = some 25 := by rw [e_275]; exact q_256
  have q_294 : gp_R s_274 51 6 = some 55 := by rw [e_275]; exact q_257
  have q_295 : gp_R s_274 51 7 = some 56 := by rw [e_275]; exact q_258
  have q_296 : gp_sh s_274 117 = (9, 10) := by rw [e_275]; exact q_259
  have q_297 : gp_us s_274 = 606909 := by rw [e_275]; exact q_260
  have q_298 : gp_sz s_274 = 122 := by rw [e_275]; exact q_261
  have q_299 : gp_I s_274 117 0 = 1 := by rw [e_275]; exact q_262
  have q_300 : gp_sh s_274 118 = (101, 1) := by rw [e_275]; exact q_263
  have q_301 : gp_L s_274 118 0 = 0#64 := by rw [e_275]; exact q_264
  have q_302 : gp_R s_274 117 1 = some 118 := by rw [e_275]; exact q_265
  have q_303 : gp_sh s_274 119 = (101, 1) := by rw [e_275]; exact q_266
  have q_304 : gp_L s_274 119 0 = 0#64 := by rw [e_275]; exact q_267
  have q_305 : gp_R s_274 117 2 = some 119 := by rw [e_275]; exact q_268
  have q_306 : gp_sh s_274 120 = (100, 1) := by rw [e_275]; exact q_269
  have q_307 : gp_I s_274 120 0 = 0 := by rw [e_275]; exact q_270
  have q_308 : gp_R s_274 117 3 = some 120 := by rw [e_275]; exact q_271
  have q_309 : gp_sh s_274 121 = (100, 1) := by rw [e_275]; exact q_272
  have q_310 : gp_I s_274 121 0 = 0 := by rw [e_275]; exact q_273
  have q_311 : gp_R s_274 117 4 = some 121 := by rw [e_275]; rfl
  refine ⟨by omega, ?_⟩
  refine ⟨by omega, ?_⟩
  try rw [show gp_sz s_274 = 122 from q_298]
  intro s_312 e_313
  have hs_314 : xM z s_312 := by rw [e_313]; exact xI.new hs_276 (by omega)
  have q_315 : gp_I s_312 1 2 = 0 := by rw [e_313, gz_nI q_298 (by decide)]; exact q_277
  have q_316 : gp_I s_312 1 6 = 0 := by rw [e_313, gz_nI q_298 (by decide)]; exact q_278
  have q_317 : gp_I s_312 1 7 = 1 := by rw [e_313, gz_nI q_298 (by decide)]; exact q_279
  have q_318 : gp_I s_312 51 8 = 0 := by rw [e_313, gz_nI q_298 (by decide)]; exact q_280
  have q_319 : gp_I s_312 57 1 = 0 := by rw [e_313, gz_nI q_298 (by decide)]; exact q_281
  have q_320 : gp_I s_312 57 3 = 0 := by rw [e_313, gz_nI q_298 (by decide)]; exact q_282
  have q_321 : gp_I s_312 6 4 = 1 := by rw [e_313, gz_nI q_298 (by decide)]; exact q_283
  have q_322 : gp_R s_312 117 5 = none := by rw [e_313, gz_nR q_298 (by decide)]; exact q_284
  have q_323 : gp_R s_312 117 6 = none := by rw [e_313, gz_nR q_298 (by decide)]; exact q_285
  have q_324 : gp_R s_312 117 7 = none := by rw [e_313, gz_nR q_298 (by decide)]; exact q_286
  have q_325 : gp_R s_312 117 8 = none := by rw [e_313, gz_nR q_298 (by decide)]; exact q_287
  have q_326 : gp_R s_312 117 9 = none := by rw [e_313, gz_nR q_298 (by decide)]; exact q_288
  have q_327 : gp_R s_312 25 6 = none := by rw [e_313, gz_nR q_298 (by decide)]; exact q_289
  have q_328 : gp_R s_312 25 7 = none := by rw [e_313, gz_nR q_298 (by decide)]; exact q_290
  have q_329 : gp_R s_312 25 8 = none := by rw [e_313, gz_nR q_298 (by decide)]; exact q_291
  have q_330 : gp_R s_312 25 9 = none := by rw [e_313, gz_nR q_298 (by decide)]; exact q_292
  have q_331 : ∀ k, k < 8 → gp_R s_312 4 k = some 25 := fun k hk => by rw [e_313, gz_nR q_298 (by decide)]; exact q_293 k hk
  have q_332 : gp_R s_312 51 6 = some 55 := by rw [e_313, gz_nR q_298 (by decide)]; exact q_294
  have q_333 : gp_R s_312 51 7 = some 56 := by rw [e_313, gz_nR q_298 (by decide)]; exact q_295
  have q_334 : gp_sh s_312 117 = (9, 10) := by rw [e_313, gz_nS q_298 (by decide)]; exact q_296
  have q_335 : gp_us s_312 = 606910 := by rw [e_313]; show gp_us s_274 + 1 = 606910; rw [q_297]; try rfl
  have q_336 : gp_sz s_312 = 123 := by rw [e_313]; exact congrArg Nat.succ q_298
  have q_337 : gp_I s_312 117 0 = 1 := by rw [e_313, gz_nI q_298 (by decide)]; exact q_299
  have q_338 : gp_sh s_312 118 = (101, 1) := by rw [e_313, gz_nS q_298 (by decide)]; exact q_300
  have q_339 : gp_L s_312 118 0 = 0#64 := by rw [e_313, gz_nL q_298 (by decide)]; exact q_301
  have q_340 : gp_R s_312 117 1 = some 118 := by rw [e_313, gz_nR q_298 (by decide)]; exact q_302
  have q_341 : gp_sh s_312 119 = (101, 1) := by rw [e_313, gz_nS q_298 (by decide)]; exact q_303
  have q_342 : gp_L s_312 119 0 = 0#64 := by rw [e_313, gz_nL q_298 (by decide)]; exact q_304
  have q_343 : gp_R s_312 117 2 = some 119 := by rw [e_313, gz_nR q_298 (by decide)]; exact q_305
  have q_344 : gp_sh s_312 120 = (100, 1) := by rw [e_313, gz_nS q_298 (by decide)]; exact q_306
  have q_345 : gp_I s_312 120 0 = 0 := by rw [e_313, gz_nI q_298 (by decide)]; exact q_307
  have q_346 : gp_R s_312 117 3 = some 120 := by rw [e_313, gz_nR q_298 (by decide)]; exact q_308
  have q_347 : gp_sh s_312 121 = (100, 1) := by rw [e_313, gz_nS q_298 (by decide)]; exact q_309
  have q_348 : gp_I s_312 121 0 = 0 := by rw [e_313, gz_nI q_298 (by decide)]; exact q_310
  have q_349 : gp_R s_312 117 4 = some 121 := by rw [e_313, gz_nR q_298 (by decide)]; exact q_311
  have q_350 : gp_sh s_312 122 = (100, 1) := by rw [e_313]; exact gz_nSs q_298
  have q_351 : gp_I s_312 122 0 = 0 := by rw [e_313]; exact gz_nIs q_298
  refine ⟨(by show (gp_sh s_312 117).1 = 9; rw [q_334]), ?_⟩
  refine ⟨rfl, ?_⟩
  intro s_352 e_353
  have hs_354 : xM z s_352 := by rw [e_353]; exact xI.wR hs_314 _ _ _
  have q_355 : gp_I s_352 1 2 = 0 := by rw [e_353]; exact q_315
  have q_356 : gp_I s_352 1 6 = 0 := by rw [e_353]; exact q_316
  have q_357 : gp_I s_352 1 7 = 1 := by rw [e_353]; exact q_317
  have q_358 : gp_I s_352 51 8 = 0 := by rw [e_353]; exact q_318
  have q_359 : gp_I s_352 57 1 = 0 := by rw [e_353]; exact q_319
  have q_360 : gp_I s_352 57 3 = 0 := by rw [e_353]; exact q_320
  have q_361 : gp_I s_352 6 4 = 1 := by rw [e_353]; exact q_321
  have q_362 : gp_R s_352 117 6 = none := by rw [e_353]; exact q_323
  have q_363 : gp_R s_352 117 7 = none := by rw [e_353]; exact q_324
  have q_364 : gp_R s_352 117 8 = none := by rw [e_353]; exact q_325
  have q_365 : gp_R s_352 117 9 = none := by rw [e_353]; exact q_326
  have q_366 : gp_R s_352 25 6 = none := by rw [e_353]; exact q_327
  have q_367 : gp_R s_352 25 7 = none := by rw [e_353]; exact q_328
  have q_368 : gp_R s_352 25 8 = none := by rw [e_353]; exact q_329
  have q_369 : gp_R s_352 25 9 = none := by rw [e_353]; exact q_330
  have q_370 : ∀ k, k < 8 → gp_R s_352 4 k = some 25 := by rw [e_353]; exact q_331
  have q_371 : gp_R s_352 51 6 = some 55 := by rw [e_353]; exact q_332
  have q_372 : gp_R s_352 51 7 = some 56 := by rw [e_353]; exact q_333
  have q_373 : gp_sh s_352 117 = (9, 10) := by rw [e_353]; exact q_334
  have q_374 : gp_us s_352 = 606910 := by rw [e_353]; exact q_335
  have q_375 : gp_sz s_352 = 123 := by rw [e_353]; exact q_336
  have q_376 : gp_I s_352 117 0 = 1 := by rw [e_353]; exact q_337
  have q_377 : gp_sh s_352 118 = (101, 1) := by rw [e_353]; exact q_338
  have q_378 : gp_L s_352 118 0 = 0#64 := by rw [e_353]; exact q_339
  have q_379 : gp_R s_352 117 1 = some 118 := by rw [e_353]; exact q_340
  have q_380 : gp_sh s_352 119 = (101, 1) := by rw [e_353]; exact q_341
  have q_381 : gp_L s_352 119 0 = 0#64 := by rw [e_353]; exact q_342
  have q_382 : gp_R s_352 117 2 = some 119 := by rw [e_353]; exact q_343
  have q_383 : gp_sh s_352 120 = (100, 1) := by rw [e_353]; exact q_344
  have q_384 : gp_I s_352 120 0 = 0 := by rw [e_353]; exact q_345
  have q_385 : gp_R s_352 117 3 = some 120 := by rw [e_353]; exact q_346
  have q_386 : gp_sh s_352 121 = (100, 1) := by rw [e_353]; exact q_347
  have q_387 : gp_I s_352 121 0 = 0 := by rw [e_353]; exact q_348
  have q_388 : gp_R s_352 117 4 = some 121 := by rw [e_353]; exact q_349
  have q_389 : gp_sh s_352 122 = (100, 1) := by rw [e_353]; exact q_350
  have q_390 : gp_I s_352 122 0 = 0 := by rw [e_353]; exact q_351
  have q_391 : gp_R s_352 117 5 = some 122 := by rw [e_353]; rfl
  exact k s_352 hs_354 (by omega) (by omega) (by omega) (by omega) (by omega) (by omega) (by omega) (by omega) (by omega) (by omega) (by omega) q_378 q_381 q_379 q_382 q_385 q_388 q_391 q_362 q_363 q_364 q_365 q_366 q_367 q_368 q_369 q_370 q_371 q_372 q_373 q_377 q_380 q_383 q_386 q_389 q_374 q_375
set_option maxRecDepth 100000 in
/-- GatheredPoints.has [1, (0, 0)] -/
theorem zx2862_1 {z : gH} {L d : Nat} {K : Option gV → gH → Prop} {s : gH}  (hs : xM z s)  (q0 : gp_I s 1 2 = 0) (q1 : gp_I s 1 6 = 0) (q2 : gp_I s 1 7 = 1) (q3 : gp_I s 117 0 = 1) (q4 : gp_I s 120 0 = 0) (q5 : gp_I s 121 0 = 0) (q6 : gp_I s 122 0 = 0) (q7 : gp_I s 51 8 = 0) (q8 : gp_I s 57 1 = 0) (q9 : gp_I s 57 3 = 0) (q10 : gp_L s 118 0 = 0#64) (q11 : gp_L s 119 0 = 0#64) (q12 : gp_R s 117 1 = some 118) (q13 : gp_R s 117 2 = some 119) (q14 : gp_R s 117 3 = some 120) (q15 : gp_R s 117 4 = some 121) (q16 : gp_R s 117 5 = some 122) (q17 : gp_R s 117 6 = none) (q18 : gp_R s 117 7 = none) (q19 : gp_R s 117 8 = none) (q20 : gp_R s 117 9 = none) (q21 : gp_R s 25 6 = none) (q22 : gp_R s 25 7 = none) (q23 : gp_R s 25 8 = none) (q24 : gp_R s 25 9 = none) (q25 : ∀ k, k < 8 → gp_R s 4 k = some 25) (q26 : gp_R s 51 6 = some 55) (q27 : gp_R s 51 7 = some 56) (q28 : gp_sh s 117 = (9, 10)) (q29 : gp_sh s 118 = (101, 1)) (q30 : gp_sh s 119 = (101, 1)) (q31 : gp_sh s 120 = (100, 1)) (q32 : gp_sh s 121 = (100, 1)) (q33 : gp_sh s 122 = (100, 1)) (k : K (some (gp_i 1)) s) : gs_C L d 2862 3 [gp_l (1#64), gp_i 0] s K := by
  refine s_2862_e _ _ ?_
  have e_1 : (1#64) >>> ((0 : Int) % 64).toNat = 1#64 := by decide
  try rw [e_1]
  have e_2 : (1#64) &&& (1#64) = 1#64 := by decide
  try rw [e_2]
  have e_3 : gp_cmp (1#64) (0#64) = 1 := by decide
  try rw [e_3]
  refine ⟨fun h_4 => ?_, fun h_4 => ?_⟩
  · exfalso; omega
  · refine s_2862_15 _ _ _ ?_
    refine ⟨by omega, ?_⟩
    exact k
set_option maxRecDepth 100000 in
/-- GatheredPoints.carried [0, 15] -/
theorem zx2863_0 {z : gH} {L d : Nat} {K : Option gV → gH → Prop} {s : gH}  (hs : xM z s)  (q0 : gp_I s 1 2 = 0) (q1 : gp_I s 1 6 = 0) (q2 : gp_I s 1 7 = 1) (q3 : gp_I s 117 0 = 1) (q4 : gp_I s 120 0 = 0) (q5 : gp_I s 121 0 = 0) (q6 : gp_I s 122 0 = 0) (q7 : gp_I s 51 8 = 0) (q8 : gp_I s 57 1 = 0) (q9 : gp_I s 57 3 = 0) (q10 : gp_L s 118 0 = 0#64) (q11 : gp_L s 119 0 = 0#64) (q12 : gp_R s 117 1 = some 118) (q13 : gp_R s 117 2 = some 119) (q14 : gp_R s 117 3 = some 120) (q15 : gp_R s 117 4 = some 121) (q16 : gp_R s 117 5 = some 122) (q17 : gp_R s 117 6 = none) (q18 : gp_R s 117 7 = none) (q19 : gp_R s 117 8 = none) (q20 : gp_R s 117 9 = none) (q21 : gp_R s 25 6 = none) (q22 : gp_R s 25 7 = none) (q23 : gp_R s 25 8 = none) (q24 : gp_R s 25 9 = none) (q25 : ∀ k, k < 8 → gp_R s 4 k = some 25) (q26 : gp_R s 51 6 = some 55) (q27 : gp_R s 51 7 = some 56) (q28 : gp_sh s 117 = (9, 10)) (q29 : gp_sh s 118 = (101, 1)) (q30 : gp_sh s 119 = (101, 1)) (q31 : gp_sh s 120 = (100, 1)) (q32 : gp_sh s 121 = (100, 1)) (q33 : gp_sh s 122 = (100, 1)) (k : K (some (gp_l (0#64))) s) : gs_C L (d + 1) 2863 7 [gp_l (0#64), gp_r (some 15)] s K := by
  refine s_2863_e _ _ ?_
  refine s_2863_5 _ _ _ _ ?_
  have e_2 : gp_cmp (0#64) (0#64) = 0 := by decide
  try rw [e_2]
  refine ⟨fun h_3 => ?_, fun h_3 => ?_⟩
  · exact k
  · exfalso; omega
set_option maxRecDepth 100000 in
/-- Pool.tableOf [(0, 0)] -/
theorem zx1032_0 {z : gH} {L d : Nat} {K : Option gV → gH → Prop} {s : gH}  (hs : xM z s)  (q0 : gp_I s 1 2 = 0) (q1 : gp_I s 1 6 = 0) (q2 : gp_I s 1 7 = 1) (q3 : gp_I s 51 8 = 0) (q4 : gp_I s 57 1 = 0) (q5 : gp_I s 57 3 = 0) (q6 : gp_I s 6 4 = 1) (q7 : gp_R s 25 6 = none) (q8 : gp_R s 25 7 = none) (q9 : gp_R s 25 8 = none) (q10 : gp_R s 25 9 = none) (q11 : ∀ k, k < 8 → gp_R s 4 k = some 25) (q12 : gp_R s 51 6 = some 55) (q13 : gp_R s 51 7 = some 56) (q14 : gp_us s = 606895) (q15 : gp_sz s = 117) (k : ∀ (t : gH), xM z t → (gp_I t 1 2 = 0) → (gp_I t 1 6 = 0) → (gp_I t 1 7 = 1) → (gp_I t 117 0 = 1) → (gp_I t 120 0 = 0) → (gp_I t 121 0 = 0) → (gp_I t 122 0 = 0) → (gp_I t 51 8 = 0) → (gp_I t 57 1 = 0) → (gp_I t 57 3 = 0) → (gp_I t 6 4 = 1) → (gp_L t 118 0 = 0#64) → (gp_L t 119 0 = 0#64) → (gp_R t 117 1 = some 118) → (gp_R t 117 2 = some 119) → (gp_R t 117 3 = some 120) → (gp_R t 117 4 = some 121) → (gp_R t 117 5 = some 122) → (gp_R t 117 6 = none) → (gp_R t 117 7 = none) → (gp_R t 117 8 = none) → (gp_R t 117 9 = none) → (gp_R t 25 6 = none) → (gp_R t 25 7 = none) → (gp_R t 25 8 = none) → (gp_R t 25 9 = none) → (∀ k, k < 8 → gp_R t 4 k = some 25) → (gp_R t 51 6 = some 55) → (gp_R t 51 7 = some 56) → (gp_sh t 117 = (9, 10)) → (gp_sh t 118 = (101, 1)) → (gp_sh t 119 = (101, 1)) → (gp_sh t 120 = (100, 1)) → (gp_sh t 121 = (100, 1)) → (gp_sh t 122 = (100, 1)) → (gp_us t = 606910) → (gp_sz t = 123) → K (some (gp_r (some 117))) t) : gs_C L (d + 2) 1032 8 [gp_r (some 6), gp_i 0] s K := by
  refine s_1032_e _ ?_
  refine zx2309_0 hs (by omega) (by omega) (by omega) (by omega) (by omega) (by omega) q7 q8 q9 q10 q11 q12 q13 (⟨_, rfl, ?_⟩)
  refine ⟨by omega, ?_⟩
  try rw [show gp_sz s = 117 from q15]
  intro s_1 e_2
  have hs_3 : xM z s_1 := by rw [e_2]; exact xI.new hs (by omega)
  have q_4 : gp_I s_1 1 2 = 0 := by rw [e_2, gz_nI q15 (by decide)]; exact q0
  have q_5 : gp_I s_1 1 6 = 0 := by rw [e_2, gz_nI q15 (by decide)]; exact q1
  have q_6 : gp_I s_1 1 7 = 1 := by rw [e_2, gz_nI q15 (by decide)]; exact q2
  have q_7 : gp_I s_1 51 8 = 0 := by rw [e_2, gz_nI q15 (by decide)]; exact q3
  have q_8 : gp_I s_1 57 1 = 0 := by rw [e_2, gz_nI q15 (by decide)]; exact q4
  have q_9 : gp_I s_1 57 3 = 0 := by rw [e_2, gz_nI q15 (by decide)]; exact q5
  have q_10 : gp_I s_1 6 4 = 1 := by rw [e_2, gz_nI q15 (by decide)]; exact q6
  have q_11 : gp_R s_1 25 6 = none := by rw [e_2, gz_nR q15 (by decide)]; exact q7
  have q_12 : gp_R s_1 25 7 = none := by rw [e_2, gz_nR q15 (by decide)]; exact q8
  have q_13 : gp_R s_1 25 8 = none := by rw [e_2, gz_nR q15 (by decide)]; exact q9
  have q_14 : gp_R s_1 25 9 = none := by rw [e_2, gz_nR q15 (by decide)]; exact q10
  have q_15 : ∀ k, k < 8 → gp_R s_1 4 k = some 25 := fun k hk => by rw [e_2, gz_nR q15 (by decide)]; exact q11 k hk
  have q_16 : gp_R s_1 51 6 = some 55 := by rw [e_2, gz_nR q15 (by decide)]; exact q12
  have q_17 : gp_R s_1 51 7 = some 56 := by rw [e_2, gz_nR q15 (by decide)]; exact q13
  have q_18 : gp_us s_1 = 606905 := by rw [e_2]; show gp_us s + 10 = 606905; rw [q14]; try rfl
  have q_19 : gp_sz s_1 = 118 := by rw [e_2]; exact congrArg Nat.succ q15
  have q_20 : gp_sh s_1 117 = (9, 10) := by rw [e_2]; exact gz_nSs q15
  have q_21 : gp_I s_1 117 0 = 0 := by rw [e_2]; exact gz_nIs q15
  have q_22 : gp_R s_1 117 1 = none := by rw [e_2]; exact gz_nRs q15
  have q_23 : gp_R s_1 117 2 = none := by rw [e_2]; exact gz_nRs q15
  have q_24 : gp_R s_1 117 3 = none := by rw [e_2]; exact gz_nRs q15
  have q_25 : gp_R s_1 117 4 = none := by rw [e_2]; exact gz_nRs q15
  have q_26 : gp_R s_1 117 5 = none := by rw [e_2]; exact gz_nRs q15
  have q_27 : gp_R s_1 117 6 = none := by rw [e_2]; exact gz_nRs q15
  have q_28 : gp_R s_1 117 7 = none := by rw [e_2]; exact gz_nRs q15
  have q_29 : gp_R s_1 117 8 = none := by rw [e_2]; exact gz_nRs q15
  have q_30 : gp_R s_1 117 9 = none := by rw [e_2]; exact gz_nRs q15
  refine zx3585_0 hs_3 (by omega) q_22 q_23 q_24 q_25 q_26 q_27 q_28 q_29 q_30 q_11 q_12 q_13 q_14 q_20 (⟨_, rfl, ?_⟩)
  refine zx2304_21 hs_3 (by omega) (by omega) (by omega) (by omega) (by omega) (by omega) (by omega) (by omega) q_22 q_23 q_24 q_25 q_26 q_27 q_28 q_29 q_30 q_11 q_12 q_13 q_14 q_15 q_16 q_17 q_20 q_18 q_19 (fun s_31 hs_32 q_33 q_34 q_35 q_36 q_37 q_38 q_39 q_40 q_41 q_42 q_43 q_44 q_45 q_46 q_47 q_48 q_49 q_50 q_51 q_52 q_53 q_54 q_55 q_56 q_57 q_58 q_59 q_60 q_61 q_62 q_63 q_64 q_65 q_66 q_67 q_68 q_69 => ⟨rfl, ?_⟩)
  refine s_1032_28 _ _ _ _ _ _ ?_
  try rw [show gp_I s_31 6 4 = 1 from q_43]
  refine ⟨fun h_71 => ?_, fun h_71 => ?_⟩
  · refine ⟨117, rfl, ?_⟩
    refine ⟨(by show (gp_sh s_31 117).1 = 9; rw [q_62]), ?_⟩
    try rw [show gp_I s_31 117 0 = 1 from q_36]
    refine ⟨fun h_72 => ?_, fun h_72 => ?_⟩
    · refine ⟨by omega, ?_⟩
      have f_73 := xr14 hs_32 ((0 : Int).toNat)
      have e_74 : gp_I s_31 14 (0 : Int).toNat = 0 := by omega
      try rw [e_74]
      refine zx2862_1 hs_32 (by omega) (by omega) (by omega) (by omega) (by omega) (by omega) (by omega) (by omega) (by omega) (by omega) q_44 q_45 q_46 q_47 q_48 q_49 q_50 q_51 q_52 q_53 q_54 q_55 q_56 q_57 q_58 q_59 q_60 q_61 q_62 q_63 q_64 q_65 q_66 q_67 (⟨_, rfl, ?_⟩)
      refine ⟨fun h_75 => ?_, fun h_75 => ?_⟩
      · exfalso; omega
      · refine ⟨by omega, ?_⟩
        intro s_76 e_77
        have hs_78 : xM z s_76 := by rw [e_77]; exact xw15 hs_32 _ _ (by omega)
        have q_79 : gp_I s_76 1 2 = 0 := by rw [e_77]; exact q_33
        have q_80 : gp_I s_76 1 6 = 0 := by rw [e_77]; exact q_34
        have q_81 : gp_I s_76 1 7 = 1 := by rw [e_77]; exact q_35
        have q_82 : gp_I s_76 117 0 = 1 := by rw [e_77]; exact q_36
        have q_83 : gp_I s_76 120 0 = 0 := by rw [e_77]; exact q_37
        have q_84 : gp_I s_76 121 0 = 0 := by rw [e_77]; exact q_38
        have q_85 : gp_I s_76 122 0 = 0 := by rw [e_77]; exact q_39
        have q_86 : gp_I s_76 51 8 = 0 := by rw [e_77]; exact q_40
        have q_87 : gp_I s_76 57 1 = 0 := by rw [e_77]; exact q_41
        have q_88 : gp_I s_76 57 3 = 0 := by rw [e_77]; exact q_42
        have q_89 : gp_I s_76 6 4 = 1 := by rw [e_77]; exact q_43
        have q_90 : gp_L s_76 118 0 = 0#64 := by rw [e_77]; exact q_44
        have q_91 : gp_L s_76 119 0 = 0#64 := by rw [e_77]; exact q_45
        have q_92 : gp_R s_76 117 1 = some 118 := by rw [e_77]; exact q_46
        have q_93 : gp_R s_76 117 2 = some 119 := by rw [e_77]; exact q_47
        have q_94 : gp_R s_76 117 3 = some 120 := by rw [e_77]; exact q_48
        have q_95 : gp_R s_76 117 4 = some 121 := by rw [e_77]; exact q_49
        have q_96 : gp_R s_76 117 5 = some 122 := by rw [e_77]; exact q_50
        have q_97 : gp_R s_76 117 6 = none := by rw [e_77]; exact q_51
        have q_98 : gp_R s_76 117 7 = none := by rw [e_77]; exact q_52
        have q_99 : gp_R s_76 117 8 = none := by rw [e_77]; exact q_53
        have q_100 : gp_R s_76 117 9 = none := by rw [e_77]; exact q_54
        have q_101 : gp_R s_76 25 6 = none := by rw [e_77]; exact q_55
        have q_102 : gp_R s_76 25 7 = none := by rw [e_77]; exact q_56
        have q_103 : gp_R s_76 25 8 = none := by rw [e_77]; exact q_57
        have q_104 : gp_R s_76 25 9 = none := by rw [e_77]; exact q_58
        have q_105 : ∀ k, k < 8 → gp_R s_76 4 k = some 25 := by rw [e_77]; exact q_59
        have q_106 : gp_R s_76 51 6 = some 55 := by rw [e_77]; exact q_60
        have q_107 : gp_R s_76 51 7 = some 56 := by rw [e_77]; exact q_61
        have q_108 : gp_sh s_76 117 = (9, 10) := by rw [e_77]; exact q_62
        have q_109 : gp_sh s_76 118 = (101, 1) := by rw [e_77]; exact q_63
        have q_110 : gp_sh s_76 119 = (101, 1) := by rw [e_77]; exact q_64
        have q_111 : gp_sh s_76 120 = (100, 1) := by rw [e_77]; exact q_65
        have q_112 : gp_sh s_76 121 = (100, 1) := by rw [e_77]; exact q_66
        have q_113 : gp_sh s_76 122 = (100, 1) := by rw [e_77]; exact q_67
        have q_114 : gp_us s_76 = 606910 := by rw [e_77]; exact q_68
        have q_115 : gp_sz s_76 = 123 := by rw [e_77]; exact q_69
        refine ⟨(by show (gp_sh s_76 117).1 = 9; rw [q_108]), ?_⟩
        try rw [show gp_R (gp_mk L s_76) 117 1 = some 118 from q_92]
        refine ⟨by omega, ?_⟩
        try rw [xr8 hs_78 ((0 : Int).toNat)]
        refine zx2863_0 hs_78 (by omega) (by omega) (by omega) (by omega) (by omega) (by omega) (by omega) (by omega) (by omega) (by omega) q_90 q_91 q_92 q_93 q_94 q_95 q_96 q_97 q_98 q_99 q_100 q_101 q_102 q_103 q_104 q_105 q_106 q_107 q_108 q_109 q_110 q_111 q_112 q_113 (⟨_, rfl, ?_⟩)
        refine ⟨118, rfl, ?_⟩
        refine ⟨⟨by show (gp_sh s_76 118).1 = 101; rw [q_109], by omega, by show 0 < ((gp_sh s_76 118).2 : Int); rw [q_109]; show 0 < 1; omega⟩, ?_⟩
        intro s_116 e_117
        have hs_118 : xM z s_116 := by rw [e_117]; exact xI.wLd hs_78 _ _ _ (by omega)
        have q_119 : gp_I s_116 1 2 = 0 := by rw [e_117]; exact q_79
        have q_120 : gp_I s_116 1 6 = 0 := by rw [e_117]; exact q_80
        have q_121 : gp_I s_116 1 7 = 1 := by rw [e_117]; exact q_81
        have q_122 : gp_I s_116 117 0 = 1 := by rw [e_117]; exact q_82
        have q_123 : gp_I s_116 120 0 = 0 := by rw [e_117]; exact q_83
        have q_124 : gp_I s_116 121 0 = 0 := by rw [e_117]; exact q_84
        have q_125 : gp_I s_116 122 0 = 0 := by rw [e_117]; exact q_85
        have q_126 : gp_I s_116 51 8 = 0 := by rw [e_117]; exact q_86
        have q_127 : gp_I s_116 57 1 = 0 := by rw [e_117]; exact q_87
        have q_128 : gp_I s_116 57 3 = 0 := by rw [e_117]; exact q_88
        have q_129 : gp_I s_116 6 4 = 1 := by rw [e_117]; exact q_89
        have q_130 : gp_L s_116 119 0 = 0#64 := by rw [e_117]; exact q_91
        have q_131 : gp_R s_116 117 1 = some 118 := by rw [e_117]; exact q_92
        have q_132 : gp_R s_116 117 2 = some 119 := by rw [e_117]; exact q_93
        have q_133 : gp_R s_116 117 3 = some 120 := by rw [e_117]; exact q_94
        have q_134 : gp_R s_116 117 4 = some 121 := by rw [e_117]; exact q_95
        have q_135 : gp_R s_116 117 5 = some 122 := by rw [e_117]; exact q_96
        have q_136 : gp_R s_116 117 6 = none := by rw [e_117]; exact q_97
        have q_137 : gp_R s_116 117 7 = none := by rw [e_117]; exact q_98
        have q_138 : gp_R s_116 117 8 = none := by rw [e_117]; exact q_99
        have q_139 : gp_R s_116 117 9 = none := by rw [e_117]; exact q_100
        have q_140 : gp_R s_116 25 6 = none := by rw [e_117]; exact q_101
        have q_141 : gp_R s_116 25 7 = none := by rw [e_117]; exact q_102
        have q_142 : gp_R s_116 25 8 = none := by rw [e_117]; exact q_103
        have q_143 : gp_R s_116 25 9 = none := by rw [e_117]; exact q_104
        have q_144 : ∀ k, k < 8 → gp_R s_116 4 k = some 25 := by rw [e_117]; exact q_105
        have q_145 : gp_R s_116 51 6 = some 55 := by rw [e_117]; exact q_106
        have q_146 : gp_R s_116 51 7 = some 56 := by rw [e_117]; exact q_107
        have q_147 : gp_sh s_116 117 = (9, 10) := by rw [e_117]; exact q_108
        have q_148 : gp_sh s_116 118 = (101, 1) := by rw [e_117]; exact q_109
        have q_149 : gp_sh s_116 119 = (101, 1) := by rw [e_117]; exact q_110
        have q_150 : gp_sh s_116 120 = (100, 1) := by rw [e_117]; exact q_111
        have q_151 : gp_sh s_116 121 = (100, 1) := by rw [e_117]; exact q_112
        have q_152 : gp_sh s_116 122 = (100, 1) := by rw [e_117]; exact q_113
        have q_153 : gp_us s_116 = 606910 := by rw [e_117]; exact q_114
        have q_154 : gp_sz s_116 = 123 := by rw [e_117]; exact q_115
        have q_155 : gp_L s_116 118 0 = 0#64 := by rw [e_117]; rfl
        refine ⟨(by show (gp_sh s_116 117).1 = 9; rw [q_147]), ?_⟩
        try rw [show gp_R (gp_mk L s_116) 117 2 = some 119 from q_132]
        refine ⟨by omega, ?_⟩
        try rw [xr9 hs_118 ((0 : Int).toNat)]
        refine zx2863_0 hs_118 (by omega) (by omega) (by omega) (by omega) (by omega) (by omega) (by omega) (by omega) (by omega) (by omega) q_155 q_130 q_131 q_132 q_133 q_134 q_135 q_136 q_137 q_138 q_139 q_140 q_141 q_142 q_143 q_144 q_145 q_146 q_147 q_148 q_149 q_150 q_151 q_152 (⟨_, rfl, ?_⟩)
        refine ⟨119, rfl, ?_⟩
        refine ⟨⟨by show (gp_sh s_116 119).1 = 101; rw [q_149], by omega, by show 0 < ((gp_sh s_116 119).2 : Int); rw [q_149]; show 0 < 1; omega⟩, ?_⟩
        intro s_156 e_157
        have hs_158 : xM z s_156 := by rw [e_157]; exact xI.wLd hs_118 _ _ _ (by omega)
        have q_159 : gp_I s_156 1 2 = 0 := by rw [e_157]; exact q_119
        have q_160 : gp_I s_156 1 6 = 0 := by rw [e_157]; exact q_120
        have q_161 : gp_I s_156 1 7 = 1 := by rw [e_157]; exact q_121
        have q_162 : gp_I s_156 117 0 = 1 := by rw [e_157]; exact q_122
        have q_163 : gp_I s_156 120 0 = 0 := by rw [e_157]; exact q_123
        have q_164 : gp_I s_156 121 0 = 0 := by rw [e_157]; exact q_124
        have q_165 : gp_I s_156 122 0 = 0 := by rw [e_157]; exact q_125
        have q_166 : gp_I s_156 51 8 = 0 := by rw [e_157]; exact q_126
        have q_167 : gp_I s_156 57 1 = 0 := by rw [e_157]; exact q_127
        have q_168 : gp_I s_156 57 3 = 0 := by rw [e_157]; exact q_128
        have q_169 : gp_I s_156 6 4 = 1 := by rw [e_157]; exact q_129
        have q_170 : gp_R s_156 117 1 = some 118 := by rw [e_157]; exact q_131
        have q_171 : gp_R s_156 117 2 = some 119 := by rw [e_157]; exact q_132
        have q_172 : gp_R s_156 117 3 = some 120 := by rw [e_157]; exact q_133
        have q_173 : gp_R s_156 117 4 = some 121 := by rw [e_157]; exact q_134
        have q_174 : gp_R s_156 117 5 = some 122 := by rw [e_157]; exact q_135
        have q_175 : gp_R s_156 117 6 = none := by rw [e_157]; exact q_136
        have q_176 : gp_R s_156 117 7 = none := by rw [e_157]; exact q_137
        have q_177 : gp_R s_156 117 8 = none := by rw [e_157]; exact q_138
        have q_178 : gp_R s_156 117 9 = none := by rw [e_157]; exact q_139
        have q_179 : gp_R s_156 25 6 = none := by rw [e_157]; exact q_140
        have q_180 : gp_R s_156 25 7 = none := by rw [e_157]; exact q_141
        have q_181 : gp_R s_156 25 8 = none := by rw [e_157]; exact q_142
        have q_182 : gp_R s_156 25 9 = none := by rw [e_157]; exact q_143
        have q_183 : ∀ k, k < 8 → gp_R s_156 4 k = some 25 := by rw [e_157]; exact q_144
        have q_184 : gp_R s_156 51 6 = some 55 := by rw [e_157]; exact q_145
        have q_185 : gp_R s_156 51 7 = some 56 := by rw [e_157]; exact q_146
        have q_186 : gp_sh s_156 117 = (9, 10) := by rw [e_157]; exact q_147
        have q_187 : gp_sh s_156 118 = (101, 1) := by rw [e_157]; exact q_148
        have q_188 : gp_sh s_156 119 = (101, 1) := by rw [e_157]; exact q_149
        have q_189 : gp_sh s_156 120 = (100, 1) := by rw [e_157]; exact q_150
        have q_190 : gp_sh s_156 121 = (100, 1) := by rw [e_157]; exact q_151
        have q_191 : gp_sh s_156 122 = (100, 1) := by rw [e_157]; exact q_152
        have q_192 : gp_us s_156 = 606910 := by rw [e_157]; exact q_153
        have q_193 : gp_sz s_156 = 123 := by rw [e_157]; exact q_154
        have q_194 : gp_L s_156 118 0 = 0#64 := by rw [e_157]; exact q_155
        have q_195 : gp_L s_156 119 0 = 0#64 := by rw [e_157]; rfl
        refine ⟨(by show (gp_sh s_156 117).1 = 9; rw [q_186]), ?_⟩
        try rw [show gp_R (gp_mk L s_156) 117 3 = some 120 from q_172]
        refine ⟨by omega, ?_⟩
        have f_196 := xr10 hs_158 ((0 : Int).toNat)
        have e_197 : gp_I s_156 10 (0 : Int).toNat = 0 := by omega
        try rw [e_197]
        refine ⟨120, rfl, ?_⟩
        refine ⟨⟨by show (gp_sh s_156 120).1 = 100; rw [q_189], by omega, by show 0 < ((gp_sh s_156 120).2 : Int); rw [q_189]; show 0 < 1; omega⟩, ?_⟩
        intro s_198 e_199
        have hs_200 : xM z s_198 := by rw [e_199]; exact xI.wId hs_158 _ _ _ (by omega)
        have q_201 : gp_I s_198 1 2 = 0 := by rw [e_199]; exact q_159
        have q_202 : gp_I s_198 1 6 = 0 := by rw [e_199]; exact q_160
        have q_203 : gp_I s_198 1 7 = 1 := by rw [e_199]; exact q_161
        have q_204 : gp_I s_198 117 0 = 1 := by rw [e_199]; exact q_162
        have q_205 : gp_I s_198 121 0 = 0 := by rw [e_199]; exact q_164
        have q_206 : gp_I s_198 122 0 = 0 := by rw [e_199]; exact q_165
        have q_207 : gp_I s_198 51 8 = 0 := by rw [e_199]; exact q_166
        have q_208 : gp_I s_198 57 1 = 0 := by rw [e_199]; exact q_167
        have q_209 : gp_I s_198 57 3 = 0 := by rw [e_199]; exact q_168
        have q_210 : gp_I s_198 6 4 = 1 := by rw [e_199]; exact q_169
        have q_211 : gp_R s_198 117 1 = some 118 := by rw [e_199]; exact q_170
        have q_212 : gp_R s_198 117 2 = some 119 := by rw [e_199]; exact q_171
        have q_213 : gp_R s_198 117 3 = some 120 := by rw [e_199]; exact q_172
        have q_214 : gp_R s_198 117 4 = some 121 := by rw [e_199]; exact q_173
        have q_215 : gp_R s_198 117 5 = some 122 := by rw [e_199]; exact q_174
        have q_216 : gp_R s_198 117 6 = none := by rw [e_199]; exact q_175
        have q_217 : gp_R s_198 117 7 = none := by rw [e_199]; exact q_176
        have q_218 : gp_R s_198 117 8 = none := by rw [e_199]; exact q_177
        have q_219 : gp_R s_198 117 9 = none := by rw [e_199]; exact q_178
        have q_220 : gp_R s_198 25 6 = none := by rw [e_199]; exact q_179
        have q_221 : gp_R s_198 25 7 = none := by rw [e_199]; exact q_180
        have q_222 : gp_R s_198 25 8 = none := by rw [e_199]; exact q_181
        have q_223 : gp_R s_198 25 9 = none := by rw [e_199]; exact q_182
        have q_224 : ∀ k, k < 8 → gp_R s_198 4 k = some 25 := by rw [e_199]; exact q_183
        have q_225 : gp_R s_198 51 6 = some 55 := by rw [e_199]; exact q_184
        have q_226 : gp_R s_198 51 7 = some 56 := by rw [e_199]; exact q_185
        have q_227 : gp_sh s_198 117 = (9, 10) := by rw [e_199]; exact q_186
        have q_228 : gp_sh s_198 118 = (101, 1) := by rw [e_199]; exact q_187
        have q_229 : gp_sh s_198 119 = (101, 1) := by rw [e_199]; exact q_188
        have q_230 : gp_sh s_198 120 = (100, 1) := by rw [e_199]; exact q_189
        have q_231 : gp_sh s_198 121 = (100, 1) := by rw [e_199]; exact q_190
        have q_232 : gp_sh s_198 122 = (100, 1) := by rw [e_199]; exact q_191
        have q_233 : gp_us s_198 = 606910 := by rw [e_199]; exact q_192
        have q_234 : gp_sz s_198 = 123 := by rw [e_199]; exact q_193
        have q_235 : gp_L s_198 118 0 = 0#64 := by rw [e_199]; exact q_194
        have q_236 : gp_L s_198 119 0 = 0#64 := by rw [e_199]; exact q_195
        have q_237 : gp_I s_198 120 0 = 0 := by rw [e_199]; rfl
        refine ⟨(by show (gp_sh s_198 117).1 = 9; rw [q_227]), ?_⟩
        try rw [show gp_R (gp_mk L s_198) 117 4 = some 121 from q_214]
        refine ⟨by omega, ?_⟩
        have f_239 := xr11 hs_200 ((0 : Int).toNat)
        have e_240 : gp_I s_198 11 (0 : Int).toNat = 0 := by omega
        try rw [e_240]
        refine ⟨121, rfl, ?_⟩
        refine ⟨⟨by show (gp_sh s_198 121).1 = 100; rw [q_231], by omega, by show 0 < ((gp_sh s_198 121).2 : Int); rw [q_231]; show 0 < 1; omega⟩, ?_⟩
        intro s_241 e_242
        have hs_243 : xM z s_241 := by rw [e_242]; exact xI.wId hs_200 _ _ _ (by omega)
        have q_244 : gp_I s_241 1 2 = 0 := by rw [e_242]; exact q_201
        have q_245 : gp_I s_241 1 6 = 0 := by rw [e_242]; exact q_202
        have q_246 : gp_I s_241 1 7 = 1 := by rw [e_242]; exact q_203
        have q_247 : gp_I s_241 117 0 = 1 := by rw [e_242]; exact q_204
        have q_248 : gp_I s_241 122 0 = 0 := by rw [e_242]; exact q_206
        have q_249 : gp_I s_241 51 8 = 0 := by rw [e_242]; exact q_207
        have q_250 : gp_I s_241 57 1 = 0 := by rw [e_242]; exact q_208
        have q_251 : gp_I s_241 57 3 = 0 := by rw [e_242]; exact q_209
        have q_252 : gp_I s_241 6 4 = 1 := by rw [e_242]; exact q_210
        have q_253 : gp_R s_241 117 1 = some 118 := by rw [e_242]; exact q_211
        have q_254 : gp_R s_241 117 2 = some 119 := by rw [e_242]; exact q_212
        have q_255 : gp_R s_241 117 3 = some 120 := by rw [e_242]; exact q_213
        have q_256 : gp_R s_241 117 4 = some 121 := by rw [e_242]; exact q_214
        have q_257 : gp_R s_241 117 5 = some 122 := by rw [e_242]; exact q_215
        have q_258 : gp_R s_241 117 6 = none := by rw [e_242]; exact q_216
        have q_259 : gp_R s_241 117 7 = none := by rw [e_242]; exact q_217
        have q_260 : gp_R s_241 117 8 = none := by rw [e_242]; exact q_218
        have q_261 : gp_R s_241 117 9 = none := by rw [e_242]; exact q_219
        have q_262 : gp_R s_241 25 6 = none := by rw [e_242]; exact q_220
        have q_263 : gp_R s_241 25 7 = none := by rw [e_242]; exact q_221
        have q_264 : gp_R s_241 25 8 = none := by rw [e_242]; exact q_222
        have q_265 : gp_R s_241 25 9 = none := by rw [e_242]; exact q_223
        have q_266 : ∀ k, k < 8 → gp_R s_241 4 k = some 25 := by rw [e_242]; exact q_224
        have q_267 : gp_R s_241 51 6 = some 55 := by rw [e_242]; exact q_225
        have q_268 : gp_R s_241 51 7 = some 56 := by rw [e_242]; exact q_226
        have q_269 : gp_sh s_241 117 = (9, 10) := by rw [e_242]; exact q_227
        have q_270 : gp_sh s_241 118 = (101, 1) := by rw [e_242]; exact q_228
        have q_271 : gp_sh s_241 119 = (101, 1) := by rw [e_242]; exact q_229
        have q_272 : gp_sh s_241 120 = (100, 1) := by rw [e_242]; exact q_230
        have q_273 : gp_sh s_241 121 = (100, 1) := by rw [e_242]; exact q_231
        have q_274 : gp_sh s_241 122 = (100, 1) := by rw [e_242]; exact q_232
        have q_275 : gp_us s_241 = 606910 := by rw [e_242]; exact q_233
        have q_276 : gp_sz s_241 = 123 := by rw [e_242]; exact q_234
        have q_277 : gp_L s_241 118 0 = 0#64 := by rw [e_242]; exact q_235
        have q_278 : gp_L s_241 119 0 = 0#64 := by rw [e_242]; exact q_236
        have q_279 : gp_I s_241 120 0 = 0 := by rw [e_242]; exact q_237
        have q_280 : gp_I s_241 121 0 = 0 := by rw [e_242]; rfl
        refine ⟨(by show (gp_sh s_241 117).1 = 9; rw [q_269]), ?_⟩
        try rw [show gp_R (gp_mk L s_241) 117 5 = some 122 from q_257]
        refine ⟨by omega, ?_⟩
        have f_282 := xr12 hs_243 ((0 : Int).toNat)
        have e_283 : gp_I s_241 12 (0 : Int).toNat = 0 := by omega
        try rw [e_283]
        refine ⟨122, rfl, ?_⟩
        refine ⟨⟨by show (gp_sh s_241 122).1 = 100; rw [q_274], by omega, by show 0 < ((gp_sh s_241 122).2 : Int); rw [q_274]; show 0 < 1; omega⟩, ?_⟩
        intro s_284 e_285
        have hs_286 : xM z s_284 := by rw [e_285]; exact xI.wId hs_243 _ _ _ (by omega)
        have q_287 : gp_I s_284 1 2 = 0 := by rw [e_285]; exact q_244
        have q_288 : gp_I s_284 1 6 = 0 := by rw [e_285]; exact q_245
        have q_289 : gp_I s_284 1 7 = 1 := by rw [e_285]; exact q_246
        have q_290 : gp_I s_284 117 0 = 1 := by rw [e_285]; exact q_247
        have q_291 : gp_I s_284 51 8 = 0 := by rw [e_285]; exact q_249
        have q_292 : gp_I s_284 57 1 = 0 := by rw [e_285]; exact q_250
        have q_293 : gp_I s_284 57 3 = 0 := by rw [e_285]; exact q_251
        have q_294 : gp_I s_284 6 4 = 1 := by rw [e_285]; exact q_252
        have q_295 : gp_R s_284 117 1 = some 118 := by rw [e_285]; exact q_253
        have q_296 : gp_R s_284 117 2 = some 119 := by rw [e_285]; exact q_254
        have q_297 : gp_R s_284 117 3 = some 120 := by rw [e_285]; exact q_255
        have q_298 : gp_R s_284 117 4 = some 121 := by rw [e_285]; exact q_256
        have q_299 : gp_R s_284 117 5 = some 122 := by rw [e_285]; exact q_257
        have q_300 : gp_R s_284 117 6 = none := by rw [e_285]; exact q_258
        have q_301 : gp_R s_284 117 7 = none := by rw [e_285]; exact q_259
        have q_302 : gp_R s_284 117 8 = none := by rw [e_285]; exact q_260
        have q_303 : gp_R s_284 117 9 = none := by rw [e_285]; exact q_261
        have q_304 : gp_R s_284 25 6 = none := by rw [e_285]; exact q_262
        have q_305 : gp_R s_284 25 7 = none := by rw [e_285]; exact q_263
        have q_306 : gp_R s_284 25 8 = none := by rw [e_285]; exact q_264
        have q_307 : gp_R s_284 25 9 = none := by rw [e_285]; exact q_265
        have q_308 : ∀ k, k < 8 → gp_R s_284 4 k = some 25 := by rw [e_285]; exact q_266
        have q_309 : gp_R s_284 51 6 = some 55 := by rw [e_285]; exact q_267
        have q_310 : gp_R s_284 51 7 = some 56 := by rw [e_285]; exact q_268
        have q_311 : gp_sh s_284 117 = (9, 10) := by rw [e_285]; exact q_269
        have q_312 : gp_sh s_284 118 = (101, 1) := by rw [e_285]; exact q_270
        have q_313 : gp_sh s_284 119 = (101, 1) := by rw [e_285]; exact q_271
        have q_314 : gp_sh s_284 120 = (100, 1) := by rw [e_285]; exact q_272
        have q_315 : gp_sh s_284 121 = (100, 1) := by rw [e_285]; exact q_273
        have q_316 : gp_sh s_284 122 = (100, 1) := by rw [e_285]; exact q_274
        have q_317 : gp_us s_284 = 606910 := by rw [e_285]; exact q_275
        have q_318 : gp_sz s_284 = 123 := by rw [e_285]; exact q_276
        have q_319 : gp_L s_284 118 0 = 0#64 := by rw [e_285]; exact q_277
        have q_320 : gp_L s_284 119 0 = 0#64 := by rw [e_285]; exact q_278
        have q_321 : gp_I s_284 120 0 = 0 := by rw [e_285]; exact q_279
        have q_322 : gp_I s_284 121 0 = 0 := by rw [e_285]; exact q_280
        have q_323 : gp_I s_284 122 0 = 0 := by rw [e_285]; rfl
        have w_325 := gz_w (0 + 1)
        have e_326 : gp_wr (0 + 1) = 1 := by omega
        try rw [e_326]
        refine s_1032_181 _ _ _ _ _ _ ?_
        have w_328 := gz_w (0 + 1)
        have e_329 : gp_wr (0 + 1) = 1 := by omega
        try rw [e_329]
        refine s_1032_28 _ _ _ _ _ _ ?_
        try rw [show gp_I s_284 6 4 = 1 from q_294]
        refine ⟨fun h_331 => ?_, fun h_331 => ?_⟩
        · exfalso; omega
        · refine s_1032_187 _ _ _ _ _ _ ?_
          exact k s_284 hs_286 (by omega) (by omega) (by omega) (by omega) (by omega) (by omega) (by omega) (by omega) (by omega) (by omega) (by omega) q_319 q_320 q_295 q_296 q_297 q_298 q_299 q_300 q_301 q_302 q_303 q_304 q_305 q_306 q_307 q_308 q_309 q_310 q_311 q_312 q_313 q_314 q_315 q_316 q_317 q_318
    · exfalso; omega
  · exfalso; omega
