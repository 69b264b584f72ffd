set_option maxRecDepth 100000 in
/-- GatheredPoints.waits [(0, 7), (6, 6)] -/
theorem zx2821_10 {z : gH} {L d : Nat} {K : Option gV → gH → Prop} {s : gH} (p0 : Int) (hs : xM z s) (h_p0 : 0 ≤ p0 ∧ p0 ≤ 7) (q0 : gp_I s 1 2 = 0) (q1 : gp_I s 1 6 = 0) (q2 : gp_I s 1 7 = 1) (q3 : gp_I s 51 8 = 0) (q4 : gp_I s 57 1 = 0) (q5 : gp_I s 57 3 = 0) (q6 : gp_I s 6 4 = 0) (q7 : gp_R s 25 6 = none) (q8 : gp_R s 25 7 = none) (q9 : gp_R s 25 8 = none) (q10 : gp_R s 25 9 = none) (q11 : ∀ k, k < 8 → gp_R s 4 k = some 25) (q12 : gp_R s 51 6 = some 55) (q13 : gp_R s 51 7 = some 56) (q14 : gp_us s = 606895) (q15 : gp_sz s = 117) (k : ∀ (t : gH), xM z t → (gp_I t 1 2 = 0) → (gp_I t 1 6 = 0) → (gp_I t 1 7 = 1) → (gp_I t 117 0 = 7) → (gp_I t 51 8 = 0) → (gp_I t 57 1 = 0) → (gp_I t 57 3 = 0) → (gp_I t 6 4 = 0) → (gp_R t 117 1 = some 118) → (gp_R t 117 2 = some 119) → (gp_R t 117 3 = some 120) → (gp_R t 117 4 = some 121) → (gp_R t 117 5 = some 122) → (gp_R t 117 6 = none) → (gp_R t 117 7 = none) → (gp_R t 117 8 = none) → (gp_R t 117 9 = none) → (gp_R t 25 6 = none) → (gp_R t 25 7 = none) → (gp_R t 25 8 = none) → (gp_R t 25 9 = none) → (gp_R t 51 6 = some 55) → (gp_R t 51 7 = some 56) → (gp_sh t 117 = (9, 10)) → (gp_sh t 118 = (101, 7)) → (gp_sh t 119 = (101, 7)) → (gp_sh t 120 = (100, 7)) → (gp_sh t 121 = (100, 7)) → (gp_sh t 122 = (100, 7)) → (gp_us t = 606940) → (gp_sz t = 123) → K (some (gp_i 7)) t) : gs_C L (d + 2) 2821 3 [gp_r (some 1), gp_i p0, gp_i 6] s K := by
  refine s_2821_e _ _ ?_
  refine zx2856_2 _ hs (by omega) (by omega) (by omega) (by omega) (by omega) (by omega) (by omega) q7 q8 q9 q10 q11 q12 q13 (⟨_, rfl, ?_⟩)
  refine ⟨fun h_1 => ?_, fun h_1 => ?_⟩
  · refine ⟨fun h_2 => ?_, fun h_2 => ?_⟩
    · exfalso; omega
    · refine ⟨fun h_3 => ?_, fun h_3 => ?_⟩
      · exfalso; omega
      · refine zx258_6 hs (by omega) (by omega) (by omega) (by omega) (by omega) (by omega) (by omega) q7 q8 q9 q10 q11 q12 q13 q14 q15 (fun s_5 hs_6 q_7 q_8 q_9 q_10 q_11 q_12 q_13 q_14 q_15 q_16 q_17 q_18 q_19 q_20 q_21 q_22 q_23 q_24 q_25 q_26 q_27 q_28 q_29 q_30 q_31 q_32 q_33 q_34 q_35 q_36 q_37 q_38 => ⟨_, rfl, ?_⟩)
        refine zx2854_6 _ hs_6 (by omega) (by omega) (by omega) (by omega) (by omega) (by omega) (by omega) (by omega) (by omega) q_15 q_16 q_17 q_18 q_19 q_20 q_21 q_22 q_23 q_24 q_25 q_26 q_27 q_28 q_29 q_30 q_31 q_32 q_33 q_34 q_35 q_36 q_37 q_38 (fun s_39 hs_40 q_41 q_42 q_43 q_44 q_45 q_46 q_47 q_48 q_49 q_50 q_51 q_52 q_53 q_54 q_55 q_56 q_57 q_58 q_59 q_60 q_61 q_62 q_63 q_64 q_65 q_66 q_67 q_68 q_69 q_70 q_71 => ⟨_, rfl, ?_⟩)
        exact k s_39 hs_40 (by omega) (by omega) (by omega) (by omega) (by omega) (by omega) (by omega) (by omega) q_49 q_50 q_51 q_52 q_53 q_54 q_55 q_56 q_57 q_58 q_59 q_60 q_61 q_62 q_63 q_64 q_65 q_66 q_67 q_68 q_69 q_70 q_71
  · exfalso; omega
set_option maxRecDepth 100000 in
/-- Table.<init> [117, (8, 8)] -/
theorem zx2304_7 {z : gH} {L d : Nat} {K : Option gV → gH → Prop} {s : gH}  (hs : xM z s)  (q0 : gp_I s 1 2 = 0) (q1 : gp_I s 1 6 = 0) (q2 : gp_I s 1 7 = 1) (q3 : gp_I s 117 0 = 0) (q4 : gp_I s 51 8 = 0) (q5 : gp_I s 57 1 = 0) (q6 : gp_I s 57 3 = 0) (q7 : gp_I s 6 4 = 0) (q8 : gp_R s 117 1 = none) (q9 : gp_R s 117 2 = none) (q10 : gp_R s 117 3 = none) (q11 : gp_R s 117 4 = none) (q12 : gp_R s 117 5 = none) (q13 : gp_R s 117 6 = none) (q14 : gp_R s 117 7 = none) (q15 : gp_R s 117 8 = none) (q16 : gp_R s 117 9 = none) (q17 : gp_R s 25 6 = none) (q18 : gp_R s 25 7 = none) (q19 : gp_R s 25 8 = none) (q20 : gp_R s 25 9 = none) (q21 : ∀ k, k < 8 → gp_R s 4 k = some 25) (q22 : gp_R s 51 6 = some 55) (q23 : gp_R s 51 7 = some 56) (q24 : gp_sh s 117 = (9, 10)) (q25 : gp_us s = 606905) (q26 : gp_sz s = 118) (k : ∀ (t : gH), xM z t → (gp_I t 1 2 = 0) → (gp_I t 1 6 = 0) → (gp_I t 1 7 = 1) → (gp_I t 117 0 = 8) → (gp_I t 51 8 = 0) → (gp_I t 57 1 = 0) → (gp_I t 57 3 = 0) → (gp_I t 6 4 = 0) → (gp_R t 117 1 = some 118) → (gp_R t 117 2 = some 119) → (gp_R t 117 3 = some 120) → (gp_R t 117 4 = some 121) → (gp_R t 117 5 = some 122) → (gp_R t 117 6 = none) → (gp_R t 117 7 = none) → (gp_R t 117 8 = none) → (gp_R t 117 9 = none) → (gp_R t 25 6 = none) → (gp_R t 25 7 = none) → (gp_R t 25 8 = none) → (gp_R t 25 9 = none) → (∀ k, k < 8 → gp_R t 4 k = some 25) → (gp_R t 51 6 = some 55) → (gp_R t 51 7 = some 56) → (gp_sh t 117 = (9, 10)) → (gp_sh t 118 = (101, 8)) → (gp_sh t 119 = (101, 8)) → (gp_sh t 120 = (100, 8)) → (gp_sh t 121 = (100, 8)) → (gp_sh t 122 = (100, 8)) → (gp_us t = 606945) → (gp_sz t = 123) → K none t) : gs_C L d 2304 2 [gp_r (some 117), gp_i 8] s K := by
  refine s_2304_e _ _ ?_
  refine ⟨117, rfl, ?_⟩
  refine ⟨(by show (gp_sh s 117).1 = 9; rw [q24]), ?_⟩
  intro s_1 e_2
  have hs_3 : xM z s_1 := by rw [e_2]; exact xI.wId hs _ _ _ (by omega)
  have q_4 : gp_I s_1 1 2 = 0 := by rw [e_2]; exact q0
  have q_5 : gp_I s_1 1 6 = 0 := by rw [e_2]; exact q1
  have q_6 : gp_I s_1 1 7 = 1 := by rw [e_2]; exact q2
  have q_7 : gp_I s_1 51 8 = 0 := by rw [e_2]; exact q4
  have q_8 : gp_I s_1 57 1 = 0 := by rw [e_2]; exact q5
  have q_9 : gp_I s_1 57 3 = 0 := by rw [e_2]; exact q6
  have q_10 : gp_I s_1 6 4 = 0 := by rw [e_2]; exact q7
  have q_11 : gp_R s_1 117 1 = none := by rw [e_2]; exact q8
  have q_12 : gp_R s_1 117 2 = none := by rw [e_2]; exact q9
  have q_13 : gp_R s_1 117 3 = none := by rw [e_2]; exact q10
  have q_14 : gp_R s_1 117 4 = none := by rw [e_2]; exact q11
  have q_15 : gp_R s_1 117 5 = none := by rw [e_2]; exact q12
  have q_16 : gp_R s_1 117 6 = none := by rw [e_2]; exact q13
  have q_17 : gp_R s_1 117 7 = none := by rw [e_2]; exact q14
  have q_18 : gp_R s_1 117 8 = none := by rw [e_2]; exact q15
  have q_19 : gp_R s_1 117 9 = none := by rw [e_2]; exact q16
  have q_20 : gp_R s_1 25 6 = none := by rw [e_2]; exact q17
  have q_21 : gp_R s_1 25 7 = none := by rw [e_2]; exact q18
  have q_22 : gp_R s_1 25 8 = none := by rw [e_2]; exact q19
  have q_23 : gp_R s_1 25 9 = none := by rw [e_2]; exact q20
  have q_24 : ∀ k, k < 8 → gp_R s_1 4 k = some 25 := by rw [e_2]; exact q21
  have q_25 : gp_R s_1 51 6 = some 55 := by rw [e_2]; exact q22
  have q_26 : gp_R s_1 51 7 = some 56 := by rw [e_2]; exact q23
  have q_27 : gp_sh s_1 117 = (9, 10) := by rw [e_2]; exact q24
  have q_28 : gp_us s_1 = 606905 := by rw [e_2]; exact q25
  have q_29 : gp_sz s_1 = 118 := by rw [e_2]; exact q26
  have q_30 : gp_I s_1 117 0 = 8 := by rw [e_2]; rfl
  refine ⟨by omega, ?_⟩
  refine ⟨by omega, ?_⟩
  try rw [show gp_sz s_1 = 118 from q_29]
  intro s_32 e_33
  have hs_34 : xM z s_32 := by rw [e_33]; exact xI.new hs_3 (by omega)
  have q_35 : gp_I s_32 1 2 = 0 := by rw [e_33, gz_nI q_29 (by decide)]; exact q_4
  have q_36 : gp_I s_32 1 6 = 0 := by rw [e_33, gz_nI q_29 (by decide)]; exact q_5
  have q_37 : gp_I s_32 1 7 = 1 := by rw [e_33, gz_nI q_29 (by decide)]; exact q_6
  have q_38 : gp_I s_32 51 8 = 0 := by rw [e_33, gz_nI q_29 (by decide)]; exact q_7
  have q_39 : gp_I s_32 57 1 = 0 := by rw [e_33, gz_nI q_29 (by decide)]; exact q_8
  have q_40 : gp_I s_32 57 3 = 0 := by rw [e_33, gz_nI q_29 (by decide)]; exact q_9
  have q_41 : gp_I s_32 6 4 = 0 := by rw [e_33, gz_nI q_29 (by decide)]; exact q_10
  have q_42 : gp_R s_32 117 1 = none := by rw [e_33, gz_nR q_29 (by decide)]; exact q_11
  have q_43 : gp_R s_32 117 2 = none := by rw [e_33, gz_nR q_29 (by decide)]; exact q_12
  have q_44 : gp_R s_32 117 3 = none := by rw [e_33, gz_nR q_29 (by decide)]; exact q_13
  have q_45 : gp_R s_32 117 4 = none := by rw [e_33, gz_nR q_29 (by decide)]; exact q_14
  have q_46 : gp_R s_32 117 5 = none := by rw [e_33, gz_nR q_29 (by decide)]; exact q_15
  have q_47 : gp_R s_32 117 6 = none := by rw [e_33, gz_nR q_29 (by decide)]; exact q_16
  have q_48 : gp_R s_32 117 7 = none := by rw [e_33, gz_nR q_29 (by decide)]; exact q_17
  have q_49 : gp_R s_32 117 8 = none := by rw [e_33, gz_nR q_29 (by decide)]; exact q_18
  have q_50 : gp_R s_32 117 9 = none := by rw [e_33, gz_nR q_29 (by decide)]; exact q_19
  have q_51 : gp_R s_32 25 6 = none := by rw [e_33, gz_nR q_29 (by decide)]; exact q_20
  have q_52 : gp_R s_32 25 7 = none := by rw [e_33, gz_nR q_29 (by decide)]; exact q_21
  have q_53 : gp_R s_32 25 8 = none := by rw [e_33, gz_nR q_29 (by decide)]; exact q_22
  have q_54 : gp_R s_32 25 9 = none := by rw [e_33, gz_nR q_29 (by decide)]; exact q_23
  have q_55 : ∀ k, k < 8 → gp_R s_32 4 k = some 25 := fun k hk => by rw [e_33, gz_nR q_29 (by decide)]; exact q_24 k hk
  have q_56 : gp_R s_32 51 6 = some 55 := by rw [e_33, gz_nR q_29 (by decide)]; exact q_25
  have q_57 : gp_R s_32 51 7 = some 56 := by rw [e_33, gz_nR q_29 (by decide)]; exact q_26
  have q_58 : gp_sh s_32 117 = (9, 10) := by rw [e_33, gz_nS q_29 (by decide)]; exact q_27
  have q_59 : gp_us s_32 = 606913 := by rw [e_33]; show gp_us s_1 + 8 = 606913; rw [q_28]; try rfl
  have q_60 : gp_sz s_32 = 119 := by rw [e_33]; exact congrArg Nat.succ q_29
  have q_61 : gp_I s_32 117 0 = 8 := by rw [e_33, gz_nI q_29 (by decide)]; exact q_30
  have q_62 : gp_sh s_32 118 = (101, 8) := by rw [e_33]; exact gz_nSs q_29
  refine ⟨(by show (gp_sh s_32 117).1 = 9; rw [q_58]), ?_⟩
  refine ⟨rfl, ?_⟩
  intro s_63 e_64
  have hs_65 : xM z s_63 := by rw [e_64]; exact xI.wR hs_34 _ _ _
  have q_66 : gp_I s_63 1 2 = 0 := by rw [e_64]; exact q_35
  have q_67 : gp_I s_63 1 6 = 0 := by rw [e_64]; exact q_36
  have q_68 : gp_I s_63 1 7 = 1 := by rw [e_64]; exact q_37
  have q_69 : gp_I s_63 51 8 = 0 := by rw [e_64]; exact q_38
  have q_70 : gp_I s_63 57 1 = 0 := by rw [e_64]; exact q_39
  have q_71 : gp_I s_63 57 3 = 0 := by rw [e_64]; exact q_40
  have q_72 : gp_I s_63 6 4 = 0 := by rw [e_64]; exact q_41
  have q_73 : gp_R s_63 117 2 = none := by rw [e_64]; exact q_43
  have q_74 : gp_R s_63 117 3 = none := by rw [e_64]; exact q_44
  have q_75 : gp_R s_63 117 4 = none := by rw [e_64]; exact q_45
  have q_76 : gp_R s_63 117 5 = none := by rw [e_64]; exact q_46
  have q_77 : gp_R s_63 117 6 = none := by rw [e_64]; exact q_47
  have q_78 : gp_R s_63 117 7 = none := by rw [e_64]; exact q_48
  have q_79 : gp_R s_63 117 8 = none := by rw [e_64]; exact q_49
  have q_80 : gp_R s_63 117 9 = none := by rw [e_64]; exact q_50
  have q_81 : gp_R s_63 25 6 = none := by rw [e_64]; exact q_51
  have q_82 : gp_R s_63 25 7 = none := by rw [e_64]; exact q_52
  have q_83 : gp_R s_63 25 8 = none := by rw [e_64]; exact q_53
  have q_84 : gp_R s_63 25 9 = none := by rw [e_64]; exact q_54
  have q_85 : ∀ k, k < 8 → gp_R s_63 4 k = some 25 := by rw [e_64]; exact q_55
  have q_86 : gp_R s_63 51 6 = some 55 := by rw [e_64]; exact q_56
  have q_87 : gp_R s_63 51 7 = some 56 := by rw [e_64]; exact q_57
  have q_88 : gp_sh s_63 117 = (9, 10) := by rw [e_64]; exact q_58
  have q_89 : gp_us s_63 = 606913 := by rw [e_64]; exact q_59
  have q_90 : gp_sz s_63 = 119 := by rw [e_64]; exact q_60
  have q_91 : gp_I s_63 117 0 = 8 := by rw [e_64]; exact q_61
  have q_92 : gp_sh s_63 118 = (101, 8) := by rw [e_64]; exact q_62
  have q_93 : gp_R s_63 117 1 = some 118 := by rw [e_64]; rfl
  refine ⟨by omega, ?_⟩
  refine ⟨by omega, ?_⟩
  try rw [show gp_sz s_63 = 119 from q_90]
  intro s_94 e_95
  have hs_96 : xM z s_94 := by rw [e_95]; exact xI.new hs_65 (by omega)
  have q_97 : gp_I s_94 1 2 = 0 := by rw [e_95, gz_nI q_90 (by decide)]; exact q_66
  have q_98 : gp_I s_94 1 6 = 0 := by rw [e_95, gz_nI q_90 (by decide)]; exact q_67
  have q_99 : gp_I s_94 1 7 = 1 := by rw [e_95, gz_nI q_90 (by decide)]; exact q_68
  have q_100 : gp_I s_94 51 8 = 0 := by rw [e_95, gz_nI q_90 (by decide)]; exact q_69
  have q_101 : gp_I s_94 57 1 = 0 := by rw [e_95, gz_nI q_90 (by decide)]; exact q_70
  have q_102 : gp_I s_94 57 3 = 0 := by rw [e_95, gz_nI q_90 (by decide)]; exact q_71
  have q_103 : gp_I s_94 6 4 = 0 := by rw [e_95, gz_nI q_90 (by decide)]; exact q_72
  have q_104 : gp_R s_94 117 2 = none := by rw [e_95, gz_nR q_90 (by decide)]; exact q_73
  have q_105 : gp_R s_94 117 3 = none := by rw [e_95, gz_nR q_90 (by decide)]; exact q_74
  have q_106 : gp_R s_94 117 4 = none := by rw [e_95, gz_nR q_90 (by decide)]; exact q_75
  have q_107 : gp_R s_94 117 5 = none := by rw [e_95, gz_nR q_90 (by decide)]; exact q_76
  have q_108 : gp_R s_94 117 6 = none := by rw [e_95, gz_nR q_90 (by decide)]; exact q_77
  have q_109 : gp_R s_94 117 7 = none := by rw [e_95, gz_nR q_90 (by decide)]; exact q_78
  have q_110 : gp_R s_94 117 8 = none := by rw [e_95, gz_nR q_90 (by decide)]; exact q_79
  have q_111 : gp_R s_94 117 9 = none := by rw [e_95, gz_nR q_90 (by decide)]; exact q_80
  have q_112 : gp_R s_94 25 6 = none := by rw [e_95, gz_nR q_90 (by decide)]; exact q_81
  have q_113 : gp_R s_94 25 7 = none := by rw [e_95, gz_nR q_90 (by decide)]; exact q_82
  have q_114 : gp_R s_94 25 8 = none := by rw [e_95, gz_nR q_90 (by decide)]; exact q_83
  have q_115 : gp_R s_94 25 9 = none := by rw [e_95, gz_nR q_90 (by decide)]; exact q_84
  have q_116 : ∀ k, k < 8 → gp_R s_94 4 k = some 25 := fun k hk => by rw [e_95, gz_nR q_90 (by decide)]; exact q_85 k hk
  have q_117 : gp_R s_94 51 6 = some 55 := by rw [e_95, gz_nR q_90 (by decide)]; exact q_86
  have q_118 : gp_R s_94 51 7 = some 56 := by rw [e_95, gz_nR q_90 (by decide)]; exact q_87
  have q_119 : gp_sh s_94 117 = (9, 10) := by rw [e_95, gz_nS q_90 (by decide)]; exact q_88
  have q_120 : gp_us s_94 = 606921 := by rw [e_95]; show gp_us s_63 + 8 = 606921; rw [q_89]; try rfl
  have q_121 : gp_sz s_94 = 120 := by rw [e_95]; exact congrArg Nat.succ q_90
  have q_122 : gp_I s_94 117 0 = 8 := by rw [e_95, gz_nI q_90 (by decide)]; exact q_91
  have q_123 : gp_sh s_94 118 = (101, 8) := by rw [e_95, gz_nS q_90 (by decide)]; exact q_92
  have q_124 : gp_R s_94 117 1 = some 118 := by rw [e_95, gz_nR q_90 (by decide)]; exact q_93
  have q_125 : gp_sh s_94 119 = (101, 8) := by rw [e_95]; exact gz_nSs q_90
  refine ⟨(by show (gp_sh s_94 117).1 = 9; rw [q_119]), ?_⟩
  refine ⟨rfl, ?_⟩
  intro s_126 e_127
  have hs_128 : xM z s_126 := by rw [e_127]; exact xI.wR hs_96 _ _ _
  have q_129 : gp_I s_126 1 2 = 0 := by rw [e_127]; exact q_97
  have q_130 : gp_I s_126 1 6 = 0 := by rw [e_127]; exact q_98
  have q_131 : gp_I s_126 1 7 = 1 := by rw [e_127]; exact q_99
  have q_132 : gp_I s_126 51 8 = 0 := by rw [e_127]; exact q_100
  have q_133 : gp_I s_126 57 1 = 0 := by rw [e_127]; exact q_101
  have q_134 : gp_I s_126 57 3 = 0 := by rw [e_127]; exact q_102
  have q_135 : gp_I s_126 6 4 = 0 := by rw [e_127]; exact q_103
  have q_136 : gp_R s_126 117 3 = none := by rw [e_127]; exact q_105
  have q_137 : gp_R s_126 117 4 = none := by rw [e_127]; exact q_106
  have q_138 : gp_R s_126 117 5 = none := by rw [e_127]; exact q_107
  have q_139 : gp_R s_126 117 6 = none := by rw [e_127]; exact q_108
  have q_140 : gp_R s_126 117 7 = none := by rw [e_127]; exact q_109
  have q_141 : gp_R s_126 117 8 = none := by rw [e_127]; exact q_110
  have q_142 : gp_R s_126 117 9 = none := by rw [e_127]; exact q_111
  have q_143 : gp_R s_126 25 6 = none := by rw [e_127]; exact q_112
  have q_144 : gp_R s_126 25 7 = none := by rw [e_127]; exact q_113
  have q_145 : gp_R s_126 25 8 = none := by rw [e_127]; exact q_114
  have q_146 : gp_R s_126 25 9 = none := by rw [e_127]; exact q_115
  have q_147 : ∀ k, k < 8 → gp_R s_126 4 k = some 25 := by rw [e_127]; exact q_116
  have q_148 : gp_R s_126 51 6 = some 55 := by rw [e_127]; exact q_117
  have q_149 : gp_R s_126 51 7 = some 56 := by rw [e_127]; exact q_118
  have q_150 : gp_sh s_126 117 = (9, 10) := by rw [e_127]; exact q_119
  have q_151 : gp_us s_126 = 606921 := by rw [e_127]; exact q_120
  have q_152 : gp_sz s_126 = 120 := by rw [e_127]; exact q_121
  have q_153 : gp_I s_126 117 0 = 8 := by rw [e_127]; exact q_122
  have q_154 : gp_sh s_126 118 = (101, 8) := by rw [e_127]; exact q_123
  have q_155 : gp_R s_126 117 1 = some 118 := by rw [e_127]; exact q_124
  have q_156 : gp_sh s_126 119 = (101, 8) := by rw [e_127]; exact q_125
  have q_157 : gp_R s_126 117 2 = some 119 := by rw [e_127]; rfl
  refine ⟨by omega, ?_⟩
  refine ⟨by omega, ?_⟩
  try rw [show gp_sz s_126 = 120 from q_152]
  intro s_158 e_159
  have hs_160 : xM z s_158 := by rw [e_159]; exact xI.new hs_128 (by omega)
  have q_161 : gp_I s_158 1 2 = 0 := by rw [e_159, gz_nI q_152 (by decide)]; exact q_129
  have q_162 : gp_I s_158 1 6 = 0 := by rw [e_159, gz_nI q_152 (by decide)]; exact q_130
  have q_163 : gp_I s_158 1 7 = 1 := by rw [e_159, gz_nI q_152 (by decide)]; exact q_131
  have q_164 : gp_I s_158 51 8 = 0 := by rw [e_159, gz_nI q_152 (by decide)]; exact q_132
  have q_165 : gp_I s_158 57 1 = 0 := by rw [e_159, gz_nI q_152 (by decide)]; exact q_133
  have q_166 : gp_I s_158 57 3 = 0 := by rw [e_159, gz_nI q_152 (by decide)]; exact q_134
  have q_167 : gp_I s_158 6 4 = 0 := by rw [e_159, gz_nI q_152 (by decide)]; exact q_135
  have q_168 : gp_R s_158 117 3 = none := by rw [e_159, gz_nR q_152 (by decide)]; exact q_136
  have q_169 : gp_R s_158 117 4 = none := by rw [e_159, gz_nR q_152 (by decide)]; exact q_137
  have q_170 : gp_R s_158 117 5 = none := by rw [e_159, gz_nR q_152 (by decide)]; exact q_138
  have q_171 : gp_R s_158 117 6 = none := by rw [e_159, gz_nR q_152 (by decide)]; exact q_139
  have q_172 : gp_R s_158 117 7 = none := by rw [e_159, gz_nR q_152 (by decide)]; exact q_140
  have q_173 : gp_R s_158 117 8 = none := by rw [e_159, gz_nR q_152 (by decide)]; exact q_141
  have q_174 : gp_R s_158 117 9 = none := by rw [e_159, gz_nR q_152 (by decide)]; exact q_142
  have q_175 : gp_R s_158 25 6 = none := by rw [e_159, gz_nR q_152 (by decide)]; exact q_143
  have q_176 : gp_R s_158 25 7 = none := by rw [e_159, gz_nR q_152 (by decide)]; exact q_144
  have q_177 : gp_R s_158 25 8 = none := by rw [e_159, gz_nR q_152 (by decide)]; exact q_145
  have q_178 : gp_R s_158 25 9 = none := by rw [e_159, gz_nR q_152 (by decide)]; exact q_146
  have q_179 : ∀ k, k < 8 → gp_R s_158 4 k = some 25 := fun k hk => by rw [e_159, gz_nR q_152 (by decide)]; exact q_147 k hk
  have q_180 : gp_R s_158 51 6 = some 55 := by rw [e_159, gz_nR q_152 (by decide)]; exact q_148
  have q_181 : gp_R s_158 51 7 = some 56 := by rw [e_159, gz_nR q_152 (by decide)]; exact q_149
  have q_182 : gp_sh s_158 117 = (9, 10) := by rw [e_159, gz_nS q_152 (by decide)]; exact q_150
  have q_183 : gp_us s_158 = 606929 := by rw [e_159]; show gp_us s_126 + 8 = 606929; rw [q_151]; try rfl
  have q_184 : gp_sz s_158 = 121 := by rw [e_159]; exact congrArg Nat.succ q_152
  have q_185 : gp_I s_158 117 0 = 8 := by rw [e_159, gz_nI q_152 (by decide)]; exact q_153
  have q_186 : gp_sh s_158 118 = (101, 8) := by rw [e_159, gz_nS q_152 (by decide)]; exact q_154
  have q_187 : gp_R s_158 117 1 = some 118 := by rw [e_159, gz_nR q_152 (by decide)]; exact q_155
  have q_188 : gp_sh s_158 119 = (101, 8) := by rw [e_159, gz_nS q_152 (by decide)]; exact q_156
  have q_189 : gp_R s_158 117 2 = some 119 := by rw [e_159, gz_nR q_152 (by decide)]; exact q_157
  have q_190 : gp_sh s_158 120 = (100, 8) := by rw [e_159]; exact gz_nSs q_152
  refine ⟨(by show (gp_sh s_158 117).1 = 9; rw [q_182]), ?_⟩
  refine ⟨rfl, ?_⟩
  intro s_191 e_192
  have hs_193 : xM z s_191 := by rw [e_192]; exact xI.wR hs_160 _ _ _
  have q_194 : gp_I s_191 1 2 = 0 := by rw [e_192]; exact q_161
  have q_195 : gp_I s_191 1 6 = 0 := by rw [e_192]; exact q_162
  have q_196 : gp_I s_191 1 7 = 1 := by rw [e_192]; exact q_163
  have q_197 : gp_I s_191 51 8 = 0 := by rw [e_192]; exact q_164
  have q_198 : gp_I s_191 57 1 = 0 := by rw [e_192]; exact q_165
  have q_199 : gp_I s_191 57 3 = 0 := by rw [e_192]; exact q_166
  have q_200 : gp_I s_191 6 4 = 0 := by rw [e_192]; exact q_167
  have q_201 : gp_R s_191 117 4 = none := by rw [e_192]; exact q_169
  have q_202 : gp_R s_191 117 5 = none := by rw [e_192]; exact q_170
  have q_203 : gp_R s_191 117 6 = none := by rw [e_192]; exact q_171
  have q_204 : gp_R s_191 117 7 = none := by rw [e_192]; exact q_172
  have q_205 : gp_R s_191 117 8 = none := by rw [e_192]; exact q_173
  have q_206 : gp_R s_191 117 9 = none := by rw [e_192]; exact q_174
  have q_207 : gp_R s_191 25 6 = none := by rw [e_192]; exact q_175
  have q_208 : gp_R s_191 25 7 = none := by rw [e_192]; exact q_176
  have q_209 : gp_R s_191 25 8 = none := by rw [e_192]; exact q_177
  have q_210 : gp_R s_191 25 9 = none := by rw [e_192]; exact q_178
  have q_211 : ∀ k, k < 8 → gp_R s_191 4 k = some 25 := by rw [e_192]; exact q_179
  have q_212 : gp_R s_191 51 6 = some 55 := by rw [e_192]; exact q_180
  have q_213 : gp_R s_191 51 7 = some 56 := by rw [e_192]; exact q_181
  have q_214 : gp_sh s_191 117 = (9, 10) := by rw [e_192]; exact q_182
  have q_215 : gp_us s_191 = 606929 := by rw [e_192]; exact q_183
  have q_216 : gp_sz s_191 = 121 := by rw [e_192]; exact q_184
  have q_217 : gp_I s_191 117 0 = 8 := by rw [e_192]; exact q_185
  have q_218 : gp_sh s_191 118 = (101, 8) := by rw [e_192]; exact q_186
  have q_219 : gp_R s_191 117 1 = some 118 := by rw [e_192]; exact q_187
  have q_220 : gp_sh s_191 119 = (101, 8) := by rw [e_192]; exact q_188
  have q_221 : gp_R s_191 117 2 = some 119 := by rw [e_192]; exact q_189
  have q_222 : gp_sh s_191 120 = (100, 8) := by rw [e_192]; exact q_190
  have q_223 : gp_R s_191 117 3 = some 120 := by rw [e_192]; rfl
  refine ⟨by omega, ?_⟩
  refine ⟨by omega, ?_⟩
  try rw [show gp_sz s_191 = 121 from q_216]
  intro s_224 e_225
  have hs_226 : xM z s_224 := by rw [e_225]; exact xI.new hs_193 (by omega)
  have q_227 : gp_I s_224 1 2 = 0 := by rw [e_225, gz_nI q_216 (by decide)]; exact q_194
  have q_228 : gp_I s_224 1 6 = 0 := by rw [e_225, gz_nI q_216 (by decide)]; exact q_195
  have q_229 : gp_I s_224 1 7 = 1 := by rw [e_225, gz_nI q_216 (by decide)]; exact q_196
  have q_230 : gp_I s_224 51 8 = 0 := by rw [e_225, gz_nI q_216 (by decide)]; exact q_197
  have q_231 : gp_I s_224 57 1 = 0 := by rw [e_225, gz_nI q_216 (by decide)]; exact q_198
  have q_232 : gp_I s_224 57 3 = 0 := by rw [e_225, gz_nI q_216 (by decide)]; exact q_199
  have q_233 : gp_I s_224 6 4 = 0 := by rw [e_225, gz_nI q_216 (by decide)]; exact q_200
  have q_234 : gp_R s_224 117 4 = none := by rw [e_225, gz_nR q_216 (by decide)]; exact q_201
  have q_235 : gp_R s_224 117 5 = none := by rw [e_225, gz_nR q_216 (by decide)]; exact q_202
  have q_236 : gp_R s_224 117 6 = none := by rw [e_225, gz_nR q_216 (by decide)]; exact q_203
  have q_237 : gp_R s_224 117 7 = none := by rw [e_225, gz_nR q_216 (by decide)]; exact q_204
  have q_238 : gp_R s_224 117 8 = none := by rw [e_225, gz_nR q_216 (by decide)]; exact q_205
  have q_239 : gp_R s_224 117 9 = none := by rw [e_225, gz_nR q_216 (by decide)]; exact q_206
  have q_240 : gp_R s_224 25 6 = none := by rw [e_225, gz_nR q_216 (by decide)]; exact q_207
  have q_241 : gp_R s_224 25 7 = none := by rw [e_225, gz_nR q_216 (by decide)]; exact q_208
  have q_242 : gp_R s_224 25 8 = none := by rw [e_225, gz_nR q_216 (by decide)]; exact q_209
  have q_243 : gp_R s_224 25 9 = none := by rw [e_225, gz_nR q_216 (by decide)]; exact q_210
  have q_244 : ∀ k, k < 8 → gp_R s_224 4 k = some 25 := fun k hk => by rw [e_225, gz_nR q_216 (by decide)]; exact q_211 k hk
  have q_245 : gp_R s_224 51 6 = some 55 := by rw [e_225, gz_nR q_216 (by decide)]; exact q_212
  have q_246 : gp_R s_224 51 7 = some 56 := by rw [e_225, gz_nR q_216 (by decide)]; exact q_213
  have q_247 : gp_sh s_224 117 = (9, 10) := by rw [e_225, gz_nS q_216 (by decide)]; exact q_214
  have q_248 : gp_us s_224 = 606937 := by rw [e_225]; show gp_us s_191 + 8 = 606937; rw [q_215]; try rfl
  have q_249 : gp_sz s_224 = 122 := by rw [e_225]; exact congrArg Nat.succ q_216
  have q_250 : gp_I s_224 117 0 = 8 := by rw [e_225, gz_nI q_216 (by decide)]; exact q_217
  have q_251 : gp_sh s_224 118 = (101, 8) := by rw [e_225, gz_nS q_216 (by decide)]; exact q_218
  have q_252 : gp_R s_224 117 1 = some 118 := by rw [e_225, gz_nR q_216 (by decide)]; exact q_219
  have q_253 : gp_sh s_224 119 = (101, 8) := by rw [e_225, gz_nS q_216 (by decide)]; exact q_220
  have q_254 : gp_R s_224 117 2 = some 119 := by rw [e_225, gz_nR q_216 (by decide)]; exact q_221
  have q_255 : gp_sh s_224 120 = (100, 8) := by rw [e_225, gz_nS q_216 (by decide)]; exact q_222
  have q_256 : gp_R s_224 117 3 = some 120 := by rw [e_225, gz_nR q_216 (by decide)]; exact q_223
  have q_257 : gp_sh s_224 121 = (100, 8) := by rw [e_225]; exact gz_nSs q_216
  refine ⟨(by show (gp_sh s_224 117).1 = 9; rw [q_247]), ?_⟩
  refine ⟨rfl, ?_⟩
  intro s_258 e_259
  have hs_260 : xM z s_258 := by rw [e_259]; exact xI.wR hs_226 _ _ _
  have q_261 : gp_I s_258 1 2 = 0 := by rw [e_259]; exact q_227
  have q_262 : gp_I s_258 1 6 = 0 := by rw [e_259]; exact q_228
  have q_263 : gp_I s_258 1 7 = 1 := by rw [e_259]; exact q_229
  have q_264 : gp_I s_258 51 8 = 0 := by rw [e_259]; exact q_230
  have q_265 : gp_I s_258 57 1 = 0 := by rw [e_259]; exact q_231
  have q_266 : gp_I s_258 57 3 = 0 := by rw [e_259]; exact q_232
  have q_267 : gp_I s_258 6 4 = 0 := by rw [e_259]; exact q_233
  have q_268 : gp_R s_258 117 5 = none := by rw [e_259]; exact q_235
  have q_269 : gp_R s_258 117 6 = none := by rw [e_259]; exact q_236
  have q_270 : gp_R s_258 117 7 = none := by rw [e_259]; exact q_237
  have q_271 : gp_R s_258 117 8 = none := by rw [e_259]; exact q_238
  have q_272 : gp_R s_258 117 9 = none := by rw [e_259]; exact q_239
  have q_273 : gp_R s_258 25 6 = none := by rw [e_259]; exact q_240
  have q_274 : gp_R s_258 25 7 = none := by rw [e_259]; exact q_241
  have q_275 : gp_R s_258 25 8 = none := by rw [e_259]; exact q_242
  have q_276 : gp_R s_258 25 9 = none := by rw [e_259]; exact q_243
  have q_277 : ∀ k, k < 8 → gp_R s_258 4 k = some 25 := by rw [e_259]; exact q_244
  have q_278 : gp_R s_258 51 6 = some 55 := by rw [e_259]; exact q_245
  have q_279 : gp_R s_258 51 7 = some 56 := by rw [e_259]; exact q_246
  have q_280 : gp_sh s_258 117 = (9, 10) := by rw [e_259]; exact q_247
  have q_281 : gp_us s_258 = 606937 := by rw [e_259]; exact q_248
  have q_282 : gp_sz s_258 = 122 := by rw [e_259]; exact q_249
  have q_283 : gp_I s_258 117 0 = 8 := by rw [e_259]; exact q_250
  have q_284 : gp_sh s_258 118 = (101, 8) := by rw [e_259]; exact q_251
  have q_285 : gp_R s_258 117 1 = some 118 := by rw [e_259]; exact q_252
  have q_286 : gp_sh s_258 119 = (101, 8) := by rw [e_259]; exact q_253
  have q_287 : gp_R s_258 117 2 = some 119 := by rw [e_259]; exact q_254
  have q_288 : gp_sh s_258 120 = (100, 8) := by rw [e_259]; exact q_255
  have q_289 : gp_R s_258 117 3 = some 120 := by rw [e_259]; exact q_256
  have q_290 : gp_sh s_258 121 = (100, 8) := by rw [e_259]; exact q_257
  have q_291 : gp_R s_258 117 4 = some 121 := by rw [e_259]; rfl
  refine ⟨by omega, ?_⟩
  refine ⟨by omega, ?_⟩
  try rw [show gp_sz s_258 = 122 from q_282]
  intro s_292 e_293
  have hs_294 : xM z s_292 := by rw [e_293]; exact xI.new hs_260 (by omega)
  have q_295 : gp_I s_292 1 2 = 0 := by rw [e_293, gz_nI q_282 (by decide)]; exact q_261
  have q_296 : gp_I s_292 1 6 = 0 := by rw [e_293, gz_nI q_282 (by decide)]; exact q_262
  have q_297 : gp_I s_292 1 7 = 1 := by rw [e_293, gz_nI q_282 (by decide)]; exact q_263
  have q_298 : gp_I s_292 51 8 = 0 := by rw [e_293, gz_nI q_282 (by decide)]; exact q_264
  have q_299 : gp_I s_292 57 1 = 0 := by rw [e_293, gz_nI q_282 (by decide)]; exact q_265
  have q_300 : gp_I s_292 57 3 = 0 := by rw [e_293, gz_nI q_282 (by decide)]; exact q_266
  have q_301 : gp_I s_292 6 4 = 0 := by rw [e_293, gz_nI q_282 (by decide)]; exact q_267
  have q_302 : gp_R s_292 117 5 = none := by rw [e_293, gz_nR q_282 (by decide)]; exact q_268
  have q_303 : gp_R s_292 117 6 = none := by rw [e_293, gz_nR q_282 (by decide)]; exact q_269
  have q_304 : gp_R s_292 117 7 = none := by rw [e_293, gz_nR q_282 (by decide)]; exact q_270
  have q_305 : gp_R s_292 117 8 = none := by rw [e_293, gz_nR q_282 (by decide)]; exact q_271
  have q_306 : gp_R s_292 117 9 = none := by rw [e_293, gz_nR q_282 (by decide)]; exact q_272
  have q_307 : gp_R s_292 25 6 = none := by rw [e_293, gz_nR q_282 (by decide)]; exact q_273
  have q_308 : gp_R s_292 25 7 = none := by rw [e_293, gz_nR q_282 (by decide)]; exact q_274
  have q_309 : gp_R s_292 25 8 = none := by rw [e_293, gz_nR q_282 (by decide)]; exact q_275
  have q_310 : gp_R s_292 25 9 = none := by rw [e_293, gz_nR q_282 (by decide)]; exact q_276
  have q_311 : ∀ k, k < 8 → gp_R s_292 4 k = some 25 := fun k hk => by rw [e_293, gz_nR q_282 (by decide)]; exact q_277 k hk
  have q_312 : gp_R s_292 51 6 = some 55 := by rw [e_293, gz_nR q_282 (by decide)]; exact q_278
  have q_313 : gp_R s_292 51 7 = some 56 := by rw [e_293, gz_nR q_282 (by decide)]; exact q_279
  have q_314 : gp_sh s_292 117 = (9, 10) := by rw [e_293, gz_nS q_282 (by decide)]; exact q_280
  have q_315 : gp_us s_292 = 606945 := by rw [e_293]; show gp_us s_258 + 8 = 606945; rw [q_281]; try rfl
  have q_316 : gp_sz s_292 = 123 := by rw [e_293]; exact congrArg Nat.succ q_282
  have q_317 : gp_I s_292 117 0 = 8 := by rw [e_293, gz_nI q_282 (by decide)]; exact q_283
  have q_318 : gp_sh s_292 118 = (101, 8) := by rw [e_293, gz_nS q_282 (by decide)]; exact q_284
  have q_319 : gp_R s_292 117 1 = some 118 := by rw [e_293, gz_nR q_282 (by decide)]; exact q_285
  have q_320 : gp_sh s_292 119 = (101, 8) := by rw [e_293, gz_nS q_282 (by decide)]; exact q_286
  have q_321 : gp_R s_292 117 2 = some 119 := by rw [e_293, gz_nR q_282 (by decide)]; exact q_287
  have q_322 : gp_sh s_292 120 = (100, 8) := by rw [e_293, gz_nS q_282 (by decide)]; exact q_288
  have q_323 : gp_R s_292 117 3 = some 120 := by rw [e_293, gz_nR q_282 (by decide)]; exact q_289
  have q_324 : gp_sh s_292 121 = (100, 8) := by rw [e_293, gz_nS q_282 (by decide)]; exact q_290
  have q_325 : gp_R s_292 117 4 = some 121 := by rw [e_293, gz_nR q_282 (by decide)]; exact q_291
  have q_326 : gp_sh s_292 122 = (100, 8) := by rw [e_293]; exact gz_nSs q_282
  refine ⟨(by show (gp_sh s_292 117).1 = 9; rw [q_314]), ?_⟩
  refine ⟨rfl, ?_⟩
  intro s_327 e_328
  have hs_329 : xM z s_327 := by rw [e_328]; exact xI.wR hs_294 _ _ _
  have q_330 : gp_I s_327 1 2 = 0 := by rw [e_328]; exact q_295
  have q_331 : gp_I s_327 1 6 = 0 := by rw [e_328]; exact q_296
  have q_332 : gp_I s_327 1 7 = 1 := by rw [e_328]; exact q_297
  have q_333 : gp_I s_327 51 8 = 0 := by rw [e_328]; exact q_298
  have q_334 : gp_I s_327 57 1 = 0 := by rw [e_328]; exact q_299
  have q_335 : gp_I s_327 57 3 = 0 := by rw [e_328]; exact q_300
  have q_336 : gp_I s_327 6 4 = 0 := by rw [e_328]; exact q_301
  have q_337 : gp_R s_327 117 6 = none := by rw [e_328]; exact q_303
  have q_338 : gp_R s_327 117 7 = none := by rw [e_328]; exact q_304
  have q_339 : gp_R s_327 117 8 = none := by rw [e_328]; exact q_305
  have q_340 : gp_R s_327 117 9 = none := by rw [e_328]; exact q_306
  have q_341 : gp_R s_327 25 6 = none := by rw [e_328]; exact q_307
  have q_342 : gp_R s_327 25 7 = none := by rw [e_328]; exact q_308
  have q_343 : gp_R s_327 25 8 = none := by rw [e_328]; exact q_309
  have q_344 : gp_R s_327 25 9 = none := by rw [e_328]; exact q_310
  have q_345 : ∀ k, k < 8 → gp_R s_327 4 k = some 25 := by rw [e_328]; exact q_311
  have q_346 : gp_R s_327 51 6 = some 55 := by rw [e_328]; exact q_312
  have q_347 : gp_R s_327 51 7 = some 56 := by rw [e_328]; exact q_313
  have q_348 : gp_sh s_327 117 = (9, 10) := by rw [e_328]; exact q_314
  have q_349 : gp_us s_327 = 606945 := by rw [e_328]; exact q_315
  have q_350 : gp_sz s_327 = 123 := by rw [e_328]; exact q_316
  have q_351 : gp_I s_327 117 0 = 8 := by rw [e_328]; exact q_317
  have q_352 : gp_sh s_327 118 = (101, 8) := by rw [e_328]; exact q_318
  have q_353 : gp_R s_327 117 1 = some 118 := by rw [e_328]; exact q_319
  have q_354 : gp_sh s_327 119 = (101, 8) := by rw [e_328]; exact q_320
  have q_355 : gp_R s_327 117 2 = some 119 := by rw [e_328]; exact q_321
  have q_356 : gp_sh s_327 120 = (100, 8) := by rw [e_328]; exact q_322
  have q_357 : gp_R s_327 117 3 = some 120 := by rw [e_328]; exact q_323
  have q_358 : gp_sh s_327 121 = (100, 8) := by rw [e_328]; exact q_324
  have q_359 : gp_R s_327 117 4 = some 121 := by rw [e_328]; exact q_325
  have q_360 : gp_sh s_327 122 = (100, 8) := by rw [e_328]; exact q_326
  have q_361 : gp_R s_327 117 5 = some 122 := by rw [e_328]; rfl
  exact k s_327 hs_329 (by omega) (by omega) (by omega) (by omega) (by omega) (by omega) (by omega) (by omega) q_353 q_355 q_357 q_359 q_361 q_337 q_338 q_339 q_340 q_341 q_342 q_343 q_344 q_345 q_346 q_347 q_348 q_352 q_354 q_356 q_358 q_360 q_349 q_350
set_option maxRecDepth 100000 in
/-- Maker.pauses, the loop at 13 -/
theorem zx258_7_l13_0 {z : gH} {L d : Nat} {K : Option gV → gH → Prop}   (k : ∀ (t : gH), xM z t → (gp_I t 1 2 = 0) → (gp_I t 1 6 = 0) → (gp_I t 1 7 = 1) → (gp_I t 117 0 = 8) → (gp_I t 51 8 = 0) → (gp_I t 57 1 = 0) → (gp_I t 57 3 = 0) → (gp_I t 6 4 = 0) → (gp_R t 117 1 = some 118) → (gp_R t 117 2 = some 119) → (gp_R t 117 3 = some 120) → (gp_R t 117 4 = some 121) → (gp_R t 117 5 = some 122) → (gp_R t 117 6 = none) → (gp_R t 117 7 = none) → (gp_R t 117 8 = none) → (gp_R t 117 9 = none) → (gp_R t 25 6 = none) → (gp_R t 25 7 = none) → (gp_R t 25 8 = none) → (gp_R t 25 9 = none) → (∀ k, k < 8 → gp_R t 4 k = some 25) → (gp_R t 51 6 = some 55) → (gp_R t 51 7 = some 56) → (gp_sh t 117 = (9, 10)) → (gp_sh t 118 = (101, 8)) → (gp_sh t 119 = (101, 8)) → (gp_sh t 120 = (100, 8)) → (gp_sh t 121 = (100, 8)) → (gp_sh t 122 = (100, 8)) → (gp_us t = 606945) → (gp_sz t = 123) → K (some (gp_r (some 117))) t)  : ∀ (n : Nat) (v1 : Int) (v2 : Option Nat) (v3 : Int) (s : gH), xM z s → (61 - v3).toNat < n → (v1 = 7) → (v2 = some 117) → (1 ≤ v3 ∧ v3 ≤ 60) → (gp_I s 1 2 = 0) → (gp_I s 1 6 = 0) → (gp_I s 1 7 = 1) → (gp_I s 117 0 = 8) → (gp_I s 51 8 = 0) → (gp_I s 57 1 = 0) → (gp_I s 57 3 = 0) → (gp_I s 6 4 = 0) → (gp_R s 117 1 = some 118) → (gp_R s 117 2 = some 119) → (gp_R s 117 3 = some 120) → (gp_R s 117 4 = some 121) → (gp_R s 117 5 = some 122) → (gp_R s 117 6 = none) → (gp_R s 117 7 = none) → (gp_R s 117 8 = none) → (gp_R s 117 9 = none) → (gp_R s 25 6 = none) → (gp_R s 25 7 = none) → (gp_R s 25 8 = none) → (gp_R s 25 9 = none) → (∀ k, k < 8 → gp_R s 4 k = some 25) → (gp_R s 51 6 = some 55) → (gp_R s 51 7 = some 56) → (gp_sh s 117 = (9, 10)) → (gp_sh s 118 = (101, 8)) → (gp_sh s 119 = (101, 8)) → (gp_sh s 120 = (100, 8)) → (gp_sh s 121 = (100, 8)) → (gp_sh s 122 = (100, 8)) → (gp_us s = 606945) → (gp_sz s = 123) → gs_E L (d + 1) 258 13 [gp_r (some 20), gp_i v1, gp_r v2, gp_i v3] [] s K := by
  intro n
  induction n with
  | zero => intro v1 v2 v3 s hs hm i0 i1 i2 i3 i4 i5 i6 i7 i8 i9 i10 i11 i12 i13 i14 i15 i16 i17 i18 i19 i20 i21 i22 i23 i24 i25 i26 i27 i28 i29 i30 i31 i32 i33 i34; exact absurd hm (Nat.not_lt_zero _)
  | succ n ih =>
    intro v1 v2 v3 s hs hm i0 i1 i2 i3 i4 i5 i6 i7 i8 i9 i10 i11 i12 i13 i14 i15 i16 i17 i18 i19 i20 i21 i22 i23 i24 i25 i26 i27 i28 i29 i30 i31 i32 i33 i34
    subst i0
    subst i1
    refine s_258_13 _ _ _ ?_
    refine ⟨fun h_1 => ?_, fun h_1 => ?_⟩
    · exact k s hs (by omega) (by omega) (by omega) (by omega) (by omega) (by omega) (by omega) (by omega) i11 i12 i13 i14 i15 i16 i17 i18 i19 i20 i21 i22 i23 i24 i25 i26 i27 i28 i29 i30 i31 i32 i33 i34
    · refine ⟨117, rfl, ?_⟩
      refine ⟨(by show (gp_sh s 117).1 = 9; rw [i27]), ?_⟩
      try rw [show gp_R (gp_mk L s) 117 1 = some 118 from i11]
      have w_2 := gz_w (v3 - 1)
      refine ⟨118, rfl, ?_⟩
      refine ⟨⟨by show (gp_sh s 118).1 = 101; rw [i28], by omega, by show v3 < ((gp_sh s 118).2 : Int); rw [i28]; show v3 < 8; omega⟩, ?_⟩
      intro s_3 e_4
      have hs_5 : xM z s_3 := by rw [e_4]; exact xI.wLd hs _ _ _ (by omega)
      have q_6 : gp_I s_3 1 2 = 0 := by rw [e_4]; exact i3
      have q_7 : gp_I s_3 1 6 = 0 := by rw [e_4]; exact i4
      have q_8 : gp_I s_3 1 7 = 1 := by rw [e_4]; exact i5
      have q_9 : gp_I s_3 117 0 = 8 := by rw [e_4]; exact i6
      have q_10 : gp_I s_3 51 8 = 0 := by rw [e_4]; exact i7
      have q_11 : gp_I s_3 57 1 = 0 := by rw [e_4]; exact i8
      have q_12 : gp_I s_3 57 3 = 0 := by rw [e_4]; exact i9
      have q_13 : gp_I s_3 6 4 = 0 := by rw [e_4]; exact i10
      have q_14 : gp_R s_3 117 1 = some 118 := by rw [e_4]; exact i11
      have q_15 : gp_R s_3 117 2 = some 119 := by rw [e_4]; exact i12
      have q_16 : gp_R s_3 117 3 = some 120 := by rw [e_4]; exact i13
      have q_17 : gp_R s_3 117 4 = some 121 := by rw [e_4]; exact i14
      have q_18 : gp_R s_3 117 5 = some 122 := by rw [e_4]; exact i15
      have q_19 : gp_R s_3 117 6 = none := by rw [e_4]; exact i16
      have q_20 : gp_R s_3 117 7 = none := by rw [e_4]; exact i17
      have q_21 : gp_R s_3 117 8 = none := by rw [e_4]; exact i18
      have q_22 : gp_R s_3 117 9 = none := by rw [e_4]; exact i19
      have q_23 : gp_R s_3 25 6 = none := by rw [e_4]; exact i20
      have q_24 : gp_R s_3 25 7 = none := by rw [e_4]; exact i21
      have q_25 : gp_R s_3 25 8 = none := by rw [e_4]; exact i22
      have q_26 : gp_R s_3 25 9 = none := by rw [e_4]; exact i23
      have q_27 : ∀ k, k < 8 → gp_R s_3 4 k = some 25 := by rw [e_4]; exact i24
      have q_28 : gp_R s_3 51 6 = some 55 := by rw [e_4]; exact i25
      have q_29 : gp_R s_3 51 7 = some 56 := by rw [e_4]; exact i26
      have q_30 : gp_sh s_3 117 = (9, 10) := by rw [e_4]; exact i27
      have q_31 : gp_sh s_3 118 = (101, 8) := by rw [e_4]; exact i28
      have q_32 : gp_sh s_3 119 = (101, 8) := by rw [e_4]; exact i29
      have q_33 : gp_sh s_3 120 = (100, 8) := by rw [e_4]; exact i30
      have q_34 : gp_sh s_3 121 = (100, 8) := by rw [e_4]; exact i31
      have q_35 : gp_sh s_3 122 = (100, 8) := by rw [e_4]; exact i32
      have q_36 : gp_us s_3 = 606945 := by rw [e_4]; exact i33
      have q_37 : gp_sz s_3 = 123 := by rw [e_4]; exact i34
      refine ⟨(by show (gp_sh s_3 117).1 = 9; rw [q_30]), ?_⟩
      try rw [show gp_R (gp_mk L s_3) 117 5 = some 122 from q_18]
      refine ⟨122, rfl, ?_⟩
      refine ⟨⟨by show (gp_sh s_3 122).1 = 100; rw [q_35], by omega, by show v3 < ((gp_sh s_3 122).2 : Int); rw [q_35]; show v3 < 8; omega⟩, ?_⟩
      intro s_38 e_39
      have hs_40 : xM z s_38 := by rw [e_39]; exact xI.wId hs_5 _ _ _ (by omega)
      have q_41 : gp_I s_38 1 2 = 0 := by rw [e_39]; exact q_6
      have q_42 : gp_I s_38 1 6 = 0 := by rw [e_39]; exact q_7
      have q_43 : gp_I s_38 1 7 = 1 := by rw [e_39]; exact q_8
      have q_44 : gp_I s_38 117 0 = 8 := by rw [e_39]; exact q_9
      have q_45 : gp_I s_38 51 8 = 0 := by rw [e_39]; exact q_10
      have q_46 : gp_I s_38 57 1 = 0 := by rw [e_39]; exact q_11
      have q_47 : gp_I s_38 57 3 = 0 := by rw [e_39]; exact q_12
      have q_48 : gp_I s_38 6 4 = 0 := by rw [e_39]; exact q_13
      have q_49 : gp_R s_38 117 1 = some 118 := by rw [e_39]; exact q_14
      have q_50 : gp_R s_38 117 2 = some 119 := by rw [e_39]; exact q_15
      have q_51 : gp_R s_38 117 3 = some 120 := by rw [e_39]; exact q_16
      have q_52 : gp_R s_38 117 4 = some 121 := by rw [e_39]; exact q_17
      have q_53 : gp_R s_38 117 5 = some 122 := by rw [e_39]; exact q_18
      have q_54 : gp_R s_38 117 6 = none := by rw [e_39]; exact q_19
      have q_55 : gp_R s_38 117 7 = none := by rw [e_39]; exact q_20
      have q_56 : gp_R s_38 117 8 = none := by rw [e_39]; exact q_21
      have q_57 : gp_R s_38 117 9 = none := by rw [e_39]; exact q_22
      have q_58 : gp_R s_38 25 6 = none := by rw [e_39]; exact q_23
      have q_59 : gp_R s_38 25 7 = none := by rw [e_39]; exact q_24
      have q_60 : gp_R s_38 25 8 = none := by rw [e_39]; exact q_25
      have q_61 : gp_R s_38 25 9 = none := by rw [e_39]; exact q_26
      have q_62 : ∀ k, k < 8 → gp_R s_38 4 k = some 25 := by rw [e_39]; exact q_27
      have q_63 : gp_R s_38 51 6 = some 55 := by rw [e_39]; exact q_28
      have q_64 : gp_R s_38 51 7 = some 56 := by rw [e_39]; exact q_29
      have q_65 : gp_sh s_38 117 = (9, 10) := by rw [e_39]; exact q_30
      have q_66 : gp_sh s_38 118 = (101, 8) := by rw [e_39]; exact q_31
      have q_67 : gp_sh s_38 119 = (101, 8) := by rw [e_39]; exact q_32
      have q_68 : gp_sh s_38 120 = (100, 8) := by rw [e_39]; exact q_33
      have q_69 : gp_sh s_38 121 = (100, 8) := by rw [e_39]; exact q_34
      have q_70 : gp_sh s_38 122 = (100, 8) := by rw [e_39]; exact q_35
      have q_71 : gp_us s_38 = 606945 := by rw [e_39]; exact q_36
      have q_72 : gp_sz s_38 = 123 := by rw [e_39]; exact q_37
      have w_73 := gz_w (v3 + 1)
      exact ih _ _ _ s_38 hs_40 (by omega) (by omega) rfl (by omega) (by omega) (by omega) (by omega) (by omega) (by omega) (by omega) (by omega) (by omega) q_49 q_50 q_51 q_52 q_53 q_54 q_55 q_56 q_57 q_58 q_59 q_60 q_61 q_62 q_63 q_64 q_65 q_66 q_67 q_68 q_69 q_70 q_71 q_72
set_option maxRecDepth 100000 in
/-- Maker.pauses [(7, 7)] -/
theorem zx258_7 {z : gH} {L d : Nat} {K : Option gV → gH → Prop} {s : gH}  (hs : xM z s)  (q0 : gp_I s 1 2 = 0) (q1 : gp_I s 1 6 = 0) (q2 : gp_I s 1 7 = 1) (q3 : gp_I s 51 8 = 0) (q4 : gp_I s 57 1 = 0) (q5 : gp_I s 57 3 = 0) (q6 : gp_I s 6 4 = 0) (q7 : gp_R s 25 6 = none) (q8 : gp_R s 25 7 = none) (q9 : gp_R s 25 8 = none) (q10 : gp_R s 25 9 = none) (q11 : ∀ k, k < 8 → gp_R s 4 k = some 25) (q12 : gp_R s 51 6 = some 55) (q13 : gp_R s 51 7 = some 56) (q14 : gp_us s = 606895) (q15 : gp_sz s = 117) (k : ∀ (t : gH), xM z t → (gp_I t 1 2 = 0) → (gp_I t 1 6 = 0) → (gp_I t 1 7 = 1) → (gp_I t 117 0 = 8) → (gp_I t 51 8 = 0) → (gp_I t 57 1 = 0) → (gp_I t 57 3 = 0) → (gp_I t 6 4 = 0) → (gp_R t 117 1 = some 118) → (gp_R t 117 2 = some 119) → (gp_R t 117 3 = some 120) → (gp_R t 117 4 = some 121) → (gp_R t 117 5 = some 122) → (gp_R t 117 6 = none) → (gp_R t 117 7 = none) → (gp_R t 117 8 = none) → (gp_R t 117 9 = none) → (gp_R t 25 6 = none) → (gp_R t 25 7 = none) → (gp_R t 25 8 = none) → (gp_R t 25 9 = none) → (∀ k, k < 8 → gp_R t 4 k = some 25) → (gp_R t 51 6 = some 55) → (gp_R t 51 7 = some 56) → (gp_sh t 117 = (9, 10)) → (gp_sh t 118 = (101, 8)) → (gp_sh t 119 = (101, 8)) → (gp_sh t 120 = (100, 8)) → (gp_sh t 121 = (100, 8)) → (gp_sh t 122 = (100, 8)) → (gp_us t = 606945) → (gp_sz t = 123) → K (some (gp_r (some 117))) t) : gs_C L (d + 1) 258 4 [gp_r (some 20), gp_i 7] s K := by
  refine s_258_e _ ?_
  refine ⟨by omega, ?_⟩
  try rw [show gp_sz s = 117 from q15]
  intro s_1 e_2
  have hs_3 : xM z s_1 := by rw [e_2]; exact xI.new hs (by omega)
  have q_4 : gp_I s_1 1 2 = 0 := by rw [e_2, gz_nI q15 (by decide)]; exact q0
  have q_5 : gp_I s_1 1 6 = 0 := by rw [e_2, gz_nI q15 (by decide)]; exact q1
  have q_6 : gp_I s_1 1 7 = 1 := by rw [e_2, gz_nI q15 (by decide)]; exact q2
  have q_7 : gp_I s_1 51 8 = 0 := by rw [e_2, gz_nI q15 (by decide)]; exact q3
  have q_8 : gp_I s_1 57 1 = 0 := by rw [e_2, gz_nI q15 (by decide)]; exact q4
  have q_9 : gp_I s_1 57 3 = 0 := by rw [e_2, gz_nI q15 (by decide)]; exact q5
  have q_10 : gp_I s_1 6 4 = 0 := by rw [e_2, gz_nI q15 (by decide)]; exact q6
  have q_11 : gp_R s_1 25 6 = none := by rw [e_2, gz_nR q15 (by decide)]; exact q7
  have q_12 : gp_R s_1 25 7 = none := by rw [e_2, gz_nR q15 (by decide)]; exact q8
  have q_13 : gp_R s_1 25 8 = none := by rw [e_2, gz_nR q15 (by decide)]; exact q9
  have q_14 : gp_R s_1 25 9 = none := by rw [e_2, gz_nR q15 (by decide)]; exact q10
  have q_15 : ∀ k, k < 8 → gp_R s_1 4 k = some 25 := fun k hk => by rw [e_2, gz_nR q15 (by decide)]; exact q11 k hk
  have q_16 : gp_R s_1 51 6 = some 55 := by rw [e_2, gz_nR q15 (by decide)]; exact q12
  have q_17 : gp_R s_1 51 7 = some 56 := by rw [e_2, gz_nR q15 (by decide)]; exact q13
  have q_18 : gp_us s_1 = 606905 := by rw [e_2]; show gp_us s + 10 = 606905; rw [q14]; try rfl
  have q_19 : gp_sz s_1 = 118 := by rw [e_2]; exact congrArg Nat.succ q15
  have q_20 : gp_sh s_1 117 = (9, 10) := by rw [e_2]; exact gz_nSs q15
  have q_21 : gp_I s_1 117 0 = 0 := by rw [e_2]; exact gz_nIs q15
  have q_22 : gp_R s_1 117 1 = none := by rw [e_2]; exact gz_nRs q15
  have q_23 : gp_R s_1 117 2 = none := by rw [e_2]; exact gz_nRs q15
  have q_24 : gp_R s_1 117 3 = none := by rw [e_2]; exact gz_nRs q15
  have q_25 : gp_R s_1 117 4 = none := by rw [e_2]; exact gz_nRs q15
  have q_26 : gp_R s_1 117 5 = none := by rw [e_2]; exact gz_nRs q15
  have q_27 : gp_R s_1 117 6 = none := by rw [e_2]; exact gz_nRs q15
  have q_28 : gp_R s_1 117 7 = none := by rw [e_2]; exact gz_nRs q15
  have q_29 : gp_R s_1 117 8 = none := by rw [e_2]; exact gz_nRs q15
  have q_30 : gp_R s_1 117 9 = none := by rw [e_2]; exact gz_nRs q15
  have w_31 := gz_w (7 + 1)
  have e_32 : gp_wr (7 + 1) = 8 := by omega
  try rw [e_32]
  refine zx2304_7 hs_3 (by omega) (by omega) (by omega) (by omega) (by omega) (by omega) (by omega) (by omega) q_22 q_23 q_24 q_25 q_26 q_27 q_28 q_29 q_30 q_11 q_12 q_13 q_14 q_15 q_16 q_17 q_20 q_18 q_19 (fun s_33 hs_34 q_35 q_36 q_37 q_38 q_39 q_40 q_41 q_42 q_43 q_44 q_45 q_46 q_47 q_48 q_49 q_50 q_51 q_52 q_53 q_54 q_55 q_56 q_57 q_58 q_59 q_60 q_61 q_62 q_63 q_64 q_65 q_66 => ⟨rfl, ?_⟩)
  exact zx258_7_l13_0 k _ _ _ _ s_33 hs_34 (Nat.lt_succ_self _) (by omega) rfl (by omega) (by omega) (by omega) (by omega) (by omega) (by omega) (by omega) (by omega) (by omega) q_43 q_44 q_45 q_46 q_47 q_48 q_49 q_50 q_51 q_52 q_53 q_54 q_55 q_56 q_57 q_58 q_59 q_60 q_61 q_62 q_63 q_64 q_65 q_66
set_option maxRecDepth 100000 in
/-- GatheredPoints.hold [(0, 7), 117] -/
theorem zx2854_7 {z : gH} {L d : Nat} {K : Option gV → gH → Prop} {s : gH} (p0 : Int) (hs : xM z s) (h_p0 : 0 ≤ p0 ∧ p0 ≤ 7) (q0 : gp_I s 1 2 = 0) (q1 : gp_I s 1 6 = 0) (q2 : gp_I s 1 7 = 1) (q3 : gp_I s 117 0 = 8) (q4 : gp_I s 51 8 = 0) (q5 : gp_I s 57 1 = 0) (q6 : gp_I s 57 3 = 0) (q7 : gp_I s 6 4 = 0) (q8 : gp_R s 117 1 = some 118) (q9 : gp_R s 117 2 = some 119) (q10 : gp_R s 117 3 = some 120) (q11 : gp_R s 117 4 = some 121) (q12 : gp_R s 117 5 = some 122) (q13 : gp_R s 117 6 = none) (q14 : gp_R s 117 7 = none) (q15 : gp_R s 117 8 = none) (q16 : gp_R s 117 9 = none) (q17 : gp_R s 25 6 = none) (q18 : gp_R s 25 7 = none) (q19 : gp_R s 25 8 = none) (q20 : gp_R s 25 9 = none) (q21 : ∀ k, k < 8 → gp_R s 4 k = some 25) (q22 : gp_R s 51 6 = some 55) (q23 : gp_R s 51 7 = some 56) (q24 : gp_sh s 117 = (9, 10)) (q25 : gp_sh s 118 = (101, 8)) (q26 : gp_sh s 119 = (101, 8)) (q27 : gp_sh s 120 = (100, 8)) (q28 : gp_sh s 121 = (100, 8)) (q29 : gp_sh s 122 = (100, 8)) (q30 : gp_us s = 606945) (q31 : gp_sz s = 123) (k : ∀ (t : gH), xM z t → (gp_I t 1 2 = 0) → (gp_I t 1 6 = 0) → (gp_I t 1 7 = 1) → (gp_I t 117 0 = 8) → (gp_I t 51 8 = 0) → (gp_I t 57 1 = 0) → (gp_I t 57 3 = 0) → (gp_I t 6 4 = 0) → (gp_R t 117 1 = some 118) → (gp_R t 117 2 = some 119) → (gp_R t 117 3 = some 120) → (gp_R t 117 4 = some 121) → (gp_R t 117 5 = some 122) → (gp_R t 117 6 = none) → (gp_R t 117 7 = none) → (gp_R t 117 8 = none) → (gp_R t 117 9 = none) → (gp_R t 25 6 = none) → (gp_R t 25 7 = none) → (gp_R t 25 8 = none) → (gp_R t 25 9 = none) → (gp_R t 51 6 = some 55) → (gp_R t 51 7 = some 56) → (gp_sh t 117 = (9, 10)) → (gp_sh t 118 = (101, 8)) → (gp_sh t 119 = (101, 8)) → (gp_sh t 120 = (100, 8)) → (gp_sh t 121 = (100, 8)) → (gp_sh t 122 = (100, 8)) → (gp_us t = 606945) → (gp_sz t = 123) → K (some (gp_i 8)) t) : gs_C L d 2854 3 [gp_r (some 1), gp_i p0, gp_r (some 117)] s K := by
  refine s_2854_e _ _ ?_
  refine ⟨117, rfl, ?_⟩
  refine ⟨by omega, ?_⟩
  refine ⟨(by show (gp_sh s 117).1 = 9; rw [q24]), ?_⟩
  intro s_1 e_2
  have hs_3 : xM z s_1 := by rw [e_2]; exact xI.wR hs _ _ _
  have q_4 : gp_I s_1 1 2 = 0 := by rw [e_2]; exact q0
  have q_5 : gp_I s_1 1 6 = 0 := by rw [e_2]; exact q1
  have q_6 : gp_I s_1 1 7 = 1 := by rw [e_2]; exact q2
  have q_7 : gp_I s_1 117 0 = 8 := by rw [e_2]; exact q3
  have q_8 : gp_I s_1 51 8 = 0 := by rw [e_2]; exact q4
  have q_9 : gp_I s_1 57 1 = 0 := by rw [e_2]; exact q5
  have q_10 : gp_I s_1 57 3 = 0 := by rw [e_2]; exact q6
  have q_11 : gp_I s_1 6 4 = 0 := by rw [e_2]; exact q7
  have q_12 : gp_R s_1 117 1 = some 118 := by rw [e_2]; exact q8
  have q_13 : gp_R s_1 117 2 = some 119 := by rw [e_2]; exact q9
  have q_14 : gp_R s_1 117 3 = some 120 := by rw [e_2]; exact q10
  have q_15 : gp_R s_1 117 4 = some 121 := by rw [e_2]; exact q11
  have q_16 : gp_R s_1 117 5 = some 122 := by rw [e_2]; exact q12
  have q_17 : gp_R s_1 117 6 = none := by rw [e_2]; exact q13
  have q_18 : gp_R s_1 117 7 = none := by rw [e_2]; exact q14
  have q_19 : gp_R s_1 117 8 = none := by rw [e_2]; exact q15
  have q_20 : gp_R s_1 117 9 = none := by rw [e_2]; exact q16
  have q_21 : gp_R s_1 25 6 = none := by rw [e_2]; exact q17
  have q_22 : gp_R s_1 25 7 = none := by rw [e_2]; exact q18
  have q_23 : gp_R s_1 25 8 = none := by rw [e_2]; exact q19
  have q_24 : gp_R s_1 25 9 = none := by rw [e_2]; exact q20
  have q_25 : gp_R s_1 51 6 = some 55 := by rw [e_2]; exact q22
  have q_26 : gp_R s_1 51 7 = some 56 := by rw [e_2]; exact q23
  have q_27 : gp_sh s_1 117 = (9, 10) := by rw [e_2]; exact q24
  have q_28 : gp_sh s_1 118 = (101, 8) := by rw [e_2]; exact q25
  have q_29 : gp_sh s_1 119 = (101, 8) := by rw [e_2]; exact q26
  have q_30 : gp_sh s_1 120 = (100, 8) := by rw [e_2]; exact q27
  have q_31 : gp_sh s_1 121 = (100, 8) := by rw [e_2]; exact q28
  have q_32 : gp_sh s_1 122 = (100, 8) := by rw [e_2]; exact q29
  have q_33 : gp_us s_1 = 606945 := by rw [e_2]; exact q30
  have q_34 : gp_sz s_1 = 123 := by rw [e_2]; exact q31
  refine ⟨(by show (gp_sh s_1 117).1 = 9; rw [q_27]), ?_⟩
  try rw [show gp_I s_1 117 0 = 8 from q_7]
  exact k s_1 hs_3 (by omega) (by omega) (by omega) (by omega) (by omega) (by omega) (by omega) (by omega) q_12 q_13 q_14 q_15 q_16 q_17 q_18 q_19 q_20 q_21 q_22 q_23 q_24 q_25 q_26 q_27 q_28 q_29 q_30 q_31 q_32 q_33 q_34
set_option maxRecDepth 100000 in
/-- GatheredPoints.waits [(0, 7), (7, 7)] -/
theorem zx2821_11 {z : gH} {L d : Nat} {K : Option gV → gH → Prop} {s : gH} (p0 : Int) (hs : xM z s) (h_p0 : 0 ≤ p0 ∧ p0 ≤ 7) (q0 : gp_I s 1 2 = 0) (q1 : gp_I s 1 6 = 0) (q2 : gp_I s 1 7 = 1) (q3 : gp_I s 51 8 = 0) (q4 : gp_I s 57 1 = 0) (q5 : gp_I s 57 3 = 0) (q6 : gp_I s 6 4 = 0) (q7 : gp_R s 25 6 = none) (q8 : gp_R s 25 7 = none) (q9 : gp_R s 25 8 = none) (q10 : gp_R s 25 9 = none) (q11 : ∀ k, k < 8 → gp_R s 4 k = some 25) (q12 : gp_R s 51 6 = some 55) (q13 : gp_R s 51 7 = some 56) (q14 : gp_us s = 606895) (q15 : gp_sz s = 117) (k : ∀ (t : gH), xM z t → (gp_I t 1 2 = 0) → (gp_I t 1 6 = 0) → (gp_I t 1 7 = 1) → (gp_I t 117 0 = 8) → (gp_I t 51 8 = 0) → (gp_I t 57 1 = 0) → (gp_I t 57 3 = 0) → (gp_I t 6 4 = 0) → (gp_R t 117 1 = some 118) → (gp_R t 117 2 = some 119) → (gp_R t 117 3 = some 120) → (gp_R t 117 4 = some 121) → (gp_R t 117 5 = some 122) → (gp_R t 117 6 = none) → (gp_R t 117 7 = none) → (gp_R t 117 8 = none) → (gp_R t 117 9 = none) → (gp_R t 25 6 = none) → (gp_R t 25 7 = none) → (gp_R t 25 8 = none) → (gp_R t 25 9 = none) → (gp_R t 51 6 = some 55) → (gp_R t 51 7 = some 56) → (gp_sh t 117 = (9, 10)) → (gp_sh t 118 = (101, 8)) → (gp_sh t 119 = (101, 8)) → (gp_sh t 120 = (100, 8)) → (gp_sh t 121 = (100, 8)) → (gp_sh t 122 = (100, 8)) → (gp_us t = 606945) → (gp_sz t = 123) → K (some (gp_i 8)) t) : gs_C L (d + 2) 2821 3 [gp_r (some 1), gp_i p0, gp_i 7] s K := by
  refine s_2821_e _ _ ?_
  refine zx2856_2 _ hs (by omega) (by omega) (by omega) (by omega) (by omega) (by omega) (by omega) q7 q8 q9 q10 q11 q12 q13 (⟨_, rfl, ?_⟩)
  refine ⟨fun h_1 => ?_, fun h_1 => ?_⟩
  · refine ⟨fun h_2 => ?_, fun h_2 => ?_⟩
    · exfalso; omega
    · refine ⟨fun h_3 => ?_, fun h_3 => ?_⟩
      · exfalso; omega
      · refine zx258_7 hs (by omega) (by omega) (by omega) (by omega) (by omega) (by omega) (by omega) q7 q8 q9 q10 q11 q12 q13 q14 q15 (fun s_5 hs_6 q_7 q_8 q_9 q_10 q_11 q_12 q_13 q_14 q_15 q_16 q_17 q_18 q_19 q_20 q_21 q_22 q_23 q_24 q_25 q_26 q_27 q_28 q_29 q_30 q_31 q_32 q_33 q_34 q_35 q_36 q_37 q_38 => ⟨_, rfl, ?_⟩)
        refine zx2854_7 _ hs_6 (by omega) (by omega) (by omega) (by omega) (by omega) (by omega) (by omega) (by omega) (by omega) q_15 q_16 q_17 q_18 q_19 q_20 q_21 q_22 q_23 q_24 q_25 q_26 q_27 q_28 q_29 q_30 q_31 q_32 q_33 q_34 q_35 q_36 q_37 q_38 (fun s_39 hs_40 q_41 q_42 q_43 q_44 q_45 q_46 q_47 q_48 q_49 q_50 q_51 q_52 q_53 q_54 q_55 q_56 q_57 q_58 q_59 q_60 q_61 q_62 q_63 q_64 q_65 q_66 q_67 q_68 q_69 q_70 q_71 => ⟨_, rfl, ?_⟩)
        exact k s_39 hs_40 (by omega) (by omega) (by omega) (by omega) (by omega) (by omega) (by omega) (by omega) q_49 q_50 q_51 q_52 q_53 q_54 q_55 q_56 q_57 q_58 q_59 q_60 q_61 q_62 q_63 q_64 q_65 q_66 q_67 q_68 q_69 q_70 q_71
  · exfalso; omega
set_option maxRecDepth 100000 in
/-- Table.<init> [117, (9, 9)] -/
theorem zx2304_8 {z : gH} {L d : Nat} {K : Option gV → gH → Prop} {s : gH}  (hs : xM z s)  (q0 : gp_I s 1 2 = 0) (q1 : gp_I s 1 6 = 0) (q2 : gp_I s 1 7 = 1) (q3 : gp_I s 117 0 = 0) (q4 : gp_I s 51 8 = 0) (q5 : gp_I s 57 1 = 0) (q6 : gp_I s 57 3 = 0) (q7 : gp_I s 6 4 = 0) (q8 : gp_R s 117 1 = none) (q9 : gp_R s 117 2 = none) (q10 : gp_R s 117 3 = none) (q11 : gp_R s 117 4 = none) (q12 : gp_R s 117 5 = none) (q13 : gp_R s 117 6 = none) (q14 : gp_R s 117 7 = none) (q15 : gp_R s 117 8 = none) (q16 : gp_R s 117 9 = none) (q17 : gp_R s 25 6 = none) (q18 : gp_R s 25 7 = none) (q19 : gp_R s 25 8 = none) (q20 : gp_R s 25 9 = none) (q21 : ∀ k, k < 8 → gp_R s 4 k = some 25) (q22 : gp_R s 51 6 = some 55) (q23 : gp_R s 51 7 = some 56) (q24 : gp_sh s 117 = (9, 10)) (q25 : gp_us s = 606905) (q26 : gp_sz s = 118) (k : ∀ (t : gH), xM z t → (gp_I t 1 2 = 0) → (gp_I t 1 6 = 0) → (gp_I t 1 7 = 1) → (gp_I t 117 0 = 9) → (gp_I t 51 8 = 0) → (gp_I t 57 1 = 0) → (gp_I t 57 3 = 0) → (gp_I t 6 4 = 0) → (gp_R t 117 1 = some 118) → (gp_R t 117 2 = some 119) → (gp_R t 117 3 = some 120) → (gp_R t 117 4 = some 121) → (gp_R t 117 5 = some 122) → (gp_R t 117 6 = none) → (gp_R t 117 7 = none) → (gp_R t 117 8 = none) → (gp_R t 117 9 = none) → (gp_R t 25 6 = none) → (gp_R t 25 7 = none) → (gp_R t 25 8 = none) → (gp_R t 25 9 = none) → (∀ k, k < 8 → gp_R t 4 k = some 25) → (gp_R t 51 6 = some 55) → (gp_R t 51 7 = some 56) → (gp_sh t 117 = (9, 10)) → (gp_sh t 118 = (101, 9)) → (gp_sh t 119 = (101, 9)) → (gp_sh t 120 = (100, 9)) → (gp_sh t 121 = (100, 9)) → (gp_sh t 122 = (100, 9)) → (gp_us t = 606950) → (gp_sz t = 123) → K none t) : gs_C L d 2304 2 [gp_r (some 117), gp_i 9] s K := by
  refine s_2304_e _ _ ?_
  refine ⟨117, rfl, ?_⟩
  refine ⟨(by show (gp_sh s 117).1 = 9; rw [q24]), ?_⟩
  intro s_1 e_2
  have hs_3 : xM z s_1 := by rw [e_2]; exact xI.wId hs _ _ _ (by omega)
  have q_4 : gp_I s_1 1 2 = 0 := by rw [e_2]; exact q0
  have q_5 : gp_I s_1 1 6 = 0 := by rw [e_2]; exact q1
  have q_6 : gp_I s_1 1 7 = 1 := by rw [e_2]; exact q2
  have q_7 : gp_I s_1 51 8 = 0 := by rw [e_2]; exact q4
  have q_8 : gp_I s_1 57 1 = 0 := by rw [e_2]; exact q5
  have q_9 : gp_I s_1 57 3 = 0 := by rw [e_2]; exact q6
  have q_10 : gp_I s_1 6 4 = 0 := by rw [e_2]; exact q7
  have q_11 : gp_R s_1 117 1 = none := by rw [e_2]; exact q8
  have q_12 : gp_R s_1 117 2 = none := by rw [e_2]; exact q9
  have q_13 : gp_R s_1 117 3 = none := by rw [e_2]; exact q10
  have q_14 : gp_R s_1 117 4 = none := by rw [e_2]; exact q11
  have q_15 : gp_R s_1 117 5 = none := by rw [e_2]; exact q12
  have q_16 : gp_R s_1 117 6 = none := by rw [e_2]; exact q13
  have q_17 : gp_R s_1 117 7 = none := by rw [e_2]; exact q14
  have q_18 : gp_R s_1 117 8 = none := by rw [e_2]; exact q15
  have q_19 : gp_R s_1 117 9 = none := by rw [e_2]; exact q16
  have q_20 : gp_R s_1 25 6 = none := by rw [e_2]; exact q17
  have q_21 : gp_R s_1 25 7 = none := by rw [e_2]; exact q18
  have q_22 : gp_R s_1 25 8 = none := by rw [e_2]; exact q19
  have q_23 : gp_R s_1 25 9 = none := by rw [e_2]; exact q20
  have q_24 : ∀ k, k < 8 → gp_R s_1 4 k = some 25 := by rw [e_2]; exact q21
  have q_25 : gp_R s_1 51 6 = some 55 := by rw [e_2]; exact q22
  have q_26 : gp_R s_1 51 7 = some 56 := by rw [e_2]; exact q23
  have q_27 : gp_sh s_1 117 = (9, 10) := by rw [e_2]; exact q24
  have q_28 : gp_us s_1 = 606905 := by rw [e_2]; exact q25
  have q_29 : gp_sz s_1 = 118 := by rw [e_2]; exact q26
  have q_30 : gp_I s_1 117 0 = 9 := by rw [e_2]; rfl
  refine ⟨by omega, ?_⟩
  refine ⟨by omega, ?_⟩
  try rw [show gp_sz s_1 = 118 from q_29]
  intro s_32 e_33
  have hs_34 : xM z s_32 := by rw [e_33]; exact xI.new hs_3 (by omega)
  have q_35 : gp_I s_32 1 2 = 0 := by rw [e_33, gz_nI q_29 (by decide)]; exact q_4
  have q_36 : gp_I s_32 1 6 = 0 := by rw [e_33, gz_nI q_29 (by decide)]; exact q_5
  have q_37 : gp_I s_32 1 7 = 1 := by rw [e_33, gz_nI q_29 (by decide)]; exact q_6
  have q_38 : gp_I s_32 51 8 = 0 := by rw [e_33, gz_nI q_29 (by decide)]; exact q_7
  have q_39 : gp_I s_32 57 1 = 0 := by rw [e_33, gz_nI q_29 (by decide)]; exact q_8
  have q_40 : gp_I s_32 57 3 = 0 := by rw [e_33, gz_nI q_29 (by decide)]; exact q_9
  have q_41 : gp_I s_32 6 4 = 0 := by rw [e_33, gz_nI q_29 (by decide)]; exact q_10
  have q_42 : gp_R s_32 117 1 = none := by rw [e_33, gz_nR q_29 (by decide)]; exact q_11
  have q_43 : gp_R s_32 117 2 = none := by rw [e_33, gz_nR q_29 (by decide)]; exact q_12
  have q_44 : gp_R s_32 117 3 = none := by rw [e_33, gz_nR q_29 (by decide)]; exact q_13
  have q_45 : gp_R s_32 117 4 = none := by rw [e_33, gz_nR q_29 (by decide)]; exact q_14
  have q_46 : gp_R s_32 117 5 = none := by rw [e_33, gz_nR q_29 (by decide)]; exact q_15
  have q_47 : gp_R s_32 117 6 = none := by rw [e_33, gz_nR q_29 (by decide)]; exact q_16
  have q_48 : gp_R s_32 117 7 = none := by rw [e_33, gz_nR q_29 (by decide)]; exact q_17
  have q_49 : gp_R s_32 117 8 = none := by rw [e_33, gz_nR q_29 (by decide)]; exact q_18
  have q_50 : gp_R s_32 117 9 = none := by rw [e_33, gz_nR q_29 (by decide)]; exact q_19
  have q_51 : gp_R s_32 25 6 = none := by rw [e_33, gz_nR q_29 (by decide)]; exact q_20
  have q_52 : gp_R s_32 25 7 = none := by rw [e_33, gz_nR q_29 (by decide)]; exact q_21
  have q_53 : gp_R s_32 25 8 = none := by rw [e_33, gz_nR q_29 (by decide)]; exact q_22
  have q_54 : gp_R s_32 25 9 = none := by rw [e_33, gz_nR q_29 (by decide)]; exact q_23
  have q_55 : ∀ k, k < 8 → gp_R s_32 4 k = some 25 := fun k hk => by rw [e_33, gz_nR q_29 (by decide)]; exact q_24 k hk
  have q_56 : gp_R s_32 51 6 = some 55 := by rw [e_33, gz_nR q_29 (by decide)]; exact q_25
  have q_57 : gp_R s_32 51 7 = some 56 := by rw [e_33, gz_nR q_29 (by decide)]; exact q_26
  have q_58 : gp_sh s_32 117 = (9, 10) := by rw [e_33, gz_nS q_29 (by decide)]; exact q_27
  have q_59 : gp_us s_32 = 606914 := by rw [e_33]; show gp_us s_1 + 9 = 606914; rw [q_28]; try rfl
  have q_60 : gp_sz s_32 = 119 := by rw [e_33]; exact congrArg Nat.succ q_29
  have q_61 : gp_I s_32 117 0 = 9 := by rw [e_33, gz_nI q_29 (by decide)]; exact q_30
  have q_62 : gp_sh s_32 118 = (101, 9) := by rw [e_33]; exact gz_nSs q_29
  refine ⟨(by show (gp_sh s_32 117).1 = 9; rw [q_58]), ?_⟩
  refine ⟨rfl, ?_⟩
  intro s_63 e_64
  have hs_65 : xM z s_63 := by rw [e_64]; exact xI.wR hs_34 _ _ _
  have q_66 : gp_I s_63 1 2 = 0 := by rw [e_64]; exact q_35
  have q_67 : gp_I s_63 1 6 = 0 := by rw [e_64]; exact q_36
  have q_68 : gp_I s_63 1 7 = 1 := by rw [e_64]; exact q_37
  have q_69 : gp_I s_63 51 8 = 0 := by rw [e_64]; exact q_38
  have q_70 : gp_I s_63 57 1 = 0 := by rw [e_64]; exact q_39
  have q_71 : gp_I s_63 57 3 = 0 := by rw [e_64]; exact q_40
  have q_72 : gp_I s_63 6 4 = 0 := by rw [e_64]; exact q_41
  have q_73 : gp_R s_63 117 2 = none := by rw [e_64]; exact q_43
  have q_74 : gp_R s_63 117 3 = none := by rw [e_64]; exact q_44
  have q_75 : gp_R s_63 117 4 = none := by rw [e_64]; exact q_45
  have q_76 : gp_R s_63 117 5 = none := by rw [e_64]; exact q_46
  have q_77 : gp_R s_63 117 6 = none := by rw [e_64]; exact q_47
  have q_78 : gp_R s_63 117 7 = none := by rw [e_64]; exact q_48
  have q_79 : gp_R s_63 117 8 = none := by rw [e_64]; exact q_49
  have q_80 : gp_R s_63 117 9 = none := by rw [e_64]; exact q_50
  have q_81 : gp_R s_63 25 6 = none := by rw [e_64]; exact q_51
  have q_82 : gp_R s_63 25 7 = none := by rw [e_64]; exact q_52
  have q_83 : gp_R s_63 25 8 = none := by rw [e_64]; exact q_53
  have q_84 : gp_R s_63 25 9 = none := by rw [e_64]; exact q_54
  have q_85 : ∀ k, k < 8 → gp_R s_63 4 k = some 25 := by rw [e_64]; exact q_55
  have q_86 : gp_R s_63 51 6 = some 55 := by rw [e_64]; exact q_56
  have q_87 : gp_R s_63 51 7 = some 56 := by rw [e_64]; exact q_57
  have q_88 : gp_sh s_63 117 = (9, 10) := by rw [e_64]; exact q_58
  have q_89 : gp_us s_63 = 606914 := by rw [e_64]; exact q_59
  have q_90 : gp_sz s_63 = 119 := by rw [e_64]; exact q_60
  have q_91 : gp_I s_63 117 0 = 9 := by rw [e_64]; exact q_61
  have q_92 : gp_sh s_63 118 = (101, 9) := by rw [e_64]; exact q_62
  have q_93 : gp_R s_63 117 1 = some 118 := by rw [e_64]; rfl
  refine ⟨by omega, ?_⟩
  refine ⟨by omega, ?_⟩
  try rw [show gp_sz s_63 = 119 from q_90]
  intro s_94 e_95
  have hs_96 : xM z s_94 := by rw [e_95]; exact xI.new hs_65 (by omega)
  have q_97 : gp_I s_94 1 2 = 0 := by rw [e_95, gz_nI q_90 (by decide)]; exact q_66
  have q_98 : gp_I s_94 1 6 = 0 := by rw [e_95, gz_nI q_90 (by decide)]; exact q_67
  have q_99 : gp_I s_94 1 7 = 1 := by rw [e_95, gz_nI q_90 (by decide)]; exact q_68
  have q_100 : gp_I s_94 51 8 = 0 := by rw [e_95, gz_nI q_90 (by decide)]; exact q_69
  have q_101 : gp_I s_94 57 1 = 0 := by rw [e_95, gz_nI q_90 (by decide)]; exact q_70
  have q_102 : gp_I s_94 57 3 = 0 := by rw [e_95, gz_nI q_90 (by decide)]; exact q_71
  have q_103 : gp_I s_94 6 4 = 0 := by rw [e_95, gz_nI q_90 (by decide)]; exact q_72
  have q_104 : gp_R s_94 117 2 = none := by rw [e_95, gz_nR q_90 (by decide)]; exact q_73
  have q_105 : gp_R s_94 117 3 = none := by rw [e_95, gz_nR q_90 (by decide)]; exact q_74
  have q_106 : gp_R s_94 117 4 = none := by rw [e_95, gz_nR q_90 (by decide)]; exact q_75
  have q_107 : gp_R s_94 117 5 = none := by rw [e_95, gz_nR q_90 (by decide)]; exact q_76
  have q_108 : gp_R s_94 117 6 = none := by rw [e_95, gz_nR q_90 (by decide)]; exact q_77
  have q_109 : gp_R s_94 117 7 = none := by rw [e_95, gz_nR q_90 (by decide)]; exact q_78
  have q_110 : gp_R s_94 117 8 = none := by rw [e_95, gz_nR q_90 (by decide)]; exact q_79
  have q_111 : gp_R s_94 117 9 = none := by rw [e_95, gz_nR q_90 (by decide)]; exact q_80
  have q_112 : gp_R s_94 25 6 = none := by rw [e_95, gz_nR q_90 (by decide)]; exact q_81
  have q_113 : gp_R s_94 25 7 = none := by rw [e_95, gz_nR q_90 (by decide)]; exact q_82
  have q_114 : gp_R s_94 25 8 = none := by rw [e_95, gz_nR q_90 (by decide)]; exact q_83
  have q_115 : gp_R s_94 25 9 = none := by rw [e_95, gz_nR q_90 (by decide)]; exact q_84
  have q_116 : ∀ k, k < 8 → gp_R s_94 4 k = some 25 := fun k hk => by rw [e_95, gz_nR q_90 (by decide)]; exact q_85 k hk
  have q_117 : gp_R s_94 51 6 = some 55 := by rw [e_95, gz_nR q_90 (by decide)]; exact q_86
  have q_118 : gp_R s_94 51 7 = some 56 := by rw [e_95, gz_nR q_90 (by decide)]; exact q_87
  have q_119 : gp_sh s_94 117 = (9, 10) := by rw [e_95, gz_nS q_90 (by decide)]; exact q_88
  have q_120 : gp_us s_94 = 606923 := by rw [e_95]; show gp_us s_63 + 9 = 606923; rw [q_89]; try rfl
  have q_121 : gp_sz s_94 = 120 := by rw [e_95]; exact congrArg Nat.succ q_90
  have q_122 : gp_I s_94 117 0 = 9 := by rw [e_95, gz_nI q_90 (by decide)]; exact q_91
  have q_123 : gp_sh s_94 118 = (101, 9) := by rw [e_95, gz_nS q_90 (by decide)]; exact q_92
  have q_124 : gp_R s_94 117 1 = some 118 := by rw [e_95, gz_nR q_90 (by decide)]; exact q_93
  have q_125 : gp_sh s_94 119 = (101, 9) := by rw [e_95]; exact gz_nSs q_90
  refine ⟨(by show (gp_sh s_94 117).1 = 9; rw [q_119]), ?_⟩
  refine ⟨rfl, ?_⟩
  intro s_126 e_127
  have hs_128 : xM z s_126 := by rw [e_127]; exact xI.wR hs_96 _ _ _
  have q_129 : gp_I s_126 1 2 = 0 := by rw [e_127]; exact q_97
  have q_130 : gp_I s_126 1 6 = 0 := by rw [e_127]; exact q_98
  have q_131 : gp_I s_126 1 7 = 1 := by rw [e_127]; exact q_99
  have q_132 : gp_I s_126 51 8 = 0 := by rw [e_127]; exact q_100
  have q_133 : gp_I s_126 57 1 = 0 := by rw [e_127]; exact q_101
  have q_134 : gp_I s_126 57 3 = 0 := by rw [e_127]; exact q_102
  have q_135 : gp_I s_126 6 4 = 0 := by rw [e_127]; exact q_103
  have q_136 : gp_R s_126 117 3 = none := by rw [e_127]; exact q_105
  have q_137 : gp_R s_126 117 4 = none := by rw [e_127]; exact q_106
  have q_138 : gp_R s_126 117 5 = none := by rw [e_127]; exact q_107
  have q_139 : gp_R s_126 117 6 = none := by rw [e_127]; exact q_108
  have q_140 : gp_R s_126 117 7 = none := by rw [e_127]; exact q_109
  have q_141 : gp_R s_126 117 8 = none := by rw [e_127]; exact q_110
  have q_142 : gp_R s_126 117 9 = none := by rw [e_127]; exact q_111
  have q_143 : gp_R s_126 25 6 = none := by rw [e_127]; exact q_112
  have q_144 : gp_R s_126 25 7 = none := by rw [e_127]; exact q_113
  have q_145 : gp_R s_126 25 8 = none := by rw [e_127]; exact q_114
  have q_146 : gp_R s_126 25 9 = none := by rw [e_127]; exact q_115
  have q_147 : ∀ k, k < 8 → gp_R s_126 4 k = some 25 := by rw [e_127]; exact q_116
  have q_148 : gp_R s_126 51 6 = some 55 := by rw [e_127]; exact q_117
  have q_149 : gp_R s_126 51 7 = some 56 := by rw [e_127]; exact q_118
  have q_150 : gp_sh s_126 117 = (9, 10) := by rw [e_127]; exact q_119
  have q_151 : gp_us s_126 = 606923 := by rw [e_127]; exact q_120
  have q_152 : gp_sz s_126 = 120 := by rw [e_127]; exact q_121
  have q_153 : gp_I s_126 117 0 = 9 := by rw [e_127]; exact q_122
  have q_154 : gp_sh s_126 118 = (101, 9) := by rw [e_127]; exact q_123
  have q_155 : gp_R s_126 117 1 = some 118 := by rw [e_127]; exact q_124
  have q_156 : gp_sh s_126 119 = (101, 9) := by rw [e_127]; exact q_125
  have q_157 : gp_R s_126 117 2 = some 119 := by rw [e_127]; rfl
  refine ⟨by omega, ?_⟩
  refine ⟨by omega, ?_⟩
  try rw [show gp_sz s_126 = 120 from q_152]
  intro s_158 e_159
  have hs_160 : xM z s_158 := by rw [e_159]; exact xI.new hs_128 (by omega)
  have q_161 : gp_I s_158 1 2 = 0 := by rw [e_159, gz_nI q_152 (by decide)]; exact q_129
  have q_162 : gp_I s_158 1 6 = 0 := by rw [e_159, gz_nI q_152 (by decide)]; exact q_130
  have q_163 : gp_I s_158 1 7 = 1 := by rw [e_159, gz_nI q_152 (by decide)]; exact q_131
  have q_164 : gp_I s_158 51 8 = 0 := by rw [e_159, gz_nI q_152 (by decide)]; exact q_132
  have q_165 : gp_I s_158 57 1 = 0 := by rw [e_159, gz_nI q_152 (by decide)]; exact q_133
  have q_166 : gp_I s_158 57 3 = 0 := by rw [e_159, gz_nI q_152 (by decide)]; exact q_134
  have q_167 : gp_I s_158 6 4 = 0 := by rw [e_159, gz_nI q_152 (by decide)]; exact q_135
  have q_168 : gp_R s_158 117 3 = none := by rw [e_159, gz_nR q_152 (by decide)]; exact q_136
  have q_169 : gp_R s_158 117 4 = none := by rw [e_159, gz_nR q_152 (by decide)]; exact q_137
  have q_170 : gp_R s_158 117 5 = none := by rw [e_159, gz_nR q_152 (by decide)]; exact q_138
  have q_171 : gp_R s_158 117 6 = none := by rw [e_159, gz_nR q_152 (by decide)]; exact q_139
  have q_172 : gp_R s_158 117 7 = none := by rw [e_159, gz_nR q_152 (by decide)]; exact q_140
  have q_173 : gp_R s_158 117 8 = none := by rw [e_159, gz_nR q_152 (by decide)]; exact q_141
  have q_174 : gp_R s_158 117 9 = none := by rw [e_159, gz_nR q_152 (by decide)]; exact q_142
  have q_175 : gp_R s_158 25 6 = none := by rw [e_159, gz_nR q_152 (by decide)]; exact q_143
  have q_176 : gp_R s_158 25 7 = none := by rw [e_159, gz_nR q_152 (by decide)]; exact q_144
  have q_177 : gp_R s_158 25 8 = none := by rw [e_159, gz_nR q_152 (by decide)]; exact q_145
  have q_178 : gp_R s_158 25 9 = none := by rw [e_159, gz_nR q_152 (by decide)]; exact q_146
  have q_179 : ∀ k, k < 8 → gp_R s_158 4 k = some 25 := fun k hk => by rw [e_159, gz_nR q_152 (by decide)]; exact q_147 k hk
  have q_180 : gp_R s_158 51 6 = some 55 := by rw [e_159, gz_nR q_152 (by decide)]; exact q_148
  have q_181 : gp_R s_158 51 7 = some 56 := by rw [e_159, gz_nR q_152 (by decide)]; exact q_149
  have q_182 : gp_sh s_158 117 = (9, 10) := by rw [e_159, gz_nS q_152 (by decide)]; exact q_150
  have q_183 : gp_us s_158 = 606932 := by rw [e_159]; show gp_us s_126 + 9 = 606932; rw [q_151]; try rfl
  have q_184 : gp_sz s_158 = 121 := by rw [e_159]; exact congrArg Nat.succ q_152
  have q_185 : gp_I s_158 117 0 = 9 := by rw [e_159, gz_nI q_152 (by decide)]; exact q_153
  have q_186 : gp_sh s_158 118 = (101, 9) := by rw [e_159, gz_nS q_152 (by decide)]; exact q_154
  have q_187 : gp_R s_158 117 1 = some 118 := by rw [e_159, gz_nR q_152 (by decide)]; exact q_155
  have q_188 : gp_sh s_158 119 = (101, 9) := by rw [e_159, gz_nS q_152 (by decide)]; exact q_156
  have q_189 : gp_R s_158 117 2 = some 119 := by rw [e_159, gz_nR q_152 (by decide)]; exact q_157
  have q_190 : gp_sh s_158 120 = (100, 9) := by rw [e_159]; exact gz_nSs q_152
  refine ⟨(by show (gp_sh s_158 117).1 = 9; rw [q_182]), ?_⟩
  refine ⟨rfl, ?_⟩
  intro s_191 e_192
  have hs_193 : xM z s_191 := by rw [e_192]; exact xI.wR hs_160 _ _ _
  have q_194 : gp_I s_191 1 2 = 0 := by rw [e_192]; exact q_161
  have q_195 : gp_I s_191 1 6 = 0 := by rw [e_192]; exact q_162
  have q_196 : gp_I s_191 1 7 = 1 := by rw [e_192]; exact q_163
  have q_197 : gp_I s_191 51 8 = 0 := by rw [e_192]; exact q_164
  have q_198 : gp_I s_191 57 1 = 0 := by rw [e_192]; exact q_165
  have q_199 : gp_I s_191 57 3 = 0 := by rw [e_192]; exact q_166
  have q_200 : gp_I s_191 6 4 = 0 := by rw [e_192]; exact q_167
  have q_201 : gp_R s_191 117 4 = none := by rw [e_192]; exact q_169
  have q_202 : gp_R s_191 117 5 = none := by rw [e_192]; exact q_170
  have q_203 : gp_R s_191 117 6 = none := by rw [e_192]; exact q_171
  have q_204 : gp_R s_191 117 7 = none := by rw [e_192]; exact q_172
  have q_205 : gp_R s_191 117 8 = none := by rw [e_192]; exact q_173
  have q_206 : gp_R s_191 117 9 = none := by rw [e_192]; exact q_174
  have q_207 : gp_R s_191 25 6 = none := by rw [e_192]; exact q_175
  have q_208 : gp_R s_191 25 7 = none := by rw [e_192]; exact q_176
  have q_209 : gp_R s_191 25 8 = none := by rw [e_192]; exact q_177
  have q_210 : gp_R s_191 25 9 = none := by rw [e_192]; exact q_178
  have q_211 : ∀ k, k < 8 → gp_R s_191 4 k = some 25 := by rw [e_192]; exact q_179
  have q_212 : gp_R s_191 51 6 = some 55 := by rw [e_192]; exact q_180
  have q_213 : gp_R s_191 51 7 = some 56 := by rw [e_192]; exact q_181
  have q_214 : gp_sh s_191 117 = (9, 10) := by rw [e_192]; exact q_182
  have q_215 : gp_us s_191 = 606932 := by rw [e_192]; exact q_183
  have q_216 : gp_sz s_191 = 121 := by rw [e_192]; exact q_184
  have q_217 : gp_I s_191 117 0 = 9 := by rw [e_192]; exact q_185
  have q_218 : gp_sh s_191 118 = (101, 9) := by rw [e_192]; exact q_186
  have q_219 : gp_R s_191 117 1 = some 118 := by rw [e_192]; exact q_187
  have q_220 : gp_sh s_191 119 = (101, 9) := by rw [e_192]; exact q_188
  have q_221 : gp_R s_191 117 2 = some 119 := by rw [e_192]; exact q_189
  have q_222 : gp_sh s_191 120 = (100, 9) := by rw [e_192]; exact q_190
  have q_223 : gp_R s_191 117 3 = some 120 := by rw [e_192]; rfl
  refine ⟨by omega, ?_⟩
  refine ⟨by omega, ?_⟩
  try rw [show gp_sz s_191 = 121 from q_216]
  intro s_224 e_225
  have hs_226 : xM z s_224 := by rw [e_225]; exact xI.new hs_193 (by omega)
  have q_227 : gp_I s_224 1 2 = 0 := by rw [e_225, gz_nI q_216 (by decide)]; exact q_194
  have q_228 : gp_I s_224 1 6 = 0 := by rw [e_225, gz_nI q_216 (by decide)]; exact q_195
  have q_229 : gp_I s_224 1 7 = 1 := by rw [e_225, gz_nI q_216 (by decide)]; exact q_196
  have q_230 : gp_I s_224 51 8 = 0 := by rw [e_225, gz_nI q_216 (by decide)]; exact q_197
  have q_231 : gp_I s_224 57 1 = 0 := by rw [e_225, gz_nI q_216 (by decide)]; exact q_198
  have q_232 : gp_I s_224 57 3 = 0 := by rw [e_225, gz_nI q_216 (by decide)]; exact q_199
  have q_233 : gp_I s_224 6 4 = 0 := by rw [e_225, gz_nI q_216 (by decide)]; exact q_200
  have q_234 : gp_R s_224 117 4 = none := by rw [e_225, gz_nR q_216 (by decide)]; exact q_201
  have q_235 : gp_R s_224 117 5 = none := by rw [e_225, gz_nR q_216 (by decide)]; exact q_202
  have q_236 : gp_R s_224 117 6 = none := by rw [e_225, gz_nR q_216 (by decide)]; exact q_203
  have q_237 : gp_R s_224 117 7 = none := by rw [e_225, gz_nR q_216 (by decide)]; exact q_204
  have q_238 : gp_R s_224 117 8 = none := by rw [e_225, gz_nR q_216 (by decide)]; exact q_205
  have q_239 : gp_R s_224 117 9 = none := by rw [e_225, gz_nR q_216 (by decide)]; exact q_206
  have q_240 : gp_R s_224 25 6 = none := by rw [e_225, gz_nR q_216 (by decide)]; exact q_207
  have q_241 : gp_R s_224 25 7 = none := by rw [e_225, gz_nR q_216 (by decide)]; exact q_208
  have q_242 : gp_R s_224 25 8 = none := by rw [e_225, gz_nR q_216 (by decide)]; exact q_209
  have q_243 : gp_R s_224 25 9 = none := by rw [e_225, gz_nR q_216 (by decide)]; exact q_210
  have q_244 : ∀ k, k < 8 → gp_R s_224 4 k = some 25 := fun k hk => by rw [e_225, gz_nR q_216 (by decide)]; exact q_211 k hk
  have q_245 : gp_R s_224 51 6 = some 55 := by rw [e_225, gz_nR q_216 (by decide)]; exact q_212
  have q_246 : gp_R s_224 51 7 = some 56 := by rw [e_225, gz_nR q_216 (by decide)]; exact q_213
  have q_247 : gp_sh s_224 117 = (9, 10) := by rw [e_225, gz_nS q_216 (by decide)]; exact q_214
  have q_248 : gp_us s_224 = 606941 := by rw [e_225]; show gp_us s_191 + 9 = 606941; rw [q_215]; try rfl
  have q_249 : gp_sz s_224 = 122 := by rw [e_225]; exact congrArg Nat.succ q_216
  have q_250 : gp_I s_224 117 0 = 9 := by rw [e_225, gz_nI q_216 (by decide)]; exact q_217
  have q_251 : gp_sh s_224 118 = (101, 9) := by rw [e_225, gz_nS q_216 (by decide)]; exact q_218
  have q_252 : gp_R s_224 117 1 = some 118 := by rw [e_225, gz_nR q_216 (by decide)]; exact q_219
  have q_253 : gp_sh s_224 119 = (101, 9) := by rw [e_225, gz_nS q_216 (by decide)]; exact q_220
  have q_254 : gp_R s_224 117 2 = some 119 := by rw [e_225, gz_nR q_216 (by decide)]; exact q_221
  have q_255 : gp_sh s_224 120 = (100, 9) := by rw [e_225, gz_nS q_216 (by decide)]; exact q_222
  have q_256 : gp_R s_224 117 3 = some 120 := by rw [e_225, gz_nR q_216 (by decide)]; exact q_223
  have q_257 : gp_sh s_224 121 = (100, 9) := by rw [e_225]; exact gz_nSs q_216
  refine ⟨(by show (gp_sh s_224 117).1 = 9; rw [q_247]), ?_⟩
  refine ⟨rfl, ?_⟩
  intro s_258 e_259
  have hs_260 : xM z s_258 := by rw [e_259]; exact xI.wR hs_226 _ _ _
  have q_261 : gp_I s_258 1 2 = 0 := by rw [e_259]; exact q_227
  have q_262 : gp_I s_258 1 6 = 0 := by rw [e_259]; exact q_228
  have q_263 : gp_I s_258 1 7 = 1 := by rw [e_259]; exact q_229
  have q_264 : gp_I s_258 51 8 = 0 := by rw [e_259]; exact q_230
  have q_265 : gp_I s_258 57 1 = 0 := by rw [e_259]; exact q_231
  have q_266 : gp_I s_258 57 3 = 0 := by rw [e_259]; exact q_232
  have q_267 : gp_I s_258 6 4 = 0 := by rw [e_259]; exact q_233
  have q_268 : gp_R s_258 117 5 = none := by rw [e_259]; exact q_235
  have q_269 : gp_R s_258 117 6 = none := by rw [e_259]; exact q_236
  have q_270 : gp_R s_258 117 7 = none := by rw [e_259]; exact q_237
  have q_271 : gp_R s_258 117 8 = none := by rw [e_259]; exact q_238
  have q_272 : gp_R s_258 117 9 = none := by rw [e_259]; exact q_239
  have q_273 : gp_R s_258 25 6 = none := by rw [e_259]; exact q_240
  have q_274 : gp_R s_258 25 7 = none := by rw [e_259]; exact q_241
  have q_275 : gp_R s_258 25 8 = none := by rw [e_259]; exact q_242
  have q_276 : gp_R s_258 25 9 = none := by rw [e_259]; exact q_243
  have q_277 : ∀ k, k < 8 → gp_R s_258 4 k = some 25 := by rw [e_259]; exact q_244
  have q_278 : gp_R s_258 51 6 = some 55 := by rw [e_259]; exact q_245
  have q_279 : gp_R s_258 51 7 = some 56 := by rw [e_259]; exact q_246
  have q_280 : gp_sh s_258 117 = (9, 10) := by rw [e_259]; exact q_247
  have q_281 : gp_us s_258 = 606941 := by rw [e_259]; exact q_248
  have q_282 : gp_sz s_258 = 122 := by rw [e_259]; exact q_249
  have q_283 : gp_I s_258 117 0 = 9 := by rw [e_259]; exact q_250
  have q_284 : gp_sh s_258 118 = (101, 9) := by rw [e_259]; exact q_251
  have q_285 : gp_R s_258 117 1 = some 118 := by rw [e_259]; exact q_252
  have q_286 : gp_sh s_258 119 = (101, 9) := by rw [e_259]; exact q_253
  have q_287 : gp_R s_258 117 2 = some 119 := by rw [e_259]; exact q_254
  have q_288 : gp_sh s_258 120 = (100, 9) := by rw [e_259]; exact q_255
  have q_289 : gp_R s_258 117 3 = some 120 := by rw [e_259]; exact q_256
  have q_290 : gp_sh s_258 121 = (100, 9) := by rw [e_259]; exact q_257
  have q_291 : gp_R s_258 117 4 = some 121 := by rw [e_259]; rfl
  refine ⟨by omega, ?_⟩
  refine ⟨by omega, ?_⟩
  try rw [show gp_sz s_258 = 122 from q_282]
  intro s_292 e_293
  have hs_294 : xM z s_292 := by rw [e_293]; exact xI.new hs_260 (by omega)
  have q_295 : gp_I s_292 1 2 = 0 := by rw [e_293, gz_nI q_282 (by decide)]; exact q_261
  have q_296 : gp_I s_292 1 6 = 0 := by rw [e_293, gz_nI q_282 (by decide)]; exact q_262
  have q_297 : gp_I s_292 1 7 = 1 := by rw [e_293, gz_nI q_282 (by decide)]; exact q_263
  have q_298 : gp_I s_292 51 8 = 0 := by rw [e_293, gz_nI q_282 (by decide)]; exact q_264
  have q_299 : gp_I s_292 57 1 = 0 := by rw [e_293, gz_nI q_282 (by decide)]; exact q_265
  have q_300 : gp_I s_292 57 3 = 0 := by rw [e_293, gz_nI q_282 (by decide)]; exact q_266
  have q_301 : gp_I s_292 6 4 = 0 := by rw [e_293, gz_nI q_282 (by decide)]; exact q_267
  have q_302 : gp_R s_292 117 5 = none := by rw [e_293, gz_nR q_282 (by decide)]; exact q_268
  have q_303 : gp_R s_292 117 6 = none := by rw [e_293, gz_nR q_282 (by decide)]; exact q_269
  have q_304 : gp_R s_292 117 7 = none := by rw [e_293, gz_nR q_282 (by decide)]; exact q_270
  have q_305 : gp_R s_292 117 8 = none := by rw [e_293, gz_nR q_282 (by decide)]; exact q_271
  have q_306 : gp_R s_292 117 9 = none := by rw [e_293, gz_nR q_282 (by decide)]; exact q_272
  have q_307 : gp_R s_292 25 6 = none := by rw [e_293, gz_nR q_282 (by decide)]; exact q_273
  have q_308 : gp_R s_292 25 7 = none := by rw [e_293, gz_nR q_282 (by decide)]; exact q_274
  have q_309 : gp_R s_292 25 8 = none := by rw [e_293, gz_nR q_282 (by decide)]; exact q_275
  have q_310 : gp_R s_292 25 9 = none := by rw [e_293, gz_nR q_282 (by decide)]; exact q_276
  have q_311 : ∀ k, k < 8 → gp_R s_292 4 k = some 25 := fun k hk => by rw [e_293, gz_nR q_282 (by decide)]; exact q_277 k hk
  have q_312 : gp_R s_292 51 6 = some 55 := by rw [e_293, gz_nR q_282 (by decide)]; exact q_278
  have q_313 : gp_R s_292 51 7 = some 56 := by rw [e_293, gz_nR q_282 (by decide)]; exact q_279
  have q_314 : gp_sh s_292 117 = (9, 10) := by rw [e_293, gz_nS q_282 (by decide)]; exact q_280
  have q_315 : gp_us s_292 = 606950 := by rw [e_293]; show gp_us s_258 + 9 = 606950; rw [q_281]; try rfl
  have q_316 : gp_sz s_292 = 123 := by rw [e_293]; exact congrArg Nat.succ q_282
  have q_317 : gp_I s_292 117 0 = 9 := by rw [e_293, gz_nI q_282 (by decide)]; exact q_283
  have q_318 : gp_sh s_292 118 = (101, 9) := by rw [e_293, gz_nS q_282 (by decide)]; exact q_284
  have q_319 : gp_R s_292 117 1 = some 118 := by rw [e_293, gz_nR q_282 (by decide)]; exact q_285
  have q_320 : gp_sh s_292 119 = (101, 9) := by rw [e_293, gz_nS q_282 (by decide)]; exact q_286
  have q_321 : gp_R s_292 117 2 = some 119 := by rw [e_293, gz_nR q_282 (by decide)]; exact q_287
  have q_322 : gp_sh s_292 120 = (100, 9) := by rw [e_293, gz_nS q_282 (by decide)]; exact q_288
  have q_323 : gp_R s_292 117 3 = some 120 := by rw [e_293, gz_nR q_282 (by decide)]; exact q_289
  have q_324 : gp_sh s_292 121 = (100, 9) := by rw [e_293, gz_nS q_282 (by decide)]; exact q_290
  have q_325 : gp_R s_292 117 4 = some 121 := by rw [e_293, gz_nR q_282 (by decide)]; exact q_291
  have q_326 : gp_sh s_292 122 = (100, 9) := by rw [e_293]; exact gz_nSs q_282
  refine ⟨(by show (gp_sh s_292 117).1 = 9; rw [q_314]), ?_⟩
  refine ⟨rfl, ?_⟩
  intro s_327 e_328
  have hs_329 : xM z s_327 := by rw [e_328]; exact xI.wR hs_294 _ _ _
  have q_330 : gp_I s_327 1 2 = 0 := by rw [e_328]; exact q_295
  have q_331 : gp_I s_327 1 6 = 0 := by rw [e_328]; exact q_296
  have q_332 : gp_I s_327 1 7 = 1 := by rw [e_328]; exact q_297
  have q_333 : gp_I s_327 51 8 = 0 := by rw [e_328]; exact q_298
  have q_334 : gp_I s_327 57 1 = 0 := by rw [e_328]; exact q_299
  have q_335 : gp_I s_327 57 3 = 0 := by rw [e_328]; exact q_300
  have q_336 : gp_I s_327 6 4 = 0 := by rw [e_328]; exact q_301
  have q_337 : gp_R s_327 117 6 = none := by rw [e_328]; exact q_303
  have q_338 : gp_R s_327 117 7 = none := by rw [e_328]; exact q_304
  have q_339 : gp_R s_327 117 8 = none := by rw [e_328]; exact q_305
  have q_340 : gp_R s_327 117 9 = none := by rw [e_328]; exact q_306
  have q_341 : gp_R s_327 25 6 = none := by rw [e_328]; exact q_307
  have q_342 : gp_R s_327 25 7 = none := by rw [e_328]; exact q_308
  have q_343 : gp_R s_327 25 8 = none := by rw [e_328]; exact q_309
  have q_344 : gp_R s_327 25 9 = none := by rw [e_328]; exact q_310
  have q_345 : ∀ k, k < 8 → gp_R s_327 4 k = some 25 := by rw [e_328]; exact q_311
  have q_346 : gp_R s_327 51 6 = some 55 := by rw [e_328]; exact q_312
  have q_347 : gp_R s_327 51 7 = some 56 := by rw [e_328]; exact q_313
  have q_348 : gp_sh s_327 117 = (9, 10) := by rw [e_328]; exact q_314
  have q_349 : gp_us s_327 = 606950 := by rw [e_328]; exact q_315
  have q_350 : gp_sz s_327 = 123 := by rw [e_328]; exact q_316
  have q_351 : gp_I s_327 117 0 = 9 := by rw [e_328]; exact q_317
  have q_352 : gp_sh s_327 118 = (101, 9) := by rw [e_328]; exact q_318
  have q_353 : gp_R s_327 117 1 = some 118 := by rw [e_328]; exact q_319
  have q_354 : gp_sh s_327 119 = (101, 9) := by rw [e_328]; exact q_320
  have q_355 : gp_R s_327 117 2 = some 119 := by rw [e_328]; exact q_321
  have q_356 : gp_sh s_327 120 = (100, 9) := by rw [e_328]; exact q_322
  have q_357 : gp_R s_327 117 3 = some 120 := by rw [e_328]; exact q_323
  have q_358 : gp_sh s_327 121 = (100, 9) := by rw [e_328]; exact q_324
  have q_359 : gp_R s_327 117 4 = some 121 := by rw [e_328]; exact q_325
  have q_360 : gp_sh s_327 122 = (100, 9) := by rw [e_328]; exact q_326
  have q_361 : gp_R s_327 117 5 = some 122 := by rw [e_328]; rfl
  exact k s_327 hs_329 (by omega) (by omega) (by omega) (by omega) (by omega) (by omega) (by omega) (by omega) q_353 q_355 q_357 q_359 q_361 q_337 q_338 q_339 q_340 q_341 q_342 q_343 q_344 q_345 q_346 q_347 q_348 q_352 q_354 q_356 q_358 q_360 q_349 q_350
set_option maxRecDepth 100000 in
/-- Maker.pauses, the loop at 13 -/
theorem zx258_8_l13_0 {z : gH} {L d : Nat} {K : Option gV → gH → Prop}   (k : ∀ (t : gH), xM z t → (gp_I t 1 2 = 0) → (gp_I t 1 6 = 0) → (gp_I t 1 7 = 1) → (gp_I t 117 0 = 9) → (gp_I t 51 8 = 0) → (gp_I t 57 1 = 0) → (gp_I t 57 3 = 0) → (gp_I t 6 4 = 0) → (gp_R t 117 1 = some 118) → (gp_R t 117 2 = some 119) → (gp_R t 117 3 = some 120) → (gp_R t 117 4 = some 121) → (gp_R t 117 5 = some 122) → (gp_R t 117 6 = none) → (gp_R t 117 7 = none) → (gp_R t 117 8 = none) → (gp_R t 117 9 = none) → (gp_R t 25 6 = none) → (gp_R t 25 7 = none) → (gp_R t 25 8 = none) → (gp_R t 25 9 = none) → (∀ k, k < 8 → gp_R t 4 k = some 25) → (gp_R t 51 6 = some 55) → (gp_R t 51 7 = some 56) → (gp_sh t 117 = (9, 10)) → (gp_sh t 118 = (101, 9)) → (gp_sh t 119 = (101, 9)) → (gp_sh t 120 = (100, 9)) → (gp_sh t 121 = (100, 9)) → (gp_sh t 122 = (100, 9)) → (gp_us t = 606950) → (gp_sz t = 123) → K (some (gp_r (some 117))) t)  : ∀ (n : Nat) (v1 : Int) (v2 : Option Nat) (v3 : Int) (s : gH), xM z s → (61 - v3).toNat < n → (v1 = 8) → (v2 = some 117) → (1 ≤ v3 ∧ v3 ≤ 60) → (gp_I s 1 2 = 0) → (gp_I s 1 6 = 0) → (gp_I s 1 7 = 1) → (gp_I s 117 0 = 9) → (gp_I s 51 8 = 0) → (gp_I s 57 1 = 0) → (gp_I s 57 3 = 0) → (gp_I s 6 4 = 0) → (gp_R s 117 1 = some 118) → (gp_R s 117 2 = some 119) → (gp_R s 117 3 = some 120) → (gp_R s 117 4 = some 121) → (gp_R s 117 5 = some 122) → (gp_R s 117 6 = none) → (gp_R s 117 7 = none) → (gp_R s 117 8 = none) → (gp_R s 117 9 = none) → (gp_R s 25 6 = none) → (gp_R s 25 7 = none) → (gp_R s 25 8 = none) → (gp_R s 25 9 = none) → (∀ k, k < 8 → gp_R s 4 k = some 25) → (gp_R s 51 6 = some 55) → (gp_R s 51 7 = some 56) → (gp_sh s 117 = (9, 10)) → (gp_sh s 118 = (101, 9)) → (gp_sh s 119 = (101, 9)) → (gp_sh s 120 = (100, 9)) → (gp_sh s 121 = (100, 9)) → (gp_sh s 122 = (100, 9)) → (gp_us s = 606950) → (gp_sz s = 123) → gs_E L (d + 1) 258 13 [gp_r (some 20), gp_i v1, gp_r v2, gp_i v3] [] s K := by
  intro n
  induction n with
  | zero => intro v1 v2 v3 s hs hm i0 i1 i2 i3 i4 i5 i6 i7 i8 i9 i10 i11 i12 i13 i14 i15 i16 i17 i18 i19 i20 i21 i22 i23 i24 i25 i26 i27 i28 i29 i30 i31 i32 i33 i34; exact absurd hm (Nat.not_lt_zero _)
  | succ n ih =>
    intro v1 v2 v3 s hs hm i0 i1 i2 i3 i4 i5 i6 i7 i8 i9 i10 i11 i12 i13 i14 i15 i16 i17 i18 i19 i20 i21 i22 i23 i24 i25 i26 i27 i28 i29 i30 i31 i32 i33 i34
    subst i0
    subst i1
    refine s_258_13 _ _ _ ?_
    refine ⟨fun h_1 => ?_, fun h_1 => ?_⟩
    · exact k s hs (by omega) (by omega) (by omega) (by omega) (by omega) (by omega) (by omega) (by omega) i11 i12 i13 i14 i15 i16 i17 i18 i19 i20 i21 i22 i23 i24 i25 i26 i27 i28 i29 i30 i31 i32 i33 i34
    · refine ⟨117, rfl, ?_⟩
      refine ⟨(by show (gp_sh s 117).1 = 9; rw [i27]), ?_⟩
      try rw [show gp_R (gp_mk L s) 117 1 = some 118 from i11]
      have w_2 := gz_w (v3 - 1)
      refine ⟨118, rfl, ?_⟩
      refine ⟨⟨by show (gp_sh s 118).1 = 101; rw [i28], by omega, by show v3 < ((gp_sh s 118).2 : Int); rw [i28]; show v3 < 9; omega⟩, ?_⟩
      intro s_3 e_4
      have hs_5 : xM z s_3 := by rw [e_4]; exact xI.wLd hs _ _ _ (by omega)
      have q_6 : gp_I s_3 1 2 = 0 := by rw [e_4]; exact i3
      have q_7 : gp_I s_3 1 6 = 0 := by rw [e_4]; exact i4
      have q_8 : gp_I s_3 1 7 = 1 := by rw [e_4]; exact i5
      have q_9 : gp_I s_3 117 0 = 9 := by rw [e_4]; exact i6
      have q_10 : gp_I s_3 51 8 = 0 := by rw [e_4]; exact i7
      have q_11 : gp_I s_3 57 1 = 0 := by rw [e_4]; exact i8
      have q_12 : gp_I s_3 57 3 = 0 := by rw [e_4]; exact i9
      have q_13 : gp_I s_3 6 4 = 0 := by rw [e_4]; exact i10
      have q_14 : gp_R s_3 117 1 = some 118 := by rw [e_4]; exact i11
      have q_15 : gp_R s_3 117 2 = some 119 := by rw [e_4]; exact i12
      have q_16 : gp_R s_3 117 3 = some 120 := by rw [e_4]; exact i13
      have q_17 : gp_R s_3 117 4 = some 121 := by rw [e_4]; exact i14
      have q_18 : gp_R s_3 117 5 = some 122 := by rw [e_4]; exact i15
      have q_19 : gp_R s_3 117 6 = none := by rw [e_4]; exact i16
      have q_20 : gp_R s_3 117 7 = none := by rw [e_4]; exact i17
      have q_21 : gp_R s_3 117 8 = none := by rw [e_4]; exact i18
      have q_22 : gp_R s_3 117 9 = none := by rw [e_4]; exact i19
      have q_23 : gp_R s_3 25 6 = none := by rw [e_4]; exact i20
      have q_24 : gp_R s_3 25 7 = none := by rw [e_4]; exact i21
      have q_25 : gp_R s_3 25 8 = none := by rw [e_4]; exact i22
      have q_26 : gp_R s_3 25 9 = none := by rw [e_4]; exact i23
      have q_27 : ∀ k, k < 8 → gp_R s_3 4 k = some 25 := by rw [e_4]; exact i24
      have q_28 : gp_R s_3 51 6 = some 55 := by rw [e_4]; exact i25
      have q_29 : gp_R s_3 51 7 = some 56 := by rw [e_4]; exact i26
      have q_30 : gp_sh s_3 117 = (9, 10) := by rw [e_4]; exact i27
      have q_31 : gp_sh s_3 118 = (101, 9) := by rw [e_4]; exact i28
      have q_32 : gp_sh s_3 119 = (101, 9) := by rw [e_4]; exact i29
      have q_33 : gp_sh s_3 120 = (100, 9) := by rw [e_4]; exact i30
      have q_34 : gp_sh s_3 121 = (100, 9) := by rw [e_4]; exact i31
      have q_35 : gp_sh s_3 122 = (100, 9) := by rw [e_4]; exact i32
      have q_36 : gp_us s_3 = 606950 := by rw [e_4]; exact i33
      have q_37 : gp_sz s_3 = 123 := by rw [e_4]; exact i34
      refine ⟨(by show (gp_sh s_3 117).1 = 9; rw [q_30]), ?_⟩
      try rw [show gp_R (gp_mk L s_3) 117 5 = some 122 from q_18]
      refine ⟨122, rfl, ?_⟩
      refine ⟨⟨by show (gp_sh s_3 122).1 = 100; rw [q_35], by omega, by show v3 < ((gp_sh s_3 122).2 : Int); rw [q_35]; show v3 < 9; omega⟩, ?_⟩
      intro s_38 e_39
      have hs_40 : xM z s_38 := by rw [e_39]; exact xI.wId hs_5 _ _ _ (by omega)
      have q_41 : gp_I s_38 1 2 = 0 := by rw [e_39]; exact q_6
      have q_42 : gp_I s_38 1 6 = 0 := by rw [e_39]; exact q_7
      have q_43 : gp_I s_38 1 7 = 1 := by rw [e_39]; exact q_8
      have q_44 : gp_I s_38 117 0 = 9 := by rw [e_39]; exact q_9
      have q_45 : gp_I s_38 51 8 = 0 := by rw [e_39]; exact q_10
      have q_46 : gp_I s_38 57 1 = 0 := by rw [e_39]; exact q_11
      have q_47 : gp_I s_38 57 3 = 0 := by rw [e_39]; exact q_12
      have q_48 : gp_I s_38 6 4 = 0 := by rw [e_39]; exact q_13
      have q_49 : gp_R s_38 117 1 = some 118 := by rw [e_39]; exact q_14
      have q_50 : gp_R s_38 117 2 = some 119 := by rw [e_39]; exact q_15
      have q_51 : gp_R s_38 117 3 = some 120 := by rw [e_39]; exact q_16
      have q_52 : gp_R s_38 117 4 = some 121 := by rw [e_39]; exact q_17
      have q_53 : gp_R s_38 117 5 = some 122 := by rw [e_39]; exact q_18
      have q_54 : gp_R s_38 117 6 = none := by rw [e_39]; exact q_19
      have q_55 : gp_R s_38 117 7 = none := by rw [e_39]; exact q_20
      have q_56 : gp_R s_38 117 8 = none := by rw [e_39]; exact q_21
      have q_57 : gp_R s_38 117 9 = none := by rw [e_39]; exact q_22
      have q_58 : gp_R s_38 25 6 = none := by rw [e_39]; exact q_23
      have q_59 : gp_R s_38 25 7 = none := by rw [e_39]; exact q_24
      have q_60 : gp_R s_38 25 8 = none := by rw [e_39]; exact q_25
      have q_61 : gp_R s_38 25 9 = none := by rw [e_39]; exact q_26
      have q_62 : ∀ k, k < 8 → gp_R s_38 4 k = some 25 := by rw [e_39]; exact q_27
      have q_63 : gp_R s_38 51 6 = some 55 := by rw [e_39]; exact q_28
      have q_64 : gp_R s_38 51 7 = some 56 := by rw [e_39]; exact q_29
      have q_65 : gp_sh s_38 117 = (9, 10) := by rw [e_39]; exact q_30
      have q_66 : gp_sh s_38 118 = (101, 9) := by rw [e_39]; exact q_31
      have q_67 : gp_sh s_38 119 = (101, 9) := by rw [e_39]; exact q_32
      have q_68 : gp_sh s_38 120 = (100, 9) := by rw [e_39]; exact q_33
      have q_69 : gp_sh s_38 121 = (100, 9) := by rw [e_39]; exact q_34
      have q_70 : gp_sh s_38 122 = (100, 9) := by rw [e_39]; exact q_35
      have q_71 : gp_us s_38 = 606950 := by rw [e_39]; exact q_36
      have q_72 : gp_sz s_38 = 123 := by rw [e_39]; exact q_37
      have w_73 := gz_w (v3 + 1)
      exact ih _ _ _ s_38 hs_40 (by omega) (by omega) rfl (by omega) (by omega) (by omega) (by omega) (by omega) (by omega) (by omega) (by omega) (by omega) q_49 q_50 q_51 q_52 q_53 q_54 q_55 q_56 q_57 q_58 q_59 q_60 q_61 q_62 q_63 q_64 q_65 q_66 q_67 q_68 q_69 q_70 q_71 q_72
set_option maxRecDepth 100000 in
/-- Maker.pauses [(8, 8)] -/
theorem zx258_8 {z : gH} {L d : Nat} {K : Option gV → gH → Prop} {s : gH}  (hs : xM z s)  (q0 : gp_I s 1 2 = 0) (q1 : gp_I s 1 6 = 0) (q2 : gp_I s 1 7 = 1) (q3 : gp_I s 51 8 = 0) (q4 : gp_I s 57 1 = 0) (q5 : gp_I s 57 3 = 0) (q6 : gp_I s 6 4 = 0) (q7 : gp_R s 25 6 = none) (q8 : gp_R s 25 7 = none) (q9 : gp_R s 25 8 = none) (q10 : gp_R s 25 9 = none) (q11 : ∀ k, k < 8 → gp_R s 4 k = some 25) (q12 : gp_R s 51 6 = some 55) (q13 : gp_R s 51 7 = some 56) (q14 : gp_us s = 606895) (q15 : gp_sz s = 117) (k : ∀ (t : gH), xM z t → (gp_I t 1 2 = 0) → (gp_I t 1 6 = 0) → (gp_I t 1 7 = 1) → (gp_I t 117 0 = 9) → (gp_I t 51 8 = 0) → (gp_I t 57 1 = 0) → (gp_I t 57 3 = 0) → (gp_I t 6 4 = 0) → (gp_R t 117 1 = some 118) → (gp_R t 117 2 = some 119) → (gp_R t 117 3 = some 120) → (gp_R t 117 4 = some 121) → (gp_R t 117 5 = some 122) → (gp_R t 117 6 = none) → (gp_R t 117 7 = none) → (gp_R t 117 8 = none) → (gp_R t 117 9 = none) → (gp_R t 25 6 = none) → (gp_R t 25 7 = none) → (gp_R t 25 8 = none) → (gp_R t 25 9 = none) → (∀ k, k < 8 → gp_R t 4 k = some 25) → (gp_R t 51 6 = some 55) → (gp_R t 51 7 = some 56) → (gp_sh t 117 = (9, 10)) → (gp_sh t 118 = (101, 9)) → (gp_sh t 119 = (101, 9)) → (gp_sh t 120 = (100, 9)) → (gp_sh t 121 = (100, 9)) → (gp_sh t 122 = (100, 9)) → (gp_us t = 606950) → (gp_sz t = 123) → K (some (gp_r (some 117))) t) : gs_C L (d + 1) 258 4 [gp_r (some 20), gp_i 8] s K := by
  refine s_258_e _ ?_
  refine ⟨by omega, ?_⟩
  try rw [show gp_sz s = 117 from q15]
  intro s_1 e_2
  have hs_3 : xM z s_1 := by rw [e_2]; exact xI.new hs (by omega)
  have q_4 : gp_I s_1 1 2 = 0 := by rw [e_2, gz_nI q15 (by decide)]; exact q0
  have q_5 : gp_I s_1 1 6 = 0 := by rw [e_2, gz_nI q15 (by decide)]; exact q1
  have q_6 : gp_I s_1 1 7 = 1 := by rw [e_2, gz_nI q15 (by decide)]; exact q2
  have q_7 : gp_I s_1 51 8 = 0 := by rw [e_2, gz_nI q15 (by decide)]; exact q3
  have q_8 : gp_I s_1 57 1 = 0 := by rw [e_2, gz_nI q15 (by decide)]; exact q4
  have q_9 : gp_I s_1 57 3 = 0 := by rw [e_2, gz_nI q15 (by decide)]; exact q5
  have q_10 : gp_I s_1 6 4 = 0 := by rw [e_2, gz_nI q15 (by decide)]; exact q6
  have q_11 : gp_R s_1 25 6 = none := by rw [e_2, gz_nR q15 (by decide)]; exact q7
  have q_12 : gp_R s_1 25 7 = none := by rw [e_2, gz_nR q15 (by decide)]; exact q8
  have q_13 : gp_R s_1 25 8 = none := by rw [e_2, gz_nR q15 (by decide)]; exact q9
  have q_14 : gp_R s_1 25 9 = none := by rw [e_2, gz_nR q15 (by decide)]; exact q10
  have q_15 : ∀ k, k < 8 → gp_R s_1 4 k = some 25 := fun k hk => by rw [e_2, gz_nR q15 (by decide)]; exact q11 k hk
  have q_16 : gp_R s_1 51 6 = some 55 := by rw [e_2, gz_nR q15 (by decide)]; exact q12
  have q_17 : gp_R s_1 51 7 = some 56 := by rw [e_2, gz_nR q15 (by decide)]; exact q13
  have q_18 : gp_us s_1 = 606905 := by rw [e_2]; show gp_us s + 10 = 606905; rw [q14]; try rfl
  have q_19 : gp_sz s_1 = 118 := by rw [e_2]; exact congrArg Nat.succ q15
  have q_20 : gp_sh s_1 117 = (9, 10) := by rw [e_2]; exact gz_nSs q15
  have q_21 : gp_I s_1 117 0 = 0 := by rw [e_2]; exact gz_nIs q15
  have q_22 : gp_R s_1 117 1 = none := by rw [e_2]; exact gz_nRs q15
  have q_23 : gp_R s_1 117 2 = none := by rw [e_2]; exact gz_nRs q15
  have q_24 : gp_R s_1 117 3 = none := by rw [e_2]; exact gz_nRs q15
  have q_25 : gp_R s_1 117 4 = none := by rw [e_2]; exact gz_nRs q15
  have q_26 : gp_R s_1 117 5 = none := by rw [e_2]; exact gz_nRs q15
  have q_27 : gp_R s_1 117 6 = none := by rw [e_2]; exact gz_nRs q15
  have q_28 : gp_R s_1 117 7 = none := by rw [e_2]; exact gz_nRs q15
  have q_29 : gp_R s_1 117 8 = none := by rw [e_2]; exact gz_nRs q15
  have q_30 : gp_R s_1 117 9 = none := by rw [e_2]; exact gz_nRs q15
  have w_31 := gz_w (8 + 1)
  have e_32 : gp_wr (8 + 1) = 9 := by omega
  try rw [e_32]
  refine zx2304_8 hs_3 (by omega) (by omega) (by omega) (by omega) (by omega) (by omega) (by omega) (by omega) q_22 q_23 q_24 q_25 q_26 q_27 q_28 q_29 q_30 q_11 q_12 q_13 q_14 q_15 q_16 q_17 q_20 q_18 q_19 (fun s_33 hs_34 q_35 q_36 q_37 q_38 q_39 q_40 q_41 q_42 q_43 q_44 q_45 q_46 q_47 q_48 q_49 q_50 q_51 q_52 q_53 q_54 q_55 q_56 q_57 q_58 q_59 q_60 q_61 q_62 q_63 q_64 q_65 q_66 => ⟨rfl, ?_⟩)
  exact zx258_8_l13_0 k _ _ _ _ s_33 hs_34 (Nat.lt_succ_self _) (by omega) rfl (by omega) (by omega) (by omega) (by omega) (by omega) (by omega) (by omega) (by omega) (by omega) q_43 q_44 q_45 q_46 q_47 q_48 q_49 q_50 q_51 q_52 q_53 q_54 q_55 q_56 q_57 q_58 q_59 q_60 q_61 q_62 q_63 q_64 q_65 q_66
set_option maxRecDepth 100000 in
/-- GatheredPoints.hold [(0, 7), 117] -/
theorem zx2854_8 {z : gH} {L d : Nat} {K : Option gV → gH → Prop} {s : gH} (p0 : Int) (hs : xM z s) (h_p0 : 0 ≤ p0 ∧ p0 ≤ 7) (q0 : gp_I s 1 2 = 0) (q1 : gp_I s 1 6 = 0) (q2 : gp_I s 1 7 = 1) (q3 : gp_I s 117 0 = 9) (q4 : gp_I s 51 8 = 0) (q5 : gp_I s 57 1 = 0) (q6 : gp_I s 57 3 = 0) (q7 : gp_I s 6 4 = 0) (q8 : gp_R s 117 1 = some 118) (q9 : gp_R s 117 2 = some 119) (q10 : gp_R s 117 3 = some 120) (q11 : gp_R s 117 4 = some 121) (q12 : gp_R s 117 5 = some 122) (q13 : gp_R s 117 6 = none) (q14 : gp_R s 117 7 = none) (q15 : gp_R s 117 8 = none) (q16 : gp_R s 117 9 = none) (q17 : gp_R s 25 6 = none) (q18 : gp_R s 25 7 = none) (q19 : gp_R s 25 8 = none) (q20 : gp_R s 25 9 = none) (q21 : ∀ k, k < 8 → gp_R s 4 k = some 25) (q22 : gp_R s 51 6 = some 55) (q23 : gp_R s 51 7 = some 56) (q24 : gp_sh s 117 = (9, 10)) (q25 : gp_sh s 118 = (101, 9)) (q26 : gp_sh s 119 = (101, 9)) (q27 : gp_sh s 120 = (100, 9)) (q28 : gp_sh s 121 = (100, 9)) (q29 : gp_sh s 122 = (100, 9)) (q30 : gp_us s = 606950) (q31 : gp_sz s = 123) (k : ∀ (t : gH), xM z t → (gp_I t 1 2 = 0) → (gp_I t 1 6 = 0) → (gp_I t 1 7 = 1) → (gp_I t 117 0 = 9) → (gp_I t 51 8 = 0) → (gp_I t 57 1 = 0) → (gp_I t 57 3 = 0) → (gp_I t 6 4 = 0) → (gp_R t 117 1 = some 118) → (gp_R t 117 2 = some 119) → (gp_R t 117 3 = some 120) → (gp_R t 117 4 = some 121) → (gp_R t 117 5 = some 122) → (gp_R t 117 6 = none) → (gp_R t 117 7 = none) → (gp_R t 117 8 = none) → (gp_R t 117 9 = none) → (gp_R t 25 6 = none) → (gp_R t 25 7 = none) → (gp_R t 25 8 = none) → (gp_R t 25 9 = none) → (gp_R t 51 6 = some 55) → (gp_R t 51 7 = some 56) → (gp_sh t 117 = (9, 10)) → (gp_sh t 118 = (101, 9)) → (gp_sh t 119 = (101, 9)) → (gp_sh t 120 = (100, 9)) → (gp_sh t 121 = (100, 9)) → (gp_sh t 122 = (100, 9)) → (gp_us t = 606950) → (gp_sz t = 123) → K (some (gp_i 9)) t) : gs_C L d 2854 3 [gp_r (some 1), gp_i p0, gp_r (some 117)] s K := by
  refine s_2854_e _ _ ?_
  refine ⟨117, rfl, ?_⟩
  refine ⟨by omega, ?_⟩
  refine ⟨(by show (gp_sh s 117).1 = 9; rw [q24]), ?_⟩
  intro s_1 e_2
  have hs_3 : xM z s_1 := by rw [e_2]; exact xI.wR hs _ _ _
  have q_4 : gp_I s_1 1 2 = 0 := by rw [e_2]; exact q0
  have q_5 : gp_I s_1 1 6 = 0 := by rw [e_2]; exact q1
  have q_6 : gp_I s_1 1 7 = 1 := by rw [e_2]; exact q2
  have q_7 : gp_I s_1 117 0 = 9 := by rw [e_2]; exact q3
  have q_8 : gp_I s_1 51 8 = 0 := by rw [e_2]; exact q4
  have q_9 : gp_I s_1 57 1 = 0 := by rw [e_2]; exact q5
  have q_10 : gp_I s_1 57 3 = 0 := by rw [e_2]; exact q6
  have q_11 : gp_I s_1 6 4 = 0 := by rw [e_2]; exact q7
  have q_12 : gp_R s_1 117 1 = some 118 := by rw [e_2]; exact q8
  have q_13 : gp_R s_1 117 2 = some 119 := by rw [e_2]; exact q9
  have q_14 : gp_R s_1 117 3 = some 120 := by rw [e_2]; exact q10
  have q_15 : gp_R s_1 117 4 = some 121 := by rw [e_2]; exact q11
  have q_16 : gp_R s_1 117 5 = some 122 := by rw [e_2]; exact q12
  have q_17 : gp_R s_1 117 6 = none := by rw [e_2]; exact q13
  have q_18 : gp_R s_1 117 7 = none := by rw [e_2]; exact q14
  have q_19 : gp_R s_1 117 8 = none := by rw [e_2]; exact q15
  have q_20 : gp_R s_1 117 9 = none := by rw [e_2]; exact q16
  have q_21 : gp_R s_1 25 6 = none := by rw [e_2]; exact q17
  have q_22 : gp_R s_1 25 7 = none := by rw [e_2]; exact q18
  have q_23 : gp_R s_1 25 8 = none := by rw [e_2]; exact q19
  have q_24 : gp_R s_1 25 9 = none := by rw [e_2]; exact q20
  have q_25 : gp_R s_1 51 6 = some 55 := by rw [e_2]; exact q22
  have q_26 : gp_R s_1 51 7 = some 56 := by rw [e_2]; exact q23
  have q_27 : gp_sh s_1 117 = (9, 10) := by rw [e_2]; exact q24
  have q_28 : gp_sh s_1 118 = (101, 9) := by rw [e_2]; exact q25
  have q_29 : gp_sh s_1 119 = (101, 9) := by rw [e_2]; exact q26
  have q_30 : gp_sh s_1 120 = (100, 9) := by rw [e_2]; exact q27
  have q_31 : gp_sh s_1 121 = (100, 9) := by rw [e_2]; exact q28
  have q_32 : gp_sh s_1 122 = (100, 9) := by rw [e_2]; exact q29
  have q_33 : gp_us s_1 = 606950 := by rw [e_2]; exact q30
  have q_34 : gp_sz s_1 = 123 := by rw [e_2]; exact q31
  refine ⟨(by show (gp_sh s_1 117).1 = 9; rw [q_27]), ?_⟩
  try rw [show gp_I s_1 117 0 = 9 from q_7]
  exact k s_1 hs_3 (by omega) (by omega) (by omega) (by omega) (by omega) (by omega) (by omega) (by omega) q_12 q_13 q_14 q_15 q_16 q_17 q_18 q_19 q_20 q_21 q_22 q_23 q_24 q_25 q_26 q_27 q_28 q_29 q_30 q_31 q_32 q_33 q_34
set_option maxRecDepth 100000 in
/-- GatheredPoints.waits [(0, 7), (8, 8)] -/
theorem zx2821_12 {z : gH} {L d : Nat} {K : Option gV → gH → Prop} {s : gH} (p0 : Int) (hs : xM z s) (h_p0 : 0 ≤ p0 ∧ p0 ≤ 7) (q0 : gp_I s 1 2 = 0) (q1 : gp_I s 1 6 = 0) (q2 : gp_I s 1 7 = 1) (q3 : gp_I s 51 8 = 0) (q4 : gp_I s 57 1 = 0) (q5 : gp_I s 57 3 = 0) (q6 : gp_I s 6 4 = 0) (q7 : gp_R s 25 6 = none) (q8 : gp_R s 25 7 = none) (q9 : gp_R s 25 8 = none) (q10 : gp_R s 25 9 = none) (q11 : ∀ k, k < 8 → gp_R s 4 k = some 25) (q12 : gp_R s 51 6 = some 55) (q13 : gp_R s 51 7 = some 56) (q14 : gp_us s = 606895) (q15 : gp_sz s = 117) (k : ∀ (t : gH), xM z t → (gp_I t 1 2 = 0) → (gp_I t 1 6 = 0) → (gp_I t 1 7 = 1) → (gp_I t 117 0 = 9) → (gp_I t 51 8 = 0) → (gp_I t 57 1 = 0) → (gp_I t 57 3 = 0) → (gp_I t 6 4 = 0) → (gp_R t 117 1 = some 118) → (gp_R t 117 2 = some 119) → (gp_R t 117 3 = some 120) → (gp_R t 117 4 = some 121) → (gp_R t 117 5 = some 122) → (gp_R t 117 6 = none) → (gp_R t 117 7 = none) → (gp_R t 117 8 = none) → (gp_R t 117 9 = none) → (gp_R t 25 6 = none) → (gp_R t 25 7 = none) → (gp_R t 25 8 = none) → (gp_R t 25 9 = none) → (gp_R t 51 6 = some 55) → (gp_R t 51 7 = some 56) → (gp_sh t 117 = (9, 10)) → (gp_sh t 118 = (101, 9)) → (gp_sh t 119 = (101, 9)) → (gp_sh t 120 = (100, 9)) → (gp_sh t 121 = (100, 9)) → (gp_sh t 122 = (100, 9)) → (gp_us t = 606950) → (gp_sz t = 123) → K (some (gp_i 9)) t) : gs_C L (d + 2) 2821 3 [gp_r (some 1), gp_i p0, gp_i 8] s K := by
  refine s_2821_e _ _ ?_
  refine zx2856_2 _ hs (by omega) (by omega) (by omega) (by omega) (by omega) (by omega) (by omega) q7 q8 q9 q10 q11 q12 q13 (⟨_, rfl, ?_⟩)
  refine ⟨fun h_1 => ?_, fun h_1 => ?_⟩
  · refine ⟨fun h_2 => ?_, fun h_2 => ?_⟩
    · exfalso; omega
    · refine ⟨fun h_3 => ?_, fun h_3 => ?_⟩
      · exfalso; omega
      · refine zx258_8 hs (by omega) (by omega) (by omega) (by omega) (by omega) (by omega) (by omega) q7 q8 q9 q10 q11 q12 q13 q14 q15 (fun s_5 hs_6 q_7 q_8 q_9 q_10 q_11 q_12 q_13 q_14 q_15 q_16 q_17 q_18 q_19 q_20 q_21 q_22 q_23 q_24 q_25 q_26 q_27 q_28 q_29 q_30 q_31 q_32 q_33 q_34 q_35 q_36 q_37 q_38 => ⟨_, rfl, ?_⟩)
        refine zx2854_8 _ hs_6 (by omega) (by omega) (by omega) (by omega) (by omega) (by omega) (by omega) (by omega) (by omega) q_15 q_16 q_17 q_18 q_19 q_20 q_21 q_22 q_23 q_24 q_25 q_26 q_27 q_28 q_29 q_30 q_31 q_32 q_33 q_34 q_35 q_36 q_37 q_38 (fun s_39 hs_40 q_41 q_42 q_43 q_44 q_45 q_46 q_47 q_48 q_49 q_50 q_51 q_52 q_53 q_54 q_55 q_56 q_57 q_58 q_59 q_60 q_61 q_62 q_63 q_64 q_65 q_66 q_67 q_68 q_69 q_70 q_71 => ⟨_, rfl, ?_⟩)
        exact k s_39 hs_40 (by omega) (by omega) (by omega) (by omega) (by omega) (by omega) (by omega) (by omega) q_49 q_50 q_51 q_52 q_53 q_54 q_55 q_56 q_57 q_58 q_59 q_60 q_61 q_62 q_63 q_64 q_65 q_66 q_67 q_68 q_69 q_70 q_71
  · exfalso; omega
set_option maxRecDepth 100000 in
/-- Table.<init> [117, (10, 10)] -/
theorem zx2304_9 {z : gH} {L d : Nat} {K : Option gV → gH → Prop} {s : gH}  (hs : xM z s)  (q0 : gp_I s 1 2 = 0) (q1 : gp_I s 1 6 = 0) (q2 : gp_I s 1 7 = 1) (q3 : gp_I s 117 0 = 0) (q4 : gp_I s 51 8 = 0) (q5 : gp_I s 57 1 = 0) (q6 : gp_I s 57 3 = 0) (q7 : gp_I s 6 4 = 0) (q8 : gp_R s 117 1 = none) (q9 : gp_R s 117 2 = none) (q10 : gp_R s 117 3 = none) (q11 : gp_R s 117 4 = none) (q12 : gp_R s 117 5 = none) (q13 : gp_R s 117 6 = none) (q14 : gp_R s 117 7 = none) (q15 : gp_R s 117 8 = none) (q16 : gp_R s 117 9 = none) (q17 : gp_R s 25 6 = none) (q18 : gp_R s 25 7 = none) (q19 : gp_R s 25 8 = none) (q20 : gp_R s 25 9 = none) (q21 : ∀ k, k < 8 → gp_R s 4 k = some 25) (q22 : gp_R s 51 6 = some 55) (q23 : gp_R s 51 7 = some 56) (q24 : gp_sh s 117 = (9, 10)) (q25 : gp_us s = 606905) (q26 : gp_sz s = 118) (k : ∀ (t : gH), xM z t → (gp_I t 1 2 = 0) → (gp_I t 1 6 = 0) → (gp_I t 1 7 = 1) → (gp_I t 117 0 = 10) → (gp_I t 51 8 = 0) → (gp_I t 57 1 = 0) → (gp_I t 57 3 = 0) → (gp_I t 6 4 = 0) → (gp_R t 117 1 = some 118) → (gp_R t 117 2 = some 119) → (gp_R t 117 3 = some 120) → (gp_R t 117 4 = some 121) → (gp_R t 117 5 = some 122) → (gp_R t 117 6 = none) → (gp_R t 117 7 = none) → (gp_R t 117 8 = none) → (gp_R t 117 9 = none) → (gp_R t 25 6 = none) → (gp_R t 25 7 = none) → (gp_R t 25 8 = none) → (gp_R t 25 9 = none) → (∀ k, k < 8 → gp_R t 4 k = some 25) → (gp_R t 51 6 = some 55) → (gp_R t 51 7 = some 56) → (gp_sh t 117 = (9, 10)) → (gp_sh t 118 = (101, 10)) → (gp_sh t 119 = (101, 10)) → (gp_sh t 120 = (100, 10)) → (gp_sh t 121 = (100, 10)) → (gp_sh t 122 = (100, 10)) → (gp_us t = 606955) → (gp_sz t = 123) → K none t) : gs_C L d 2304 2 [gp_r (some 117), gp_i 10] s K := by
  refine s_2304_e _ _ ?_
  refine ⟨117, rfl, ?_⟩
  refine ⟨(by show (gp_sh s 117).1 = 9; rw [q24]), ?_⟩
  intro s_1 e_2
  have hs_3 : xM z s_1 := by rw [e_2]; exact xI.wId hs _ _ _ (by omega)
  have q_4 : gp_I s_1 1 2 = 0 := by rw [e_2]; exact q0
  have q_5 : gp_I s_1 1 6 = 0 := by rw [e_2]; exact q1
  have q_6 : gp_I s_1 1 7 = 1 := by rw [e_2]; exact q2
  have q_7 : gp_I s_1 51 8 = 0 := by rw [e_2]; exact q4
  have q_8 : gp_I s_1 57 1 = 0 := by rw [e_2]; exact q5
  have q_9 : gp_I s_1 57 3 = 0 := by rw [e_2]; exact q6
  have q_10 : gp_I s_1 6 4 = 0 := by rw [e_2]; exact q7
  have q_11 : gp_R s_1 117 1 = none := by rw [e_2]; exact q8
  have q_12 : gp_R s_1 117 2 = none := by rw [e_2]; exact q9
  have q_13 : gp_R s_1 117 3 = none := by rw [e_2]; exact q10
  have q_14 : gp_R s_1 117 4 = none := by rw [e_2]; exact q11
  have q_15 : gp_R s_1 117 5 = none := by rw [e_2]; exact q12
  have q_16 : gp_R s_1 117 6 = none := by rw [e_2]; exact q13
  have q_17 : gp_R s_1 117 7 = none := by rw [e_2]; exact q14
  have q_18 : gp_R s_1 117 8 = none := by rw [e_2]; exact q15
  have q_19 : gp_R s_1 117 9 = none := by rw [e_2]; exact q16
  have q_20 : gp_R s_1 25 6 = none := by rw [e_2]; exact q17
  have q_21 : gp_R s_1 25 7 = none := by rw [e_2]; exact q18
  have q_22 : gp_R s_1 25 8 = none := by rw [e_2]; exact q19
  have q_23 : gp_R s_1 25 9 = none := by rw [e_2]; exact q20
  have q_24 : ∀ k, k < 8 → gp_R s_1 4 k = some 25 := by rw [e_2]; exact q21
  have q_25 : gp_R s_1 51 6 = some 55 := by rw [e_2]; exact q22
  have q_26 : gp_R s_1 51 7 = some 56 := by rw [e_2]; exact q23
  have q_27 : gp_sh s_1 117 = (9, 10) := by rw [e_2]; exact q24
  have q_28 : gp_us s_1 = 606905 := by rw [e_2]; exact q25
  have q_29 : gp_sz s_1 = 118 := by rw [e_2]; exact q26
  have q_30 : gp_I s_1 117 0 = 10 := by rw [e_2]; rfl
  refine ⟨by omega, ?_⟩
  refine ⟨by omega, ?_⟩
  try rw [show gp_sz s_1 = 118 from q_29]
  intro s_32 e_33
  have hs_34 : xM z s_32 := by rw [e_33]; exact xI.new hs_3 (by omega)
  have q_35 : gp_I s_32 1 2 = 0 := by rw [e_33, gz_nI q_29 (by decide)]; exact q_4
  have q_36 : gp_I s_32 1 6 = 0 := by rw [e_33, gz_nI q_29 (by decide)]; exact q_5
  have q_37 : gp_I s_32 1 7 = 1 := by rw [e_33, gz_nI q_29 (by decide)]; exact q_6
  have q_38 : gp_I s_32 51 8 = 0 := by rw [e_33, gz_nI q_29 (by decide)]; exact q_7
  have q_39 : gp_I s_32 57 1 = 0 := by rw [e_33, gz_nI q_29 (by decide)]; exact q_8
  have q_40 : gp_I s_32 57 3 = 0 := by rw [e_33, gz_nI q_29 (by decide)]; exact q_9
  have q_41 : gp_I s_32 6 4 = 0 := by rw [e_33, gz_nI q_29 (by decide)]; exact q_10
  have q_42 : gp_R s_32 117 1 = none := by rw [e_33, gz_nR q_29 (by decide)]; exact q_11
  have q_43 : gp_R s_32 117 2 = none := by rw [e_33, gz_nR q_29 (by decide)]; exact q_12
  have q_44 : gp_R s_32 117 3 = none := by rw [e_33, gz_nR q_29 (by decide)]; exact q_13
  have q_45 : gp_R s_32 117 4 = none := by rw [e_33, gz_nR q_29 (by decide)]; exact q_14
  have q_46 : gp_R s_32 117 5 = none := by rw [e_33, gz_nR q_29 (by decide)]; exact q_15
  have q_47 : gp_R s_32 117 6 = none := by rw [e_33, gz_nR q_29 (by decide)]; exact q_16
  have q_48 : gp_R s_32 117 7 = none := by rw [e_33, gz_nR q_29 (by decide)]; exact q_17
  have q_49 : gp_R s_32 117 8 = none := by rw [e_33, gz_nR q_29 (by decide)]; exact q_18
  have q_50 : gp_R s_32 117 9 = none := by rw [e_33, gz_nR q_29 (by decide)]; exact q_19
  have q_51 : gp_R s_32 25 6 = none := by rw [e_33, gz_nR q_29 (by decide)]; exact q_20
  have q_52 : gp_R s_32 25 7 = none := by rw [e_33, gz_nR q_29 (by decide)]; exact q_21
  have q_53 : gp_R s_32 25 8 = none := by rw [e_33, gz_nR q_29 (by decide)]; exact q_22
  have q_54 : gp_R s_32 25 9 = none := by rw [e_33, gz_nR q_29 (by decide)]; exact q_23
  have q_55 : ∀ k, k < 8 → gp_R s_32 4 k = some 25 := fun k hk => by rw [e_33, gz_nR q_29 (by decide)]; exact q_24 k hk
  have q_56 : gp_R s_32 51 6 = some 55 := by rw [e_33, gz_nR q_29 (by decide)]; exact q_25
  have q_57 : gp_R s_32 51 7 = some 56 := by rw [e_33, gz_nR q_29 (by decide)]; exact q_26
  have q_58 : gp_sh s_32 117 = (9, 10) := by rw [e_33, gz_nS q_29 (by decide)]; exact q_27
  have q_59 : gp_us s_32 = 606915 := by rw [e_33]; show gp_us s_1 + 10 = 606915; rw [q_28]; try rfl
  have q_60 : gp_sz s_32 = 119 := by rw [e_33]; exact congrArg Nat.succ q_29
  have q_61 : gp_I s_32 117 0 = 10 := by rw [e_33, gz_nI q_29 (by decide)]; exact q_30
  have q_62 : gp_sh s_32 118 = (101, 10) := by rw [e_33]; exact gz_nSs q_29
  refine ⟨(by show (gp_sh s_32 117).1 = 9; rw [q_58]), ?_⟩
  refine ⟨rfl, ?_⟩
  intro s_63 e_64
  have hs_65 : xM z s_63 := by rw [e_64]; exact xI.wR hs_34 _ _ _
  have q_66 : gp_I s_63 1 2 = 0 := by rw [e_64]; exact q_35
  have q_67 : gp_I s_63 1 6 = 0 := by rw [e_64]; exact q_36
  have q_68 : gp_I s_63 1 7 = 1 := by rw [e_64]; exact q_37
  have q_69 : gp_I s_63 51 8 = 0 := by rw [e_64]; exact q_38
  have q_70 : gp_I s_63 57 1 = 0 := by rw [e_64]; exact q_39
  have q_71 : gp_I s_63 57 3 = 0 := by rw [e_64]; exact q_40
  have q_72 : gp_I s_63 6 4 = 0 := by rw [e_64]; exact q_41
  have q_73 : gp_R s_63 117 2 = none := by rw [e_64]; exact q_43
  have q_74 : gp_R s_63 117 3 = none := by rw [e_64]; exact q_44
  have q_75 : gp_R s_63 117 4 = none := by rw [e_64]; exact q_45
  have q_76 : gp_R s_63 117 5 = none := by rw [e_64]; exact q_46
  have q_77 : gp_R s_63 117 6 = none := by rw [e_64]; exact q_47
  have q_78 : gp_R s_63 117 7 = none := by rw [e_64]; exact q_48
  have q_79 : gp_R s_63 117 8 = none := by rw [e_64]; exact q_49
  have q_80 : gp_R s_63 117 9 = none := by rw [e_64]; exact q_50
  have q_81 : gp_R s_63 25 6 = none := by rw [e_64]; exact q_51
  have q_82 : gp_R s_63 25 7 = none := by rw [e_64]; exact q_52
  have q_83 : gp_R s_63 25 8 = none := by rw [e_64]; exact q_53
  have q_84 : gp_R s_63 25 9 = none := by rw [e_64]; exact q_54
  have q_85 : ∀ k, k < 8 → gp_R s_63 4 k = some 25 := by rw [e_64]; exact q_55
  have q_86 : gp_R s_63 51 6 = some 55 := by rw [e_64]; exact q_56
  have q_87 : gp_R s_63 51 7 = some 56 := by rw [e_64]; exact q_57
  have q_88 : gp_sh s_63 117 = (9, 10) := by rw [e_64]; exact q_58
  have q_89 : gp_us s_63 = 606915 := by rw [e_64]; exact q_59
  have q_90 : gp_sz s_63 = 119 := by rw [e_64]; exact q_60
  have q_91 : gp_I s_63 117 0 = 10 := by rw [e_64]; exact q_61
  have q_92 : gp_sh s_63 118 = (101, 10) := by rw [e_64]; exact q_62
  have q_93 : gp_R s_63 117 1 = some 118 := by rw [e_64]; rfl
  refine ⟨by omega, ?_⟩
  refine ⟨by omega, ?_⟩
  try rw [show gp_sz s_63 = 119 from q_90]
  intro s_94 e_95
  have hs_96 : xM z s_94 := by rw [e_95]; exact xI.new hs_65 (by omega)
  have q_97 : gp_I s_94 1 2 = 0 := by rw [e_95, gz_nI q_90 (by decide)]; exact q_66
  have q_98 : gp_I s_94 1 6 = 0 := by rw [e_95, gz_nI q_90 (by decide)]; exact q_67
  have q_99 : gp_I s_94 1 7 = 1 := by rw [e_95, gz_nI q_90 (by decide)]; exact q_68
  have q_100 : gp_I s_94 51 8 = 0 := by rw [e_95, gz_nI q_90 (by decide)]; exact q_69
  have q_101 : gp_I s_94 57 1 = 0 := by rw [e_95, gz_nI q_90 (by decide)]; exact q_70
  have q_102 : gp_I s_94 57 3 = 0 := by rw [e_95, gz_nI q_90 (by decide)]; exact q_71
  have q_103 : gp_I s_94 6 4 = 0 := by rw [e_95, gz_nI q_90 (by decide)]; exact q_72
  have q_104 : gp_R s_94 117 2 = none := by rw [e_95, gz_nR q_90 (by decide)]; exact q_73
  have q_105 : gp_R s_94 117 3 = none := by rw [e_95, gz_nR q_90 (by decide)]; exact q_74
  have q_106 : gp_R s_94 117 4 = none := by rw [e_95, gz_nR q_90 (by decide)]; exact q_75
  have q_107 : gp_R s_94 117 5 = none := by rw [e_95, gz_nR q_90 (by decide)]; exact q_76
  have q_108 : gp_R s_94 117 6 = none := by rw [e_95, gz_nR q_90 (by decide)]; exact q_77
  have q_109 : gp_R s_94 117 7 = none := by rw [e_95, gz_nR q_90 (by decide)]; exact q_78
  have q_110 : gp_R s_94 117 8 = none := by rw [e_95, gz_nR q_90 (by decide)]; exact q_79
  have q_111 : gp_R s_94 117 9 = none := by rw [e_95, gz_nR q_90 (by decide)]; exact q_80
  have q_112 : gp_R s_94 25 6 = none := by rw [e_95, gz_nR q_90 (by decide)]; exact q_81
  have q_113 : gp_R s_94 25 7 = none := by rw [e_95, gz_nR q_90 (by decide)]; exact q_82
  have q_114 : gp_R s_94 25 8 = none := by rw [e_95, gz_nR q_90 (by decide)]; exact q_83
  have q_115 : gp_R s_94 25 9 = none := by rw [e_95, gz_nR q_90 (by decide)]; exact q_84
  have q_116 : ∀ k, k < 8 → gp_R s_94 4 k = some 25 := fun k hk => by rw [e_95, gz_nR q_90 (by decide)]; exact q_85 k hk
  have q_117 : gp_R s_94 51 6 = some 55 := by rw [e_95, gz_nR q_90 (by decide)]; exact q_86
  have q_118 : gp_R s_94 51 7 = some 56 := by rw [e_95, gz_nR q_90 (by decide)]; exact q_87
  have q_119 : gp_sh s_94 117 = (9, 10) := by rw [e_95, gz_nS q_90 (by decide)]; exact q_88
  have q_120 : gp_us s_94 = 606925 := by rw [e_95]; show gp_us s_63 + 10 = 606925; rw [q_89]; try rfl
  have q_121 : gp_sz s_94 = 120 := by rw [e_95]; exact congrArg Nat.succ q_90
  have q_122 : gp_I s_94 117 0 = 10 := by rw [e_95, gz_nI q_90 (by decide)]; exact q_91
  have q_123 : gp_sh s_94 118 = (101, 10) := by rw [e_95, gz_nS q_90 (by decide)]; exact q_92
  have q_124 : gp_R s_94 117 1 = some 118 := by rw [e_95, gz_nR q_90 (by decide)]; exact q_93
  have q_125 : gp_sh s_94 119 = (101, 10) := by rw [e_95]; exact gz_nSs q_90
  refine ⟨(by show (gp_sh s_94 117).1 = 9; rw [q_119]), ?_⟩
  refine ⟨rfl, ?_⟩
  intro s_126 e_127
  have hs_128 : xM z s_126 := by rw [e_127]; exact xI.wR hs_96 _ _ _
  have q_129 : gp_I s_126 1 2 = 0 := by rw [e_127]; exact q_97
  have q_130 : gp_I s_126 1 6 = 0 := by rw [e_127]; exact q_98
  have q_131 : gp_I s_126 1 7 = 1 := by rw [e_127]; exact q_99
  have q_132 : gp_I s_126 51 8 = 0 := by rw [e_127]; exact q_100
  have q_133 : gp_I s_126 57 1 = 0 := by rw [e_127]; exact q_101
  have q_134 : gp_I s_126 57 3 = 0 := by rw [e_127]; exact q_102
  have q_135 : gp_I s_126 6 4 = 0 := by rw [e_127]; exact q_103
  have q_136 : gp_R s_126 117 3 = none := by rw [e_127]; exact q_105
  have q_137 : gp_R s_126 117 4 = none := by rw [e_127]; exact q_106
  have q_138 : gp_R s_126 117 5 = none := by rw [e_127]; exact q_107
  have q_139 : gp_R s_126 117 6 = none := by rw [e_127]; exact q_108
  have q_140 : gp_R s_126 117 7 = none := by rw [e_127]; exact q_109
  have q_141 : gp_R s_126 117 8 = none := by rw [e_127]; exact q_110
  have q_142 : gp_R s_126 117 9 = none := by rw [e_127]; exact q_111
  have q_143 : gp_R s_126 25 6 = none := by rw [e_127]; exact q_112
  have q_144 : gp_R s_126 25 7 = none := by rw [e_127]; exact q_113
  have q_145 : gp_R s_126 25 8 = none := by rw [e_127]; exact q_114
  have q_146 : gp_R s_126 25 9 = none := by rw [e_127]; exact q_115
  have q_147 : ∀ k, k < 8 → gp_R s_126 4 k = some 25 := by rw [e_127]; exact q_116
  have q_148 : gp_R s_126 51 6 = some 55 := by rw [e_127]; exact q_117
  have q_149 : gp_R s_126 51 7 = some 56 := by rw [e_127]; exact q_118
  have q_150 : gp_sh s_126 117 = (9, 10) := by rw [e_127]; exact q_119
  have q_151 : gp_us s_126 = 606925 := by rw [e_127]; exact q_120
  have q_152 : gp_sz s_126 = 120 := by rw [e_127]; exact q_121
  have q_153 : gp_I s_126 117 0 = 10 := by rw [e_127]; exact q_122
  have q_154 : gp_sh s_126 118 = (101, 10) := by rw [e_127]; exact q_123
  have q_155 : gp_R s_126 117 1 = some 118 := by rw [e_127]; exact q_124
  have q_156 : gp_sh s_126 119 = (101, 10) := by rw [e_127]; exact q_125
  have q_157 : gp_R s_126 117 2 = some 119 := by rw [e_127]; rfl
  refine ⟨by omega, ?_⟩
  refine ⟨by omega, ?_⟩
  try rw [show gp_sz s_126 = 120 from q_152]
  intro s_158 e_159
  have hs_160 : xM z s_158 := by rw [e_159]; exact xI.new hs_128 (by omega)
  have q_161 : gp_I s_158 1 2 = 0 := by rw [e_159, gz_nI q_152 (by decide)]; exact q_129
  have q_162 : gp_I s_158 1 6 = 0 := by rw [e_159, gz_nI q_152 (by decide)]; exact q_130
  have q_163 : gp_I s_158 1 7 = 1 := by rw [e_159, gz_nI q_152 (by decide)]; exact q_131
  have q_164 : gp_I s_158 51 8 = 0 := by rw [e_159, gz_nI q_152 (by decide)]; exact q_132
  have q_165 : gp_I s_158 57 1 = 0 := by rw [e_159, gz_nI q_152 (by decide)]; exact q_133
  have q_166 : gp_I s_158 57 3 = 0 := by rw [e_159, gz_nI q_152 (by decide)]; exact q_134
  have q_167 : gp_I s_158 6 4 = 0 := by rw [e_159, gz_nI q_152 (by decide)]; exact q_135
  have q_168 : gp_R s_158 117 3 = none := by rw [e_159, gz_nR q_152 (by decide)]; exact q_136
  have q_169 : gp_R s_158 117 4 = none := by rw [e_159, gz_nR q_152 (by decide)]; exact q_137
  have q_170 : gp_R s_158 117 5 = none := by rw [e_159, gz_nR q_152 (by decide)]; exact q_138
  have q_171 : gp_R s_158 117 6 = none := by rw [e_159, gz_nR q_152 (by decide)]; exact q_139
  have q_172 : gp_R s_158 117 7 = none := by rw [e_159, gz_nR q_152 (by decide)]; exact q_140
  have q_173 : gp_R s_158 117 8 = none := by rw [e_159, gz_nR q_152 (by decide)]; exact q_141
  have q_174 : gp_R s_158 117 9 = none := by rw [e_159, gz_nR q_152 (by decide)]; exact q_142
  have q_175 : gp_R s_158 25 6 = none := by rw [e_159, gz_nR q_152 (by decide)]; exact q_143
  have q_176 : gp_R s_158 25 7 = none := by rw [e_159, gz_nR q_152 (by decide)]; exact q_144
  have q_177 : gp_R s_158 25 8 = none := by rw [e_159, gz_nR q_152 (by decide)]; exact q_145
  have q_178 : gp_R s_158 25 9 = none := by rw [e_159, gz_nR q_152 (by decide)]; exact q_146
  have q_179 : ∀ k, k < 8 → gp_R s_158 4 k = some 25 := fun k hk => by rw [e_159, gz_nR q_152 (by decide)]; exact q_147 k hk
  have q_180 : gp_R s_158 51 6 = some 55 := by rw [e_159, gz_nR q_152 (by decide)]; exact q_148
  have q_181 : gp_R s_158 51 7 = some 56 := by rw [e_159, gz_nR q_152 (by decide)]; exact q_149
  have q_182 : gp_sh s_158 117 = (9, 10) := by rw [e_159, gz_nS q_152 (by decide)]; exact q_150
  have q_183 : gp_us s_158 = 606935 := by rw [e_159]; show gp_us s_126 + 10 = 606935; rw [q_151]; try rfl
  have q_184 : gp_sz s_158 = 121 := by rw [e_159]; exact congrArg Nat.succ q_152
  have q_185 : gp_I s_158 117 0 = 10 := by rw [e_159, gz_nI q_152 (by decide)]; exact q_153
  have q_186 : gp_sh s_158 118 = (101, 10) := by rw [e_159, gz_nS q_152 (by decide)]; exact q_154
  have q_187 : gp_R s_158 117 1 = some 118 := by rw [e_159, gz_nR q_152 (by decide)]; exact q_155
  have q_188 : gp_sh s_158 119 = (101, 10) := by rw [e_159, gz_nS q_152 (by decide)]; exact q_156
  have q_189 : gp_R s_158 117 2 = some 119 := by rw [e_159, gz_nR q_152 (by decide)]; exact q_157
  have q_190 : gp_sh s_158 120 = (100, 10) := by rw [e_159]; exact gz_nSs q_152
  refine ⟨(by show (gp_sh s_158 117).1 = 9; rw [q_182]), ?_⟩
  refine ⟨rfl, ?_⟩
  intro s_191 e_192
  have hs_193 : xM z s_191 := by rw [e_192]; exact xI.wR hs_160 _ _ _
  have q_194 : gp_I s_191 1 2 = 0 := by rw [e_192]; exact q_161
  have q_195 : gp_I s_191 1 6 = 0 := by rw [e_192]; exact q_162
  have q_196 : gp_I s_191 1 7 = 1 := by rw [e_192]; exact q_163
  have q_197 : gp_I s_191 51 8 = 0 := by rw [e_192]; exact q_164
  have q_198 : gp_I s_191 57 1 = 0 := by rw [e_192]; exact q_165
  have q_199 : gp_I s_191 57 3 = 0 := by rw [e_192]; exact q_166
  have q_200 : gp_I s_191 6 4 = 0 := by rw [e_192]; exact q_167
  have q_201 : gp_R s_191 117 4 = none := by rw [e_192]; exact q_169
  have q_202 : gp_R s_191 117 5 = none := by rw [e_192]; exact q_170
  have q_203 : gp_R s_191 117 6 = none := by rw [e_192]; exact q_171
  have q_204 : gp_R s_191 117 7 = none := by rw [e_192]; exact q_172
  have q_205 : gp_R s_191 117 8 = none := by rw [e_192]; exact q_173
  have q_206 : gp_R s_191 117 9 = none := by rw [e_192]; exact q_174
  have q_207 : gp_R s_191 25 6 = none := by rw [e_192]; exact q_175
  have q_208 : gp_R s_191 25 7 = none := by rw [e_192]; exact q_176
  have q_209 : gp_R s_191 25 8 = none := by rw [e_192]; exact q_177
  have q_210 : gp_R s_191 25 9 = none := by rw [e_192]; exact q_178
  have q_211 : ∀ k, k < 8 → gp_R s_191 4 k = some 25 := by rw [e_192]; exact q_179
  have q_212 : gp_R s_191 51 6 = some 55 := by rw [e_192]; exact q_180
  have q_213 : gp_R s_191 51 7 = some 56 := by rw [e_192]; exact q_181
  have q_214 : gp_sh s_191 117 = (9, 10) := by rw [e_192]; exact q_182
  have q_215 : gp_us s_191 = 606935 := by rw [e_192]; exact q_183
  have q_216 : gp_sz s_191 = 121 := by rw [e_192]; exact q_184
  have q_217 : gp_I s_191 117 0 = 10 := by rw [e_192]; exact q_185
  have q_218 : gp_sh s_191 118 = (101, 10) := by rw [e_192]; exact q_186
  have q_219 : gp_R s_191 117 1 = some 118 := by rw [e_192]; exact q_187
  have q_220 : gp_sh s_191 119 = (101, 10) := by rw [e_192]; exact q_188
  have q_221 : gp_R s_191 117 2 = some 119 := by rw [e_192]; exact q_189
  have q_222 : gp_sh s_191 120 = (100, 10) := by rw [e_192]; exact q_190
  have q_223 : gp_R s_191 117 3 = some 120 := by rw [e_192]; rfl
  refine ⟨by omega, ?_⟩
  refine ⟨by omega, ?_⟩
  try rw [show gp_sz s_191 = 121 from q_216]
  intro s_224 e_225
  have hs_226 : xM z s_224 := by rw [e_225]; exact xI.new hs_193 (by omega)
  have q_227 : gp_I s_224 1 2 = 0 := by rw [e_225, gz_nI q_216 (by decide)]; exact q_194
  have q_228 : gp_I s_224 1 6 = 0 := by rw [e_225, gz_nI q_216 (by decide)]; exact q_195
  have q_229 : gp_I s_224 1 7 = 1 := by rw [e_225, gz_nI q_216 (by decide)]; exact q_196
  have q_230 : gp_I s_224 51 8 = 0 := by rw [e_225, gz_nI q_216 (by decide)]; exact q_197
  have q_231 : gp_I s_224 57 1 = 0 := by rw [e_225, gz_nI q_216 (by decide)]; exact q_198
  have q_232 : gp_I s_224 57 3 = 0 := by rw [e_225, gz_nI q_216 (by decide)]; exact q_199
  have q_233 : gp_I s_224 6 4 = 0 := by rw [e_225, gz_nI q_216 (by decide)]; exact q_200
  have q_234 : gp_R s_224 117 4 = none := by rw [e_225, gz_nR q_216 (by decide)]; exact q_201
  have q_235 : gp_R s_224 117 5 = none := by rw [e_225, gz_nR q_216 (by decide)]; exact q_202
  have q_236 : gp_R s_224 117 6 = none := by rw [e_225, gz_nR q_216 (by decide)]; exact q_203
  have q_237 : gp_R s_224 117 7 = none := by rw [e_225, gz_nR q_216 (by decide)]; exact q_204
  have q_238 : gp_R s_224 117 8 = none := by rw [e_225, gz_nR q_216 (by decide)]; exact q_205
  have q_239 : gp_R s_224 117 9 = none := by rw [e_225, gz_nR q_216 (by decide)]; exact q_206
  have q_240 : gp_R s_224 25 6 = none := by rw [e_225, gz_nR q_216 (by decide)]; exact q_207
  have q_241 : gp_R s_224 25 7 = none := by rw [e_225, gz_nR q_216 (by decide)]; exact q_208
  have q_242 : gp_R s_224 25 8 = none := by rw [e_225, gz_nR q_216 (by decide)]; exact q_209
  have q_243 : gp_R s_224 25 9 = none := by rw [e_225, gz_nR q_216 (by decide)]; exact q_210
  have q_244 : ∀ k, k < 8 → gp_R s_224 4 k = some 25 := fun k hk => by rw [e_225, gz_nR q_216 (by decide)]; exact q_211 k hk
  have q_245 : gp_R s_224 51 6 = some 55 := by rw [e_225, gz_nR q_216 (by decide)]; exact q_212
  have q_246 : gp_R s_224 51 7 = some 56 := by rw [e_225, gz_nR q_216 (by decide)]; exact q_213
  have q_247 : gp_sh s_224 117 = (9, 10) := by rw [e_225, gz_nS q_216 (by decide)]; exact q_214
  have q_248 : gp_us s_224 = 606945 := by rw [e_225]; show gp_us s_191 + 10 = 606945; rw [q_215]; try rfl
  have q_249 : gp_sz s_224 = 122 := by rw [e_225]; exact congrArg Nat.succ q_216
  have q_250 : gp_I s_224 117 0 = 10 := by rw [e_225, gz_nI q_216 (by decide)]; exact q_217
  have q_251 : gp_sh s_224 118 = (101, 10) := by rw [e_225, gz_nS q_216 (by decide)]; exact q_218
  have q_252 : gp_R s_224 117 1 = some 118 := by rw [e_225, gz_nR q_216 (by decide)]; exact q_219
  have q_253 : gp_sh s_224 119 = (101, 10) := by rw [e_225, gz_nS q_216 (by decide)]; exact q_220
  have q_254 : gp_R s_224 117 2 = some 119 := by rw [e_225, gz_nR q_216 (by decide)]; exact q_221
  have q_255 : gp_sh s_224 120 = (100, 10) := by rw [e_225, gz_nS q_216 (by decide)]; exact q_222
  have q_256 : gp_R s_224 117 3 = some 120 := by rw [e_225, gz_nR q_216 (by decide)]; exact q_223
  have q_257 : gp_sh s_224 121 = (100, 10) := by rw [e_225]; exact gz_nSs q_216
  refine ⟨(by show (gp_sh s_224 117).1 = 9; rw [q_247]), ?_⟩
  refine ⟨rfl, ?_⟩
  intro s_258 e_259
  have hs_260 : xM z s_258 := by rw [e_259]; exact xI.wR hs_226 _ _ _
  have q_261 : gp_I s_258 1 2 = 0 := by rw [e_259]; exact q_227
  have q_262 : gp_I s_258 1 6 = 0 := by rw [e_259]; exact q_228
  have q_263 : gp_I s_258 1 7 = 1 := by rw [e_259]; exact q_229
  have q_264 : gp_I s_258 51 8 = 0 := by rw [e_259]; exact q_230
  have q_265 : gp_I s_258 57 1 = 0 := by rw [e_259]; exact q_231
  have q_266 : gp_I s_258 57 3 = 0 := by rw [e_259]; exact q_232
  have q_267 : gp_I s_258 6 4 = 0 := by rw [e_259]; exact q_233
  have q_268 : gp_R s_258 117 5 = none := by rw [e_259]; exact q_235
  have q_269 : gp_R s_258 117 6 = none := by rw [e_259]; exact q_236
  have q_270 : gp_R s_258 117 7 = none := by rw [e_259]; exact q_237
  have q_271 : gp_R s_258 117 8 = none := by rw [e_259]; exact q_238
  have q_272 : gp_R s_258 117 9 = none := by rw [e_259]; exact q_239
  have q_273 : gp_R s_258 25 6 = none := by rw [e_259]; exact q_240
  have q_274 : gp_R s_258 25 7 = none := by rw [e_259]; exact q_241
  have q_275 : gp_R s_258 25 8 = none := by rw [e_259]; exact q_242
  have q_276 : gp_R s_258 25 9 = none := by rw [e_259]; exact q_243
  have q_277 : ∀ k, k < 8 → gp_R s_258 4 k = some 25 := by rw [e_259]; exact q_244
  have q_278 : gp_R s_258 51 6 = some 55 := by rw [e_259]; exact q_245
  have q_279 : gp_R s_258 51 7 = some 56 := by rw [e_259]; exact q_246
  have q_280 : gp_sh s_258 117 = (9, 10) := by rw [e_259]; exact q_247
  have q_281 : gp_us s_258 = 606945 := by rw [e_259]; exact q_248
  have q_282 : gp_sz s_258 = 122 := by rw [e_259]; exact q_249
  have q_283 : gp_I s_258 117 0 = 10 := by rw [e_259]; exact q_250
  have q_284 : gp_sh s_258 118 = (101, 10) := by rw [e_259]; exact q_251
  have q_285 : gp_R s_258 117 1 = some 118 := by rw [e_259]; exact q_252
  have q_286 : gp_sh s_258 119 = (101, 10) := by rw [e_259]; exact q_253
  have q_287 : gp_R s_258 117 2 = some 119 := by rw [e_259]; exact q_254
  have q_288 : gp_sh s_258 120 = (100, 10) := by rw [e_259]; exact q_255
  have q_289 : gp_R s_258 117 3 = some 120 := by rw [e_259]; exact q_256
  have q_290 : gp_sh s_258 121 = (100, 10) := by rw [e_259]; exact q_257
  have q_291 : gp_R s_258 117 4 = some 121 := by rw [e_259]; rfl
  refine ⟨by omega, ?_⟩
  refine ⟨by omega, ?_⟩
  try rw [show gp_sz s_258 = 122 from q_282]
  intro s_292 e_293
  have hs_294 : xM z s_292 := by rw [e_293]; exact xI.new hs_260 (by omega)
  have q_295 : gp_I s_292 1 2 = 0 := by rw [e_293, gz_nI q_282 (by decide)]; exact q_261
  have q_296 : gp_I s_292 1 6 = 0 := by rw [e_293, gz_nI q_282 (by decide)]; exact q_262
  have q_297 : gp_I s_292 1 7 = 1 := by rw [e_293, gz_nI q_282 (by decide)]; exact q_263
  have q_298 : gp_I s_292 51 8 = 0 := by rw [e_293, gz_nI q_282 (by decide)]; exact q_264
  have q_299 : gp_I s_292 57 1 = 0 := by rw [e_293, gz_nI q_282 (by decide)]; exact q_265
  have q_300 : gp_I s_292 57 3 = 0 := by rw [e_293, gz_nI q_282 (by decide)]; exact q_266
  have q_301 : gp_I s_292 6 4 = 0 := by rw [e_293, gz_nI q_282 (by decide)]; exact q_267
  have q_302 : gp_R s_292 117 5 = none := by rw [e_293, gz_nR q_282 (by decide)]; exact q_268
  have q_303 : gp_R s_292 117 6 = none := by rw [e_293, gz_nR q_282 (by decide)]; exact q_269
  have q_304 : gp_R s_292 117 7 = none := by rw [e_293, gz_nR q_282 (by decide)]; exact q_270
  have q_305 : gp_R s_292 117 8 = none := by rw [e_293, gz_nR q_282 (by decide)]; exact q_271
  have q_306 : gp_R s_292 117 9 = none := by rw [e_293, gz_nR q_282 (by decide)]; exact q_272
  have q_307 : gp_R s_292 25 6 = none := by rw [e_293, gz_nR q_282 (by decide)]; exact q_273
  have q_308 : gp_R s_292 25 7 = none := by rw [e_293, gz_nR q_282 (by decide)]; exact q_274
  have q_309 : gp_R s_292 25 8 = none := by rw [e_293, gz_nR q_282 (by decide)]; exact q_275
  have q_310 : gp_R s_292 25 9 = none := by rw [e_293, gz_nR q_282 (by decide)]; exact q_276
  have q_311 : ∀ k, k < 8 → gp_R s_292 4 k = some 25 := fun k hk => by rw [e_293, gz_nR q_282 (by decide)]; exact q_277 k hk
  have q_312 : gp_R s_292 51 6 = some 55 := by rw [e_293, gz_nR q_282 (by decide)]; exact q_278
  have q_313 : gp_R s_292 51 7 = some 56 := by rw [e_293, gz_nR q_282 (by decide)]; exact q_279
  have q_314 : gp_sh s_292 117 = (9, 10) := by rw [e_293, gz_nS q_282 (by decide)]; exact q_280
  have q_315 : gp_us s_292 = 606955 := by rw [e_293]; show gp_us s_258 + 10 = 606955; rw [q_281]; try rfl
  have q_316 : gp_sz s_292 = 123 := by rw [e_293]; exact congrArg Nat.succ q_282
  have q_317 : gp_I s_292 117 0 = 10 := by rw [e_293, gz_nI q_282 (by decide)]; exact q_283
  have q_318 : gp_sh s_292 118 = (101, 10) := by rw [e_293, gz_nS q_282 (by decide)]; exact q_284
  have q_319 : gp_R s_292 117 1 = some 118 := by rw [e_293, gz_nR q_282 (by decide)]; exact q_285
  have q_320 : gp_sh s_292 119 = (101, 10) := by rw [e_293, gz_nS q_282 (by decide)]; exact q_286
  have q_321 : gp_R s_292 117 2 = some 119 := by rw [e_293, gz_nR q_282 (by decide)]; exact q_287
  have q_322 : gp_sh s_292 120 = (100, 10) := by rw [e_293, gz_nS q_282 (by decide)]; exact q_288
  have q_323 : gp_R s_292 117 3 = some 120 := by rw [e_293, gz_nR q_282 (by decide)]; exact q_289
  have q_324 : gp_sh s_292 121 = (100, 10) := by rw [e_293, gz_nS q_282 (by decide)]; exact q_290
  have q_325 : gp_R s_292 117 4 = some 121 := by rw [e_293, gz_nR q_282 (by decide)]; exact q_291
  have q_326 : gp_sh s_292 122 = (100, 10) := by rw [e_293]; exact gz_nSs q_282
  refine ⟨(by show (gp_sh s_292 117).1 = 9; rw [q_314]), ?_⟩
  refine ⟨rfl, ?_⟩
  intro s_327 e_328
  have hs_329 : xM z s_327 := by rw [e_328]; exact xI.wR hs_294 _ _ _
  have q_330 : gp_I s_327 1 2 = 0 := by rw [e_328]; exact q_295
  have q_331 : gp_I s_327 1 6 = 0 := by rw [e_328]; exact q_296
  have q_332 : gp_I s_327 1 7 = 1 := by rw [e_328]; exact q_297
  have q_333 : gp_I s_327 51 8 = 0 := by rw [e_328]; exact q_298
  have q_334 : gp_I s_327 57 1 = 0 := by rw [e_328]; exact q_299
  have q_335 : gp_I s_327 57 3 = 0 := by rw [e_328]; exact q_300
  have q_336 : gp_I s_327 6 4 = 0 := by rw [e_328]; exact q_301
  have q_337 : gp_R s_327 117 6 = none := by rw [e_328]; exact q_303
  have q_338 : gp_R s_327 117 7 = none := by rw [e_328]; exact q_304
  have q_339 : gp_R s_327 117 8 = none := by rw [e_328]; exact q_305
  have q_340 : gp_R s_327 117 9 = none := by rw [e_328]; exact q_306
  have q_341 : gp_R s_327 25 6 = none := by rw [e_328]; exact q_307
  have q_342 : gp_R s_327 25 7 = none := by rw [e_328]; exact q_308
  have q_343 : gp_R s_327 25 8 = none := by rw [e_328]; exact q_309
  have q_344 : gp_R s_327 25 9 = none := by rw [e_328]; exact q_310
  have q_345 : ∀ k, k < 8 → gp_R s_327 4 k = some 25 := by rw [e_328]; exact q_311
  have q_346 : gp_R s_327 51 6 = some 55 := by rw [e_328]; exact q_312
  have q_347 : gp_R s_327 51 7 = some 56 := by rw [e_328]; exact q_313
  have q_348 : gp_sh s_327 117 = (9, 10) := by rw [e_328]; exact q_314
  have q_349 : gp_us s_327 = 606955 := by rw [e_328]; exact q_315
  have q_350 : gp_sz s_327 = 123 := by rw [e_328]; exact q_316
  have q_351 : gp_I s_327 117 0 = 10 := by rw [e_328]; exact q_317
  have q_352 : gp_sh s_327 118 = (101, 10) := by rw [e_328]; exact q_318
  have q_353 : gp_R s_327 117 1 = some 118 := by rw [e_328]; exact q_319
  have q_354 : gp_sh s_327 119 = (101, 10) := by rw [e_328]; exact q_320
  have q_355 : gp_R s_327 117 2 = some 119 := by rw [e_328]; exact q_321
  have q_356 : gp_sh s_327 120 = (100, 10) := by rw [e_328]; exact q_322
  have q_357 : gp_R s_327 117 3 = some 120 := by rw [e_328]; exact q_323
  have q_358 : gp_sh s_327 121 = (100, 10) := by rw [e_328]; exact q_324
  have q_359 : gp_R s_327 117 4 = some 121 := by rw [e_328]; exact q_325
  have q_360 : gp_sh s_327 122 = (100, 10) := by rw [e_328]; exact q_326
  have q_361 : gp_R s_327 117 5 = some 122 := by rw [e_328]; rfl
  exact k s_327 hs_329 (by omega) (by omega) (by omega) (by omega) (by omega) (by omega) (by omega) (by omega) q_353 q_355 q_357 q_359 q_361 q_337 q_338 q_339 q_340 q_341 q_342 q_343 q_344 q_345 q_346 q_347 q_348 q_352 q_354 q_356 q_358 q_360 q_349 q_350
set_option maxRecDepth 100000 in
/-- Maker.pauses, the loop at 13 -/
theorem zx258_9_l13_0 {z : gH} {L d : Nat} {K : Option gV → gH → Prop}   (k : ∀ (t : gH), xM z t → (gp_I t 1 2 = 0) → (gp_I t 1 6 = 0) → (gp_I t 1 7 = 1) → (gp_I t 117 0 = 10) → (gp_I t 51 8 = 0) → (gp_I t 57 1 = 0) → (gp_I t 57 3 = 0) → (gp_I t 6 4 = 0) → (gp_R t 117 1 = some 118) → (gp_R t 117 2 = some 119) → (gp_R t 117 3 = some 120) → (gp_R t 117 4 = some 121) → (gp_R t 117 5 = some 122) → (gp_R t 117 6 = none) → (gp_R t 117 7 = none) → (gp_R t 117 8 = none) → (gp_R t 117 9 = none) → (gp_R t 25 6 = none) → (gp_R t 25 7 = none) → (gp_R t 25 8 = none) → (gp_R t 25 9 = none) → (∀ k, k < 8 → gp_R t 4 k = some 25) → (gp_R t 51 6 = some 55) → (gp_R t 51 7 = some 56) → (gp_sh t 117 = (9, 10)) → (gp_sh t 118 = (101, 10)) → (gp_sh t 119 = (101, 10)) → (gp_sh t 120 = (100, 10)) → (gp_sh t 121 = (100, 10)) → (gp_sh t 122 = (100, 10)) → (gp_us t = 606955) → (gp_sz t = 123) → K (some (gp_r (some 117))) t)  : ∀ (n : Nat) (v1 : Int) (v2 : Option Nat) (v3 : Int) (s : gH), xM z s → (61 - v3).toNat < n → (v1 = 9) → (v2 = some 117) → (1 ≤ v3 ∧ v3 ≤ 60) → (gp_I s 1 2 = 0) → (gp_I s 1 6 = 0) → (gp_I s 1 7 = 1) → (gp_I s 117 0 = 10) → (gp_I s 51 8 = 0) → (gp_I s 57 1 = 0) → (gp_I s 57 3 = 0) → (gp_I s 6 4 = 0) → (gp_R s 117 1 = some 118) → (gp_R s 117 2 = some 119) → (gp_R s 117 3 = some 120) → (gp_R s 117 4 = some 121) → (gp_R s 117 5 = some 122) → (gp_R s 117 6 = none) → (gp_R s 117 7 = none) → (gp_R s 117 8 = none) → (gp_R s 117 9 = none) → (gp_R s 25 6 = none) → (gp_R s 25 7 = none) → (gp_R s 25 8 = none) → (gp_R s 25 9 = none) → (∀ k, k < 8 → gp_R s 4 k = some 25) → (gp_R s 51 6 = some 55) → (gp_R s 51 7 = some 56) → (gp_sh s 117 = (9, 10)) → (gp_sh s 118 = (101, 10)) → (gp_sh s 119 = (101, 10)) → (gp_sh s 120 = (100, 10)) → (gp_sh s 121 = (100, 10)) → (gp_sh s 122 = (100, 10)) → (gp_us s = 606955) → (gp_sz s = 123) → gs_E L (d + 1) 258 13 [gp_r (some 20), gp_i v1, gp_r v2, gp_i v3] [] s K := by
  intro n
  induction n with
  | zero => intro v1 v2 v3 s hs hm i0 i1 i2 i3 i4 i5 i6 i7 i8 i9 i10 i11 i12 i13 i14 i15 i16 i17 i18 i19 i20 i21 i22 i23 i24 i25 i26 i27 i28 i29 i30 i31 i32 i33 i34; exact absurd hm (Nat.not_lt_zero _)
  | succ n ih =>
    intro v1 v2 v3 s hs hm i0 i1 i2 i3 i4 i5 i6 i7 i8 i9 i10 i11 i12 i13 i14 i15 i16 i17 i18 i19 i20 i21 i22 i23 i24 i25 i26 i27 i28 i29 i30 i31 i32 i33 i34
    subst i0
    subst i1
    refine s_258_13 _ _ _ ?_
    refine ⟨fun h_1 => ?_, fun h_1 => ?_⟩
    · exact k s hs (by omega) (by omega) (by omega) (by omega) (by omega) (by omega) (by omega) (by omega) i11 i12 i13 i14 i15 i16 i17 i18 i19 i20 i21 i22 i23 i24 i25 i26 i27 i28 i29 i30 i31 i32 i33 i34
    · refine ⟨117, rfl, ?_⟩
      refine ⟨(by show (gp_sh s 117).1 = 9; rw [i27]), ?_⟩
      try rw [show gp_R (gp_mk L s) 117 1 = some 118 from i11]
      have w_2 := gz_w (v3 - 1)
      refine ⟨118, rfl, ?_⟩
      refine ⟨⟨by show (gp_sh s 118).1 = 101; rw [i28], by omega, by show v3 < ((gp_sh s 118).2 : Int); rw [i28]; show v3 < 10; omega⟩, ?_⟩
      intro s_3 e_4
      have hs_5 : xM z s_3 := by rw [e_4]; exact xI.wLd hs _ _ _ (by omega)
      have q_6 : gp_I s_3 1 2 = 0 := by rw [e_4]; exact i3
      have q_7 : gp_I s_3 1 6 = 0 := by rw [e_4]; exact i4
      have q_8 : gp_I s_3 1 7 = 1 := by rw [e_4]; exact i5
      have q_9 : gp_I s_3 117 0 = 10 := by rw [e_4]; exact i6
      have q_10 : gp_I s_3 51 8 = 0 := by rw [e_4]; exact i7
      have q_11 : gp_I s_3 57 1 = 0 := by rw [e_4]; exact i8
      have q_12 : gp_I s_3 57 3 = 0 := by rw [e_4]; exact i9
      have q_13 : gp_I s_3 6 4 = 0 := by rw [e_4]; exact i10
      have q_14 : gp_R s_3 117 1 = some 118 := by rw [e_4]; exact i11
      have q_15 : gp_R s_3 117 2 = some 119 := by rw [e_4]; exact i12
      have q_16 : gp_R s_3 117 3 = some 120 := by rw [e_4]; exact i13
      have q_17 : gp_R s_3 117 4 = some 121 := by rw [e_4]; exact i14
      have q_18 : gp_R s_3 117 5 = some 122 := by rw [e_4]; exact i15
      have q_19 : gp_R s_3 117 6 = none := by rw [e_4]; exact i16
      have q_20 : gp_R s_3 117 7 = none := by rw [e_4]; exact i17
      have q_21 : gp_R s_3 117 8 = none := by rw [e_4]; exact i18
      have q_22 : gp_R s_3 117 9 = none := by rw [e_4]; exact i19
      have q_23 : gp_R s_3 25 6 = none := by rw [e_4]; exact i20
      have q_24 : gp_R s_3 25 7 = none := by rw [e_4]; exact i21
      have q_25 : gp_R s_3 25 8 = none := by rw [e_4]; exact i22
      have q_26 : gp_R s_3 25 9 = none := by rw [e_4]; exact i23
      have q_27 : ∀ k, k < 8 → gp_R s_3 4 k = some 25 := by rw [e_4]; exact i24
      have q_28 : gp_R s_3 51 6 = some 55 := by rw [e_4]; exact i25
      have q_29 : gp_R s_3 51 7 = some 56 := by rw [e_4]; exact i26
      have q_30 : gp_sh s_3 117 = (9, 10) := by rw [e_4]; exact i27
      have q_31 : gp_sh s_3 118 = (101, 10) := by rw [e_4]; exact i28
      have q_32 : gp_sh s_3 119 = (101, 10) := by rw [e_4]; exact i29
      have q_33 : gp_sh s_3 120 = (100, 10) := by rw [e_4]; exact i30
      have q_34 : gp_sh s_3 121 = (100, 10) := by rw [e_4]; exact i31
      have q_35 : gp_sh s_3 122 = (100, 10) := by rw [e_4]; exact i32
      have q_36 : gp_us s_3 = 606955 := by rw [e_4]; exact i33
      have q_37 : gp_sz s_3 = 123 := by rw [e_4]; exact i34
      refine ⟨(by show (gp_sh s_3 117).1 = 9; rw [q_30]), ?_⟩
      try rw [show gp_R (gp_mk L s_3) 117 5 = some 122 from q_18]
      refine ⟨122, rfl, ?_⟩
      refine ⟨⟨by show (gp_sh s_3 122).1 = 100; rw [q_35], by omega, by show v3 < ((gp_sh s_3 122).2 : Int); rw [q_35]; show v3 < 10; omega⟩, ?_⟩
      intro s_38 e_39
      have hs_40 : xM z s_38 := by rw [e_39]; exact xI.wId hs_5 _ _ _ (by omega)
      have q_41 : gp_I s_38 1 2 = 0 := by rw [e_39]; exact q_6
      have q_42 : gp_I s_38 1 6 = 0 := by rw [e_39]; exact q_7
      have q_43 : gp_I s_38 1 7 = 1 := by rw [e_39]; exact q_8
      have q_44 : gp_I s_38 117 0 = 10 := by rw [e_39]; exact q_9
      have q_45 : gp_I s_38 51 8 = 0 := by rw [e_39]; exact q_10
      have q_46 : gp_I s_38 57 1 = 0 := by rw [e_39]; exact q_11
      have q_47 : gp_I s_38 57 3 = 0 := by rw [e_39]; exact q_12
      have q_48 : gp_I s_38 6 4 = 0 := by rw [e_39]; exact q_13
      have q_49 : gp_R s_38 117 1 = some 118 := by rw [e_39]; exact q_14
      have q_50 : gp_R s_38 117 2 = some 119 := by rw [e_39]; exact q_15
      have q_51 : gp_R s_38 117 3 = some 120 := by rw [e_39]; exact q_16
      have q_52 : gp_R s_38 117 4 = some 121 := by rw [e_39]; exact q_17
      have q_53 : gp_R s_38 117 5 = some 122 := by rw [e_39]; exact q_18
      have q_54 : gp_R s_38 117 6 = none := by rw [e_39]; exact q_19
      have q_55 : gp_R s_38 117 7 = none := by rw [e_39]; exact q_20
      have q_56 : gp_R s_38 117 8 = none := by rw [e_39]; exact q_21
      have q_57 : gp_R s_38 117 9 = none := by rw [e_39]; exact q_22
      have q_58 : gp_R s_38 25 6 = none := by rw [e_39]; exact q_23
      have q_59 : gp_R s_38 25 7 = none := by rw [e_39]; exact q_24
      have q_60 : gp_R s_38 25 8 = none := by rw [e_39]; exact q_25
      have q_61 : gp_R s_38 25 9 = none := by rw [e_39]; exact q_26
      have q_62 : ∀ k, k < 8 → gp_R s_38 4 k = some 25 := by rw [e_39]; exact q_27
      have q_63 : gp_R s_38 51 6 = some 55 := by rw [e_39]; exact q_28
      have q_64 : gp_R s_38 51 7 = some 56 := by rw [e_39]; exact q_29
      have q_65 : gp_sh s_38 117 = (9, 10) := by rw [e_39]; exact q_30
      have q_66 : gp_sh s_38 118 = (101, 10) := by rw [e_39]; exact q_31
      have q_67 : gp_sh s_38 119 = (101, 10) := by rw [e_39]; exact q_32
      have q_68 : gp_sh s_38 120 = (100, 10) := by rw [e_39]; exact q_33
      have q_69 : gp_sh s_38 121 = (100, 10) := by rw [e_39]; exact q_34
      have q_70 : gp_sh s_38 122 = (100, 10) := by rw [e_39]; exact q_35
      have q_71 : gp_us s_38 = 606955 := by rw [e_39]; exact q_36
      have q_72 : gp_sz s_38 = 123 := by rw [e_39]; exact q_37
      have w_73 := gz_w (v3 + 1)
      exact ih _ _ _ s_38 hs_40 (by omega) (by omega) rfl (by omega) (by omega) (by omega) (by omega) (by omega) (by omega) (by omega) (by omega) (by omega) q_49 q_50 q_51 q_52 q_53 q_54 q_55 q_56 q_57 q_58 q_59 q_60 q_61 q_62 q_63 q_64 q_65 q_66 q_67 q_68 q_69 q_70 q_71 q_72
set_option maxRecDepth 100000 in
/-- Maker.pauses [(9, 9)] -/
theorem zx258_9 {z : gH} {L d : Nat} {K : Option gV → gH → Prop} {s : gH}  (hs : xM z s)  (q0 : gp_I s 1 2 = 0) (q1 : gp_I s 1 6 = 0) (q2 : gp_I s 1 7 = 1) (q3 : gp_I s 51 8 = 0) (q4 : gp_I s 57 1 = 0) (q5 : gp_I s 57 3 = 0) (q6 : gp_I s 6 4 = 0) (q7 : gp_R s 25 6 = none) (q8 : gp_R s 25 7 = none) (q9 : gp_R s 25 8 = none) (q10 : gp_R s 25 9 = none) (q11 : ∀ k, k < 8 → gp_R s 4 k = some 25) (q12 : gp_R s 51 6 = some 55) (q13 : gp_R s 51 7 = some 56) (q14 : gp_us s = 606895) (q15 : gp_sz s = 117) (k : ∀ (t : gH), xM z t → (gp_I t 1 2 = 0) → (gp_I t 1 6 = 0) → (gp_I t 1 7 = 1) → (gp_I t 117 0 = 10) → (gp_I t 51 8 = 0) → (gp_I t 57 1 = 0) → (gp_I t 57 3 = 0) → (gp_I t 6 4 = 0) → (gp_R t 117 1 = some 118) → (gp_R t 117 2 = some 119) → (gp_R t 117 3 = some 120) → (gp_R t 117 4 = some 121) → (gp_R t 117 5 = some 122) → (gp_R t 117 6 = none) → (gp_R t 117 7 = none) → (gp_R t 117 8 = none) → (gp_R t 117 9 = none) → (gp_R t 25 6 = none) → (gp_R t 25 7 = none) → (gp_R t 25 8 = none) → (gp_R t 25 9 = none) → (∀ k, k < 8 → gp_R t 4 k = some 25) → (gp_R t 51 6 = some 55) → (gp_R t 51 7 = some 56) → (gp_sh t 117 = (9, 10)) → (gp_sh t 118 = (101, 10)) → (gp_sh t 119 = (101, 10)) → (gp_sh t 120 = (100, 10)) → (gp_sh t 121 = (100, 10)) → (gp_sh t 122 = (100, 10)) → (gp_us t = 606955) → (gp_sz t = 123) → K (some (gp_r (some 117))) t) : gs_C L (d + 1) 258 4 [gp_r (some 20), gp_i 9] s K := by
  refine s_258_e _ ?_
  refine ⟨by omega, ?_⟩
  try rw [show gp_sz s = 117 from q15]
  intro s_1 e_2
  have hs_3 : xM z s_1 := by rw [e_2]; exact xI.new hs (by omega)
  have q_4 : gp_I s_1 1 2 = 0 := by rw [e_2, gz_nI q15 (by decide)]; exact q0
  have q_5 : gp_I s_1 1 6 = 0 := by rw [e_2, gz_nI q15 (by decide)]; exact q1
  have q_6 : gp_I s_1 1 7 = 1 := by rw [e_2, gz_nI q15 (by decide)]; exact q2
  have q_7 : gp_I s_1 51 8 = 0 := by rw [e_2, gz_nI q15 (by decide)]; exact q3
  have q_8 : gp_I s_1 57 1 = 0 := by rw [e_2, gz_nI q15 (by decide)]; exact q4
  have q_9 : gp_I s_1 57 3 = 0 := by rw [e_2, gz_nI q15 (by decide)]; exact q5
  have q_10 : gp_I s_1 6 4 = 0 := by rw [e_2, gz_nI q15 (by decide)]; exact q6
  have q_11 : gp_R s_1 25 6 = none := by rw [e_2, gz_nR q15 (by decide)]; exact q7
  have q_12 : gp_R s_1 25 7 = none := by rw [e_2, gz_nR q15 (by decide)]; exact q8
  have q_13 : gp_R s_1 25 8 = none := by rw [e_2, gz_nR q15 (by decide)]; exact q9
  have q_14 : gp_R s_1 25 9 = none := by rw [e_2, gz_nR q15 (by decide)]; exact q10
  have q_15 : ∀ k, k < 8 → gp_R s_1 4 k = some 25 := fun k hk => by rw [e_2, gz_nR q15 (by decide)]; exact q11 k hk
  have q_16 : gp_R s_1 51 6 = some 55 := by rw [e_2, gz_nR q15 (by decide)]; exact q12
  have q_17 : gp_R s_1 51 7 = some 56 := by rw [e_2, gz_nR q15 (by decide)]; exact q13
  have q_18 : gp_us s_1 = 606905 := by rw [e_2]; show gp_us s + 10 = 606905; rw [q14]; try rfl
  have q_19 : gp_sz s_1 = 118 := by rw [e_2]; exact congrArg Nat.succ q15
  have q_20 : gp_sh s_1 117 = (9, 10) := by rw [e_2]; exact gz_nSs q15
  have q_21 : gp_I s_1 117 0 = 0 := by rw [e_2]; exact gz_nIs q15
  have q_22 : gp_R s_1 117 1 = none := by rw [e_2]; exact gz_nRs q15
  have q_23 : gp_R s_1 117 2 = none := by rw [e_2]; exact gz_nRs q15
  have q_24 : gp_R s_1 117 3 = none := by rw [e_2]; exact gz_nRs q15
  have q_25 : gp_R s_1 117 4 = none := by rw [e_2]; exact gz_nRs q15
  have q_26 : gp_R s_1 117 5 = none := by rw [e_2]; exact gz_nRs q15
  have q_27 : gp_R s_1 117 6 = none := by rw [e_2]; exact gz_nRs q15
  have q_28 : gp_R s_1 117 7 = none := by rw [e_2]; exact gz_nRs q15
  have q_29 : gp_R s_1 117 8 = none := by rw [e_2]; exact gz_nRs q15
  have q_30 : gp_R s_1 117 9 = none := by rw [e_2]; exact gz_nRs q15
  have w_31 := gz_w (9 + 1)
  have e_32 : gp_wr (9 + 1) = 10 := by omega
  try rw [e_32]
  refine zx2304_9 hs_3 (by omega) (by omega) (by omega) (by omega) (by omega) (by omega) (by omega) (by omega) q_22 q_23 q_24 q_25 q_26 q_27 q_28 q_29 q_30 q_11 q_12 q_13 q_14 q_15 q_16 q_17 q_20 q_18 q_19 (fun s_33 hs_34 q_35 q_36 q_37 q_38 q_39 q_40 q_41 q_42 q_43 q_44 q_45 q_46 q_47 q_48 q_49 q_50 q_51 q_52 q_53 q_54 q_55 q_56 q_57 q_58 q_59 q_60 q_61 q_62 q_63 q_64 q_65 q_66 => ⟨rfl, ?_⟩)
  exact zx258_9_l13_0 k _ _ _ _ s_33 hs_34 (Nat.lt_succ_self _) (by omega) rfl (by omega) (by omega) (by omega) (by omega) (by omega) (by omega) (by omega) (by omega) (by omega) q_43 q_44 q_45 q_46 q_47 q_48 q_49 q_50 q_51 q_52 q_53 q_54 q_55 q_56 q_57 q_58 q_59 q_60 q_61 q_62 q_63 q_64 q_65 q_66
set_option maxRecDepth 100000 in
/-- GatheredPoints.hold [(0, 7), 117] -/
theorem zx2854_9 {z : gH} {L d : Nat} {K : Option gV → gH → Prop} {s : gH} (p0 : Int) (hs : xM z s) (h_p0 : 0 ≤ p0 ∧ p0 ≤ 7) (q0 : gp_I s 1 2 = 0) (q1 : gp_I s 1 6 = 0) (q2 : gp_I s 1 7 = 1) (q3 : gp_I s 117 0 = 10) (q4 : gp_I s 51 8 = 0) (q5 : gp_I s 57 1 = 0) (q6 : gp_I s 57 3 = 0) (q7 : gp_I s 6 4 = 0) (q8 : gp_R s 117 1 = some 118) (q9 : gp_R s 117 2 = some 119) (q10 : gp_R s 117 3 = some 120) (q11 : gp_R s 117 4 = some 121) (q12 : gp_R s 117 5 = some 122) (q13 : gp_R s 117 6 = none) (q14 : gp_R s 117 7 = none) (q15 : gp_R s 117 8 = none) (q16 : gp_R s 117 9 = none) (q17 : gp_R s 25 6 = none) (q18 : gp_R s 25 7 = none) (q19 : gp_R s 25 8 = none) (q20 : gp_R s 25 9 = none) (q21 : ∀ k, k < 8 → gp_R s 4 k = some 25) (q22 : gp_R s 51 6 = some 55) (q23 : gp_R s 51 7 = some 56) (q24 : gp_sh s 117 = (9, 10)) (q25 : gp_sh s 118 = (101, 10)) (q26 : gp_sh s 119 = (101, 10)) (q27 : gp_sh s 120 = (100, 10)) (q28 : gp_sh s 121 = (100, 10)) (q29 : gp_sh s 122 = (100, 10)) (q30 : gp_us s = 606955) (q31 : gp_sz s = 123) (k : ∀ (t : gH), xM z t → (gp_I t 1 2 = 0) → (gp_I t 1 6 = 0) → (gp_I t 1 7 = 1) → (gp_I t 117 0 = 10) → (gp_I t 51 8 = 0) → (gp_I t 57 1 = 0) → (gp_I t 57 3 = 0) → (gp_I t 6 4 = 0) → (gp_R t 117 1 = some 118) → (gp_R t 117 2 = some 119) → (gp_R t 117 3 = some 120) → (gp_R t 117 4 = some 121) → (gp_R t 117 5 = some 122) → (gp_R t 117 6 = none) → (gp_R t 117 7 = none) → (gp_R t 117 8 = none) → (gp_R t 117 9 = none) → (gp_R t 25 6 = none) → (gp_R t 25 7 = none) → (gp_R t 25 8 = none) → (gp_R t 25 9 = none) → (gp_R t 51 6 = some 55) → (gp_R t 51 7 = some 56) → (gp_sh t 117 = (9, 10)) → (gp_sh t 118 = (101, 10)) → (gp_sh t 119 = (101, 10)) → (gp_sh t 120 = (100, 10)) → (gp_sh t 121 = (100, 10)) → (gp_sh t 122 = (100, 10)) → (gp_us t = 606955) → (gp_sz t = 123) → K (some (gp_i 10)) t) : gs_C L d 2854 3 [gp_r (some 1), gp_i p0, gp_r (some 117)] s K := by
  refine s_2854_e _ _ ?_
  refine ⟨117, rfl, ?_⟩
  refine ⟨by omega, ?_⟩
  refine ⟨(by show (gp_sh s 117).1 = 9; rw [q24]), ?_⟩
  intro s_1 e_2
  have hs_3 : xM z s_1 := by rw [e_2]; exact xI.wR hs _ _ _
  have q_4 : gp_I s_1 1 2 = 0 := by rw [e_2]; exact q0
  have q_5 : gp_I s_1 1 6 = 0 := by rw [e_2]; exact q1
  have q_6 : gp_I s_1 1 7 = 1 := by rw [e_2]; exact q2
  have q_7 : gp_I s_1 117 0 = 10 := by rw [e_2]; exact q3
  have q_8 : gp_I s_1 51 8 = 0 := by rw [e_2]; exact q4
  have q_9 : gp_I s_1 57 1 = 0 := by rw [e_2]; exact q5
  have q_10 : gp_I s_1 57 3 = 0 := by rw [e_2]; exact q6
  have q_11 : gp_I s_1 6 4 = 0 := by rw [e_2]; exact q7
  have q_12 : gp_R s_1 117 1 = some 118 := by rw [e_2]; exact q8
  have q_13 : gp_R s_1 117 2 = some 119 := by rw [e_2]; exact q9
  have q_14 : gp_R s_1 117 3 = some 120 := by rw [e_2]; exact q10
  have q_15 : gp_R s_1 117 4 = some 121 := by rw [e_2]; exact q11
  have q_16 : gp_R s_1 117 5 = some 122 := by rw [e_2]; exact q12
  have q_17 : gp_R s_1 117 6 = none := by rw [e_2]; exact q13
  have q_18 : gp_R s_1 117 7 = none := by rw [e_2]; exact q14
  have q_19 : gp_R s_1 117 8 = none := by rw [e_2]; exact q15
  have q_20 : gp_R s_1 117 9 = none := by rw [e_2]; exact q16
  have q_21 : gp_R s_1 25 6 = none := by rw [e_2]; exact q17
  have q_22 : gp_R s_1 25 7 = none := by rw [e_2]; exact q18
  have q_23 : gp_R s_1 25 8 = none := by rw [e_2]; exact q19
  have q_24 : gp_R s_1 25 9 = none := by rw [e_2]; exact q20
  have q_25 : gp_R s_1 51 6 = some 55 := by rw [e_2]; exact q22
  have q_26 : gp_R s_1 51 7 = some 56 := by rw [e_2]; exact q23
  have q_27 : gp_sh s_1 117 = (9, 10) := by rw [e_2]; exact q24
  have q_28 : gp_sh s_1 118 = (101, 10) := by rw [e_2]; exact q25
  have q_29 : gp_sh s_1 119 = (101, 10) := by rw [e_2]; exact q26
  have q_30 : gp_sh s_1 120 = (100, 10) := by rw [e_2]; exact q27
  have q_31 : gp_sh s_1 121 = (100, 10) := by rw [e_2]; exact q28
  have q_32 : gp_sh s_1 122 = (100, 10) := by rw [e_2]; exact q29
  have q_33 : gp_us s_1 = 606955 := by rw [e_2]; exact q30
  have q_34 : gp_sz s_1 = 123 := by rw [e_2]; exact q31
  refine ⟨(by show (gp_sh s_1 117).1 = 9; rw [q_27]), ?_⟩
  try rw [show gp_I s_1 117 0 = 10 from q_7]
  exact k s_1 hs_3 (by omega) (by omega) (by omega) (by omega) (by omega) (by omega) (by omega) (by omega) q_12 q_13 q_14 q_15 q_16 q_17 q_18 q_19 q_20 q_21 q_22 q_23 q_24 q_25 q_26 q_27 q_28 q_29 q_30 q_31 q_32 q_33 q_34
set_option maxRecDepth 100000 in
/-- GatheredPoints.waits [(0, 7), (9, 9)] -/
theorem zx2821_13 {z : gH} {L d : Nat} {K : Option gV → gH → Prop} {s : gH} (p0 : Int) (hs : xM z s) (h_p0 : 0 ≤ p0 ∧ p0 ≤ 7) (q0 : gp_I s 1 2 = 0) (q1 : gp_I s 1 6 = 0) (q2 : gp_I s 1 7 = 1) (q3 : gp_I s 51 8 = 0) (q4 : gp_I s 57 1 = 0) (q5 : gp_I s 57 3 = 0) (q6 : gp_I s 6 4 = 0) (q7 : gp_R s 25 6 = none) (q8 : gp_R s 25 7 = none) (q9 : gp_R s 25 8 = none) (q10 : gp_R s 25 9 = none) (q11 : ∀ k, k < 8 → gp_R s 4 k = some 25) (q12 : gp_R s 51 6 = some 55) (q13 : gp_R s 51 7 = some 56) (q14 : gp_us s = 606895) (q15 : gp_sz s = 117) (k : ∀ (t : gH), xM z t → (gp_I t 1 2 = 0) → (gp_I t 1 6 = 0) → (gp_I t 1 7 = 1) → (gp_I t 117 0 = 10) → (gp_I t 51 8 = 0) → (gp_I t 57 1 = 0) → (gp_I t 57 3 = 0) → (gp_I t 6 4 = 0) → (gp_R t 117 1 = some 118) → (gp_R t 117 2 = some 119) → (gp_R t 117 3 = some 120) → (gp_R t 117 4 = some 121) → (gp_R t 117 5 = some 122) → (gp_R t 117 6 = none) → (gp_R t 117 7 = none) → (gp_R t 117 8 = none) → (gp_R t 117 9 = none) → (gp_R t 25 6 = none) → (gp_R t 25 7 = none) → (gp_R t 25 8 = none) → (gp_R t 25 9 = none) → (gp_R t 51 6 = some 55) → (gp_R t 51 7 = some 56) → (gp_sh t 117 = (9, 10)) → (gp_sh t 118 = (101, 10)) → (gp_sh t 119 = (101, 10)) → (gp_sh t 120 = (100, 10)) → (gp_sh t 121 = (100, 10)) → (gp_sh t 122 = (100, 10)) → (gp_us t = 606955) → (gp_sz t = 123) → K (some (gp_i 10)) t) : gs_C L (d + 2) 2821 3 [gp_r (some 1), gp_i p0, gp_i 9] s K := by
  refine s_2821_e _ _ ?_
  refine zx2856_2 _ hs (by omega) (by omega) (by omega) (by omega) (by omega) (by omega) (by omega) q7 q8 q9 q10 q11 q12 q13 (⟨_, rfl, ?_⟩)
  refine ⟨fun h_1 => ?_, fun h_1 => ?_⟩
  · refine ⟨fun h_2 => ?_, fun h_2 => ?_⟩
    · exfalso; omega
    · refine ⟨fun h_3 => ?_, fun h_3 => ?_⟩
      · exfalso; omega
      · refine zx258_9 hs (by omega) (by omega) (by omega) (by omega) (by omega) (by omega) (by omega) q7 q8 q9 q10 q11 q12 q13 q14 q15 (fun s_5 hs_6 q_7 q_8 q_9 q_10 q_11 q_12 q_13 q_14 q_15 q_16 q_17 q_18 q_19 q_20 q_21 q_22 q_23 q_24 q_25 q_26 q_27 q_28 q_29 q_30 q_31 q_32 q_33 q_34 q_35 q_36 q_37 q_38 => ⟨_, rfl, ?_⟩)
        refine zx2854_9 _ hs_6 (by omega) (by omega) (by omega) (by omega) (by omega) (by omega) (by omega) (by omega) (by omega) q_15 q_16 q_17 q_18 q_19 q_20 q_21 q_22 q_23 q_24 q_25 q_26 q_27 q_28 q_29 q_30 q_31 q_32 q_33 q_34 q_35 q_36 q_37 q_38 (fun s_39 hs_40 q_41 q_42 q_43 q_44 q_45 q_46 q_47 q_48 q_49 q_50 q_51 q_52 q_53 q_54 q_55 q_56 q_57 q_58 q_59 q_60 q_61 q_62 q_63 q_64 q_65 q_66 q_67 q_68 q_69 q_70 q_71 => ⟨_, rfl, ?_⟩)
        exact k s_39 hs_40 (by omega) (by omega) (by omega) (by omega) (by omega) (by omega) (by omega) (by omega) q_49 q_50 q_51 q_52 q_53 q_54 q_55 q_56 q_57 q_58 q_59 q_60 q_61 q_62 q_63 q_64 q_65 q_66 q_67 q_68 q_69 q_70 q_71
  · exfalso; omega
set_option maxRecDepth 100000 in
/-- Table.<init> [117, (11, 11)] -/
theorem zx2304_10 {z : gH} {L d : Nat} {K : Option gV → gH → Prop} {s : gH}  (hs : xM z s)  (q0 : gp_I s 1 2 = 0) (q1 : gp_I s 1 6 = 0) (q2 : gp_I s 1 7 = 1) (q3 : gp_I s 117 0 = 0) (q4 : gp_I s 51 8 = 0) (q5 : gp_I s 57 1 = 0) (q6 : gp_I s 57 3 = 0) (q7 : gp_I s 6 4 = 0) (q8 : gp_R s 117 1 = none) (q9 : gp_R s 117 2 = none) (q10 : gp_R s 117 3 = none) (q11 : gp_R s 117 4 = none) (q12 : gp_R s 117 5 = none) (q13 : gp_R s 117 6 = none) (q14 : gp_R s 117 7 = none) (q15 : gp_R s 117 8 = none) (q16 : gp_R s 117 9 = none) (q17 : gp_R s 25 6 = none) (q18 : gp_R s 25 7 = none) (q19 : gp_R s 25 8 = none) (q20 : gp_R s 25 9 = none) (q21 : ∀ k, k < 8 → gp_R s 4 k = some 25) (q22 : gp_R s 51 6 = some 55) (q23 : gp_R s 51 7 = some 56) (q24 : gp_sh s 117 = (9, 10)) (q25 : gp_us s = 606905) (q26 : gp_sz s = 118) (k : ∀ (t : gH), xM z t → (gp_I t 1 2 = 0) → (gp_I t 1 6 = 0) → (gp_I t 1 7 = 1) → (gp_I t 117 0 = 11) → (gp_I t 51 8 = 0) → (gp_I t 57 1 = 0) → (gp_I t 57 3 = 0) → (gp_I t 6 4 = 0) → (gp_R t 117 1 = some 118) → (gp_R t 117 2 = some 119) → (gp_R t 117 3 = some 120) → (gp_R t 117 4 = some 121) → (gp_R t 117 5 = some 122) → (gp_R t 117 6 = none) → (gp_R t 117 7 = none) → (gp_R t 117 8 = none) → (gp_R t 117 9 = none) → (gp_R t 25 6 = none) → (gp_R t 25 7 = none) → (gp_R t 25 8 = none) → (gp_R t 25 9 = none) → (∀ k, k < 8 → gp_R t 4 k = some 25) → (gp_R t 51 6 = some 55) → (gp_R t 51 7 = some 56) → (gp_sh t 117 = (9, 10)) → (gp_sh t 118 = (101, 11)) → (gp_sh t 119 = (101, 11)) → (gp_sh t 120 = (100, 11)) → (gp_sh t 121 = (100, 11)) → (gp_sh t 122 = (100, 11)) → (gp_us t = 606960) → (gp_sz t = 123) → K none t) : gs_C L d 2304 2 [gp_r (some 117), gp_i 11] s K := by
  refine s_2304_e _ _ ?_
  refine ⟨117, rfl, ?_⟩
  refine ⟨(by show (gp_sh s 117).1 = 9; rw [q24]), ?_⟩
  intro s_1 e_2
  have hs_3 : xM z s_1 := by rw [e_2]; exact xI.wId hs _ _ _ (by omega)
  have q_4 : gp_I s_1 1 2 = 0 := by rw [e_2]; exact q0
  have q_5 : gp_I s_1 1 6 = 0 := by rw [e_2]; exact q1
  have q_6 : gp_I s_1 1 7 = 1 := by rw [e_2]; exact q2
  have q_7 : gp_I s_1 51 8 = 0 := by rw [e_2]; exact q4
  have q_8 : gp_I s_1 57 1 = 0 := by rw [e_2]; exact q5
  have q_9 : gp_I s_1 57 3 = 0 := by rw [e_2]; exact q6
  have q_10 : gp_I s_1 6 4 = 0 := by rw [e_2]; exact q7
  have q_11 : gp_R s_1 117 1 = none := by rw [e_2]; exact q8
  have q_12 : gp_R s_1 117 2 = none := by rw [e_2]; exact q9
  have q_13 : gp_R s_1 117 3 = none := by rw [e_2]; exact q10
  have q_14 : gp_R s_1 117 4 = none := by rw [e_2]; exact q11
  have q_15 : gp_R s_1 117 5 = none := by rw [e_2]; exact q12
  have q_16 : gp_R s_1 117 6 = none := by rw [e_2]; exact q13
  have q_17 : gp_R s_1 117 7 = none := by rw [e_2]; exact q14
  have q_18 : gp_R s_1 117 8 = none := by rw [e_2]; exact q15
  have q_19 : gp_R s_1 117 9 = none := by rw [e_2]; exact q16
  have q_20 : gp_R s_1 25 6 = none := by rw [e_2]; exact q17
  have q_21 : gp_R s_1 25 7 = none := by rw [e_2]; exact q18
  have q_22 : gp_R s_1 25 8 = none := by rw [e_2]; exact q19
  have q_23 : gp_R s_1 25 9 = none := by rw [e_2]; exact q20
  have q_24 : ∀ k, k < 8 → gp_R s_1 4 k = some 25 := by rw [e_2]; exact q21
  have q_25 : gp_R s_1 51 6 = some 55 := by rw [e_2]; exact q22
  have q_26 : gp_R s_1 51 7 = some 56 := by rw [e_2]; exact q23
  have q_27 : gp_sh s_1 117 = (9, 10) := by rw [e_2]; exact q24
  have q_28 : gp_us s_1 = 606905 := by rw [e_2]; exact q25
  have q_29 : gp_sz s_1 = 118 := by rw [e_2]; exact q26
  have q_30 : gp_I s_1 117 0 = 11 := by rw [e_2]; rfl
  refine ⟨by omega, ?_⟩
  refine ⟨by omega, ?_⟩
  try rw [show gp_sz s_1 = 118 from q_29]
  intro s_32 e_33
  have hs_34 : xM z s_32 := by rw [e_33]; exact xI.new hs_3 (by omega)
  have q_35 : gp_I s_32 1 2 = 0 := by rw [e_33, gz_nI q_29 (by decide)]; exact q_4
  have q_36 : gp_I s_32 1 6 = 0 := by rw [e_33, gz_nI q_29 (by decide)]; exact q_5
  have q_37 : gp_I s_32 1 7 = 1 := by rw [e_33, gz_nI q_29 (by decide)]; exact q_6
  have q_38 : gp_I s_32 51 8 = 0 := by rw [e_33, gz_nI q_29 (by decide)]; exact q_7
  have q_39 : gp_I s_32 57 1 = 0 := by rw [e_33, gz_nI q_29 (by decide)]; exact q_8
  have q_40 : gp_I s_32 57 3 = 0 := by rw [e_33, gz_nI q_29 (by decide)]; exact q_9
  have q_41 : gp_I s_32 6 4 = 0 := by rw [e_33, gz_nI q_29 (by decide)]; exact q_10
  have q_42 : gp_R s_32 117 1 = none := by rw [e_33, gz_nR q_29 (by decide)]; exact q_11
  have q_43 : gp_R s_32 117 2 = none := by rw [e_33, gz_nR q_29 (by decide)]; exact q_12
  have q_44 : gp_R s_32 117 3 = none := by rw [e_33, gz_nR q_29 (by decide)]; exact q_13
  have q_45 : gp_R s_32 117 4 = none := by rw [e_33, gz_nR q_29 (by decide)]; exact q_14
  have q_46 : gp_R s_32 117 5 = none := by rw [e_33, gz_nR q_29 (by decide)]; exact q_15
  have q_47 : gp_R s_32 117 6 = none := by rw [e_33, gz_nR q_29 (by decide)]; exact q_16
  have q_48 : gp_R s_32 117 7 = none := by rw [e_33, gz_nR q_29 (by decide)]; exact q_17
  have q_49 : gp_R s_32 117 8 = none := by rw [e_33, gz_nR q_29 (by decide)]; exact q_18
  have q_50 : gp_R s_32 117 9 = none := by rw [e_33, gz_nR q_29 (by decide)]; exact q_19
  have q_51 : gp_R s_32 25 6 = none := by rw [e_33, gz_nR q_29 (by decide)]; exact q_20
  have q_52 : gp_R s_32 25 7 = none := by rw [e_33, gz_nR q_29 (by decide)]; exact q_21
  have q_53 : gp_R s_32 25 8 = none := by rw [e_33, gz_nR q_29 (by decide)]; exact q_22
  have q_54 : gp_R s_32 25 9 = none := by rw [e_33, gz_nR q_29 (by decide)]; exact q_23
  have q_55 : ∀ k, k < 8 → gp_R s_32 4 k = some 25 := fun k hk => by rw [e_33, gz_nR q_29 (by decide)]; exact q_24 k hk
  have q_56 : gp_R s_32 51 6 = some 55 := by rw [e_33, gz_nR q_29 (by decide)]; exact q_25
  have q_57 : gp_R s_32 51 7 = some 56 := by rw [e_33, gz_nR q_29 (by decide)]; exact q_26
  have q_58 : gp_sh s_32 117 = (9, 10) := by rw [e_33, gz_nS q_29 (by decide)]; exact q_27
  have q_59 : gp_us s_32 = 606916 := by rw [e_33]; show gp_us s_1 + 11 = 606916; rw [q_28]; try rfl
  have q_60 : gp_sz s_32 = 119 := by rw [e_33]; exact congrArg Nat.succ q_29
  have q_61 : gp_I s_32 117 0 = 11 := by rw [e_33, gz_nI q_29 (by decide)]; exact q_30
  have q_62 : gp_sh s_32 118 = (101, 11) := by rw [e_33]; exact gz_nSs q_29
  refine ⟨(by show (gp_sh s_32 117).1 = 9; rw [q_58]), ?_⟩
  refine ⟨rfl, ?_⟩
  intro s_63 e_64
  have hs_65 : xM z s_63 := by rw [e_64]; exact xI.wR hs_34 _ _ _
  have q_66 : gp_I s_63 1 2 = 0 := by rw [e_64]; exact q_35
  have q_67 : gp_I s_63 1 6 = 0 := by rw [e_64]; exact q_36
  have q_68 : gp_I s_63 1 7 = 1 := by rw [e_64]; exact q_37
  have q_69 : gp_I s_63 51 8 = 0 := by rw [e_64]; exact q_38
  have q_70 : gp_I s_63 57 1 = 0 := by rw [e_64]; exact q_39
  have q_71 : gp_I s_63 57 3 = 0 := by rw [e_64]; exact q_40
  have q_72 : gp_I s_63 6 4 = 0 := by rw [e_64]; exact q_41
  have q_73 : gp_R s_63 117 2 = none := by rw [e_64]; exact q_43
  have q_74 : gp_R s_63 117 3 = none := by rw [e_64]; exact q_44
  have q_75 : gp_R s_63 117 4 = none := by rw [e_64]; exact q_45
  have q_76 : gp_R s_63 117 5 = none := by rw [e_64]; exact q_46
  have q_77 : gp_R s_63 117 6 = none := by rw [e_64]; exact q_47
  have q_78 : gp_R s_63 117 7 = none := by rw [e_64]; exact q_48
  have q_79 : gp_R s_63 117 8 = none := by rw [e_64]; exact q_49
  have q_80 : gp_R s_63 117 9 = none := by rw [e_64]; exact q_50
  have q_81 : gp_R s_63 25 6 = none := by rw [e_64]; exact q_51
  have q_82 : gp_R s_63 25 7 = none := by rw [e_64]; exact q_52
  have q_83 : gp_R s_63 25 8 = none := by rw [e_64]; exact q_53
  have q_84 : gp_R s_63 25 9 = none := by rw [e_64]; exact q_54
  have q_85 : ∀ k, k < 8 → gp_R s_63 4 k = some 25 := by rw [e_64]; exact q_55
  have q_86 : gp_R s_63 51 6 = some 55 := by rw [e_64]; exact q_56
  have q_87 : gp_R s_63 51 7 = some 56 := by rw [e_64]; exact q_57
  have q_88 : gp_sh s_63 117 = (9, 10) := by rw [e_64]; exact q_58
  have q_89 : gp_us s_63 = 606916 := by rw [e_64]; exact q_59
  have q_90 : gp_sz s_63 = 119 := by rw [e_64]; exact q_60
  have q_91 : gp_I s_63 117 0 = 11 := by rw [e_64]; exact q_61
  have q_92 : gp_sh s_63 118 = (101, 11) := by rw [e_64]; exact q_62
  have q_93 : gp_R s_63 117 1 = some 118 := by rw [e_64]; rfl
  refine ⟨by omega, ?_⟩
  refine ⟨by omega, ?_⟩
  try rw [show gp_sz s_63 = 119 from q_90]
  intro s_94 e_95
  have hs_96 : xM z s_94 := by rw [e_95]; exact xI.new hs_65 (by omega)
  have q_97 : gp_I s_94 1 2 = 0 := by rw [e_95, gz_nI q_90 (by decide)]; exact q_66
  have q_98 : gp_I s_94 1 6 = 0 := by rw [e_95, gz_nI q_90 (by decide)]; exact q_67
  have q_99 : gp_I s_94 1 7 = 1 := by rw [e_95, gz_nI q_90 (by decide)]; exact q_68
  have q_100 : gp_I s_94 51 8 = 0 := by rw [e_95, gz_nI q_90 (by decide)]; exact q_69
  have q_101 : gp_I s_94 57 1 = 0 := by rw [e_95, gz_nI q_90 (by decide)]; exact q_70
  have q_102 : gp_I s_94 57 3 = 0 := by rw [e_95, gz_nI q_90 (by decide)]; exact q_71
  have q_103 : gp_I s_94 6 4 = 0 := by rw [e_95, gz_nI q_90 (by decide)]; exact q_72
  have q_104 : gp_R s_94 117 2 = none := by rw [e_95, gz_nR q_90 (by decide)]; exact q_73
  have q_105 : gp_R s_94 117 3 = none := by rw [e_95, gz_nR q_90 (by decide)]; exact q_74
  have q_106 : gp_R s_94 117 4 = none := by rw [e_95, gz_nR q_90 (by decide)]; exact q_75
  have q_107 : gp_R s_94 117 5 = none := by rw [e_95, gz_nR q_90 (by decide)]; exact q_76
  have q_108 : gp_R s_94 117 6 = none := by rw [e_95, gz_nR q_90 (by decide)]; exact q_77
  have q_109 : gp_R s_94 117 7 = none := by rw [e_95, gz_nR q_90 (by decide)]; exact q_78
  have q_110 : gp_R s_94 117 8 = none := by rw [e_95, gz_nR q_90 (by decide)]; exact q_79
  have q_111 : gp_R s_94 117 9 = none := by rw [e_95, gz_nR q_90 (by decide)]; exact q_80
  have q_112 : gp_R s_94 25 6 = none := by rw [e_95, gz_nR q_90 (by decide)]; exact q_81
  have q_113 : gp_R s_94 25 7 = none := by rw [e_95, gz_nR q_90 (by decide)]; exact q_82
  have q_114 : gp_R s_94 25 8 = none := by rw [e_95, gz_nR q_90 (by decide)]; exact q_83
  have q_115 : gp_R s_94 25 9 = none := by rw [e_95, gz_nR q_90 (by decide)]; exact q_84
  have q_116 : ∀ k, k < 8 → gp_R s_94 4 k = some 25 := fun k hk => by rw [e_95, gz_nR q_90 (by decide)]; exact q_85 k hk
  have q_117 : gp_R s_94 51 6 = some 55 := by rw [e_95, gz_nR q_90 (by decide)]; exact q_86
  have q_118 : gp_R s_94 51 7 = some 56 := by rw [e_95, gz_nR q_90 (by decide)]; exact q_87
  have q_119 : gp_sh s_94 117 = (9, 10) := by rw [e_95, gz_nS q_90 (by decide)]; exact q_88
  have q_120 : gp_us s_94 = 606927 := by rw [e_95]; show gp_us s_63 + 11 = 606927; rw [q_89]; try rfl
  have q_121 : gp_sz s_94 = 120 := by rw [e_95]; exact congrArg Nat.succ q_90
  have q_122 : gp_I s_94 117 0 = 11 := by rw [e_95, gz_nI q_90 (by decide)]; exact q_91
  have q_123 : gp_sh s_94 118 = (101, 11) := by rw [e_95, gz_nS q_90 (by decide)]; exact q_92
  have q_124 : gp_R s_94 117 1 = some 118 := by rw [e_95, gz_nR q_90 (by decide)]; exact q_93
  have q_125 : gp_sh s_94 119 = (101, 11) := by rw [e_95]; exact gz_nSs q_90
  refine ⟨(by show (gp_sh s_94 117).1 = 9; rw [q_119]), ?_⟩
  refine ⟨rfl, ?_⟩
  intro s_126 e_127
  have hs_128 : xM z s_126 := by rw [e_127]; exact xI.wR hs_96 _ _ _
  have q_129 : gp_I s_126 1 2 = 0 := by rw [e_127]; exact q_97
  have q_130 : gp_I s_126 1 6 = 0 := by rw [e_127]; exact q_98
  have q_131 : gp_I s_126 1 7 = 1 := by rw [e_127]; exact q_99
  have q_132 : gp_I s_126 51 8 = 0 := by rw [e_127]; exact q_100
  have q_133 : gp_I s_126 57 1 = 0 := by rw [e_127]; exact q_101
  have q_134 : gp_I s_126 57 3 = 0 := by rw [e_127]; exact q_102
  have q_135 : gp_I s_126 6 4 = 0 := by rw [e_127]; exact q_103
  have q_136 : gp_R s_126 117 3 = none := by rw [e_127]; exact q_105
  have q_137 : gp_R s_126 117 4 = none := by rw [e_127]; exact q_106
  have q_138 : gp_R s_126 117 5 = none := by rw [e_127]; exact q_107
  have q_139 : gp_R s_126 117 6 = none := by rw [e_127]; exact q_108
  have q_140 : gp_R s_126 117 7 = none := by rw [e_127]; exact q_109
  have q_141 : gp_R s_126 117 8 = none := by rw [e_127]; exact q_110
  have q_142 : gp_R s_126 117 9 = none := by rw [e_127]; exact q_111
  have q_143 : gp_R s_126 25 6 = none := by rw [e_127]; exact q_112
  have q_144 : gp_R s_126 25 7 = none := by rw [e_127]; exact q_113
  have q_145 : gp_R s_126 25 8 = none := by rw [e_127]; exact q_114
  have q_146 : gp_R s_126 25 9 = none := by rw [e_127]; exact q_115
  have q_147 : ∀ k, k < 8 → gp_R s_126 4 k = some 25 := by rw [e_127]; exact q_116
  have q_148 : gp_R s_126 51 6 = some 55 := by rw [e_127]; exact q_117
  have q_149 : gp_R s_126 51 7 = some 56 := by rw [e_127]; exact q_118
  have q_150 : gp_sh s_126 117 = (9, 10) := by rw [e_127]; exact q_119
  have q_151 : gp_us s_126 = 606927 := by rw [e_127]; exact q_120
  have q_152 : gp_sz s_126 = 120 := by rw [e_127]; exact q_121
  have q_153 : gp_I s_126 117 0 = 11 := by rw [e_127]; exact q_122
  have q_154 : gp_sh s_126 118 = (101, 11) := by rw [e_127]; exact q_123
  have q_155 : gp_R s_126 117 1 = some 118 := by rw [e_127]; exact q_124
  have q_156 : gp_sh s_126 119 = (101, 11) := by rw [e_127]; exact q_125
  have q_157 : gp_R s_126 117 2 = some 119 := by rw [e_127]; rfl
  refine ⟨by omega, ?_⟩
  refine ⟨by omega, ?_⟩
  try rw [show gp_sz s_126 = 120 from q_152]
  intro s_158 e_159
  have hs_160 : xM z s_158 := by rw [e_159]; exact xI.new hs_128 (by omega)
  have q_161 : gp_I s_158 1 2 = 0 := by rw [e_159, gz_nI q_152 (by decide)]; exact q_129
  have q_162 : gp_I s_158 1 6 = 0 := by rw [e_159, gz_nI q_152 (by decide)]; exact q_130
  have q_163 : gp_I s_158 1 7 = 1 := by rw [e_159, gz_nI q_152 (by decide)]; exact q_131
  have q_164 : gp_I s_158 51 8 = 0 := by rw [e_159, gz_nI q_152 (by decide)]; exact q_132
  have q_165 : gp_I s_158 57 1 = 0 := by rw [e_159, gz_nI q_152 (by decide)]; exact q_133
  have q_166 : gp_I s_158 57 3 = 0 := by rw [e_159, gz_nI q_152 (by decide)]; exact q_134
  have q_167 : gp_I s_158 6 4 = 0 := by rw [e_159, gz_nI q_152 (by decide)]; exact q_135
  have q_168 : gp_R s_158 117 3 = none := by rw [e_159, gz_nR q_152 (by decide)]; exact q_136
  have q_169 : gp_R s_158 117 4 = none := by rw [e_159, gz_nR q_152 (by decide)]; exact q_137
  have q_170 : gp_R s_158 117 5 = none := by rw [e_159, gz_nR q_152 (by decide)]; exact q_138
  have q_171 : gp_R s_158 117 6 = none := by rw [e_159, gz_nR q_152 (by decide)]; exact q_139
  have q_172 : gp_R s_158 117 7 = none := by rw [e_159, gz_nR q_152 (by decide)]; exact q_140
  have q_173 : gp_R s_158 117 8 = none := by rw [e_159, gz_nR q_152 (by decide)]; exact q_141
  have q_174 : gp_R s_158 117 9 = none := by rw [e_159, gz_nR q_152 (by decide)]; exact q_142
  have q_175 : gp_R s_158 25 6 = none := by rw [e_159, gz_nR q_152 (by decide)]; exact q_143
  have q_176 : gp_R s_158 25 7 = none := by rw [e_159, gz_nR q_152 (by decide)]; exact q_144
  have q_177 : gp_R s_158 25 8 = none := by rw [e_159, gz_nR q_152 (by decide)]; exact q_145
  have q_178 : gp_R s_158 25 9 = none := by rw [e_159, gz_nR q_152 (by decide)]; exact q_146
  have q_179 : ∀ k, k < 8 → gp_R s_158 4 k = some 25 := fun k hk => by rw [e_159, gz_nR q_152 (by decide)]; exact q_147 k hk
  have q_180 : gp_R s_158 51 6 = some 55 := by rw [e_159, gz_nR q_152 (by decide)]; exact q_148
  have q_181 : gp_R s_158 51 7 = some 56 := by rw [e_159, gz_nR q_152 (by decide)]; exact q_149
  have q_182 : gp_sh s_158 117 = (9, 10) := by rw [e_159, gz_nS q_152 (by decide)]; exact q_150
  have q_183 : gp_us s_158 = 606938 := by rw [e_159]; show gp_us s_126 + 11 = 606938; rw [q_151]; try rfl
  have q_184 : gp_sz s_158 = 121 := by rw [e_159]; exact congrArg Nat.succ q_152
  have q_185 : gp_I s_158 117 0 = 11 := by rw [e_159, gz_nI q_152 (by decide)]; exact q_153
  have q_186 : gp_sh s_158 118 = (101, 11) := by rw [e_159, gz_nS q_152 (by decide)]; exact q_154
  have q_187 : gp_R s_158 117 1 = some 118 := by rw [e_159, gz_nR q_152 (by decide)]; exact q_155
  have q_188 : gp_sh s_158 119 = (101, 11) := by rw [e_159, gz_nS q_152 (by decide)]; exact q_156
  have q_189 : gp_R s_158 117 2 = some 119 := by rw [e_159, gz_nR q_152 (by decide)]; exact q_157
  have q_190 : gp_sh s_158 120 = (100, 11) := by rw [e_159]; exact gz_nSs q_152
  refine ⟨(by show (gp_sh s_158 117).1 = 9; rw [q_182]), ?_⟩
  refine ⟨rfl, ?_⟩
  intro s_191 e_192
  have hs_193 : xM z s_191 := by rw [e_192]; exact xI.wR hs_160 _ _ _
  have q_194 : gp_I s_191 1 2 = 0 := by rw [e_192]; exact q_161
  have q_195 : gp_I s_191 1 6 = 0 := by rw [e_192]; exact q_162
  have q_196 : gp_I s_191 1 7 = 1 := by rw [e_192]; exact q_163
  have q_197 : gp_I s_191 51 8 = 0 := by rw [e_192]; exact q_164
  have q_198 : gp_I s_191 57 1 = 0 := by rw [e_192]; exact q_165
  have q_199 : gp_I s_191 57 3 = 0 := by rw [e_192]; exact q_166
  have q_200 : gp_I s_191 6 4 = 0 := by rw [e_192]; exact q_167
  have q_201 : gp_R s_191 117 4 = none := by rw [e_192]; exact q_169
  have q_202 : gp_R s_191 117 5 = none := by rw [e_192]; exact q_170
  have q_203 : gp_R s_191 117 6 = none := by rw [e_192]; exact q_171
  have q_204 : gp_R s_191 117 7 = none := by rw [e_192]; exact q_172
  have q_205 : gp_R s_191 117 8 = none := by rw [e_192]; exact q_173
  have q_206 : gp_R s_191 117 9 = none := by rw [e_192]; exact q_174
  have q_207 : gp_R s_191 25 6 = none := by rw [e_192]; exact q_175
  have q_208 : gp_R s_191 25 7 = none := by rw [e_192]; exact q_176
  have q_209 : gp_R s_191 25 8 = none := by rw [e_192]; exact q_177
  have q_210 : gp_R s_191 25 9 = none := by rw [e_192]; exact q_178
  have q_211 : ∀ k, k < 8 → gp_R s_191 4 k = some 25 := by rw [e_192]; exact q_179
  have q_212 : gp_R s_191 51 6 = some 55 := by rw [e_192]; exact q_180
  have q_213 : gp_R s_191 51 7 = some 56 := by rw [e_192]; exact q_181
  have q_214 : gp_sh s_191 117 = (9, 10) := by rw [e_192]; exact q_182
  have q_215 : gp_us s_191 = 606938 := by rw [e_192]; exact q_183
  have q_216 : gp_sz s_191 = 121 := by rw [e_192]; exact q_184
  have q_217 : gp_I s_191 117 0 = 11 := by rw [e_192]; exact q_185
  have q_218 : gp_sh s_191 118 = (101, 11) := by rw [e_192]; exact q_186
  have q_219 : gp_R s_191 117 1 = some 118 := by rw [e_192]; exact q_187
  have q_220 : gp_sh s_191 119 = (101, 11) := by rw [e_192]; exact q_188
  have q_221 : gp_R s_191 117 2 = some 119 := by rw [e_192]; exact q_189
  have q_222 : gp_sh s_191 120 = (100, 11) := by rw [e_192]; exact q_190
  have q_223 : gp_R s_191 117 3 = some 120 := by rw [e_192]; rfl
  refine ⟨by omega, ?_⟩
  refine ⟨by omega, ?_⟩
  try rw [show gp_sz s_191 = 121 from q_216]
  intro s_224 e_225
  have hs_226 : xM z s_224 := by rw [e_225]; exact xI.new hs_193 (by omega)
  have q_227 : gp_I s_224 1 2 = 0 := by rw [e_225, gz_nI q_216 (by decide)]; exact q_194
  have q_228 : gp_I s_224 1 6 = 0 := by rw [e_225, gz_nI q_216 (by decide)]; exact q_195
  have q_229 : gp_I s_224 1 7 = 1 := by rw [e_225, gz_nI q_216 (by decide)]; exact q_196
  have q_230 : gp_I s_224 51 8 = 0 := by rw [e_225, gz_nI q_216 (by decide)]; exact q_197
  have q_231 : gp_I s_224 57 1 = 0 := by rw [e_225, gz_nI q_216 (by decide)]; exact q_198
  have q_232 : gp_I s_224 57 3 = 0 := by rw [e_225, gz_nI q_216 (by decide)]; exact q_199
  have q_233 : gp_I s_224 6 4 = 0 := by rw [e_225, gz_nI q_216 (by decide)]; exact q_200
  have q_234 : gp_R s_224 117 4 = none := by rw [e_225, gz_nR q_216 (by decide)]; exact q_201
  have q_235 : gp_R s_224 117 5 = none := by rw [e_225, gz_nR q_216 (by decide)]; exact q_202
  have q_236 : gp_R s_224 117 6 = none := by rw [e_225, gz_nR q_216 (by decide)]; exact q_203
  have q_237 : gp_R s_224 117 7 = none := by rw [e_225, gz_nR q_216 (by decide)]; exact q_204
  have q_238 : gp_R s_224 117 8 = none := by rw [e_225, gz_nR q_216 (by decide)]; exact q_205
  have q_239 : gp_R s_224 117 9 = none := by rw [e_225, gz_nR q_216 (by decide)]; exact q_206
  have q_240 : gp_R s_224 25 6 = none := by rw [e_225, gz_nR q_216 (by decide)]; exact q_207
  have q_241 : gp_R s_224 25 7 = none := by rw [e_225, gz_nR q_216 (by decide)]; exact q_208
  have q_242 : gp_R s_224 25 8 = none := by rw [e_225, gz_nR q_216 (by decide)]; exact q_209
  have q_243 : gp_R s_224 25 9 = none := by rw [e_225, gz_nR q_216 (by decide)]; exact q_210
  have q_244 : ∀ k, k < 8 → gp_R s_224 4 k = some 25 := fun k hk => by rw [e_225, gz_nR q_216 (by decide)]; exact q_211 k hk
  have q_245 : gp_R s_224 51 6 = some 55 := by rw [e_225, gz_nR q_216 (by decide)]; exact q_212
  have q_246 : gp_R s_224 51 7 = some 56 := by rw [e_225, gz_nR q_216 (by decide)]; exact q_213
  have q_247 : gp_sh s_224 117 = (9, 10) := by rw [e_225, gz_nS q_216 (by decide)]; exact q_214
  have q_248 : gp_us s_224 = 606949 := by rw [e_225]; show gp_us s_191 + 11 = 606949; rw [q_215]; try rfl
  have q_249 : gp_sz s_224 = 122 := by rw [e_225]; exact congrArg Nat.succ q_216
  have q_250 : gp_I s_224 117 0 = 11 := by rw [e_225, gz_nI q_216 (by decide)]; exact q_217
  have q_251 : gp_sh s_224 118 = (101, 11) := by rw [e_225, gz_nS q_216 (by decide)]; exact q_218
  have q_252 : gp_R s_224 117 1 = some 118 := by rw [e_225, gz_nR q_216 (by decide)]; exact q_219
  have q_253 : gp_sh s_224 119 = (101, 11) := by rw [e_225, gz_nS q_216 (by decide)]; exact q_220
  have q_254 : gp_R s_224 117 2 = some 119 := by rw [e_225, gz_nR q_216 (by decide)]; exact q_221
  have q_255 : gp_sh s_224 120 = (100, 11) := by rw [e_225, gz_nS q_216 (by decide)]; exact q_222
  have q_256 : gp_R s_224 117 3 = some 120 := by rw [e_225, gz_nR q_216 (by decide)]; exact q_223
  have q_257 : gp_sh s_224 121 = (100, 11) := by rw [e_225]; exact gz_nSs q_216
  refine ⟨(by show (gp_sh s_224 117).1 = 9; rw [q_247]), ?_⟩
  refine ⟨rfl, ?_⟩
  intro s_258 e_259
  have hs_260 : xM z s_258 := by rw [e_259]; exact xI.wR hs_226 _ _ _
  have q_261 : gp_I s_258 1 2 = 0 := by rw [e_259]; exact q_227
  have q_262 : gp_I s_258 1 6 = 0 := by rw [e_259]; exact q_228
  have q_263 : gp_I s_258 1 7 = 1 := by rw [e_259]; exact q_229
  have q_264 : gp_I s_258 51 8 = 0 := by rw [e_259]; exact q_230
  have q_265 : gp_I s_258 57 1 = 0 := by rw [e_259]; exact q_231
  have q_266 : gp_I s_258 57 3 = 0 := by rw [e_259]; exact q_232
  have q_267 : gp_I s_258 6 4 = 0 := by rw [e_259]; exact q_233
  have q_268 : gp_R s_258 117 5 = none := by rw [e_259]; exact q_235
  have q_269 : gp_R s_258 117 6 = none := by rw [e_259]; exact q_236
  have q_270 : gp_R s_258 117 7 = none := by rw [e_259]; exact q_237
  have q_271 : gp_R s_258 117 8 = none := by rw [e_259]; exact q_238
  have q_272 : gp_R s_258 117 9 = none := by rw [e_259]; exact q_239
  have q_273 : gp_R s_258 25 6 = none := by rw [e_259]; exact q_240
  have q_274 : gp_R s_258 25 7 = none := by rw [e_259]; exact q_241
  have q_275 : gp_R s_258 25 8 = none := by rw [e_259]; exact q_242
  have q_276 : gp_R s_258 25 9 = none := by rw [e_259]; exact q_243
  have q_277 : ∀ k, k < 8 → gp_R s_258 4 k = some 25 := by rw [e_259]; exact q_244
  have q_278 : gp_R s_258 51 6 = some 55 := by rw [e_259]; exact q_245
  have q_279 : gp_R s_258 51 7 = some 56 := by rw [e_259]; exact q_246
  have q_280 : gp_sh s_258 117 = (9, 10) := by rw [e_259]; exact q_247
  have q_281 : gp_us s_258 = 606949 := by rw [e_259]; exact q_248
  have q_282 : gp_sz s_258 = 122 := by rw [e_259]; exact q_249
  have q_283 : gp_I s_258 117 0 = 11 := by rw [e_259]; exact q_250
  have q_284 : gp_sh s_258 118 = (101, 11) := by rw [e_259]; exact q_251
  have q_285 : gp_R s_258 117 1 = some 118 := by rw [e_259]; exact q_252
  have q_286 : gp_sh s_258 119 = (101, 11) := by rw [e_259]; exact q_253
  have q_287 : gp_R s_258 117 2 = some 119 := by rw [e_259]; exact q_254
  have q_288 : gp_sh s_258 120 = (100, 11) := by rw [e_259]; exact q_255
  have q_289 : gp_R s_258 117 3 = some 120 := by rw [e_259]; exact q_256
  have q_290 : gp_sh s_258 121 = (100, 11) := by rw [e_259]; exact q_257
  have q_291 : gp_R s_258 117 4 = some 121 := by rw [e_259]; rfl
  refine ⟨by omega, ?_⟩
  refine ⟨by omega, ?_⟩
  try rw [show gp_sz s_258 = 122 from q_282]
  intro s_292 e_293
  have hs_294 : xM z s_292 := by rw [e_293]; exact xI.new hs_260 (by omega)
  have q_295 : gp_I s_292 1 2 = 0 := by rw [e_293, gz_nI q_282 (by decide)]; exact q_261
  have q_296 : gp_I s_292 1 6 = 0 := by rw [e_293, gz_nI q_282 (by decide)]; exact q_262
  have q_297 : gp_I s_292 1 7 = 1 := by rw [e_293, gz_nI q_282 (by decide)]; exact q_263
  have q_298 : gp_I s_292 51 8 = 0 := by rw [e_293, gz_nI q_282 (by decide)]; exact q_264
  have q_299 : gp_I s_292 57 1 = 0 := by rw [e_293, gz_nI q_282 (by decide)]; exact q_265
  have q_300 : gp_I s_292 57 3 = 0 := by rw [e_293, gz_nI q_282 (by decide)]; exact q_266
  have q_301 : gp_I s_292 6 4 = 0 := by rw [e_293, gz_nI q_282 (by decide)]; exact q_267
  have q_302 : gp_R s_292 117 5 = none := by rw [e_293, gz_nR q_282 (by decide)]; exact q_268
  have q_303 : gp_R s_292 117 6 = none := by rw [e_293, gz_nR q_282 (by decide)]; exact q_269
  have q_304 : gp_R s_292 117 7 = none := by rw [e_293, gz_nR q_282 (by decide)]; exact q_270
  have q_305 : gp_R s_292 117 8 = none := by rw [e_293, gz_nR q_282 (by decide)]; exact q_271
  have q_306 : gp_R s_292 117 9 = none := by rw [e_293, gz_nR q_282 (by decide)]; exact q_272
  have q_307 : gp_R s_292 25 6 = none := by rw [e_293, gz_nR q_282 (by decide)]; exact q_273
  have q_308 : gp_R s_292 25 7 = none := by rw [e_293, gz_nR q_282 (by decide)]; exact q_274
  have q_309 : gp_R s_292 25 8 = none := by rw [e_293, gz_nR q_282 (by decide)]; exact q_275
  have q_310 : gp_R s_292 25 9 = none := by rw [e_293, gz_nR q_282 (by decide)]; exact q_276
  have q_311 : ∀ k, k < 8 → gp_R s_292 4 k = some 25 := fun k hk => by rw [e_293, gz_nR q_282 (by decide)]; exact q_277 k hk
  have q_312 : gp_R s_292 51 6 = some 55 := by rw [e_293, gz_nR q_282 (by decide)]; exact q_278
  have q_313 : gp_R s_292 51 7 = some 56 := by rw [e_293, gz_nR q_282 (by decide)]; exact q_279
  have q_314 : gp_sh s_292 117 = (9, 10) := by rw [e_293, gz_nS q_282 (by decide)]; exact q_280
  have q_315 : gp_us s_292 = 606960 := by rw [e_293]; show gp_us s_258 + 11 = 606960; rw [q_281]; try rfl
  have q_316 : gp_sz s_292 = 123 := by rw [e_293]; exact congrArg Nat.succ q_282
  have q_317 : gp_I s_292 117 0 = 11 := by rw [e_293, gz_nI q_282 (by decide)]; exact q_283
  have q_318 : gp_sh s_292 118 = (101, 11) := by rw [e_293, gz_nS q_282 (by decide)]; exact q_284
  have q_319 : gp_R s_292 117 1 = some 118 := by rw [e_293, gz_nR q_282 (by decide)]; exact q_285
  have q_320 : gp_sh s_292 119 = (101, 11) := by rw [e_293, gz_nS q_282 (by decide)]; exact q_286
  have q_321 : gp_R s_292 117 2 = some 119 := by rw [e_293, gz_nR q_282 (by decide)]; exact q_287
  have q_322 : gp_sh s_292 120 = (100, 11) := by rw [e_293, gz_nS q_282 (by decide)]; exact q_288
  have q_323 : gp_R s_292 117 3 = some 120 := by rw [e_293, gz_nR q_282 (by decide)]; exact q_289
  have q_324 : gp_sh s_292 121 = (100, 11) := by rw [e_293, gz_nS q_282 (by decide)]; exact q_290
  have q_325 : gp_R s_292 117 4 = some 121 := by rw [e_293, gz_nR q_282 (by decide)]; exact q_291
  have q_326 : gp_sh s_292 122 = (100, 11) := by rw [e_293]; exact gz_nSs q_282
  refine ⟨(by show (gp_sh s_292 117).1 = 9; rw [q_314]), ?_⟩
  refine ⟨rfl, ?_⟩
  intro s_327 e_328
  have hs_329 : xM z s_327 := by rw [e_328]; exact xI.wR hs_294 _ _ _
  have q_330 : gp_I s_327 1 2 = 0 := by rw [e_328]; exact q_295
  have q_331 : gp_I s_327 1 6 = 0 := by rw [e_328]; exact q_296
  have q_332 : gp_I s_327 1 7 = 1 := by rw [e_328]; exact q_297
  have q_333 : gp_I s_327 51 8 = 0 := by rw [e_328]; exact q_298
  have q_334 : gp_I s_327 57 1 = 0 := by rw [e_328]; exact q_299
  have q_335 : gp_I s_327 57 3 = 0 := by rw [e_328]; exact q_300
  have q_336 : gp_I s_327 6 4 = 0 := by rw [e_328]; exact q_301
  have q_337 : gp_R s_327 117 6 = none := by rw [e_328]; exact q_303
  have q_338 : gp_R s_327 117 7 = none := by rw [e_328]; exact q_304
  have q_339 : gp_R s_327 117 8 = none := by rw [e_328]; exact q_305
  have q_340 : gp_R s_327 117 9 = none := by rw [e_328]; exact q_306
  have q_341 : gp_R s_327 25 6 = none := by rw [e_328]; exact q_307
  have q_342 : gp_R s_327 25 7 = none := by rw [e_328]; exact q_308
  have q_343 : gp_R s_327 25 8 = none := by rw [e_328]; exact q_309
  have q_344 : gp_R s_327 25 9 = none := by rw [e_328]; exact q_310
  have q_345 : ∀ k, k < 8 → gp_R s_327 4 k = some 25 := by rw [e_328]; exact q_311
  have q_346 : gp_R s_327 51 6 = some 55 := by rw [e_328]; exact q_312
  have q_347 : gp_R s_327 51 7 = some 56 := by rw [e_328]; exact q_313
  have q_348 : gp_sh s_327 117 = (9, 10) := by rw [e_328]; exact q_314
  have q_349 : gp_us s_327 = 606960 := by rw [e_328]; exact q_315
  have q_350 : gp_sz s_327 = 123 := by rw [e_328]; exact q_316
  have q_351 : gp_I s_327 117 0 = 11 := by rw [e_328]; exact q_317
  have q_352 : gp_sh s_327 118 = (101, 11) := by rw [e_328]; exact q_318
  have q_353 : gp_R s_327 117 1 = some 118 := by rw [e_328]; exact q_319
  have q_354 : gp_sh s_327 119 = (101, 11) := by rw [e_328]; exact q_320
  have q_355 : gp_R s_327 117 2 = some 119 := by rw [e_328]; exact q_321
  have q_356 : gp_sh s_327 120 = (100, 11) := by rw [e_328]; exact q_322
  have q_357 : gp_R s_327 117 3 = some 120 := by rw [e_328]; exact q_323
  have q_358 : gp_sh s_327 121 = (100, 11) := by rw [e_328]; exact q_324
  have q_359 : gp_R s_327 117 4 = some 121 := by rw [e_328]; exact q_325
  have q_360 : gp_sh s_327 122 = (100, 11) := by rw [e_328]; exact q_326
  have q_361 : gp_R s_327 117 5 = some 122 := by rw [e_328]; rfl
  exact k s_327 hs_329 (by omega) (by omega) (by omega) (by omega) (by omega) (by omega) (by omega) (by omega) q_353 q_355 q_357 q_359 q_361 q_337 q_338 q_339 q_340 q_341 q_342 q_343 q_344 q_345 q_346 q_347 q_348 q_352 q_354 q_356 q_358 q_360 q_349 q_350
set_option maxRecDepth 100000 in
/-- Maker.pauses, the loop at 13 -/
theorem zx258_10_l13_0 {z : gH} {L d : Nat} {K : Option gV → gH → Prop}   (k : ∀ (t : gH), xM z t → (gp_I t 1 2 = 0) → (gp_I t 1 6 = 0) → (gp_I t 1 7 = 1) → (gp_I t 117 0 = 11) → (gp_I t 51 8 = 0) → (gp_I t 57 1 = 0) → (gp_I t 57 3 = 0) → (gp_I t 6 4 = 0) → (gp_R t 117 1 = some 118) → (gp_R t 117 2 = some 119) → (gp_R t 117 3 = some 120) → (gp_R t 117 4 = some 121) → (gp_R t 117 5 = some 122) → (gp_R t 117 6 = none) → (gp_R t 117 7 = none) → (gp_R t 117 8 = none) → (gp_R t 117 9 = none) → (gp_R t 25 6 = none) → (gp_R t 25 7 = none) → (gp_R t 25 8 = none) → (gp_R t 25 9 = none) → (∀ k, k < 8 → gp_R t 4 k = some 25) → (gp_R t 51 6 = some 55) → (gp_R t 51 7 = some 56) → (gp_sh t 117 = (9, 10)) → (gp_sh t 118 = (101, 11)) → (gp_sh t 119 = (101, 11)) → (gp_sh t 120 = (100, 11)) → (gp_sh t 121 = (100, 11)) → (gp_sh t 122 = (100, 11)) → (gp_us t = 606960) → (gp_sz t = 123) → K (some (gp_r (some 117))) t)  : ∀ (n : Nat) (v1 : Int) (v2 : Option Nat) (v3 : Int) (s : gH), xM z s → (61 - v3).toNat < n → (v1 = 10) → (v2 = some 117) → (1 ≤ v3 ∧ v3 ≤ 60) → (gp_I s 1 2 = 0) → (gp_I s 1 6 = 0) → (gp_I s 1 7 = 1) → (gp_I s 117 0 = 11) → (gp_I s 51 8 = 0) → (gp_I s 57 1 = 0) → (gp_I s 57 3 = 0) → (gp_I s 6 4 = 0) → (gp_R s 117 1 = some 118) → (gp_R s 117 2 = some 119) → (gp_R s 117 3 = some 120) → (gp_R s 117 4 = some 121) → (gp_R s 117 5 = some 122) → (gp_R s 117 6 = none) → (gp_R s 117 7 = none) → (gp_R s 117 8 = none) → (gp_R s 117 9 = none) → (gp_R s 25 6 = none) → (gp_R s 25 7 = none) → (gp_R s 25 8 = none) → (gp_R s 25 9 = none) → (∀ k, k < 8 → gp_R s 4 k = some 25) → (gp_R s 51 6 = some 55) → (gp_R s 51 7 = some 56) → (gp_sh s 117 = (9, 10)) → (gp_sh s 118 = (101, 11)) → (gp_sh s 119 = (101, 11)) → (gp_sh s 120 = (100, 11)) → (gp_sh s 121 = (100, 11)) → (gp_sh s 122 = (100, 11)) → (gp_us s = 606960) → (gp_sz s = 123) → gs_E L (d + 1) 258 13 [gp_r (some 20), gp_i v1, gp_r v2, gp_i v3] [] s K := by
  intro n
  induction n with
  | zero => intro v1 v2 v3 s hs hm i0 i1 i2 i3 i4 i5 i6 i7 i8 i9 i10 i11 i12 i13 i14 i15 i16 i17 i18 i19 i20 i21 i22 i23 i24 i25 i26 i27 i28 i29 i30 i31 i32 i33 i34; exact absurd hm (Nat.not_lt_zero _)
  | succ n ih =>
    intro v1 v2 v3 s hs hm i0 i1 i2 i3 i4 i5 i6 i7 i8 i9 i10 i11 i12 i13 i14 i15 i16 i17 i18 i19 i20 i21 i22 i23 i24 i25 i26 i27 i28 i29 i30 i31 i32 i33 i34
    subst i0
    subst i1
    refine s_258_13 _ _ _ ?_
    refine ⟨fun h_1 => ?_, fun h_1 => ?_⟩
    · exact k s hs (by omega) (by omega) (by omega) (by omega) (by omega) (by omega) (by omega) (by omega) i11 i12 i13 i14 i15 i16 i17 i18 i19 i20 i21 i22 i23 i24 i25 i26 i27 i28 i29 i30 i31 i32 i33 i34
    · refine ⟨117, rfl, ?_⟩
      refine ⟨(by show (gp_sh s 117).1 = 9; rw [i27]), ?_⟩
      try rw [show gp_R (gp_mk L s) 117 1 = some 118 from i11]
      have w_2 := gz_w (v3 - 1)
      refine ⟨118, rfl, ?_⟩
      refine ⟨⟨by show (gp_sh s 118).1 = 101; rw [i28], by omega, by show v3 < ((gp_sh s 118).2 : Int); rw [i28]; show v3 < 11; omega⟩, ?_⟩
      intro s_3 e_4
      have hs_5 : xM z s_3 := by rw [e_4]; exact xI.wLd hs _ _ _ (by omega)
      have q_6 : gp_I s_3 1 2 = 0 := by rw [e_4]; exact i3
      have q_7 : gp_I s_3 1 6 = 0 := by rw [e_4]; exact i4
      have q_8 : gp_I s_3 1 7 = 1 := by rw [e_4]; exact i5
      have q_9 : gp_I s_3 117 0 = 11 := by rw [e_4]; exact i6
      have q_10 : gp_I s_3 51 8 = 0 := by rw [e_4]; exact i7
      have q_11 : gp_I s_3 57 1 = 0 := by rw [e_4]; exact i8
      have q_12 : gp_I s_3 57 3 = 0 := by rw [e_4]; exact i9
      have q_13 : gp_I s_3 6 4 = 0 := by rw [e_4]; exact i10
      have q_14 : gp_R s_3 117 1 = some 118 := by rw [e_4]; exact i11
      have q_15 : gp_R s_3 117 2 = some 119 := by rw [e_4]; exact i12
      have q_16 : gp_R s_3 117 3 = some 120 := by rw [e_4]; exact i13
      have q_17 : gp_R s_3 117 4 = some 121 := by rw [e_4]; exact i14
      have q_18 : gp_R s_3 117 5 = some 122 := by rw [e_4]; exact i15
      have q_19 : gp_R s_3 117 6 = none := by rw [e_4]; exact i16
      have q_20 : gp_R s_3 117 7 = none := by rw [e_4]; exact i17
      have q_21 : gp_R s_3 117 8 = none := by rw [e_4]; exact i18
      have q_22 : gp_R s_3 117 9 = none := by rw [e_4]; exact i19
      have q_23 : gp_R s_3 25 6 = none := by rw [e_4]; exact i20
      have q_24 : gp_R s_3 25 7 = none := by rw [e_4]; exact i21
      have q_25 : gp_R s_3 25 8 = none := by rw [e_4]; exact i22
      have q_26 : gp_R s_3 25 9 = none := by rw [e_4]; exact i23
      have q_27 : ∀ k, k < 8 → gp_R s_3 4 k = some 25 := by rw [e_4]; exact i24
      have q_28 : gp_R s_3 51 6 = some 55 := by rw [e_4]; exact i25
      have q_29 : gp_R s_3 51 7 = some 56 := by rw [e_4]; exact i26
      have q_30 : gp_sh s_3 117 = (9, 10) := by rw [e_4]; exact i27
      have q_31 : gp_sh s_3 118 = (101, 11) := by rw [e_4]; exact i28
      have q_32 : gp_sh s_3 119 = (101, 11) := by rw [e_4]; exact i29
      have q_33 : gp_sh s_3 120 = (100, 11) := by rw [e_4]; exact i30
      have q_34 : gp_sh s_3 121 = (100, 11) := by rw [e_4]; exact i31
      have q_35 : gp_sh s_3 122 = (100, 11) := by rw [e_4]; exact i32
      have q_36 : gp_us s_3 = 606960 := by rw [e_4]; exact i33
      have q_37 : gp_sz s_3 = 123 := by rw [e_4]; exact i34
      refine ⟨(by show (gp_sh s_3 117).1 = 9; rw [q_30]), ?_⟩
      try rw [show gp_R (gp_mk L s_3) 117 5 = some 122 from q_18]
      refine ⟨122, rfl, ?_⟩
      refine ⟨⟨by show (gp_sh s_3 122).1 = 100; rw [q_35], by omega, by show v3 < ((gp_sh s_3 122).2 : Int); rw [q_35]; show v3 < 11; omega⟩, ?_⟩
      intro s_38 e_39
      have hs_40 : xM z s_38 := by rw [e_39]; exact xI.wId hs_5 _ _ _ (by omega)
      have q_41 : gp_I s_38 1 2 = 0 := by rw [e_39]; exact q_6
      have q_42 : gp_I s_38 1 6 = 0 := by rw [e_39]; exact q_7
      have q_43 : gp_I s_38 1 7 = 1 := by rw [e_39]; exact q_8
      have q_44 : gp_I s_38 117 0 = 11 := by rw [e_39]; exact q_9
      have q_45 : gp_I s_38 51 8 = 0 := by rw [e_39]; exact q_10
      have q_46 : gp_I s_38 57 1 = 0 := by rw [e_39]; exact q_11
      have q_47 : gp_I s_38 57 3 = 0 := by rw [e_39]; exact q_12
      have q_48 : gp_I s_38 6 4 = 0 := by rw [e_39]; exact q_13
      have q_49 : gp_R s_38 117 1 = some 118 := by rw [e_39]; exact q_14
      have q_50 : gp_R s_38 117 2 = some 119 := by rw [e_39]; exact q_15
      have q_51 : gp_R s_38 117 3 = some 120 := by rw [e_39]; exact q_16
      have q_52 : gp_R s_38 117 4 = some 121 := by rw [e_39]; exact q_17
      have q_53 : gp_R s_38 117 5 = some 122 := by rw [e_39]; exact q_18
      have q_54 : gp_R s_38 117 6 = none := by rw [e_39]; exact q_19
      have q_55 : gp_R s_38 117 7 = none := by rw [e_39]; exact q_20
      have q_56 : gp_R s_38 117 8 = none := by rw [e_39]; exact q_21
      have q_57 : gp_R s_38 117 9 = none := by rw [e_39]; exact q_22
      have q_58 : gp_R s_38 25 6 = none := by rw [e_39]; exact q_23
      have q_59 : gp_R s_38 25 7 = none := by rw [e_39]; exact q_24
      have q_60 : gp_R s_38 25 8 = none := by rw [e_39]; exact q_25
      have q_61 : gp_R s_38 25 9 = none := by rw [e_39]; exact q_26
      have q_62 : ∀ k, k < 8 → gp_R s_38 4 k = some 25 := by rw [e_39]; exact q_27
      have q_63 : gp_R s_38 51 6 = some 55 := by rw [e_39]; exact q_28
      have q_64 : gp_R s_38 51 7 = some 56 := by rw [e_39]; exact q_29
      have q_65 : gp_sh s_38 117 = (9, 10) := by rw [e_39]; exact q_30
      have q_66 : gp_sh s_38 118 = (101, 11) := by rw [e_39]; exact q_31
      have q_67 : gp_sh s_38 119 = (101, 11) := by rw [e_39]; exact q_32
      have q_68 : gp_sh s_38 120 = (100, 11) := by rw [e_39]; exact q_33
      have q_69 : gp_sh s_38 121 = (100, 11) := by rw [e_39]; exact q_34
      have q_70 : gp_sh s_38 122 = (100, 11) := by rw [e_39]; exact q_35
      have q_71 : gp_us s_38 = 606960 := by rw [e_39]; exact q_36
      have q_72 : gp_sz s_38 = 123 := by rw [e_39]; exact q_37
      have w_73 := gz_w (v3 + 1)
      exact ih _ _ _ s_38 hs_40 (by omega) (by omega) rfl (by omega) (by omega) (by omega) (by omega) (by omega) (by omega) (by omega) (by omega) (by omega) q_49 q_50 q_51 q_52 q_53 q_54 q_55 q_56 q_57 q_58 q_59 q_60 q_61 q_62 q_63 q_64 q_65 q_66 q_67 q_68 q_69 q_70 q_71 q_72
set_option maxRecDepth 100000 in
/-- Maker.pauses [(10, 10)] -/
theorem zx258_10 {z : gH} {L d : Nat} {K : Option gV → gH → Prop} {s : gH}  (hs : xM z s)  (q0 : gp_I s 1 2 = 0) (q1 : gp_I s 1 6 = 0) (q2 : gp_I s 1 7 = 1) (q3 : gp_I s 51 8 = 0) (q4 : gp_I s 57 1 = 0) (q5 : gp_I s 57 3 = 0) (q6 : gp_I s 6 4 = 0) (q7 : gp_R s 25 6 = none) (q8 : gp_R s 25 7 = none) (q9 : gp_R s 25 8 = none) (q10 : gp_R s 25 9 = none) (q11 : ∀ k, k < 8 → gp_R s 4 k = some 25) (q12 : gp_R s 51 6 = some 55) (q13 : gp_R s 51 7 = some 56) (q14 : gp_us s = 606895) (q15 : gp_sz s = 117) (k : ∀ (t : gH), xM z t → (gp_I t 1 2 = 0) → (gp_I t 1 6 = 0) → (gp_I t 1 7 = 1) → (gp_I t 117 0 = 11) → (gp_I t 51 8 = 0) → (gp_I t 57 1 = 0) → (gp_I t 57 3 = 0) → (gp_I t 6 4 = 0) → (gp_R t 117 1 = some 118) → (gp_R t 117 2 = some 119) → (gp_R t 117 3 = some 120) → (gp_R t 117 4 = some 121) → (gp_R t 117 5 = some 122) → (gp_R t 117 6 = none) → (gp_R t 117 7 = none) → (gp_R t 117 8 = none) → (gp_R t 117 9 = none) → (gp_R t 25 6 = none) → (gp_R t 25 7 = none) → (gp_R t 25 8 = none) → (gp_R t 25 9 = none) → (∀ k, k < 8 → gp_R t 4 k = some 25) → (gp_R t 51 6 = some 55) → (gp_R t 51 7 = some 56) → (gp_sh t 117 = (9, 10)) → (gp_sh t 118 = (101, 11)) → (gp_sh t 119 = (101, 11)) → (gp_sh t 120 = (100, 11)) → (gp_sh t 121 = (100, 11)) → (gp_sh t 122 = (100, 11)) → (gp_us t = 606960) → (gp_sz t = 123) → K (some (gp_r (some 117))) t) : gs_C L (d + 1) 258 4 [gp_r (some 20), gp_i 10] s K := by
  refine s_258_e _ ?_
  refine ⟨by omega, ?_⟩
  try rw [show gp_sz s = 117 from q15]
  intro s_1 e_2
  have hs_3 : xM z s_1 := by rw [e_2]; exact xI.new hs (by omega)
  have q_4 : gp_I s_1 1 2 = 0 := by rw [e_2, gz_nI q15 (by decide)]; exact q0
  have q_5 : gp_I s_1 1 6 = 0 := by rw [e_2, gz_nI q15 (by decide)]; exact q1
  have q_6 : gp_I s_1 1 7 = 1 := by rw [e_2, gz_nI q15 (by decide)]; exact q2
  have q_7 : gp_I s_1 51 8 = 0 := by rw [e_2, gz_nI q15 (by decide)]; exact q3
  have q_8 : gp_I s_1 57 1 = 0 := by rw [e_2, gz_nI q15 (by decide)]; exact q4
  have q_9 : gp_I s_1 57 3 = 0 := by rw [e_2, gz_nI q15 (by decide)]; exact q5
  have q_10 : gp_I s_1 6 4 = 0 := by rw [e_2, gz_nI q15 (by decide)]; exact q6
  have q_11 : gp_R s_1 25 6 = none := by rw [e_2, gz_nR q15 (by decide)]; exact q7
  have q_12 : gp_R s_1 25 7 = none := by rw [e_2, gz_nR q15 (by decide)]; exact q8
  have q_13 : gp_R s_1 25 8 = none := by rw [e_2, gz_nR q15 (by decide)]; exact q9
  have q_14 : gp_R s_1 25 9 = none := by rw [e_2, gz_nR q15 (by decide)]; exact q10
  have q_15 : ∀ k, k < 8 → gp_R s_1 4 k = some 25 := fun k hk => by rw [e_2, gz_nR q15 (by decide)]; exact q11 k hk
  have q_16 : gp_R s_1 51 6 = some 55 := by rw [e_2, gz_nR q15 (by decide)]; exact q12
  have q_17 : gp_R s_1 51 7 = some 56 := by rw [e_2, gz_nR q15 (by decide)]; exact q13
  have q_18 : gp_us s_1 = 606905 := by rw [e_2]; show gp_us s + 10 = 606905; rw [q14]; try rfl
  have q_19 : gp_sz s_1 = 118 := by rw [e_2]; exact congrArg Nat.succ q15
  have q_20 : gp_sh s_1 117 = (9, 10) := by rw [e_2]; exact gz_nSs q15
  have q_21 : gp_I s_1 117 0 = 0 := by rw [e_2]; exact gz_nIs q15
  have q_22 : gp_R s_1 117 1 = none := by rw [e_2]; exact gz_nRs q15
  have q_23 : gp_R s_1 117 2 = none := by rw [e_2]; exact gz_nRs q15
  have q_24 : gp_R s_1 117 3 = none := by rw [e_2]; exact gz_nRs q15
  have q_25 : gp_R s_1 117 4 = none := by rw [e_2]; exact gz_nRs q15
  have q_26 : gp_R s_1 117 5 = none := by rw [e_2]; exact gz_nRs q15
  have q_27 : gp_R s_1 117 6 = none := by rw [e_2]; exact gz_nRs q15
  have q_28 : gp_R s_1 117 7 = none := by rw [e_2]; exact gz_nRs q15
  have q_29 : gp_R s_1 117 8 = none := by rw [e_2]; exact gz_nRs q15
  have q_30 : gp_R s_1 117 9 = none := by rw [e_2]; exact gz_nRs q15
  have w_31 := gz_w (10 + 1)
  have e_32 : gp_wr (10 + 1) = 11 := by omega
  try rw [e_32]
  refine zx2304_10 hs_3 (by omega) (by omega) (by omega) (by omega) (by omega) (by omega) (by omega) (by omega) q_22 q_23 q_24 q_25 q_26 q_27 q_28 q_29 q_30 q_11 q_12 q_13 q_14 q_15 q_16 q_17 q_20 q_18 q_19 (fun s_33 hs_34 q_35 q_36 q_37 q_38 q_39 q_40 q_41 q_42 q_43 q_44 q_45 q_46 q_47 q_48 q_49 q_50 q_51 q_52 q_53 q_54 q_55 q_56 q_57 q_58 q_59 q_60 q_61 q_62 q_63 q_64 q_65 q_66 => ⟨rfl, ?_⟩)
  exact zx258_10_l13_0 k _ _ _ _ s_33 hs_34 (Nat.lt_succ_self _) (by omega) rfl (by omega) (by omega) (by omega) (by omega) (by omega) (by omega) (by omega) (by omega) (by omega) q_43 q_44 q_45 q_46 q_47 q_48 q_49 q_50 q_51 q_52 q_53 q_54 q_55 q_56 q_57 q_58 q_59 q_60 q_61 q_62 q_63 q_64 q_65 q_66
set_option maxRecDepth 100000 in
/-- GatheredPoints.hold [(0, 7), 117] -/
theorem zx2854_10 {z : gH} {L d : Nat} {K : Option gV → gH → Prop} {s : gH} (p0 : Int) (hs : xM z s) (h_p0 : 0 ≤ p0 ∧ p0 ≤ 7) (q0 : gp_I s 1 2 = 0) (q1 : gp_I s 1 6 = 0) (q2 : gp_I s 1 7 = 1) (q3 : gp_I s 117 0 = 11) (q4 : gp_I s 51 8 = 0) (q5 : gp_I s 57 1 = 0) (q6 : gp_I s 57 3 = 0) (q7 : gp_I s 6 4 = 0) (q8 : gp_R s 117 1 = some 118) (q9 : gp_R s 117 2 = some 119) (q10 : gp_R s 117 3 = some 120) (q11 : gp_R s 117 4 = some 121) (q12 : gp_R s 117 5 = some 122) (q13 : gp_R s 117 6 = none) (q14 : gp_R s 117 7 = none) (q15 : gp_R s 117 8 = none) (q16 : gp_R s 117 9 = none) (q17 : gp_R s 25 6 = none) (q18 : gp_R s 25 7 = none) (q19 : gp_R s 25 8 = none) (q20 : gp_R s 25 9 = none) (q21 : ∀ k, k < 8 → gp_R s 4 k = some 25) (q22 : gp_R s 51 6 = some 55) (q23 : gp_R s 51 7 = some 56) (q24 : gp_sh s 117 = (9, 10)) (q25 : gp_sh s 118 = (101, 11)) (q26 : gp_sh s 119 = (101, 11)) (q27 : gp_sh s 120 = (100, 11)) (q28 : gp_sh s 121 = (100, 11)) (q29 : gp_sh s 122 = (100, 11)) (q30 : gp_us s = 606960) (q31 : gp_sz s = 123) (k : ∀ (t : gH), xM z t → (gp_I t 1 2 = 0) → (gp_I t 1 6 = 0) → (gp_I t 1 7 = 1) → (gp_I t 117 0 = 11) → (gp_I t 51 8 = 0) → (gp_I t 57 1 = 0) → (gp_I t 57 3 = 0) → (gp_I t 6 4 = 0) → (gp_R t 117 1 = some 118) → (gp_R t 117 2 = some 119) → (gp_R t 117 3 = some 120) → (gp_R t 117 4 = some 121) → (gp_R t 117 5 = some 122) → (gp_R t 117 6 = none) → (gp_R t 117 7 = none) → (gp_R t 117 8 = none) → (gp_R t 117 9 = none) → (gp_R t 25 6 = none) → (gp_R t 25 7 = none) → (gp_R t 25 8 = none) → (gp_R t 25 9 = none) → (gp_R t 51 6 = some 55) → (gp_R t 51 7 = some 56) → (gp_sh t 117 = (9, 10)) → (gp_sh t 118 = (101, 11)) → (gp_sh t 119 = (101, 11)) → (gp_sh t 120 = (100, 11)) → (gp_sh t 121 = (100, 11)) → (gp_sh t 122 = (100, 11)) → (gp_us t = 606960) → (gp_sz t = 123) → K (some (gp_i 11)) t) : gs_C L d 2854 3 [gp_r (some 1), gp_i p0, gp_r (some 117)] s K := by
  refine s_2854_e _ _ ?_
  refine ⟨117, rfl, ?_⟩
  refine ⟨by omega, ?_⟩
  refine ⟨(by show (gp_sh s 117).1 = 9; rw [q24]), ?_⟩
  intro s_1 e_2
  have hs_3 : xM z s_1 := by rw [e_2]; exact xI.wR hs _ _ _
  have q_4 : gp_I s_1 1 2 = 0 := by rw [e_2]; exact q0
  have q_5 : gp_I s_1 1 6 = 0 := by rw [e_2]; exact q1
  have q_6 : gp_I s_1 1 7 = 1 := by rw [e_2]; exact q2
  have q_7 : gp_I s_1 117 0 = 11 := by rw [e_2]; exact q3
  have q_8 : gp_I s_1 51 8 = 0 := by rw [e_2]; exact q4
  have q_9 : gp_I s_1 57 1 = 0 := by rw [e_2]; exact q5
  have q_10 : gp_I s_1 57 3 = 0 := by rw [e_2]; exact q6
  have q_11 : gp_I s_1 6 4 = 0 := by rw [e_2]; exact q7
  have q_12 : gp_R s_1 117 1 = some 118 := by rw [e_2]; exact q8
  have q_13 : gp_R s_1 117 2 = some 119 := by rw [e_2]; exact q9
  have q_14 : gp_R s_1 117 3 = some 120 := by rw [e_2]; exact q10
  have q_15 : gp_R s_1 117 4 = some 121 := by rw [e_2]; exact q11
  have q_16 : gp_R s_1 117 5 = some 122 := by rw [e_2]; exact q12
  have q_17 : gp_R s_1 117 6 = none := by rw [e_2]; exact q13
  have q_18 : gp_R s_1 117 7 = none := by rw [e_2]; exact q14
  have q_19 : gp_R s_1 117 8 = none := by rw [e_2]; exact q15
  have q_20 : gp_R s_1 117 9 = none := by rw [e_2]; exact q16
  have q_21 : gp_R s_1 25 6 = none := by rw [e_2]; exact q17
  have q_22 : gp_R s_1 25 7 = none := by rw [e_2]; exact q18
  have q_23 : gp_R s_1 25 8 = none := by rw [e_2]; exact q19
  have q_24 : gp_R s_1 25 9 = none := by rw [e_2]; exact q20
  have q_25 : gp_R s_1 51 6 = some 55 := by rw [e_2]; exact q22
  have q_26 : gp_R s_1 51 7 = some 56 := by rw [e_2]; exact q23
  have q_27 : gp_sh s_1 117 = (9, 10) := by rw [e_2]; exact q24
  have q_28 : gp_sh s_1 118 = (101, 11) := by rw [e_2]; exact q25
  have q_29 : gp_sh s_1 119 = (101, 11) := by rw [e_2]; exact q26
  have q_30 : gp_sh s_1 120 = (100, 11) := by rw [e_2]; exact q27
  have q_31 : gp_sh s_1 121 = (100, 11) := by rw [e_2]; exact q28
  have q_32 : gp_sh s_1 122 = (100, 11) := by rw [e_2]; exact q29
  have q_33 : gp_us s_1 = 606960 := by rw [e_2]; exact q30
  have q_34 : gp_sz s_1 = 123 := by rw [e_2]; exact q31
  refine ⟨(by show (gp_sh s_1 117).1 = 9; rw [q_27]), ?_⟩
  try rw [show gp_I s_1 117 0 = 11 from q_7]
  exact k s_1 hs_3 (by omega) (by omega) (by omega) (by omega) (by omega) (by omega) (by omega) (by omega) q_12 q_13 q_14 q_15 q_16 q_17 q_18 q_19 q_20 q_21 q_22 q_23 q_24 q_25 q_26 q_27 q_28 q_29 q_30 q_31 q_32 q_33 q_34
set_option maxRecDepth 100000 in
/-- GatheredPoints.waits [(0, 7), (10, 10)] -/
theorem zx2821_14 {z : gH} {L d : Nat} {K : Option gV → gH → Prop} {s : gH} (p0 : Int) (hs : xM z s) (h_p0 : 0 ≤ p0 ∧ p0 ≤ 7) (q0 : gp_I s 1 2 = 0) (q1 : gp_I s 1 6 = 0) (q2 : gp_I s 1 7 = 1) (q3 : gp_I s 51 8 = 0) (q4 : gp_I s 57 1 = 0) (q5 : gp_I s 57 3 = 0) (q6 : gp_I s 6 4 = 0) (q7 : gp_R s 25 6 = none) (q8 : gp_R s 25 7 = none) (q9 : gp_R s 25 8 = none) (q10 : gp_R s 25 9 = none) (q11 : ∀ k, k < 8 → gp_R s 4 k = some 25) (q12 : gp_R s 51 6 = some 55) (q13 : gp_R s 51 7 = some 56) (q14 : gp_us s = 606895) (q15 : gp_sz s = 117) (k : ∀ (t : gH), xM z t → (gp_I t 1 2 = 0) → (gp_I t 1 6 = 0) → (gp_I t 1 7 = 1) → (gp_I t 117 0 = 11) → (gp_I t 51 8 = 0) → (gp_I t 57 1 = 0) → (gp_I t 57 3 = 0) → (gp_I t 6 4 = 0) → (gp_R t 117 1 = some 118) → (gp_R t 117 2 = some 119) → (gp_R t 117 3 = some 120) → (gp_R t 117 4 = some 121) → (gp_R t 117 5 = some 122) → (gp_R t 117 6 = none) → (gp_R t 117 7 = none) → (gp_R t 117 8 = none) → (gp_R t 117 9 = none) → (gp_R t 25 6 = none) → (gp_R t 25 7 = none) → (gp_R t 25 8 = none) → (gp_R t 25 9 = none) → (gp_R t 51 6 = some 55) → (gp_R t 51 7 = some 56) → (gp_sh t 117 = (9, 10)) → (gp_sh t 118 = (101, 11)) → (gp_sh t 119 = (101, 11)) → (gp_sh t 120 = (100, 11)) → (gp_sh t 121 = (100, 11)) → (gp_sh t 122 = (100, 11)) → (gp_us t = 606960) → (gp_sz t = 123) → K (some (gp_i 11)) t) : gs_C L (d + 2) 2821 3 [gp_r (some 1), gp_i p0, gp_i 10] s K := by
  refine s_2821_e _ _ ?_
  refine zx2856_2 _ hs (by omega) (by omega) (by omega) (by omega) (by omega) (by omega) (by omega) q7 q8 q9 q10 q11 q12 q13 (⟨_, rfl, ?_⟩)
  refine ⟨fun h_1 => ?_, fun h_1 => ?_⟩
  · refine ⟨fun h_2 => ?_, fun h_2 => ?_⟩
    · exfalso; omega
    · refine ⟨fun h_3 => ?_, fun h_3 => ?_⟩
      · exfalso; omega
      · refine zx258_10 hs (by omega) (by omega) (by omega) (by omega) (by omega) (by omega) (by omega) q7 q8 q9 q10 q11 q12 q13 q14 q15 (fun s_5 hs_6 q_7 q_8 q_9 q_10 q_11 q_12 q_13 q_14 q_15 q_16 q_17 q_18 q_19 q_20 q_21 q_22 q_23 q_24 q_25 q_26 q_27 q_28 q_29 q_30 q_31 q_32 q_33 q_34 q_35 q_36 q_37 q_38 => ⟨_, rfl, ?_⟩)
        refine zx2854_10 _ hs_6 (by omega) (by omega) (by omega) (by omega) (by omega) (by omega) (by omega) (by omega) (by omega) q_15 q_16 q_17 q_18 q_19 q_20 q_21 q_22 q_23 q_24 q_25 q_26 q_27 q_28 q_29 q_30 q_31 q_32 q_33 q_34 q_35 q_36 q_37 q_38 (fun s_39 hs_40 q_41 q_42 q_43 q_44 q_45 q_46 q_47 q_48 q_49 q_50 q_51 q_52 q_53 q_54 q_55 q_56 q_57 q_58 q_59 q_60 q_61 q_62 q_63 q_64 q_65 q_66 q_67 q_68 q_69 q_70 q_71 => ⟨_, rfl, ?_⟩)
        exact k s_39 hs_40 (by omega) (by omega) (by omega) (by omega) (by omega) (by omega) (by omega) (by omega) q_49 q_50 q_51 q_52 q_53 q_54 q_55 q_56 q_57 q_58 q_59 q_60 q_61 q_62 q_63 q_64 q_65 q_66 q_67 q_68 q_69 q_70 q_71
  · exfalso; omega
set_option maxRecDepth 100000 in
/-- Table.<init> [117, (12, 12)] -/
theorem zx2304_11 {z : gH} {L d : Nat} {K : Option gV → gH → Prop} {s : gH}  (hs : xM z s)  (q0 : gp_I s 1 2 = 0) (q1 : gp_I s 1 6 = 0) (q2 : gp_I s 1 7 = 1) (q3 : gp_I s 117 0 = 0) (q4 : gp_I s 51 8 = 0) (q5 : gp_I s 57 1 = 0) (q6 : gp_I s 57 3 = 0) (q7 : gp_I s 6 4 = 0) (q8 : gp_R s 117 1 = none) (q9 : gp_R s 117 2 = none) (q10 : gp_R s 117 3 = none) (q11 : gp_R s 117 4 = none) (q12 : gp_R s 117 5 = none) (q13 : gp_R s 117 6 = none) (q14 : gp_R s 117 7 = none) (q15 : gp_R s 117 8 = none) (q16 : gp_R s 117 9 = none) (q17 : gp_R s 25 6 = none) (q18 : gp_R s 25 7 = none) (q19 : gp_R s 25 8 = none) (q20 : gp_R s 25 9 = none) (q21 : ∀ k, k < 8 → gp_R s 4 k = some 25) (q22 : gp_R s 51 6 = some 55) (q23 : gp_R s 51 7 = some 56) (q24 : gp_sh s 117 = (9, 10)) (q25 : gp_us s = 606905) (q26 : gp_sz s = 118) (k : ∀ (t : gH), xM z t → (gp_I t 1 2 = 0) → (gp_I t 1 6 = 0) → (gp_I t 1 7 = 1) → (gp_I t 117 0 = 12) → (gp_I t 51 8 = 0) → (gp_I t 57 1 = 0) → (gp_I t 57 3 = 0) → (gp_I t 6 4 = 0) → (gp_R t 117 1 = some 118) → (gp_R t 117 2 = some 119) → (gp_R t 117 3 = some 120) → (gp_R t 117 4 = some 121) → (gp_R t 117 5 = some 122) → (gp_R t 117 6 = none) → (gp_R t 117 7 = none) → (gp_R t 117 8 = none) → (gp_R t 117 9 = none) → (gp_R t 25 6 = none) → (gp_R t 25 7 = none) → (gp_R t 25 8 = none) → (gp_R t 25 9 = none) → (∀ k, k < 8 → gp_R t 4 k = some 25) → (gp_R t 51 6 = some 55) → (gp_R t 51 7 = some 56) → (gp_sh t 117 = (9, 10)) → (gp_sh t 118 = (101, 12)) → (gp_sh t 119 = (101, 12)) → (gp_sh t 120 = (100, 12)) → (gp_sh t 121 = (100, 12)) → (gp_sh t 122 = (100, 12)) → (gp_us t = 606965) → (gp_sz t = 123) → K none t) : gs_C L d 2304 2 [gp_r (some 117), gp_i 12] s K := by
  refine s_2304_e _ _ ?_
  refine ⟨117, rfl, ?_⟩
  refine ⟨(by show (gp_sh s 117).1 = 9; rw [q24]), ?_⟩
  intro s_1 e_2
  have hs_3 : xM z s_1 := by rw [e_2]; exact xI.wId hs _ _ _ (by omega)
  have q_4 : gp_I s_1 1 2 = 0 := by rw [e_2]; exact q0
  have q_5 : gp_I s_1 1 6 = 0 := by rw [e_2]; exact q1
  have q_6 : gp_I s_1 1 7 = 1 := by rw [e_2]; exact q2
  have q_7 : gp_I s_1 51 8 = 0 := by rw [e_2]; exact q4
  have q_8 : gp_I s_1 57 1 = 0 := by rw [e_2]; exact q5
  have q_9 : gp_I s_1 57 3 = 0 := by rw [e_2]; exact q6
  have q_10 : gp_I s_1 6 4 = 0 := by rw [e_2]; exact q7
  have q_11 : gp_R s_1 117 1 = none := by rw [e_2]; exact q8
  have q_12 : gp_R s_1 117 2 = none := by rw [e_2]; exact q9
  have q_13 : gp_R s_1 117 3 = none := by rw [e_2]; exact q10
  have q_14 : gp_R s_1 117 4 = none := by rw [e_2]; exact q11
  have q_15 : gp_R s_1 117 5 = none := by rw [e_2]; exact q12
  have q_16 : gp_R s_1 117 6 = none := by rw [e_2]; exact q13
  have q_17 : gp_R s_1 117 7 = none := by rw [e_2]; exact q14
  have q_18 : gp_R s_1 117 8 = none := by rw [e_2]; exact q15
  have q_19 : gp_R s_1 117 9 = none := by rw [e_2]; exact q16
  have q_20 : gp_R s_1 25 6 = none := by rw [e_2]; exact q17
  have q_21 : gp_R s_1 25 7 = none := by rw [e_2]; exact q18
  have q_22 : gp_R s_1 25 8 = none := by rw [e_2]; exact q19
  have q_23 : gp_R s_1 25 9 = none := by rw [e_2]; exact q20
  have q_24 : ∀ k, k < 8 → gp_R s_1 4 k = some 25 := by rw [e_2]; exact q21
  have q_25 : gp_R s_1 51 6 = some 55 := by rw [e_2]; exact q22
  have q_26 : gp_R s_1 51 7 = some 56 := by rw [e_2]; exact q23
  have q_27 : gp_sh s_1 117 = (9, 10) := by rw [e_2]; exact q24
  have q_28 : gp_us s_1 = 606905 := by rw [e_2]; exact q25
  have q_29 : gp_sz s_1 = 118 := by rw [e_2]; exact q26
  have q_30 : gp_I s_1 117 0 = 12 := by rw [e_2]; rfl
  refine ⟨by omega, ?_⟩
  refine ⟨by omega, ?_⟩
  try rw [show gp_sz s_1 = 118 from q_29]
  intro s_32 e_33
  have hs_34 : xM z s_32 := by rw [e_33]; exact xI.new hs_3 (by omega)
  have q_35 : gp_I s_32 1 2 = 0 := by rw [e_33, gz_nI q_29 (by decide)]; exact q_4
  have q_36 : gp_I s_32 1 6 = 0 := by rw [e_33, gz_nI q_29 (by decide)]; exact q_5
  have q_37 : gp_I s_32 1 7 = 1 := by rw [e_33, gz_nI q_29 (by decide)]; exact q_6
  have q_38 : gp_I s_32 51 8 = 0 := by rw [e_33, gz_nI q_29 (by decide)]; exact q_7
  have q_39 : gp_I s_32 57 1 = 0 := by rw [e_33, gz_nI q_29 (by decide)]; exact q_8
  have q_40 : gp_I s_32 57 3 = 0 := by rw [e_33, gz_nI q_29 (by decide)]; exact q_9
  have q_41 : gp_I s_32 6 4 = 0 := by rw [e_33, gz_nI q_29 (by decide)]; exact q_10
  have q_42 : gp_R s_32 117 1 = none := by rw [e_33, gz_nR q_29 (by decide)]; exact q_11
  have q_43 : gp_R s_32 117 2 = none := by rw [e_33, gz_nR q_29 (by decide)]; exact q_12
  have q_44 : gp_R s_32 117 3 = none := by rw [e_33, gz_nR q_29 (by decide)]; exact q_13
  have q_45 : gp_R s_32 117 4 = none := by rw [e_33, gz_nR q_29 (by decide)]; exact q_14
  have q_46 : gp_R s_32 117 5 = none := by rw [e_33, gz_nR q_29 (by decide)]; exact q_15
  have q_47 : gp_R s_32 117 6 = none := by rw [e_33, gz_nR q_29 (by decide)]; exact q_16
  have q_48 : gp_R s_32 117 7 = none := by rw [e_33, gz_nR q_29 (by decide)]; exact q_17
  have q_49 : gp_R s_32 117 8 = none := by rw [e_33, gz_nR q_29 (by decide)]; exact q_18
  have q_50 : gp_R s_32 117 9 = none := by rw [e_33, gz_nR q_29 (by decide)]; exact q_19
  have q_51 : gp_R s_32 25 6 = none := by rw [e_33, gz_nR q_29 (by decide)]; exact q_20
  have q_52 : gp_R s_32 25 7 = none := by rw [e_33, gz_nR q_29 (by decide)]; exact q_21
  have q_53 : gp_R s_32 25 8 = none := by rw [e_33, gz_nR q_29 (by decide)]; exact q_22
  have q_54 : gp_R s_32 25 9 = none := by rw [e_33, gz_nR q_29 (by decide)]; exact q_23
  have q_55 : ∀ k, k < 8 → gp_R s_32 4 k = some 25 := fun k hk => by rw [e_33, gz_nR q_29 (by decide)]; exact q_24 k hk
  have q_56 : gp_R s_32 51 6 = some 55 := by rw [e_33, gz_nR q_29 (by decide)]; exact q_25
  have q_57 : gp_R s_32 51 7 = some 56 := by rw [e_33, gz_nR q_29 (by decide)]; exact q_26
  have q_58 : gp_sh s_32 117 = (9, 10) := by rw [e_33, gz_nS q_29 (by decide)]; exact q_27
  have q_59 : gp_us s_32 = 606917 := by rw [e_33]; show gp_us s_1 + 12 = 606917; rw [q_28]; try rfl
  have q_60 : gp_sz s_32 = 119 := by rw [e_33]; exact congrArg Nat.succ q_29
  have q_61 : gp_I s_32 117 0 = 12 := by rw [e_33, gz_nI q_29 (by decide)]; exact q_30
  have q_62 : gp_sh s_32 118 = (101, 12) := by rw [e_33]; exact gz_nSs q_29
  refine ⟨(by show (gp_sh s_32 117).1 = 9; rw [q_58]), ?_⟩
  refine ⟨rfl, ?_⟩
  intro s_63 e_64
  have hs_65 : xM z s_63 := by rw [e_64]; exact xI.wR hs_34 _ _ _
  have q_66 : gp_I s_63 1 2 = 0 := by rw [e_64]; exact q_35
  have q_67 : gp_I s_63 1 6 = 0 := by rw [e_64]; exact q_36
  have q_68 : gp_I s_63 1 7 = 1 := by rw [e_64]; exact q_37
  have q_69 : gp_I s_63 51 8 = 0 := by rw [e_64]; exact q_38
  have q_70 : gp_I s_63 57 1 = 0 := by rw [e_64]; exact q_39
  have q_71 : gp_I s_63 57 3 = 0 := by rw [e_64]; exact q_40
  have q_72 : gp_I s_63 6 4 = 0 := by rw [e_64]; exact q_41
  have q_73 : gp_R s_63 117 2 = none := by rw [e_64]; exact q_43
  have q_74 : gp_R s_63 117 3 = none := by rw [e_64]; exact q_44
  have q_75 : gp_R s_63 117 4 = none := by rw [e_64]; exact q_45
  have q_76 : gp_R s_63 117 5 = none := by rw [e_64]; exact q_46
  have q_77 : gp_R s_63 117 6 = none := by rw [e_64]; exact q_47
  have q_78 : gp_R s_63 117 7 = none := by rw [e_64]; exact q_48
  have q_79 : gp_R s_63 117 8 = none := by rw [e_64]; exact q_49
  have q_80 : gp_R s_63 117 9 = none := by rw [e_64]; exact q_50
  have q_81 : gp_R s_63 25 6 = none := by rw [e_64]; exact q_51
  have q_82 : gp_R s_63 25 7 = none := by rw [e_64]; exact q_52
  have q_83 : gp_R s_63 25 8 = none := by rw [e_64]; exact q_53
  have q_84 : gp_R s_63 25 9 = none := by rw [e_64]; exact q_54
  have q_85 : ∀ k, k < 8 → gp_R s_63 4 k = some 25 := by rw [e_64]; exact q_55
  have q_86 : gp_R s_63 51 6 = some 55 := by rw [e_64]; exact q_56
  have q_87 : gp_R s_63 51 7 = some 56 := by rw [e_64]; exact q_57
  have q_88 : gp_sh s_63 117 = (9, 10) := by rw [e_64]; exact q_58
  have q_89 : gp_us s_63 = 606917 := by rw [e_64]; exact q_59
  have q_90 : gp_sz s_63 = 119 := by rw [e_64]; exact q_60
  have q_91 : gp_I s_63 117 0 = 12 := by rw [e_64]; exact q_61
  have q_92 : gp_sh s_63 118 = (101, 12) := by rw [e_64]; exact q_62
  have q_93 : gp_R s_63 117 1 = some 118 := by rw [e_64]; rfl
  refine ⟨by omega, ?_⟩
  refine ⟨by omega, ?_⟩
  try rw [show gp_sz s_63 = 119 from q_90]
  intro s_94 e_95
  have hs_96 : xM z s_94 := by rw [e_95]; exact xI.new hs_65 (by omega)
  have q_97 : gp_I s_94 1 2 = 0 := by rw [e_95, gz_nI q_90 (by decide)]; exact q_66
  have q_98 : gp_I s_94 1 6 = 0 := by rw [e_95, gz_nI q_90 (by decide)]; exact q_67
  have q_99 : gp_I s_94 1 7 = 1 := by rw [e_95, gz_nI q_90 (by decide)]; exact q_68
  have q_100 : gp_I s_94 51 8 = 0 := by rw [e_95, gz_nI q_90 (by decide)]; exact q_69
  have q_101 : gp_I s_94 57 1 = 0 := by rw [e_95, gz_nI q_90 (by decide)]; exact q_70
  have q_102 : gp_I s_94 57 3 = 0 := by rw [e_95, gz_nI q_90 (by decide)]; exact q_71
  have q_103 : gp_I s_94 6 4 = 0 := by rw [e_95, gz_nI q_90 (by decide)]; exact q_72
  have q_104 : gp_R s_94 117 2 = none := by rw [e_95, gz_nR q_90 (by decide)]; exact q_73
  have q_105 : gp_R s_94 117 3 = none := by rw [e_95, gz_nR q_90 (by decide)]; exact q_74
  have q_106 : gp_R s_94 117 4 = none := by rw [e_95, gz_nR q_90 (by decide)]; exact q_75
  have q_107 : gp_R s_94 117 5 = none := by rw [e_95, gz_nR q_90 (by decide)]; exact q_76
  have q_108 : gp_R s_94 117 6 = none := by rw [e_95, gz_nR q_90 (by decide)]; exact q_77
  have q_109 : gp_R s_94 117 7 = none := by rw [e_95, gz_nR q_90 (by decide)]; exact q_78
  have q_110 : gp_R s_94 117 8 = none := by rw [e_95, gz_nR q_90 (by decide)]; exact q_79
  have q_111 : gp_R s_94 117 9 = none := by rw [e_95, gz_nR q_90 (by decide)]; exact q_80
  have q_112 : gp_R s_94 25 6 = none := by rw [e_95, gz_nR q_90 (by decide)]; exact q_81
  have q_113 : gp_R s_94 25 7 = none := by rw [e_95, gz_nR q_90 (by decide)]; exact q_82
  have q_114 : gp_R s_94 25 8 = none := by rw [e_95, gz_nR q_90 (by decide)]; exact q_83
  have q_115 : gp_R s_94 25 9 = none := by rw [e_95, gz_nR q_90 (by decide)]; exact q_84
  have q_116 : ∀ k, k < 8 → gp_R s_94 4 k = some 25 := fun k hk => by rw [e_95, gz_nR q_90 (by decide)]; exact q_85 k hk
  have q_117 : gp_R s_94 51 6 = some 55 := by rw [e_95, gz_nR q_90 (by decide)]; exact q_86
  have q_118 : gp_R s_94 51 7 = some 56 := by rw [e_95, gz_nR q_90 (by decide)]; exact q_87
  have q_119 : gp_sh s_94 117 = (9, 10) := by rw [e_95, gz_nS q_90 (by decide)]; exact q_88
  have q_120 : gp_us s_94 = 606929 := by rw [e_95]; show gp_us s_63 + 12 = 606929; rw [q_89]; try rfl
  have q_121 : gp_sz s_94 = 120 := by rw [e_95]; exact congrArg Nat.succ q_90
  have q_122 : gp_I s_94 117 0 = 12 := by rw [e_95, gz_nI q_90 (by decide)]; exact q_91
  have q_123 : gp_sh s_94 118 = (101, 12) := by rw [e_95, gz_nS q_90 (by decide)]; exact q_92
  have q_124 : gp_R s_94 117 1 = some 118 := by rw [e_95, gz_nR q_90 (by decide)]; exact q_93
  have q_125 : gp_sh s_94 119 = (101, 12) := by rw [e_95]; exact gz_nSs q_90
  refine ⟨(by show (gp_sh s_94 117).1 = 9; rw [q_119]), ?_⟩
  refine ⟨rfl, ?_⟩
  intro s_126 e_127
  have hs_128 : xM z s_126 := by rw [e_127]; exact xI.wR hs_96 _ _ _
  have q_129 : gp_I s_126 1 2 = 0 := by rw [e_127]; exact q_97
  have q_130 : gp_I s_126 1 6 = 0 := by rw [e_127]; exact q_98
  have q_131 : gp_I s_126 1 7 = 1 := by rw [e_127]; exact q_99
  have q_132 : gp_I s_126 51 8 = 0 := by rw [e_127]; exact q_100
  have q_133 : gp_I s_126 57 1 = 0 := by rw [e_127]; exact q_101
  have q_134 : gp_I s_126 57 3 = 0 := by rw [e_127]; exact q_102
  have q_135 : gp_I s_126 6 4 = 0 := by rw [e_127]; exact q_103
  have q_136 : gp_R s_126 117 3 = none := by rw [e_127]; exact q_105
  have q_137 : gp_R s_126 117 4 = none := by rw [e_127]; exact q_106
  have q_138 : gp_R s_126 117 5 = none := by rw [e_127]; exact q_107
  have q_139 : gp_R s_126 117 6 = none := by rw [e_127]; exact q_108
  have q_140 : gp_R s_126 117 7 = none := by rw [e_127]; exact q_109
  have q_141 : gp_R s_126 117 8 = none := by rw [e_127]; exact q_110
  have q_142 : gp_R s_126 117 9 = none := by rw [e_127]; exact q_111
  have q_143 : gp_R s_126 25 6 = none := by rw [e_127]; exact q_112
  have q_144 : gp_R s_126 25 7 = none := by rw [e_127]; exact q_113
  have q_145 : gp_R s_126 25 8 = none := by rw [e_127]; exact q_114
  have q_146 : gp_R s_126 25 9 = none := by rw [e_127]; exact q_115
  have q_147 : ∀ k, k < 8 → gp_R s_126 4 k = some 25 := by rw [e_127]; exact q_116
  have q_148 : gp_R s_126 51 6 = some 55 := by rw [e_127]; exact q_117
  have q_149 : gp_R s_126 51 7 = some 56 := by rw [e_127]; exact q_118
  have q_150 : gp_sh s_126 117 = (9, 10) := by rw [e_127]; exact q_119
  have q_151 : gp_us s_126 = 606929 := by rw [e_127]; exact q_120
  have q_152 : gp_sz s_126 = 120 := by rw [e_127]; exact q_121
  have q_153 : gp_I s_126 117 0 = 12 := by rw [e_127]; exact q_122
  have q_154 : gp_sh s_126 118 = (101, 12) := by rw [e_127]; exact q_123
  have q_155 : gp_R s_126 117 1 = some 118 := by rw [e_127]; exact q_124
  have q_156 : gp_sh s_126 119 = (101, 12) := by rw [e_127]; exact q_125
  have q_157 : gp_R s_126 117 2 = some 119 := by rw [e_127]; rfl
  refine ⟨by omega, ?_⟩
  refine ⟨by omega, ?_⟩
  try rw [show gp_sz s_126 = 120 from q_152]
  intro s_158 e_159
  have hs_160 : xM z s_158 := by rw [e_159]; exact xI.new hs_128 (by omega)
  have q_161 : gp_I s_158 1 2 = 0 := by rw [e_159, gz_nI q_152 (by decide)]; exact q_129
  have q_162 : gp_I s_158 1 6 = 0 := by rw [e_159, gz_nI q_152 (by decide)]; exact q_130
  have q_163 : gp_I s_158 1 7 = 1 := by rw [e_159, gz_nI q_152 (by decide)]; exact q_131
  have q_164 : gp_I s_158 51 8 = 0 := by rw [e_159, gz_nI q_152 (by decide)]; exact q_132
  have q_165 : gp_I s_158 57 1 = 0 := by rw [e_159, gz_nI q_152 (by decide)]; exact q_133
  have q_166 : gp_I s_158 57 3 = 0 := by rw [e_159, gz_nI q_152 (by decide)]; exact q_134
  have q_167 : gp_I s_158 6 4 = 0 := by rw [e_159, gz_nI q_152 (by decide)]; exact q_135
  have q_168 : gp_R s_158 117 3 = none := by rw [e_159, gz_nR q_152 (by decide)]; exact q_136
  have q_169 : gp_R s_158 117 4 = none := by rw [e_159, gz_nR q_152 (by decide)]; exact q_137
  have q_170 : gp_R s_158 117 5 = none := by rw [e_159, gz_nR q_152 (by decide)]; exact q_138
  have q_171 : gp_R s_158 117 6 = none := by rw [e_159, gz_nR q_152 (by decide)]; exact q_139
  have q_172 : gp_R s_158 117 7 = none := by rw [e_159, gz_nR q_152 (by decide)]; exact q_140
  have q_173 : gp_R s_158 117 8 = none := by rw [e_159, gz_nR q_152 (by decide)]; exact q_141
  have q_174 : gp_R s_158 117 9 = none := by rw [e_159, gz_nR q_152 (by decide)]; exact q_142
  have q_175 : gp_R s_158 25 6 = none := by rw [e_159, gz_nR q_152 (by decide)]; exact q_143
  have q_176 : gp_R s_158 25 7 = none := by rw [e_159, gz_nR q_152 (by decide)]; exact q_144
  have q_177 : gp_R s_158 25 8 = none := by rw [e_159, gz_nR q_152 (by decide)]; exact q_145
  have q_178 : gp_R s_158 25 9 = none := by rw [e_159, gz_nR q_152 (by decide)]; exact q_146
  have q_179 : ∀ k, k < 8 → gp_R s_158 4 k = some 25 := fun k hk => by rw [e_159, gz_nR q_152 (by decide)]; exact q_147 k hk
  have q_180 : gp_R s_158 51 6 = some 55 := by rw [e_159, gz_nR q_152 (by decide)]; exact q_148
  have q_181 : gp_R s_158 51 7 = some 56 := by rw [e_159, gz_nR q_152 (by decide)]; exact q_149
  have q_182 : gp_sh s_158 117 = (9, 10) := by rw [e_159, gz_nS q_152 (by decide)]; exact q_150
  have q_183 : gp_us s_158 = 606941 := by rw [e_159]; show gp_us s_126 + 12 = 606941; rw [q_151]; try rfl
  have q_184 : gp_sz s_158 = 121 := by rw [e_159]; exact congrArg Nat.succ q_152
  have q_185 : gp_I s_158 117 0 = 12 := by rw [e_159, gz_nI q_152 (by decide)]; exact q_153
  have q_186 : gp_sh s_158 118 = (101, 12) := by rw [e_159, gz_nS q_152 (by decide)]; exact q_154
  have q_187 : gp_R s_158 117 1 = some 118 := by rw [e_159, gz_nR q_152 (by decide)]; exact q_155
  have q_188 : gp_sh s_158 119 = (101, 12) := by rw [e_159, gz_nS q_152 (by decide)]; exact q_156
  have q_189 : gp_R s_158 117 2 = some 119 := by rw [e_159, gz_nR q_152 (by decide)]; exact q_157
  have q_190 : gp_sh s_158 120 = (100, 12) := by rw [e_159]; exact gz_nSs q_152
  refine ⟨(by show (gp_sh s_158 117).1 = 9; rw [q_182]), ?_⟩
  refine ⟨rfl, ?_⟩
  intro s_191 e_192
  have hs_193 : xM z s_191 := by rw [e_192]; exact xI.wR hs_160 _ _ _
  have q_194 : gp_I s_191 1 2 = 0 := by rw [e_192]; exact q_161
  have q_195 : gp_I s_191 1 6 = 0 := by rw [e_192]; exact q_162
  have q_196 : gp_I s_191 1 7 = 1 := by rw [e_192]; exact q_163
  have q_197 : gp_I s_191 51 8 = 0 := by rw [e_192]; exact q_164
  have q_198 : gp_I s_191 57 1 = 0 := by rw [e_192]; exact q_165
  have q_199 : gp_I s_191 57 3 = 0 := by rw [e_192]; exact q_166
  have q_200 : gp_I s_191 6 4 = 0 := by rw [e_192]; exact q_167
  have q_201 : gp_R s_191 117 4 = none := by rw [e_192]; exact q_169
  have q_202 : gp_R s_191 117 5 = none := by rw [e_192]; exact q_170
  have q_203 : gp_R s_191 117 6 = none := by rw [e_192]; exact q_171
  have q_204 : gp_R s_191 117 7 = none := by rw [e_192]; exact q_172
  have q_205 : gp_R s_191 117 8 = none := by rw [e_192]; exact q_173
  have q_206 : gp_R s_191 117 9 = none := by rw [e_192]; exact q_174
  have q_207 : gp_R s_191 25 6 = none := by rw [e_192]; exact q_175
  have q_208 : gp_R s_191 25 7 = none := by rw [e_192]; exact q_176
  have q_209 : gp_R s_191 25 8 = none := by rw [e_192]; exact q_177
  have q_210 : gp_R s_191 25 9 = none := by rw [e_192]; exact q_178
  have q_211 : ∀ k, k < 8 → gp_R s_191 4 k = some 25 := by rw [e_192]; exact q_179
  have q_212 : gp_R s_191 51 6 = some 55 := by rw [e_192]; exact q_180
  have q_213 : gp_R s_191 51 7 = some 56 := by rw [e_192]; exact q_181
  have q_214 : gp_sh s_191 117 = (9, 10) := by rw [e_192]; exact q_182
  have q_215 : gp_us s_191 = 606941 := by rw [e_192]; exact q_183
  have q_216 : gp_sz s_191 = 121 := by rw [e_192]; exact q_184
  have q_217 : gp_I s_191 117 0 = 12 := by rw [e_192]; exact q_185
  have q_218 : gp_sh s_191 118 = (101, 12) := by rw [e_192]; exact q_186
  have q_219 : gp_R s_191 117 1 = some 118 := by rw [e_192]; exact q_187
  have q_220 : gp_sh s_191 119 = (101, 12) := by rw [e_192]; exact q_188
  have q_221 : gp_R s_191 117 2 = some 119 := by rw [e_192]; exact q_189
  have q_222 : gp_sh s_191 120 = (100, 12) := by rw [e_192]; exact q_190
  have q_223 : gp_R s_191 117 3 = some 120 := by rw [e_192]; rfl
  refine ⟨by omega, ?_⟩
  refine ⟨by omega, ?_⟩
  try rw [show gp_sz s_191 = 121 from q_216]
  intro s_224 e_225
  have hs_226 : xM z s_224 := by rw [e_225]; exact xI.new hs_193 (by omega)
  have q_227 : gp_I s_224 1 2 = 0 := by rw [e_225, gz_nI q_216 (by decide)]; exact q_194
  have q_228 : gp_I s_224 1 6 = 0 := by rw [e_225, gz_nI q_216 (by decide)]; exact q_195
  have q_229 : gp_I s_224 1 7 = 1 := by rw [e_225, gz_nI q_216 (by decide)]; exact q_196
  have q_230 : gp_I s_224 51 8 = 0 := by rw [e_225, gz_nI q_216 (by decide)]; exact q_197
  have q_231 : gp_I s_224 57 1 = 0 := by rw [e_225, gz_nI q_216 (by decide)]; exact q_198
  have q_232 : gp_I s_224 57 3 = 0 := by rw [e_225, gz_nI q_216 (by decide)]; exact q_199
  have q_233 : gp_I s_224 6 4 = 0 := by rw [e_225, gz_nI q_216 (by decide)]; exact q_200
  have q_234 : gp_R s_224 117 4 = none := by rw [e_225, gz_nR q_216 (by decide)]; exact q_201
  have q_235 : gp_R s_224 117 5 = none := by rw [e_225, gz_nR q_216 (by decide)]; exact q_202
  have q_236 : gp_R s_224 117 6 = none := by rw [e_225, gz_nR q_216 (by decide)]; exact q_203
  have q_237 : gp_R s_224 117 7 = none := by rw [e_225, gz_nR q_216 (by decide)]; exact q_204
  have q_238 : gp_R s_224 117 8 = none := by rw [e_225, gz_nR q_216 (by decide)]; exact q_205
  have q_239 : gp_R s_224 117 9 = none := by rw [e_225, gz_nR q_216 (by decide)]; exact q_206
  have q_240 : gp_R s_224 25 6 = none := by rw [e_225, gz_nR q_216 (by decide)]; exact q_207
  have q_241 : gp_R s_224 25 7 = none := by rw [e_225, gz_nR q_216 (by decide)]; exact q_208
  have q_242 : gp_R s_224 25 8 = none := by rw [e_225, gz_nR q_216 (by decide)]; exact q_209
  have q_243 : gp_R s_224 25 9 = none := by rw [e_225, gz_nR q_216 (by decide)]; exact q_210
  have q_244 : ∀ k, k < 8 → gp_R s_224 4 k = some 25 := fun k hk => by rw [e_225, gz_nR q_216 (by decide)]; exact q_211 k hk
  have q_245 : gp_R s_224 51 6 = some 55 := by rw [e_225, gz_nR q_216 (by decide)]; exact q_212
  have q_246 : gp_R s_224 51 7 = some 56 := by rw [e_225, gz_nR q_216 (by decide)]; exact q_213
  have q_247 : gp_sh s_224 117 = (9, 10) := by rw [e_225, gz_nS q_216 (by decide)]; exact q_214
  have q_248 : gp_us s_224 = 606953 := by rw [e_225]; show gp_us s_191 + 12 = 606953; rw [q_215]; try rfl
  have q_249 : gp_sz s_224 = 122 := by rw [e_225]; exact congrArg Nat.succ q_216
  have q_250 : gp_I s_224 117 0 = 12 := by rw [e_225, gz_nI q_216 (by decide)]; exact q_217
  have q_251 : gp_sh s_224 118 = (101, 12) := by rw [e_225, gz_nS q_216 (by decide)]; exact q_218
  have q_252 : gp_R s_224 117 1 = some 118 := by rw [e_225, gz_nR q_216 (by decide)]; exact q_219
  have q_253 : gp_sh s_224 119 = (101, 12) := by rw [e_225, gz_nS q_216 (by decide)]; exact q_220
  have q_254 : gp_R s_224 117 2 = some 119 := by rw [e_225, gz_nR q_216 (by decide)]; exact q_221
  have q_255 : gp_sh s_224 120 = (100, 12) := by rw [e_225, gz_nS q_216 (by decide)]; exact q_222
  have q_256 : gp_R s_224 117 3 = some 120 := by rw [e_225, gz_nR q_216 (by decide)]; exact q_223
  have q_257 : gp_sh s_224 121 = (100, 12) := by rw [e_225]; exact gz_nSs q_216
  refine ⟨(by show (gp_sh s_224 117).1 = 9; rw [q_247]), ?_⟩
  refine ⟨rfl, ?_⟩
  intro s_258 e_259
  have hs_260 : xM z s_258 := by rw [e_259]; exact xI.wR hs_226 _ _ _
  have q_261 : gp_I s_258 1 2 = 0 := by rw [e_259]; exact q_227
  have q_262 : gp_I s_258 1 6 = 0 := by rw [e_259]; exact q_228
  have q_263 : gp_I s_258 1 7 = 1 := by rw [e_259]; exact q_229
  have q_264 : gp_I s_258 51 8 = 0 := by rw [e_259]; exact q_230
  have q_265 : gp_I s_258 57 1 = 0 := by rw [e_259]; exact q_231
  have q_266 : gp_I s_258 57 3 = 0 := by rw [e_259]; exact q_232
  have q_267 : gp_I s_258 6 4 = 0 := by rw [e_259]; exact q_233
  have q_268 : gp_R s_258 117 5 = none := by rw [e_259]; exact q_235
  have q_269 : gp_R s_258 117 6 = none := by rw [e_259]; exact q_236
  have q_270 : gp_R s_258 117 7 = none := by rw [e_259]; exact q_237
  have q_271 : gp_R s_258 117 8 = none := by rw [e_259]; exact q_238
  have q_272 : gp_R s_258 117 9 = none := by rw [e_259]; exact q_239
  have q_273 : gp_R s_258 25 6 = none := by rw [e_259]; exact q_240
  have q_274 : gp_R s_258 25 7 = none := by rw [e_259]; exact q_241
  have q_275 : gp_R s_258 25 8 = none := by rw [e_259]; exact q_242
  have q_276 : gp_R s_258 25 9 = none := by rw [e_259]; exact q_243
  have q_277 : ∀ k, k < 8 → gp_R s_258 4 k = some 25 := by rw [e_259]; exact q_244
  have q_278 : gp_R s_258 51 6 = some 55 := by rw [e_259]; exact q_245
  have q_279 : gp_R s_258 51 7 = some 56 := by rw [e_259]; exact q_246
  have q_280 : gp_sh s_258 117 = (9, 10) := by rw [e_259]; exact q_247
  have q_281 : gp_us s_258 = 606953 := by rw [e_259]; exact q_248
  have q_282 : gp_sz s_258 = 122 := by rw [e_259]; exact q_249
  have q_283 : gp_I s_258 117 0 = 12 := by rw [e_259]; exact q_250
  have q_284 : gp_sh s_258 118 = (101, 12) := by rw [e_259]; exact q_251
  have q_285 : gp_R s_258 117 1 = some 118 := by rw [e_259]; exact q_252
  have q_286 : gp_sh s_258 119 = (101, 12) := by rw [e_259]; exact q_253
  have q_287 : gp_R s_258 117 2 = some 119 := by rw [e_259]; exact q_254
  have q_288 : gp_sh s_258 120 = (100, 12) := by rw [e_259]; exact q_255
  have q_289 : gp_R s_258 117 3 = some 120 := by rw [e_259]; exact q_256
  have q_290 : gp_sh s_258 121 = (100, 12) := by rw [e_259]; exact q_257
  have q_291 : gp_R s_258 117 4 = some 121 := by rw [e_259]; rfl
  refine ⟨by omega, ?_⟩
  refine ⟨by omega, ?_⟩
  try rw [show gp_sz s_258 = 122 from q_282]
  intro s_292 e_293
  have hs_294 : xM z s_292 := by rw [e_293]; exact xI.new hs_260 (by omega)
  have q_295 : gp_I s_292 1 2 = 0 := by rw [e_293, gz_nI q_282 (by decide)]; exact q_261
  have q_296 : gp_I s_292 1 6 = 0 := by rw [e_293, gz_nI q_282 (by decide)]; exact q_262
  have q_297 : gp_I s_292 1 7 = 1 := by rw [e_293, gz_nI q_282 (by decide)]; exact q_263
  have q_298 : gp_I s_292 51 8 = 0 := by rw [e_293, gz_nI q_282 (by decide)]; exact q_264
  have q_299 : gp_I s_292 57 1 = 0 := by rw [e_293, gz_nI q_282 (by decide)]; exact q_265
  have q_300 : gp_I s_292 57 3 = 0 := by rw [e_293, gz_nI q_282 (by decide)]; exact q_266
  have q_301 : gp_I s_292 6 4 = 0 := by rw [e_293, gz_nI q_282 (by decide)]; exact q_267
  have q_302 : gp_R s_292 117 5 = none := by rw [e_293, gz_nR q_282 (by decide)]; exact q_268
  have q_303 : gp_R s_292 117 6 = none := by rw [e_293, gz_nR q_282 (by decide)]; exact q_269
  have q_304 : gp_R s_292 117 7 = none := by rw [e_293, gz_nR q_282 (by decide)]; exact q_270
  have q_305 : gp_R s_292 117 8 = none := by rw [e_293, gz_nR q_282 (by decide)]; exact q_271
  have q_306 : gp_R s_292 117 9 = none := by rw [e_293, gz_nR q_282 (by decide)]; exact q_272
  have q_307 : gp_R s_292 25 6 = none := by rw [e_293, gz_nR q_282 (by decide)]; exact q_273
  have q_308 : gp_R s_292 25 7 = none := by rw [e_293, gz_nR q_282 (by decide)]; exact q_274
  have q_309 : gp_R s_292 25 8 = none := by rw [e_293, gz_nR q_282 (by decide)]; exact q_275
  have q_310 : gp_R s_292 25 9 = none := by rw [e_293, gz_nR q_282 (by decide)]; exact q_276
  have q_311 : ∀ k, k < 8 → gp_R s_292 4 k = some 25 := fun k hk => by rw [e_293, gz_nR q_282 (by decide)]; exact q_277 k hk
  have q_312 : gp_R s_292 51 6 = some 55 := by rw [e_293, gz_nR q_282 (by decide)]; exact q_278
  have q_313 : gp_R s_292 51 7 = some 56 := by rw [e_293, gz_nR q_282 (by decide)]; exact q_279
  have q_314 : gp_sh s_292 117 = (9, 10) := by rw [e_293, gz_nS q_282 (by decide)]; exact q_280
  have q_315 : gp_us s_292 = 606965 := by rw [e_293]; show gp_us s_258 + 12 = 606965; rw [q_281]; try rfl
  have q_316 : gp_sz s_292 = 123 := by rw [e_293]; exact congrArg Nat.succ q_282
  have q_317 : gp_I s_292 117 0 = 12 := by rw [e_293, gz_nI q_282 (by decide)]; exact q_283
  have q_318 : gp_sh s_292 118 = (101, 12) := by rw [e_293, gz_nS q_282 (by decide)]; exact q_284
  have q_319 : gp_R s_292 117 1 = some 118 := by rw [e_293, gz_nR q_282 (by decide)]; exact q_285
  have q_320 : gp_sh s_292 119 = (101, 12) := by rw [e_293, gz_nS q_282 (by decide)]; exact q_286
  have q_321 : gp_R s_292 117 2 = some 119 := by rw [e_293, gz_nR q_282 (by decide)]; exact q_287
  have q_322 : gp_sh s_292 120 = (100, 12) := by rw [e_293, gz_nS q_282 (by decide)]; exact q_288
  have q_323 : gp_R s_292 117 3 = some 120 := by rw [e_293, gz_nR q_282 (by decide)]; exact q_289
  have q_324 : gp_sh s_292 121 = (100, 12) := by rw [e_293, gz_nS q_282 (by decide)]; exact q_290
  have q_325 : gp_R s_292 117 4 = some 121 := by rw [e_293, gz_nR q_282 (by decide)]; exact q_291
  have q_326 : gp_sh s_292 122 = (100, 12) := by rw [e_293]; exact gz_nSs q_282
  refine ⟨(by show (gp_sh s_292 117).1 = 9; rw [q_314]), ?_⟩
  refine ⟨rfl, ?_⟩
  intro s_327 e_328
  have hs_329 : xM z s_327 := by rw [e_328]; exact xI.wR hs_294 _ _ _
  have q_330 : gp_I s_327 1 2 = 0 := by rw [e_328]; exact q_295
  have q_331 : gp_I s_327 1 6 = 0 := by rw [e_328]; exact q_296
  have q_332 : gp_I s_327 1 7 = 1 := by rw [e_328]; exact q_297
  have q_333 : gp_I s_327 51 8 = 0 := by rw [e_328]; exact q_298
  have q_334 : gp_I s_327 57 1 = 0 := by rw [e_328]; exact q_299
  have q_335 : gp_I s_327 57 3 = 0 := by rw [e_328]; exact q_300
  have q_336 : gp_I s_327 6 4 = 0 := by rw [e_328]; exact q_301
  have q_337 : gp_R s_327 117 6 = none := by rw [e_328]; exact q_303
  have q_338 : gp_R s_327 117 7 = none := by rw [e_328]; exact q_304
  have q_339 : gp_R s_327 117 8 = none := by rw [e_328]; exact q_305
  have q_340 : gp_R s_327 117 9 = none := by rw [e_328]; exact q_306
  have q_341 : gp_R s_327 25 6 = none := by rw [e_328]; exact q_307
  have q_342 : gp_R s_327 25 7 = none := by rw [e_328]; exact q_308
  have q_343 : gp_R s_327 25 8 = none := by rw [e_328]; exact q_309
  have q_344 : gp_R s_327 25 9 = none := by rw [e_328]; exact q_310
  have q_345 : ∀ k, k < 8 → gp_R s_327 4 k = some 25 := by rw [e_328]; exact q_311
  have q_346 : gp_R s_327 51 6 = some 55 := by rw [e_328]; exact q_312
  have q_347 : gp_R s_327 51 7 = some 56 := by rw [e_328]; exact q_313
  have q_348 : gp_sh s_327 117 = (9, 10) := by rw [e_328]; exact q_314
  have q_349 : gp_us s_327 = 606965 := by rw [e_328]; exact q_315
  have q_350 : gp_sz s_327 = 123 := by rw [e_328]; exact q_316
  have q_351 : gp_I s_327 117 0 = 12 := by rw [e_328]; exact q_317
  have q_352 : gp_sh s_327 118 = (101, 12) := by rw [e_328]; exact q_318
  have q_353 : gp_R s_327 117 1 = some 118 := by rw [e_328]; exact q_319
  have q_354 : gp_sh s_327 119 = (101, 12) := by rw [e_328]; exact q_320
  have q_355 : gp_R s_327 117 2 = some 119 := by rw [e_328]; exact q_321
  have q_356 : gp_sh s_327 120 = (100, 12) := by rw [e_328]; exact q_322
  have q_357 : gp_R s_327 117 3 = some 120 := by rw [e_328]; exact q_323
  have q_358 : gp_sh s_327 121 = (100, 12) := by rw [e_328]; exact q_324
  have q_359 : gp_R s_327 117 4 = some 121 := by rw [e_328]; exact q_325
  have q_360 : gp_sh s_327 122 = (100, 12) := by rw [e_328]; exact q_326
  have q_361 : gp_R s_327 117 5 = some 122 := by rw [e_328]; rfl
  exact k s_327 hs_329 (by omega) (by omega) (by omega) (by omega) (by omega) (by omega) (by omega) (by omega) q_353 q_355 q_357 q_359 q_361 q_337 q_338 q_339 q_340 q_341 q_342 q_343 q_344 q_345 q_346 q_347 q_348 q_352 q_354 q_356 q_358 q_360 q_349 q_350
set_option maxRecDepth 100000 in
/-- Maker.pauses, the loop at 13 -/
theorem zx258_11_l13_0 {z : gH} {L d : Nat} {K : Option gV → gH → Prop}   (k : ∀ (t : gH), xM z t → (gp_I t 1 2 = 0) → (gp_I t 1 6 = 0) → (gp_I t 1 7 = 1) → (gp_I t 117 0 = 12) → (gp_I t 51 8 = 0) → (gp_I t 57 1 = 0) → (gp_I t 57 3 = 0) → (gp_I t 6 4 = 0) → (gp_R t 117 1 = some 118) → (gp_R t 117 2 = some 119) → (gp_R t 117 3 = some 120) → (gp_R t 117 4 = some 121) → (gp_R t 117 5 = some 122) → (gp_R t 117 6 = none) → (gp_R t 117 7 = none) → (gp_R t 117 8 = none) → (gp_R t 117 9 = none) → (gp_R t 25 6 = none) → (gp_R t 25 7 = none) → (gp_R t 25 8 = none) → (gp_R t 25 9 = none) → (∀ k, k < 8 → gp_R t 4 k = some 25) → (gp_R t 51 6 = some 55) → (gp_R t 51 7 = some 56) → (gp_sh t 117 = (9, 10)) → (gp_sh t 118 = (101, 12)) → (gp_sh t 119 = (101, 12)) → (gp_sh t 120 = (100, 12)) → (gp_sh t 121 = (100, 12)) → (gp_sh t 122 = (100, 12)) → (gp_us t = 606965) → (gp_sz t = 123) → K (some (gp_r (some 117))) t)  : ∀ (n : Nat) (v1 : Int) (v2 : Option Nat) (v3 : Int) (s : gH), xM z s → (61 - v3).toNat < n → (v1 = 11) → (v2 = some 117) → (1 ≤ v3 ∧ v3 ≤ 60) → (gp_I s 1 2 = 0) → (gp_I s 1 6 = 0) → (gp_I s 1 7 = 1) → (gp_I s 117 0 = 12) → (gp_I s 51 8 = 0) → (gp_I s 57 1 = 0) → (gp_I s 57 3 = 0) → (gp_I s 6 4 = 0) → (gp_R s 117 1 = some 118) → (gp_R s 117 2 = some 119) → (gp_R s 117 3 = some 120) → (gp_R s 117 4 = some 121) → (gp_R s 117 5 = some 122) → (gp_R s 117 6 = none) → (gp_R s 117 7 = none) → (gp_R s 117 8 = none) → (gp_R s 117 9 = none) → (gp_R s 25 6 = none) → (gp_R s 25 7 = none) → (gp_R s 25 8 = none) → (gp_R s 25 9 = none) → (∀ k, k < 8 → gp_R s 4 k = some 25) → (gp_R s 51 6 = some 55) → (gp_R s 51 7 = some 56) → (gp_sh s 117 = (9, 10)) → (gp_sh s 118 = (101, 12)) → (gp_sh s 119 = (101, 12)) → (gp_sh s 120 = (100, 12)) → (gp_sh s 121 = (100, 12)) → (gp_sh s 122 = (100, 12)) → (gp_us s = 606965) → (gp_sz s = 123) → gs_E L (d + 1) 258 13 [gp_r (some 20), gp_i v1, gp_r v2, gp_i v3] [] s K := by
  intro n
  induction n with
  | zero => intro v1 v2 v3 s hs hm i0 i1 i2 i3 i4 i5 i6 i7 i8 i9 i10 i11 i12 i13 i14 i15 i16 i17 i18 i19 i20 i21 i22 i23 i24 i25 i26 i27 i28 i29 i30 i31 i32 i33 i34; exact absurd hm (Nat.not_lt_zero _)
  | succ n ih =>
    intro v1 v2 v3 s hs hm i0 i1 i2 i3 i4 i5 i6 i7 i8 i9 i10 i11 i12 i13 i14 i15 i16 i17 i18 i19 i20 i21 i22 i23 i24 i25 i26 i27 i28 i29 i30 i31 i32 i33 i34
    subst i0
    subst i1
    refine s_258_13 _ _ _ ?_
    refine ⟨fun h_1 => ?_, fun h_1 => ?_⟩
    · exact k s hs (by omega) (by omega) (by omega) (by omega) (by omega) (by omega) (by omega) (by omega) i11 i12 i13 i14 i15 i16 i17 i18 i19 i20 i21 i22 i23 i24 i25 i26 i27 i28 i29 i30 i31 i32 i33 i34
    · refine ⟨117, rfl, ?_⟩
      refine ⟨(by show (gp_sh s 117).1 = 9; rw [i27]), ?_⟩
      try rw [show gp_R (gp_mk L s) 117 1 = some 118 from i11]
      have w_2 := gz_w (v3 - 1)
      refine ⟨118, rfl, ?_⟩
      refine ⟨⟨by show (gp_sh s 118).1 = 101; rw [i28], by omega, by show v3 < ((gp_sh s 118).2 : Int); rw [i28]; show v3 < 12; omega⟩, ?_⟩
      intro s_3 e_4
      have hs_5 : xM z s_3 := by rw [e_4]; exact xI.wLd hs _ _ _ (by omega)
      have q_6 : gp_I s_3 1 2 = 0 := by rw [e_4]; exact i3
      have q_7 : gp_I s_3 1 6 = 0 := by rw [e_4]; exact i4
      have q_8 : gp_I s_3 1 7 = 1 := by rw [e_4]; exact i5
      have q_9 : gp_I s_3 117 0 = 12 := by rw [e_4]; exact i6
      have q_10 : gp_I s_3 51 8 = 0 := by rw [e_4]; exact i7
      have q_11 : gp_I s_3 57 1 = 0 := by rw [e_4]; exact i8
      have q_12 : gp_I s_3 57 3 = 0 := by rw [e_4]; exact i9
      have q_13 : gp_I s_3 6 4 = 0 := by rw [e_4]; exact i10
      have q_14 : gp_R s_3 117 1 = some 118 := by rw [e_4]; exact i11
      have q_15 : gp_R s_3 117 2 = some 119 := by rw [e_4]; exact i12
      have q_16 : gp_R s_3 117 3 = some 120 := by rw [e_4]; exact i13
      have q_17 : gp_R s_3 117 4 = some 121 := by rw [e_4]; exact i14
      have q_18 : gp_R s_3 117 5 = some 122 := by rw [e_4]; exact i15
      have q_19 : gp_R s_3 117 6 = none := by rw [e_4]; exact i16
      have q_20 : gp_R s_3 117 7 = none := by rw [e_4]; exact i17
      have q_21 : gp_R s_3 117 8 = none := by rw [e_4]; exact i18
      have q_22 : gp_R s_3 117 9 = none := by rw [e_4]; exact i19
      have q_23 : gp_R s_3 25 6 = none := by rw [e_4]; exact i20
      have q_24 : gp_R s_3 25 7 = none := by rw [e_4]; exact i21
      have q_25 : gp_R s_3 25 8 = none := by rw [e_4]; exact i22
      have q_26 : gp_R s_3 25 9 = none := by rw [e_4]; exact i23
      have q_27 : ∀ k, k < 8 → gp_R s_3 4 k = some 25 := by rw [e_4]; exact i24
      have q_28 : gp_R s_3 51 6 = some 55 := by rw [e_4]; exact i25
      have q_29 : gp_R s_3 51 7 = some 56 := by rw [e_4]; exact i26
      have q_30 : gp_sh s_3 117 = (9, 10) := by rw [e_4]; exact i27
      have q_31 : gp_sh s_3 118 = (101, 12) := by rw [e_4]; exact i28
      have q_32 : gp_sh s_3 119 = (101, 12) := by rw [e_4]; exact i29
      have q_33 : gp_sh s_3 120 = (100, 12) := by rw [e_4]; exact i30
      have q_34 : gp_sh s_3 121 = (100, 12) := by rw [e_4]; exact i31
      have q_35 : gp_sh s_3 122 = (100, 12) := by rw [e_4]; exact i32
      have q_36 : gp_us s_3 = 606965 := by rw [e_4]; exact i33
      have q_37 : gp_sz s_3 = 123 := by rw [e_4]; exact i34
      refine ⟨(by show (gp_sh s_3 117).1 = 9; rw [q_30]), ?_⟩
      try rw [show gp_R (gp_mk L s_3) 117 5 = some 122 from q_18]
      refine ⟨122, rfl, ?_⟩
      refine ⟨⟨by show (gp_sh s_3 122).1 = 100; rw [q_35], by omega, by show v3 < ((gp_sh s_3 122).2 : Int); rw [q_35]; show v3 < 12; omega⟩, ?_⟩
      intro s_38 e_39
      have hs_40 : xM z s_38 := by rw [e_39]; exact xI.wId hs_5 _ _ _ (by omega)
      have q_41 : gp_I s_38 1 2 = 0 := by rw [e_39]; exact q_6
      have q_42 : gp_I s_38 1 6 = 0 := by rw [e_39]; exact q_7
      have q_43 : gp_I s_38 1 7 = 1 := by rw [e_39]; exact q_8
      have q_44 : gp_I s_38 117 0 = 12 := by rw [e_39]; exact q_9
      have q_45 : gp_I s_38 51 8 = 0 := by rw [e_39]; exact q_10
      have q_46 : gp_I s_38 57 1 = 0 := by rw [e_39]; exact q_11
      have q_47 : gp_I s_38 57 3 = 0 := by rw [e_39]; exact q_12
      have q_48 : gp_I s_38 6 4 = 0 := by rw [e_39]; exact q_13
      have q_49 : gp_R s_38 117 1 = some 118 := by rw [e_39]; exact q_14
      have q_50 : gp_R s_38 117 2 = some 119 := by rw [e_39]; exact q_15
      have q_51 : gp_R s_38 117 3 = some 120 := by rw [e_39]; exact q_16
      have q_52 : gp_R s_38 117 4 = some 121 := by rw [e_39]; exact q_17
      have q_53 : gp_R s_38 117 5 = some 122 := by rw [e_39]; exact q_18
      have q_54 : gp_R s_38 117 6 = none := by rw [e_39]; exact q_19
      have q_55 : gp_R s_38 117 7 = none := by rw [e_39]; exact q_20
      have q_56 : gp_R s_38 117 8 = none := by rw [e_39]; exact q_21
      have q_57 : gp_R s_38 117 9 = none := by rw [e_39]; exact q_22
      have q_58 : gp_R s_38 25 6 = none := by rw [e_39]; exact q_23
      have q_59 : gp_R s_38 25 7 = none := by rw [e_39]; exact q_24
      have q_60 : gp_R s_38 25 8 = none := by rw [e_39]; exact q_25
      have q_61 : gp_R s_38 25 9 = none := by rw [e_39]; exact q_26
      have q_62 : ∀ k, k < 8 → gp_R s_38 4 k = some 25 := by rw [e_39]; exact q_27
      have q_63 : gp_R s_38 51 6 = some 55 := by rw [e_39]; exact q_28
      have q_64 : gp_R s_38 51 7 = some 56 := by rw [e_39]; exact q_29
      have q_65 : gp_sh s_38 117 = (9, 10) := by rw [e_39]; exact q_30
      have q_66 : gp_sh s_38 118 = (101, 12) := by rw [e_39]; exact q_31
      have q_67 : gp_sh s_38 119 = (101, 12) := by rw [e_39]; exact q_32
      have q_68 : gp_sh s_38 120 = (100, 12) := by rw [e_39]; exact q_33
      have q_69 : gp_sh s_38 121 = (100, 12) := by rw [e_39]; exact q_34
      have q_70 : gp_sh s_38 122 = (100, 12) := by rw [e_39]; exact q_35
      have q_71 : gp_us s_38 = 606965 := by rw [e_39]; exact q_36
      have q_72 : gp_sz s_38 = 123 := by rw [e_39]; exact q_37
      have w_73 := gz_w (v3 + 1)
      exact ih _ _ _ s_38 hs_40 (by omega) (by omega) rfl (by omega) (by omega) (by omega) (by omega) (by omega) (by omega) (by omega) (by omega) (by omega) q_49 q_50 q_51 q_52 q_53 q_54 q_55 q_56 q_57 q_58 q_59 q_60 q_61 q_62 q_63 q_64 q_65 q_66 q_67 q_68 q_69 q_70 q_71 q_72
set_option maxRecDepth 100000 in
/-- Maker.pauses [(11, 11)] -/
theorem zx258_11 {z : gH} {L d : Nat} {K : Option gV → gH → Prop} {s : gH}  (hs : xM z s)  (q0 : gp_I s 1 2 = 0) (q1 : gp_I s 1 6 = 0) (q2 : gp_I s 1 7 = 1) (q3 : gp_I s 51 8 = 0) (q4 : gp_I s 57 1 = 0) (q5 : gp_I s 57 3 = 0) (q6 : gp_I s 6 4 = 0) (q7 : gp_R s 25 6 = none) (q8 : gp_R s 25 7 = none) (q9 : gp_R s 25 8 = none) (q10 : gp_R s 25 9 = none) (q11 : ∀ k, k < 8 → gp_R s 4 k = some 25) (q12 : gp_R s 51 6 = some 55) (q13 : gp_R s 51 7 = some 56) (q14 : gp_us s = 606895) (q15 : gp_sz s = 117) (k : ∀ (t : gH), xM z t → (gp_I t 1 2 = 0) → (gp_I t 1 6 = 0) → (gp_I t 1 7 = 1) → (gp_I t 117 0 = 12) → (gp_I t 51 8 = 0) → (gp_I t 57 1 = 0) → (gp_I t 57 3 = 0) → (gp_I t 6 4 = 0) → (gp_R t 117 1 = some 118) → (gp_R t 117 2 = some 119) → (gp_R t 117 3 = some 120) → (gp_R t 117 4 = some 121) → (gp_R t 117 5 = some 122) → (gp_R t 117 6 = none) → (gp_R t 117 7 = none) → (gp_R t 117 8 = none) → (gp_R t 117 9 = none) → (gp_R t 25 6 = none) → (gp_R t 25 7 = none) → (gp_R t 25 8 = none) → (gp_R t 25 9 = none) → (∀ k, k < 8 → gp_R t 4 k = some 25) → (gp_R t 51 6 = some 55) → (gp_R t 51 7 = some 56) → (gp_sh t 117 = (9, 10)) → (gp_sh t 118 = (101, 12)) → (gp_sh t 119 = (101, 12)) → (gp_sh t 120 = (100, 12)) → (gp_sh t 121 = (100, 12)) → (gp_sh t 122 = (100, 12)) → (gp_us t = 606965) → (gp_sz t = 123) → K (some (gp_r (some 117))) t) : gs_C L (d + 1) 258 4 [gp_r (some 20), gp_i 11] s K := by
  refine s_258_e _ ?_
  refine ⟨by omega, ?_⟩
  try rw [show gp_sz s = 117 from q15]
  intro s_1 e_2
  have hs_3 : xM z s_1 := by rw [e_2]; exact xI.new hs (by omega)
  have q_4 : gp_I s_1 1 2 = 0 := by rw [e_2, gz_nI q15 (by decide)]; exact q0
  have q_5 : gp_I s_1 1 6 = 0 := by rw [e_2, gz_nI q15 (by decide)]; exact q1
  have q_6 : gp_I s_1 1 7 = 1 := by rw [e_2, gz_nI q15 (by decide)]; exact q2
  have q_7 : gp_I s_1 51 8 = 0 := by rw [e_2, gz_nI q15 (by decide)]; exact q3
  have q_8 : gp_I s_1 57 1 = 0 := by rw [e_2, gz_nI q15 (by decide)]; exact q4
  have q_9 : gp_I s_1 57 3 = 0 := by rw [e_2, gz_nI q15 (by decide)]; exact q5
  have q_10 : gp_I s_1 6 4 = 0 := by rw [e_2, gz_nI q15 (by decide)]; exact q6
  have q_11 : gp_R s_1 25 6 = none := by rw [e_2, gz_nR q15 (by decide)]; exact q7
  have q_12 : gp_R s_1 25 7 = none := by rw [e_2, gz_nR q15 (by decide)]; exact q8
  have q_13 : gp_R s_1 25 8 = none := by rw [e_2, gz_nR q15 (by decide)]; exact q9
  have q_14 : gp_R s_1 25 9 = none := by rw [e_2, gz_nR q15 (by decide)]; exact q10
  have q_15 : ∀ k, k < 8 → gp_R s_1 4 k = some 25 := fun k hk => by rw [e_2, gz_nR q15 (by decide)]; exact q11 k hk
  have q_16 : gp_R s_1 51 6 = some 55 := by rw [e_2, gz_nR q15 (by decide)]; exact q12
  have q_17 : gp_R s_1 51 7 = some 56 := by rw [e_2, gz_nR q15 (by decide)]; exact q13
  have q_18 : gp_us s_1 = 606905 := by rw [e_2]; show gp_us s + 10 = 606905; rw [q14]; try rfl
  have q_19 : gp_sz s_1 = 118 := by rw [e_2]; exact congrArg Nat.succ q15
  have q_20 : gp_sh s_1 117 = (9, 10) := by rw [e_2]; exact gz_nSs q15
  have q_21 : gp_I s_1 117 0 = 0 := by rw [e_2]; exact gz_nIs q15
  have q_22 : gp_R s_1 117 1 = none := by rw [e_2]; exact gz_nRs q15
  have q_23 : gp_R s_1 117 2 = none := by rw [e_2]; exact gz_nRs q15
  have q_24 : gp_R s_1 117 3 = none := by rw [e_2]; exact gz_nRs q15
  have q_25 : gp_R s_1 117 4 = none := by rw [e_2]; exact gz_nRs q15
  have q_26 : gp_R s_1 117 5 = none := by rw [e_2]; exact gz_nRs q15
  have q_27 : gp_R s_1 117 6 = none := by rw [e_2]; exact gz_nRs q15
  have q_28 : gp_R s_1 117 7 = none := by rw [e_2]; exact gz_nRs q15
  have q_29 : gp_R s_1 117 8 = none := by rw [e_2]; exact gz_nRs q15
  have q_30 : gp_R s_1 117 9 = none := by rw [e_2]; exact gz_nRs q15
  have w_31 := gz_w (11 + 1)
  have e_32 : gp_wr (11 + 1) = 12 := by omega
  try rw [e_32]
  refine zx2304_11 hs_3 (by omega) (by omega) (by omega) (by omega) (by omega) (by omega) (by omega) (by omega) q_22 q_23 q_24 q_25 q_26 q_27 q_28 q_29 q_30 q_11 q_12 q_13 q_14 q_15 q_16 q_17 q_20 q_18 q_19 (fun s_33 hs_34 q_35 q_36 q_37 q_38 q_39 q_40 q_41 q_42 q_43 q_44 q_45 q_46 q_47 q_48 q_49 q_50 q_51 q_52 q_53 q_54 q_55 q_56 q_57 q_58 q_59 q_60 q_61 q_62 q_63 q_64 q_65 q_66 => ⟨rfl, ?_⟩)
  exact zx258_11_l13_0 k _ _ _ _ s_33 hs_34 (Nat.lt_succ_self _) (by omega) rfl (by omega) (by omega) (by omega) (by omega) (by omega) (by omega) (by omega) (by omega) (by omega) q_43 q_44 q_45 q_46 q_47 q_48 q_49 q_50 q_51 q_52 q_53 q_54 q_55 q_56 q_57 q_58 q_59 q_60 q_61 q_62 q_63 q_64 q_65 q_66
set_option maxRecDepth 100000 in
/-- GatheredPoints.hold [(0, 7), 117] -/
theorem zx2854_11 {z : gH} {L d : Nat} {K : Option gV → gH → Prop} {s : gH} (p0 : Int) (hs : xM z s) (h_p0 : 0 ≤ p0 ∧ p0 ≤ 7) (q0 : gp_I s 1 2 = 0) (q1 : gp_I s 1 6 = 0) (q2 : gp_I s 1 7 = 1) (q3 : gp_I s 117 0 = 12) (q4 : gp_I s 51 8 = 0) (q5 : gp_I s 57 1 = 0) (q6 : gp_I s 57 3 = 0) (q7 : gp_I s 6 4 = 0) (q8 : gp_R s 117 1 = some 118) (q9 : gp_R s 117 2 = some 119) (q10 : gp_R s 117 3 = some 120) (q11 : gp_R s 117 4 = some 121) (q12 : gp_R s 117 5 = some 122) (q13 : gp_R s 117 6 = none) (q14 : gp_R s 117 7 = none) (q15 : gp_R s 117 8 = none) (q16 : gp_R s 117 9 = none) (q17 : gp_R s 25 6 = none) (q18 : gp_R s 25 7 = none) (q19 : gp_R s 25 8 = none) (q20 : gp_R s 25 9 = none) (q21 : ∀ k, k < 8 → gp_R s 4 k = some 25) (q22 : gp_R s 51 6 = some 55) (q23 : gp_R s 51 7 = some 56) (q24 : gp_sh s 117 = (9, 10)) (q25 : gp_sh s 118 = (101, 12)) (q26 : gp_sh s 119 = (101, 12)) (q27 : gp_sh s 120 = (100, 12)) (q28 : gp_sh s 121 = (100, 12)) (q29 : gp_sh s 122 = (100, 12)) (q30 : gp_us s = 606965) (q31 : gp_sz s = 123) (k : ∀ (t : gH), xM z t → (gp_I t 1 2 = 0) → (gp_I t 1 6 = 0) → (gp_I t 1 7 = 1) → (gp_I t 117 0 = 12) → (gp_I t 51 8 = 0) → (gp_I t 57 1 = 0) → (gp_I t 57 3 = 0) → (gp_I t 6 4 = 0) → (gp_R t 117 1 = some 118) → (gp_R t 117 2 = some 119) → (gp_R t 117 3 = some 120) → (gp_R t 117 4 = some 121) → (gp_R t 117 5 = some 122) → (gp_R t 117 6 = none) → (gp_R t 117 7 = none) → (gp_R t 117 8 = none) → (gp_R t 117 9 = none) → (gp_R t 25 6 = none) → (gp_R t 25 7 = none) → (gp_R t 25 8 = none) → (gp_R t 25 9 = none) → (gp_R t 51 6 = some 55) → (gp_R t 51 7 = some 56) → (gp_sh t 117 = (9, 10)) → (gp_sh t 118 = (101, 12)) → (gp_sh t 119 = (101, 12)) → (gp_sh t 120 = (100, 12)) → (gp_sh t 121 = (100, 12)) → (gp_sh t 122 = (100, 12)) → (gp_us t = 606965) → (gp_sz t = 123) → K (some (gp_i 12)) t) : gs_C L d 2854 3 [gp_r (some 1), gp_i p0, gp_r (some 117)] s K := by
  refine s_2854_e _ _ ?_
  refine ⟨117, rfl, ?_⟩
  refine ⟨by omega, ?_⟩
  refine ⟨(by show (gp_sh s 117).1 = 9; rw [q24]), ?_⟩
  intro s_1 e_2
  have hs_3 : xM z s_1 := by rw [e_2]; exact xI.wR hs _ _ _
  have q_4 : gp_I s_1 1 2 = 0 := by rw [e_2]; exact q0
  have q_5 : gp_I s_1 1 6 = 0 := by rw [e_2]; exact q1
  have q_6 : gp_I s_1 1 7 = 1 := by rw [e_2]; exact q2
  have q_7 : gp_I s_1 117 0 = 12 := by rw [e_2]; exact q3
  have q_8 : gp_I s_1 51 8 = 0 := by rw [e_2]; exact q4
  have q_9 : gp_I s_1 57 1 = 0 := by rw [e_2]; exact q5
  have q_10 : gp_I s_1 57 3 = 0 := by rw [e_2]; exact q6
  have q_11 : gp_I s_1 6 4 = 0 := by rw [e_2]; exact q7
  have q_12 : gp_R s_1 117 1 = some 118 := by rw [e_2]; exact q8
  have q_13 : gp_R s_1 117 2 = some 119 := by rw [e_2]; exact q9
  have q_14 : gp_R s_1 117 3 = some 120 := by rw [e_2]; exact q10
  have q_15 : gp_R s_1 117 4 = some 121 := by rw [e_2]; exact q11
  have q_16 : gp_R s_1 117 5 = some 122 := by rw [e_2]; exact q12
  have q_17 : gp_R s_1 117 6 = none := by rw [e_2]; exact q13
  have q_18 : gp_R s_1 117 7 = none := by rw [e_2]; exact q14
  have q_19 : gp_R s_1 117 8 = none := by rw [e_2]; exact q15
  have q_20 : gp_R s_1 117 9 = none := by rw [e_2]; exact q16
  have q_21 : gp_R s_1 25 6 = none := by rw [e_2]; exact q17
  have q_22 : gp_R s_1 25 7 = none := by rw [e_2]; exact q18
  have q_23 : gp_R s_1 25 8 = none := by rw [e_2]; exact q19
  have q_24 : gp_R s_1 25 9 = none := by rw [e_2]; exact q20
  have q_25 : gp_R s_1 51 6 = some 55 := by rw [e_2]; exact q22
  have q_26 : gp_R s_1 51 7 = some 56 := by rw [e_2]; exact q23
  have q_27 : gp_sh s_1 117 = (9, 10) := by rw [e_2]; exact q24
  have q_28 : gp_sh s_1 118 = (101, 12) := by rw [e_2]; exact q25
  have q_29 : gp_sh s_1 119 = (101, 12) := by rw [e_2]; exact q26
  have q_30 : gp_sh s_1 120 = (100, 12) := by rw [e_2]; exact q27
  have q_31 : gp_sh s_1 121 = (100, 12) := by rw [e_2]; exact q28
  have q_32 : gp_sh s_1 122 = (100, 12) := by rw [e_2]; exact q29
  have q_33 : gp_us s_1 = 606965 := by rw [e_2]; exact q30
  have q_34 : gp_sz s_1 = 123 := by rw [e_2]; exact q31
  refine ⟨(by show (gp_sh s_1 117).1 = 9; rw [q_27]), ?_⟩
  try rw [show gp_I s_1 117 0 = 12 from q_7]
  exact k s_1 hs_3 (by omega) (by omega) (by omega) (by omega) (by omega) (by omega) (by omega) (by omega) q_12 q_13 q_14 q_15 q_16 q_17 q_18 q_19 q_20 q_21 q_22 q_23 q_24 q_25 q_26 q_27 q_28 q_29 q_30 q_31 q_32 q_33 q_34
set_option maxRecDepth 100000 in
/-- GatheredPoints.waits [(0, 7), (11, 11)] -/
theorem zx2821_15 {z : gH} {L d : Nat} {K : Option gV → gH → Prop} {s : gH} (p0 : Int) (hs : xM z s) (h_p0 : 0 ≤ p0 ∧ p0 ≤ 7) (q0 : gp_I s 1 2 = 0) (q1 : gp_I s 1 6 = 0) (q2 : gp_I s 1 7 = 1) (q3 : gp_I s 51 8 = 0) (q4 : gp_I s 57 1 = 0) (q5 : gp_I s 57 3 = 0) (q6 : gp_I s 6 4 = 0) (q7 : gp_R s 25 6 = none) (q8 : gp_R s 25 7 = none) (q9 : gp_R s 25 8 = none) (q10 : gp_R s 25 9 = none) (q11 : ∀ k, k < 8 → gp_R s 4 k = some 25) (q12 : gp_R s 51 6 = some 55) (q13 : gp_R s 51 7 = some 56) (q14 : gp_us s = 606895) (q15 : gp_sz s = 117) (k : ∀ (t : gH), xM z t → (gp_I t 1 2 = 0) → (gp_I t 1 6 = 0) → (gp_I t 1 7 = 1) → (gp_I t 117 0 = 12) → (gp_I t 51 8 = 0) → (gp_I t 57 1 = 0) → (gp_I t 57 3 = 0) → (gp_I t 6 4 = 0) → (gp_R t 117 1 = some 118) → (gp_R t 117 2 = some 119) → (gp_R t 117 3 = some 120) → (gp_R t 117 4 = some 121) → (gp_R t 117 5 = some 122) → (gp_R t 117 6 = none) → (gp_R t 117 7 = none) → (gp_R t 117 8 = none) → (gp_R t 117 9 = none) → (gp_R t 25 6 = none) → (gp_R t 25 7 = none) → (gp_R t 25 8 = none) → (gp_R t 25 9 = none) → (gp_R t 51 6 = some 55) → (gp_R t 51 7 = some 56) → (gp_sh t 117 = (9, 10)) → (gp_sh t 118 = (101, 12)) → (gp_sh t 119 = (101, 12)) → (gp_sh t 120 = (100, 12)) → (gp_sh t 121 = (100, 12)) → (gp_sh t 122 = (100, 12)) → (gp_us t = 606965) → (gp_sz t = 123) → K (some (gp_i 12)) t) : gs_C L (d + 2) 2821 3 [gp_r (some 1), gp_i p0, gp_i 11] s K := by
  refine s_2821_e _ _ ?_
  refine zx2856_2 _ hs (by omega) (by omega) (by omega) (by omega) (by omega) (by omega) (by omega) q7 q8 q9 q10 q11 q12 q13 (⟨_, rfl, ?_⟩)
  refine ⟨fun h_1 => ?_, fun h_1 => ?_⟩
  · refine ⟨fun h_2 => ?_, fun h_2 => ?_⟩
    · exfalso; omega
    · refine ⟨fun h_3 => ?_, fun h_3 => ?_⟩
      · exfalso; omega
      · refine zx258_11 hs (by omega) (by omega) (by omega) (by omega) (by omega) (by omega) (by omega) q7 q8 q9 q10 q11 q12 q13 q14 q15 (fun s_5 hs_6 q_7 q_8 q_9 q_10 q_11 q_12 q_13 q_14 q_15 q_16 q_17 q_18 q_19 q_20 q_21 q_22 q_23 q_24 q_25 q_26 q_27 q_28 q_29 q_30 q_31 q_32 q_33 q_34 q_35 q_36 q_37 q_38 => ⟨_, rfl, ?_⟩)
        refine zx2854_11 _ hs_6 (by omega) (by omega) (by omega) (by omega) (by omega) (by omega) (by omega) (by omega) (by omega) q_15 q_16 q_17 q_18 q_19 q_20 q_21 q_22 q_23 q_24 q_25 q_26 q_27 q_28 q_29 q_30 q_31 q_32 q_33 q_34 q_35 q_36 q_37 q_38 (fun s_39 hs_40 q_41 q_42 q_43 q_44 q_45 q_46 q_47 q_48 q_49 q_50 q_51 q_52 q_53 q_54 q_55 q_56 q_57 q_58 q_59 q_60 q_61 q_62 q_63 q_64 q_65 q_66 q_67 q_68 q_69 q_70 q_71 => ⟨_, rfl, ?_⟩)
        exact k s_39 hs_40 (by omega) (by omega) (by omega) (by omega) (by omega) (by omega) (by omega) (by omega) q_49 q_50 q_51 q_52 q_53 q_54 q_55 q_56 q_57 q_58 q_59 q_60 q_61 q_62 q_63 q_64 q_65 q_66 q_67 q_68 q_69 q_70 q_71
  · exfalso; omega
