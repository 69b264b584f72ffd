set_option maxRecDepth 100000 in
/-- Match.start [(1, 255), (1, 1), 4] -/
theorem zx513_1 {z : gH} {L d : Nat} {K : Option gV → gH → Prop} {s : gH} (p0 : Int) (hs : xM z s) (h_p0 : 1 ≤ p0 ∧ p0 ≤ 255) (q0 : gp_I s 1 2 = 0) (q1 : gp_I s 1 6 = 0) (q2 : gp_I s 1 7 = 1) (q3 : gp_I s 51 8 = 0) (q4 : gp_I s 57 1 = 0) (q5 : gp_I s 57 3 = 0) (q6 : gp_I s 60 8 = 0) (q7 : gp_R s 25 6 = none) (q8 : gp_R s 25 7 = none) (q9 : gp_R s 25 8 = none) (q10 : gp_R s 25 9 = none) (q11 : ∀ k, k < 8 → gp_R s 4 k = some 25) (q12 : gp_R s 51 6 = some 55) (q13 : gp_R s 51 7 = some 56) (q14 : ∀ k, k < 3 → gp_R s 52 k = some 25) (q15 : gp_R s 60 6 = some 64) (q16 : gp_R s 60 7 = some 65) (q17 : ∀ k, k < 3 → gp_R s 61 k = some 25) (q18 : gp_us s = 606895) (q19 : gp_sz s = 117) (k : ∀ (t : gH), xM z t → (gp_I t 1 2 = 0) → (gp_I t 1 6 = 0) → (gp_I t 1 7 = 1) → (gp_I t 51 8 = 0) → (gp_I t 57 1 = 1) → (gp_I t 57 3 = 0) → (0 ≤ gp_I t 60 4 ∧ gp_I t 60 4 ≤ 3) → (gp_I t 60 8 = 0) → (gp_R t 25 6 = none) → (gp_R t 25 7 = none) → (gp_R t 25 8 = none) → (gp_R t 25 9 = none) → (∀ k, k < 8 → gp_R t 4 k = some 25) → (gp_R t 51 6 = some 55) → (gp_R t 51 7 = some 56) → (∀ k, k < 3 → gp_R t 52 k = some 25) → (gp_R t 60 6 = some 64) → (gp_R t 60 7 = some 65) → (∀ k, k < 3 → gp_R t 61 k = some 25) → (gp_us t = 606895) → (gp_sz t = 117) → K none t) : gs_C L (d + 3) 513 4 [gp_r (some 57), gp_i p0, gp_i 1, gp_r (some 4)] s K := by
  refine s_513_e _ _ _ ?_
  refine zx2049_1 _ hs (by omega) (by omega) (by omega) (by omega) (by omega) (by omega) (by omega) (by omega) q7 q8 q9 q10 q11 q12 q13 q14 q15 q16 q17 q18 q19 (fun s_1 hs_2 q_3 q_4 q_5 q_6 q_7 q_8 q_9 q_10 q_11 q_12 q_13 q_14 q_15 q_16 q_17 q_18 q_19 q_20 q_21 q_22 q_23 => ⟨rfl, ?_⟩)
  intro s_24 e_25
  have hs_26 : xM z s_24 := by rw [e_25]; exact xw57_1 hs_2 0 _
  have q_27 : gp_I s_24 1 2 = 0 := by rw [e_25]; exact q_3
  have q_28 : gp_I s_24 1 6 = 0 := by rw [e_25]; exact q_4
  have q_29 : gp_I s_24 1 7 = 1 := by rw [e_25]; exact q_5
  have q_30 : gp_I s_24 51 8 = 0 := by rw [e_25]; exact q_6
  have q_31 : gp_I s_24 57 3 = 0 := by rw [e_25]; exact q_8
  have q_32 : 0 ≤ gp_I s_24 60 4 ∧ gp_I s_24 60 4 ≤ 3 := by rw [e_25]; exact q_9
  have q_33 : gp_I s_24 60 8 = 0 := by rw [e_25]; exact q_10
  have q_34 : gp_R s_24 25 6 = none := by rw [e_25]; exact q_11
  have q_35 : gp_R s_24 25 7 = none := by rw [e_25]; exact q_12
  have q_36 : gp_R s_24 25 8 = none := by rw [e_25]; exact q_13
  have q_37 : gp_R s_24 25 9 = none := by rw [e_25]; exact q_14
  have q_38 : ∀ k, k < 8 → gp_R s_24 4 k = some 25 := by rw [e_25]; exact q_15
  have q_39 : gp_R s_24 51 6 = some 55 := by rw [e_25]; exact q_16
  have q_40 : gp_R s_24 51 7 = some 56 := by rw [e_25]; exact q_17
  have q_41 : ∀ k, k < 3 → gp_R s_24 52 k = some 25 := by rw [e_25]; exact q_18
  have q_42 : gp_R s_24 60 6 = some 64 := by rw [e_25]; exact q_19
  have q_43 : gp_R s_24 60 7 = some 65 := by rw [e_25]; exact q_20
  have q_44 : ∀ k, k < 3 → gp_R s_24 61 k = some 25 := by rw [e_25]; exact q_21
  have q_45 : gp_us s_24 = 606895 := by rw [e_25]; exact q_22
  have q_46 : gp_sz s_24 = 117 := by rw [e_25]; exact q_23
  have q_47 : gp_I s_24 57 1 = 1 := by rw [e_25]; rfl
  intro s_49 e_50
  have hs_51 : xM z s_49 := by rw [e_50]; exact xw57_2 hs_26 0 _ (by omega)
  have q_52 : gp_I s_49 1 2 = 0 := by rw [e_50]; exact q_27
  have q_53 : gp_I s_49 1 6 = 0 := by rw [e_50]; exact q_28
  have q_54 : gp_I s_49 1 7 = 1 := by rw [e_50]; exact q_29
  have q_55 : gp_I s_49 51 8 = 0 := by rw [e_50]; exact q_30
  have q_56 : gp_I s_49 57 3 = 0 := by rw [e_50]; exact q_31
  have q_57 : 0 ≤ gp_I s_49 60 4 ∧ gp_I s_49 60 4 ≤ 3 := by rw [e_50]; exact q_32
  have q_58 : gp_I s_49 60 8 = 0 := by rw [e_50]; exact q_33
  have q_59 : gp_R s_49 25 6 = none := by rw [e_50]; exact q_34
  have q_60 : gp_R s_49 25 7 = none := by rw [e_50]; exact q_35
  have q_61 : gp_R s_49 25 8 = none := by rw [e_50]; exact q_36
  have q_62 : gp_R s_49 25 9 = none := by rw [e_50]; exact q_37
  have q_63 : ∀ k, k < 8 → gp_R s_49 4 k = some 25 := by rw [e_50]; exact q_38
  have q_64 : gp_R s_49 51 6 = some 55 := by rw [e_50]; exact q_39
  have q_65 : gp_R s_49 51 7 = some 56 := by rw [e_50]; exact q_40
  have q_66 : ∀ k, k < 3 → gp_R s_49 52 k = some 25 := by rw [e_50]; exact q_41
  have q_67 : gp_R s_49 60 6 = some 64 := by rw [e_50]; exact q_42
  have q_68 : gp_R s_49 60 7 = some 65 := by rw [e_50]; exact q_43
  have q_69 : ∀ k, k < 3 → gp_R s_49 61 k = some 25 := by rw [e_50]; exact q_44
  have q_70 : gp_us s_49 = 606895 := by rw [e_50]; exact q_45
  have q_71 : gp_sz s_49 = 117 := by rw [e_50]; exact q_46
  have q_72 : gp_I s_49 57 1 = 1 := by rw [e_50]; exact q_47
  intro s_73 e_74
  have hs_75 : xM z s_73 := by rw [e_74]; exact xw57_3 hs_51 0 _
  have q_76 : gp_I s_73 1 2 = 0 := by rw [e_74]; exact q_52
  have q_77 : gp_I s_73 1 6 = 0 := by rw [e_74]; exact q_53
  have q_78 : gp_I s_73 1 7 = 1 := by rw [e_74]; exact q_54
  have q_79 : gp_I s_73 51 8 = 0 := by rw [e_74]; exact q_55
  have q_80 : 0 ≤ gp_I s_73 60 4 ∧ gp_I s_73 60 4 ≤ 3 := by rw [e_74]; exact q_57
  have q_81 : gp_I s_73 60 8 = 0 := by rw [e_74]; exact q_58
  have q_82 : gp_R s_73 25 6 = none := by rw [e_74]; exact q_59
  have q_83 : gp_R s_73 25 7 = none := by rw [e_74]; exact q_60
  have q_84 : gp_R s_73 25 8 = none := by rw [e_74]; exact q_61
  have q_85 : gp_R s_73 25 9 = none := by rw [e_74]; exact q_62
  have q_86 : ∀ k, k < 8 → gp_R s_73 4 k = some 25 := by rw [e_74]; exact q_63
  have q_87 : gp_R s_73 51 6 = some 55 := by rw [e_74]; exact q_64
  have q_88 : gp_R s_73 51 7 = some 56 := by rw [e_74]; exact q_65
  have q_89 : ∀ k, k < 3 → gp_R s_73 52 k = some 25 := by rw [e_74]; exact q_66
  have q_90 : gp_R s_73 60 6 = some 64 := by rw [e_74]; exact q_67
  have q_91 : gp_R s_73 60 7 = some 65 := by rw [e_74]; exact q_68
  have q_92 : ∀ k, k < 3 → gp_R s_73 61 k = some 25 := by rw [e_74]; exact q_69
  have q_93 : gp_us s_73 = 606895 := by rw [e_74]; exact q_70
  have q_94 : gp_sz s_73 = 117 := by rw [e_74]; exact q_71
  have q_95 : gp_I s_73 57 1 = 1 := by rw [e_74]; exact q_72
  have q_96 : gp_I s_73 57 3 = 0 := by rw [e_74]; rfl
  exact k s_73 hs_75 (by omega) (by omega) (by omega) (by omega) (by omega) (by omega) (by omega) (by omega) q_82 q_83 q_84 q_85 q_86 q_87 q_88 q_89 q_90 q_91 q_92 q_93 q_94
set_option maxRecDepth 100000 in
/-- GatheredPoints.begin [(1, 255, 'S3'), (1, 1)] -/
theorem zx2834_6 {z : gH} {L d : Nat} {K : Option gV → gH → Prop} {s : gH} (p0 : Int) (hs : xM z s) (h_p0 : 1 ≤ p0 ∧ p0 ≤ 255) (g_p0 : gm_cnt (BitVec.ofInt 64 p0) 64 ≤ 3) (q0 : gp_I s 1 2 = 0) (q1 : gp_I s 1 6 = 0) (q2 : gp_I s 1 7 = 1) (q3 : gp_I s 51 8 = 0) (q4 : gp_I s 57 1 = 0) (q5 : gp_I s 57 3 = 0) (q6 : gp_I s 60 8 = 0) (q7 : gp_R s 25 6 = none) (q8 : gp_R s 25 7 = none) (q9 : gp_R s 25 8 = none) (q10 : gp_R s 25 9 = none) (q11 : ∀ k, k < 8 → gp_R s 4 k = some 25) (q12 : gp_R s 51 6 = some 55) (q13 : gp_R s 51 7 = some 56) (q14 : ∀ k, k < 3 → gp_R s 52 k = some 25) (q15 : gp_R s 60 6 = some 64) (q16 : gp_R s 60 7 = some 65) (q17 : ∀ k, k < 3 → gp_R s 61 k = some 25) (q18 : gp_us s = 606895) (q19 : gp_sz s = 117) (k : ∀ (t : gH), xM z t → (gp_I t 1 2 = 0) → (gp_I t 1 6 = 0) → (gp_I t 1 7 = 1) → (gp_I t 51 8 = 0) → (gp_I t 57 1 = 1) → (gp_I t 57 3 = 0) → (0 ≤ gp_I t 60 4 ∧ gp_I t 60 4 ≤ 3) → (gp_I t 60 8 = 0) → (gp_R t 25 6 = none) → (gp_R t 25 7 = none) → (gp_R t 25 8 = none) → (gp_R t 25 9 = none) → (∀ k, k < 8 → gp_R t 4 k = some 25) → (gp_R t 51 6 = some 55) → (gp_R t 51 7 = some 56) → (∀ k, k < 3 → gp_R t 52 k = some 25) → (gp_R t 60 6 = some 64) → (gp_R t 60 7 = some 65) → (∀ k, k < 3 → gp_R t 61 k = some 25) → (gp_us t = 606895) → (gp_sz t = 117) → K (some (gp_i 1)) t) : gs_C L (d + 4) 2834 3 [gp_r (some 1), gp_i p0, gp_i 1] s K := by
  refine s_2834_e _ _ ?_
  refine zx_noSet3 _ hs (by omega) g_p0 (⟨_, rfl, ?_⟩)
  refine ⟨fun h_1 => ?_, fun h_1 => ?_⟩
  · refine zx2857_3 hs (by omega) (by omega) (by omega) (by omega) (by omega) (by omega) q7 q8 q9 q10 q11 q12 q13 (⟨_, rfl, ?_⟩)
    refine ⟨fun h_2 => ?_, fun h_2 => ?_⟩
    · refine zx513_1 _ hs (by omega) (by omega) (by omega) (by omega) (by omega) (by omega) (by omega) (by omega) q7 q8 q9 q10 q11 q12 q13 q14 q15 q16 q17 q18 q19 (fun s_3 hs_4 q_5 q_6 q_7 q_8 q_9 q_10 q_11 q_12 q_13 q_14 q_15 q_16 q_17 q_18 q_19 q_20 q_21 q_22 q_23 q_24 q_25 => ⟨rfl, ?_⟩)
      refine zx514_0 hs_4 (by omega) (by omega) (by omega) (by omega) (by omega) q_13 q_14 q_15 q_16 q_18 q_19 q_20 q_21 q_22 q_23 (⟨_, rfl, ?_⟩)
      refine ⟨fun h_26 => ?_, fun h_26 => ?_⟩
      · exfalso; omega
      · refine s_2834_48 _ _ _ ?_
        exact k s_3 hs_4 (by omega) (by omega) (by omega) (by omega) (by omega) (by omega) (by omega) (by omega) q_13 q_14 q_15 q_16 q_17 q_18 q_19 q_20 q_21 q_22 q_23 q_24 q_25
    · exfalso; omega
  · exfalso; omega
