set_option maxRecDepth 100000 in
/-- Maker.joined [25, 25] -/
theorem zx262_0 {z : gH} {L d : Nat} {K : Option gV → gH → Prop} {s : gH}  (hs : xM z s)  (q0 : gp_I s 1 2 = 0) (q1 : gp_I s 1 6 = 0) (q2 : gp_I s 1 7 = 1) (q3 : gp_I s 51 8 = 0) (q4 : gp_I s 57 1 = 0) (q5 : gp_I s 57 3 = 0) (q6 : gp_I s 6 4 = 0) (q7 : gp_R s 25 6 = none) (q8 : gp_R s 25 7 = none) (q9 : gp_R s 25 8 = none) (q10 : gp_R s 25 9 = none) (q11 : ∀ k, k < 8 → gp_R s 4 k = some 25) (q12 : gp_R s 51 6 = some 55) (q13 : gp_R s 51 7 = some 56) (q14 : gp_us s = 606895) (q15 : gp_sz s = 117) (k : ∀ (t : gH), xM z t → (gp_I t 1 2 = 0) → (gp_I t 1 6 = 0) → (gp_I t 1 7 = 1) → (gp_I t 117 0 = 1) → (gp_I t 120 0 = 0) → (gp_I t 121 0 = 0) → (gp_I t 122 0 = 0) → (gp_I t 51 8 = 0) → (gp_I t 57 1 = 0) → (gp_I t 57 3 = 0) → (gp_I t 6 4 = 1) → (gp_L t 118 0 = 0#64) → (gp_L t 119 0 = 0#64) → (gp_R t 117 1 = some 118) → (gp_R t 117 2 = some 119) → (gp_R t 117 3 = some 120) → (gp_R t 117 4 = some 121) → (gp_R t 117 5 = some 122) → (gp_R t 117 6 = none) → (gp_R t 117 7 = none) → (gp_R t 117 8 = none) → (gp_R t 117 9 = none) → (gp_R t 25 6 = none) → (gp_R t 25 7 = none) → (gp_R t 25 8 = none) → (gp_R t 25 9 = none) → (∀ k, k < 8 → gp_R t 4 k = some 25) → (gp_R t 51 6 = some 55) → (gp_R t 51 7 = some 56) → (gp_sh t 117 = (9, 10)) → (gp_sh t 118 = (101, 1)) → (gp_sh t 119 = (101, 1)) → (gp_sh t 120 = (100, 1)) → (gp_sh t 121 = (100, 1)) → (gp_sh t 122 = (100, 1)) → (gp_us t = 606910) → (gp_sz t = 123) → K (some (gp_r (some 117))) t) : gs_C L (d + 3) 262 6 [gp_r (some 20), gp_r (some 25), gp_r (some 25)] s K := by
  refine s_262_e _ _ ?_
  refine zx1025_0 hs (by omega) (by omega) (by omega) (by omega) (by omega) (by omega) (by omega) q7 q8 q9 q10 q11 q12 q13 q14 q15 (fun s_1 hs_2 q_3 q_4 q_5 q_6 q_7 q_8 q_9 q_10 q_11 q_12 q_13 q_14 q_15 q_16 q_17 q_18 => ⟨rfl, ?_⟩)
  refine s_262_9 _ _ _ _ _ ?_
  refine ⟨25, rfl, ?_⟩
  refine ⟨rfl, ?_⟩
  have f_21 := xr25_0 hs_2 0
  have e_22 : gp_I s_1 25 0 = 1 := by omega
  try rw [e_22]
  refine ⟨fun h_23 => ?_, fun h_23 => ?_⟩
  · refine s_262_20 _ _ _ _ _ ?_
    refine ⟨25, rfl, ?_⟩
    refine ⟨rfl, ?_⟩
    have f_26 := xr25_0 hs_2 0
    have e_27 : gp_I s_1 25 0 = 1 := by omega
    try rw [e_27]
    refine ⟨fun h_28 => ?_, fun h_28 => ?_⟩
    · refine ⟨25, rfl, ?_⟩
      refine ⟨rfl, ?_⟩
      try rw [show gp_R (gp_mk L s_1) 25 1 = some 26 from rfl]
      refine ⟨26, rfl, ?_⟩
      refine ⟨⟨rfl, by show 0 ≤ 0 ∧ 0 < 1; omega⟩, ?_⟩
      try rw [xr26 hs_2 ((0 : Int).toNat)]
      refine ⟨rfl, ?_⟩
      try rw [show gp_R (gp_mk L s_1) 25 1 = some 26 from rfl]
      refine ⟨26, rfl, ?_⟩
      refine ⟨⟨rfl, by show 0 ≤ 0 ∧ 0 < 1; omega⟩, ?_⟩
      try rw [xr26 hs_2 ((0 : Int).toNat)]
      refine zx263_0 hs_2 (by omega) (by omega) (by omega) (by omega) (by omega) (by omega) (by omega) q_10 q_11 q_12 q_13 q_14 q_15 q_16 (⟨_, rfl, ?_⟩)
      refine ⟨rfl, ?_⟩
      try rw [show gp_R (gp_mk L s_1) 25 2 = some 27 from rfl]
      refine ⟨27, rfl, ?_⟩
      refine ⟨⟨rfl, by show 0 ≤ 0 ∧ 0 < 1; omega⟩, ?_⟩
      try rw [xr27 hs_2 ((0 : Int).toNat)]
      refine ⟨rfl, ?_⟩
      try rw [show gp_R (gp_mk L s_1) 25 2 = some 27 from rfl]
      refine ⟨27, rfl, ?_⟩
      refine ⟨⟨rfl, by show 0 ≤ 0 ∧ 0 < 1; omega⟩, ?_⟩
      try rw [xr27 hs_2 ((0 : Int).toNat)]
      refine zx263_0 hs_2 (by omega) (by omega) (by omega) (by omega) (by omega) (by omega) (by omega) q_10 q_11 q_12 q_13 q_14 q_15 q_16 (⟨_, rfl, ?_⟩)
      refine ⟨rfl, ?_⟩
      try rw [show gp_R (gp_mk L s_1) 25 3 = some 28 from rfl]
      refine ⟨28, rfl, ?_⟩
      refine ⟨⟨rfl, by show 0 ≤ 0 ∧ 0 < 1; omega⟩, ?_⟩
      have f_29 := xr28 hs_2 ((0 : Int).toNat)
      have e_30 : gp_I s_1 28 (0 : Int).toNat = 0 := by omega
      try rw [e_30]
      refine ⟨rfl, ?_⟩
      try rw [show gp_R (gp_mk L s_1) 25 3 = some 28 from rfl]
      refine ⟨28, rfl, ?_⟩
      refine ⟨⟨rfl, by show 0 ≤ 0 ∧ 0 < 1; omega⟩, ?_⟩
      have f_31 := xr28 hs_2 ((0 : Int).toNat)
      have e_32 : gp_I s_1 28 (0 : Int).toNat = 0 := by omega
      try rw [e_32]
      have w_33 := gz_w (0 + 0)
      have e_34 : gp_wr (0 + 0) = 0 := by omega
      try rw [e_34]
      refine ⟨rfl, ?_⟩
      try rw [show gp_R (gp_mk L s_1) 25 4 = some 29 from rfl]
      refine ⟨29, rfl, ?_⟩
      refine ⟨⟨rfl, by show 0 ≤ 0 ∧ 0 < 1; omega⟩, ?_⟩
      have f_35 := xr29 hs_2 ((0 : Int).toNat)
      have e_36 : gp_I s_1 29 (0 : Int).toNat = 0 := by omega
      try rw [e_36]
      refine ⟨rfl, ?_⟩
      try rw [show gp_R (gp_mk L s_1) 25 4 = some 29 from rfl]
      refine ⟨29, rfl, ?_⟩
      refine ⟨⟨rfl, by show 0 ≤ 0 ∧ 0 < 1; omega⟩, ?_⟩
      have f_37 := xr29 hs_2 ((0 : Int).toNat)
      have e_38 : gp_I s_1 29 (0 : Int).toNat = 0 := by omega
      try rw [e_38]
      have w_39 := gz_w (0 + 0)
      have e_40 : gp_wr (0 + 0) = 0 := by omega
      try rw [e_40]
      refine zx1026_0 hs_2 (by omega) (by omega) (by omega) (by omega) (by omega) (by omega) (by omega) q_10 q_11 q_12 q_13 q_14 q_15 q_16 q_17 q_18 (fun s_41 hs_42 q_43 q_44 q_45 q_46 q_47 q_48 q_49 q_50 q_51 q_52 q_53 q_54 q_55 q_56 q_57 q_58 => ⟨rfl, ?_⟩)
      refine zx1027_0 hs_42 (by omega) (by omega) (by omega) (by omega) (by omega) (by omega) (by omega) q_50 q_51 q_52 q_53 q_54 q_55 q_56 q_57 q_58 (fun s_59 hs_60 q_61 q_62 q_63 q_64 q_65 q_66 q_67 q_68 q_69 q_70 q_71 q_72 q_73 q_74 q_75 q_76 => ⟨_, rfl, ?_⟩)
      refine ⟨fun h_77 => ?_, fun h_77 => ?_⟩
      · exfalso; omega
      · have w_78 := gz_w (0 * 60)
        have e_79 : gp_wr (0 * 60) = 0 := by omega
        try rw [e_79]
        have w_80 := gz_w (0 + 0)
        have e_81 : gp_wr (0 + 0) = 0 := by omega
        try rw [e_81]
        refine ⟨by omega, ?_⟩
        intro s_82 e_83
        have hs_84 : xM z s_82 := by rw [e_83]; exact xw22 hs_60 _ _ (by omega)
        have q_85 : gp_I s_82 1 2 = 0 := by rw [e_83]; exact q_61
        have q_86 : gp_I s_82 1 6 = 0 := by rw [e_83]; exact q_62
        have q_87 : gp_I s_82 1 7 = 1 := by rw [e_83]; exact q_63
        have q_88 : gp_I s_82 51 8 = 0 := by rw [e_83]; exact q_64
        have q_89 : gp_I s_82 57 1 = 0 := by rw [e_83]; exact q_65
        have q_90 : gp_I s_82 57 3 = 0 := by rw [e_83]; exact q_66
        have q_91 : gp_I s_82 6 4 = 1 := by rw [e_83]; exact q_67
        have q_92 : gp_R s_82 25 6 = none := by rw [e_83]; exact q_68
        have q_93 : gp_R s_82 25 7 = none := by rw [e_83]; exact q_69
        have q_94 : gp_R s_82 25 8 = none := by rw [e_83]; exact q_70
        have q_95 : gp_R s_82 25 9 = none := by rw [e_83]; exact q_71
        have q_96 : ∀ k, k < 8 → gp_R s_82 4 k = some 25 := by rw [e_83]; exact q_72
        have q_97 : gp_R s_82 51 6 = some 55 := by rw [e_83]; exact q_73
        have q_98 : gp_R s_82 51 7 = some 56 := by rw [e_83]; exact q_74
        have q_99 : gp_us s_82 = 606895 := by rw [e_83]; exact q_75
        have q_100 : gp_sz s_82 = 117 := by rw [e_83]; exact q_76
        have w_101 := gz_w (0 + 1)
        have e_102 : gp_wr (0 + 1) = 1 := by omega
        try rw [e_102]
        refine s_262_20 _ _ _ _ _ ?_
        refine ⟨25, rfl, ?_⟩
        refine ⟨rfl, ?_⟩
        have f_105 := xr25_0 hs_84 0
        have e_106 : gp_I s_82 25 0 = 1 := by omega
        try rw [e_106]
        refine ⟨fun h_107 => ?_, fun h_107 => ?_⟩
        · exfalso; omega
        · have w_108 := gz_w (0 + 1)
          have e_109 : gp_wr (0 + 1) = 1 := by omega
          try rw [e_109]
          refine s_262_9 _ _ _ _ _ ?_
          refine ⟨25, rfl, ?_⟩
          refine ⟨rfl, ?_⟩
          have f_112 := xr25_0 hs_84 0
          have e_113 : gp_I s_82 25 0 = 1 := by omega
          try rw [e_113]
          refine ⟨fun h_114 => ?_, fun h_114 => ?_⟩
          · exfalso; omega
          · refine ⟨rfl, ?_⟩
            refine zx2306_0 hs_84 q_92 q_93 q_94 q_95 (⟨_, rfl, ?_⟩)
            have w_115 := gz_w (0 * 60)
            have e_116 : gp_wr (0 * 60) = 0 := by omega
            try rw [e_116]
            refine ⟨25, rfl, ?_⟩
            refine ⟨rfl, ?_⟩
            refine zx2306_0 hs_84 q_92 q_93 q_94 q_95 (⟨_, rfl, ?_⟩)
            have w_117 := gz_w (0 + 0)
            have e_118 : gp_wr (0 + 0) = 0 := by omega
            try rw [e_118]
            refine ⟨by omega, ?_⟩
            have f_119 := xr22 hs_84 ((0 : Int).toNat)
            have e_120 : gp_I s_82 22 (0 : Int).toNat = 0 := by omega
            try rw [e_120]
            refine zx1032_0 hs_84 (by omega) (by omega) (by omega) (by omega) (by omega) (by omega) (by omega) q_92 q_93 q_94 q_95 q_96 q_97 q_98 q_99 q_100 (fun s_122 hs_123 q_124 q_125 q_126 q_127 q_128 q_129 q_130 q_131 q_132 q_133 q_134 q_135 q_136 q_137 q_138 q_139 q_140 q_141 q_142 q_143 q_144 q_145 q_146 q_147 q_148 q_149 q_150 q_151 q_152 q_153 q_154 q_155 q_156 q_157 q_158 q_159 q_160 => ⟨_, rfl, ?_⟩)
            exact k s_122 hs_123 (by omega) (by omega) (by omega) (by omega) (by omega) (by omega) (by omega) (by omega) (by omega) (by omega) (by omega) q_135 q_136 q_137 q_138 q_139 q_140 q_141 q_142 q_143 q_144 q_145 q_146 q_147 q_148 q_149 q_150 q_151 q_152 q_153 q_154 q_155 q_156 q_157 q_158 q_159 q_160
    · exfalso; omega
  · exfalso; omega
set_option maxRecDepth 100000 in
/-- Table.tooBig [117] -/
theorem zx2310_0 {z : gH} {L d : Nat} {K : Option gV → gH → Prop} {s : gH}  (hs : xM z s)  (q0 : gp_I s 117 0 = 1) (q1 : gp_I s 120 0 = 0) (q2 : gp_I s 121 0 = 0) (q3 : gp_I s 122 0 = 0) (q4 : gp_L s 118 0 = 0#64) (q5 : gp_L s 119 0 = 0#64) (q6 : gp_R s 117 1 = some 118) (q7 : gp_R s 117 2 = some 119) (q8 : gp_R s 117 3 = some 120) (q9 : gp_R s 117 4 = some 121) (q10 : gp_R s 117 5 = some 122) (q11 : gp_R s 117 6 = none) (q12 : gp_R s 117 7 = none) (q13 : gp_R s 117 8 = none) (q14 : gp_R s 117 9 = none) (q15 : gp_R s 25 6 = none) (q16 : gp_R s 25 7 = none) (q17 : gp_R s 25 8 = none) (q18 : gp_R s 25 9 = none) (q19 : gp_sh s 117 = (9, 10)) (q20 : gp_sh s 118 = (101, 1)) (q21 : gp_sh s 119 = (101, 1)) (q22 : gp_sh s 120 = (100, 1)) (q23 : gp_sh s 121 = (100, 1)) (q24 : gp_sh s 122 = (100, 1)) (k : K (some (gp_i 0)) s) : gs_C L d 2310 2 [gp_r (some 117)] s K := by
  refine s_2310_e _ ?_
  refine s_2310_2 _ _ ?_
  refine ⟨117, rfl, ?_⟩
  refine ⟨(by show (gp_sh s 117).1 = 9; rw [q19]), ?_⟩
  try rw [show gp_I s 117 0 = 1 from q0]
  refine ⟨fun h_2 => ?_, fun h_2 => ?_⟩
  · refine ⟨(by show (gp_sh s 117).1 = 9; rw [q19]), ?_⟩
    try rw [show gp_R (gp_mk L s) 117 3 = some 120 from q8]
    refine ⟨120, rfl, ?_⟩
    refine ⟨⟨by show (gp_sh s 120).1 = 100; rw [q22], by omega, by show 0 < ((gp_sh s 120).2 : Int); rw [q22]; show 0 < 1; omega⟩, ?_⟩
    try rw [show gp_I s 120 (0 : Int).toNat = 0 from q1]
    have w_3 := gz_ab (0)
    have e_4 : gp_ab 0 = 0 := by omega
    try rw [e_4]
    refine ⟨fun h_5 => ?_, fun h_5 => ?_⟩
    · exfalso; omega
    · refine ⟨(by show (gp_sh s 117).1 = 9; rw [q19]), ?_⟩
      try rw [show gp_R (gp_mk L s) 117 4 = some 121 from q9]
      refine ⟨121, rfl, ?_⟩
      refine ⟨⟨by show (gp_sh s 121).1 = 100; rw [q23], by omega, by show 0 < ((gp_sh s 121).2 : Int); rw [q23]; show 0 < 1; omega⟩, ?_⟩
      try rw [show gp_I s 121 (0 : Int).toNat = 0 from q2]
      have w_6 := gz_ab (0)
      have e_7 : gp_ab 0 = 0 := by omega
      try rw [e_7]
      refine ⟨fun h_8 => ?_, fun h_8 => ?_⟩
      · exfalso; omega
      · have w_9 := gz_w (0 + 1)
        have e_10 : gp_wr (0 + 1) = 1 := by omega
        try rw [e_10]
        refine s_2310_2 _ _ ?_
        refine ⟨117, rfl, ?_⟩
        refine ⟨(by show (gp_sh s 117).1 = 9; rw [q19]), ?_⟩
        try rw [show gp_I s 117 0 = 1 from q0]
        refine ⟨fun h_12 => ?_, fun h_12 => ?_⟩
        · exfalso; omega
        · exact k
  · exfalso; omega
set_option maxRecDepth 100000 in
/-- GatheredPoints.hold [(0, 7), 117] -/
theorem zx2854_21 {z : gH} {L d : Nat} {K : Option gV → gH → Prop} {s : gH} (p0 : Int) (hs : xM z s) (h_p0 : 0 ≤ p0 ∧ p0 ≤ 7) (q0 : gp_I s 1 2 = 0) (q1 : gp_I s 1 6 = 0) (q2 : gp_I s 1 7 = 1) (q3 : gp_I s 117 0 = 1) (q4 : gp_I s 120 0 = 0) (q5 : gp_I s 121 0 = 0) (q6 : gp_I s 122 0 = 0) (q7 : gp_I s 51 8 = 0) (q8 : gp_I s 57 1 = 0) (q9 : gp_I s 57 3 = 0) (q10 : gp_I s 6 4 = 1) (q11 : gp_L s 118 0 = 0#64) (q12 : gp_L s 119 0 = 0#64) (q13 : gp_R s 117 1 = some 118) (q14 : gp_R s 117 2 = some 119) (q15 : gp_R s 117 3 = some 120) (q16 : gp_R s 117 4 = some 121) (q17 : gp_R s 117 5 = some 122) (q18 : gp_R s 117 6 = none) (q19 : gp_R s 117 7 = none) (q20 : gp_R s 117 8 = none) (q21 : gp_R s 117 9 = none) (q22 : gp_R s 25 6 = none) (q23 : gp_R s 25 7 = none) (q24 : gp_R s 25 8 = none) (q25 : gp_R s 25 9 = none) (q26 : ∀ k, k < 8 → gp_R s 4 k = some 25) (q27 : gp_R s 51 6 = some 55) (q28 : gp_R s 51 7 = some 56) (q29 : gp_sh s 117 = (9, 10)) (q30 : gp_sh s 118 = (101, 1)) (q31 : gp_sh s 119 = (101, 1)) (q32 : gp_sh s 120 = (100, 1)) (q33 : gp_sh s 121 = (100, 1)) (q34 : gp_sh s 122 = (100, 1)) (q35 : gp_us s = 606910) (q36 : gp_sz s = 123) (k : ∀ (t : gH), xM z t → (gp_I t 1 2 = 0) → (gp_I t 1 6 = 0) → (gp_I t 1 7 = 1) → (gp_I t 117 0 = 1) → (gp_I t 120 0 = 0) → (gp_I t 121 0 = 0) → (gp_I t 122 0 = 0) → (gp_I t 51 8 = 0) → (gp_I t 57 1 = 0) → (gp_I t 57 3 = 0) → (gp_I t 6 4 = 1) → (gp_L t 118 0 = 0#64) → (gp_L t 119 0 = 0#64) → (gp_R t 117 1 = some 118) → (gp_R t 117 2 = some 119) → (gp_R t 117 3 = some 120) → (gp_R t 117 4 = some 121) → (gp_R t 117 5 = some 122) → (gp_R t 117 6 = none) → (gp_R t 117 7 = none) → (gp_R t 117 8 = none) → (gp_R t 117 9 = none) → (gp_R t 25 6 = none) → (gp_R t 25 7 = none) → (gp_R t 25 8 = none) → (gp_R t 25 9 = none) → (gp_R t 51 6 = some 55) → (gp_R t 51 7 = some 56) → (gp_sh t 117 = (9, 10)) → (gp_sh t 118 = (101, 1)) → (gp_sh t 119 = (101, 1)) → (gp_sh t 120 = (100, 1)) → (gp_sh t 121 = (100, 1)) → (gp_sh t 122 = (100, 1)) → (gp_us t = 606910) → (gp_sz t = 123) → K (some (gp_i 1)) t) : gs_C L d 2854 3 [gp_r (some 1), gp_i p0, gp_r (some 117)] s K := by
  refine s_2854_e _ _ ?_
  refine ⟨117, rfl, ?_⟩
  refine ⟨by omega, ?_⟩
  refine ⟨(by show (gp_sh s 117).1 = 9; rw [q29]), ?_⟩
  intro s_1 e_2
  have hs_3 : xM z s_1 := by rw [e_2]; exact xI.wR hs _ _ _
  have q_4 : gp_I s_1 1 2 = 0 := by rw [e_2]; exact q0
  have q_5 : gp_I s_1 1 6 = 0 := by rw [e_2]; exact q1
  have q_6 : gp_I s_1 1 7 = 1 := by rw [e_2]; exact q2
  have q_7 : gp_I s_1 117 0 = 1 := by rw [e_2]; exact q3
  have q_8 : gp_I s_1 120 0 = 0 := by rw [e_2]; exact q4
  have q_9 : gp_I s_1 121 0 = 0 := by rw [e_2]; exact q5
  have q_10 : gp_I s_1 122 0 = 0 := by rw [e_2]; exact q6
  have q_11 : gp_I s_1 51 8 = 0 := by rw [e_2]; exact q7
  have q_12 : gp_I s_1 57 1 = 0 := by rw [e_2]; exact q8
  have q_13 : gp_I s_1 57 3 = 0 := by rw [e_2]; exact q9
  have q_14 : gp_I s_1 6 4 = 1 := by rw [e_2]; exact q10
  have q_15 : gp_L s_1 118 0 = 0#64 := by rw [e_2]; exact q11
  have q_16 : gp_L s_1 119 0 = 0#64 := by rw [e_2]; exact q12
  have q_17 : gp_R s_1 117 1 = some 118 := by rw [e_2]; exact q13
  have q_18 : gp_R s_1 117 2 = some 119 := by rw [e_2]; exact q14
  have q_19 : gp_R s_1 117 3 = some 120 := by rw [e_2]; exact q15
  have q_20 : gp_R s_1 117 4 = some 121 := by rw [e_2]; exact q16
  have q_21 : gp_R s_1 117 5 = some 122 := by rw [e_2]; exact q17
  have q_22 : gp_R s_1 117 6 = none := by rw [e_2]; exact q18
  have q_23 : gp_R s_1 117 7 = none := by rw [e_2]; exact q19
  have q_24 : gp_R s_1 117 8 = none := by rw [e_2]; exact q20
  have q_25 : gp_R s_1 117 9 = none := by rw [e_2]; exact q21
  have q_26 : gp_R s_1 25 6 = none := by rw [e_2]; exact q22
  have q_27 : gp_R s_1 25 7 = none := by rw [e_2]; exact q23
  have q_28 : gp_R s_1 25 8 = none := by rw [e_2]; exact q24
  have q_29 : gp_R s_1 25 9 = none := by rw [e_2]; exact q25
  have q_30 : gp_R s_1 51 6 = some 55 := by rw [e_2]; exact q27
  have q_31 : gp_R s_1 51 7 = some 56 := by rw [e_2]; exact q28
  have q_32 : gp_sh s_1 117 = (9, 10) := by rw [e_2]; exact q29
  have q_33 : gp_sh s_1 118 = (101, 1) := by rw [e_2]; exact q30
  have q_34 : gp_sh s_1 119 = (101, 1) := by rw [e_2]; exact q31
  have q_35 : gp_sh s_1 120 = (100, 1) := by rw [e_2]; exact q32
  have q_36 : gp_sh s_1 121 = (100, 1) := by rw [e_2]; exact q33
  have q_37 : gp_sh s_1 122 = (100, 1) := by rw [e_2]; exact q34
  have q_38 : gp_us s_1 = 606910 := by rw [e_2]; exact q35
  have q_39 : gp_sz s_1 = 123 := by rw [e_2]; exact q36
  refine ⟨(by show (gp_sh s_1 117).1 = 9; rw [q_32]), ?_⟩
  try rw [show gp_I s_1 117 0 = 1 from q_7]
  exact k s_1 hs_3 (by omega) (by omega) (by omega) (by omega) (by omega) (by omega) (by omega) (by omega) (by omega) (by omega) (by omega) q_15 q_16 q_17 q_18 q_19 q_20 q_21 q_22 q_23 q_24 q_25 q_26 q_27 q_28 q_29 q_30 q_31 q_32 q_33 q_34 q_35 q_36 q_37 q_38 q_39
set_option maxRecDepth 100000 in
/-- GatheredPoints.join [(0, 7), (0, 7), (0, 7)] -/
theorem zx2822_6 {z : gH} {L d : Nat} {K : Option gV → gH → Prop} {s : gH} (p0 : Int) (p1 : Int) (p2 : Int) (hs : xM z s) (h_p0 : 0 ≤ p0 ∧ p0 ≤ 7) (h_p1 : 0 ≤ p1 ∧ p1 ≤ 7) (h_p2 : 0 ≤ p2 ∧ p2 ≤ 7) (q0 : gp_I s 1 2 = 0) (q1 : gp_I s 1 6 = 0) (q2 : gp_I s 1 7 = 1) (q3 : gp_I s 51 8 = 0) (q4 : gp_I s 57 1 = 0) (q5 : gp_I s 57 3 = 0) (q6 : gp_I s 6 4 = 0) (q7 : gp_R s 25 6 = none) (q8 : gp_R s 25 7 = none) (q9 : gp_R s 25 8 = none) (q10 : gp_R s 25 9 = none) (q11 : ∀ k, k < 8 → gp_R s 4 k = some 25) (q12 : gp_R s 51 6 = some 55) (q13 : gp_R s 51 7 = some 56) (q14 : gp_us s = 606895) (q15 : gp_sz s = 117) (k : ∀ (t : gH), xM z t → (gp_I t 1 2 = 0) → (gp_I t 1 6 = 0) → (gp_I t 1 7 = 1) → (gp_I t 117 0 = 1) → (gp_I t 120 0 = 0) → (gp_I t 121 0 = 0) → (gp_I t 122 0 = 0) → (gp_I t 51 8 = 0) → (gp_I t 57 1 = 0) → (gp_I t 57 3 = 0) → (gp_I t 6 4 = 1) → (gp_L t 118 0 = 0#64) → (gp_L t 119 0 = 0#64) → (gp_R t 117 1 = some 118) → (gp_R t 117 2 = some 119) → (gp_R t 117 3 = some 120) → (gp_R t 117 4 = some 121) → (gp_R t 117 5 = some 122) → (gp_R t 117 6 = none) → (gp_R t 117 7 = none) → (gp_R t 117 8 = none) → (gp_R t 117 9 = none) → (gp_R t 25 6 = none) → (gp_R t 25 7 = none) → (gp_R t 25 8 = none) → (gp_R t 25 9 = none) → (gp_R t 51 6 = some 55) → (gp_R t 51 7 = some 56) → (gp_sh t 117 = (9, 10)) → (gp_sh t 118 = (101, 1)) → (gp_sh t 119 = (101, 1)) → (gp_sh t 120 = (100, 1)) → (gp_sh t 121 = (100, 1)) → (gp_sh t 122 = (100, 1)) → (gp_us t = 606910) → (gp_sz t = 123) → K (some (gp_i 1)) t) : gs_C L (d + 4) 2822 5 [gp_r (some 1), gp_i p0, gp_i p1, gp_i p2] s K := by
  refine s_2822_e _ _ _ ?_
  refine zx2856_2 _ hs (by omega) (by omega) (by omega) (by omega) (by omega) (by omega) (by omega) q7 q8 q9 q10 q11 q12 q13 (⟨_, rfl, ?_⟩)
  refine ⟨fun h_1 => ?_, fun h_1 => ?_⟩
  · refine zx2856_2 _ hs (by omega) (by omega) (by omega) (by omega) (by omega) (by omega) (by omega) q7 q8 q9 q10 q11 q12 q13 (⟨_, rfl, ?_⟩)
    refine ⟨fun h_2 => ?_, fun h_2 => ?_⟩
    · refine zx2856_2 _ hs (by omega) (by omega) (by omega) (by omega) (by omega) (by omega) (by omega) q7 q8 q9 q10 q11 q12 q13 (⟨_, rfl, ?_⟩)
      refine ⟨fun h_3 => ?_, fun h_3 => ?_⟩
      · refine ⟨by omega, ?_⟩
        try rw [show gp_R (gp_mk L s) 4 p0.toNat = some 25 from (q11 _ (by omega))]
        refine ⟨by omega, ?_⟩
        try rw [show gp_R (gp_mk L s) 4 p1.toNat = some 25 from (q11 _ (by omega))]
        refine zx262_0 hs (by omega) (by omega) (by omega) (by omega) (by omega) (by omega) (by omega) q7 q8 q9 q10 q11 q12 q13 q14 q15 (fun s_5 hs_6 q_7 q_8 q_9 q_10 q_11 q_12 q_13 q_14 q_15 q_16 q_17 q_18 q_19 q_20 q_21 q_22 q_23 q_24 q_25 q_26 q_27 q_28 q_29 q_30 q_31 q_32 q_33 q_34 q_35 q_36 q_37 q_38 q_39 q_40 q_41 q_42 q_43 => ⟨_, rfl, ?_⟩)
        refine ⟨fun hq_44 => ?_, fun q_45 hq_44 => ?_⟩
        · exact absurd hq_44 (by simp)
        · obtain rfl : q_45 = 117 := (Option.some.inj hq_44).symm
          refine ⟨(by show (gp_sh s_5 117).1 = 9; rw [q_36]), ?_⟩
          refine zx2310_0 hs_6 (by omega) (by omega) (by omega) (by omega) q_18 q_19 q_20 q_21 q_22 q_23 q_24 q_25 q_26 q_27 q_28 q_29 q_30 q_31 q_32 q_36 q_37 q_38 q_39 q_40 q_41 (⟨_, rfl, ?_⟩)
          refine ⟨fun h_46 => ?_, fun h_46 => ?_⟩
          · refine zx2854_21 _ hs_6 (by omega) (by omega) (by omega) (by omega) (by omega) (by omega) (by omega) (by omega) (by omega) (by omega) (by omega) (by omega) q_18 q_19 q_20 q_21 q_22 q_23 q_24 q_25 q_26 q_27 q_28 q_29 q_30 q_31 q_32 q_33 q_34 q_35 q_36 q_37 q_38 q_39 q_40 q_41 q_42 q_43 (fun s_47 hs_48 q_49 q_50 q_51 q_52 q_53 q_54 q_55 q_56 q_57 q_58 q_59 q_60 q_61 q_62 q_63 q_64 q_65 q_66 q_67 q_68 q_69 q_70 q_71 q_72 q_73 q_74 q_75 q_76 q_77 q_78 q_79 q_80 q_81 q_82 q_83 q_84 => ⟨_, rfl, ?_⟩)
            exact k s_47 hs_48 (by omega) (by omega) (by omega) (by omega) (by omega) (by omega) (by omega) (by omega) (by omega) (by omega) (by omega) q_60 q_61 q_62 q_63 q_64 q_65 q_66 q_67 q_68 q_69 q_70 q_71 q_72 q_73 q_74 q_75 q_76 q_77 q_78 q_79 q_80 q_81 q_82 q_83 q_84
          · exfalso; omega
      · exfalso; omega
    · exfalso; omega
  · exfalso; omega
set_option maxRecDepth 100000 in
/-- GatheredPoints.negate [(-2147483648, -1), (-2147483648, 2147483647)] -/
theorem zx2823_0 {z : gH} {L d : Nat} {K : Option gV → gH → Prop} {s : gH} (p0 : Int) (p1 : Int) (hs : xM z s) (h_p0 : (-2147483648) ≤ p0 ∧ p0 ≤ (-1)) (h_p1 : (-2147483648) ≤ p1 ∧ p1 ≤ 2147483647) (q0 : gp_I s 1 2 = 0) (q1 : gp_I s 1 6 = 0) (q2 : gp_I s 1 7 = 1) (q3 : gp_I s 51 8 = 0) (q4 : gp_I s 57 1 = 0) (q5 : gp_I s 57 3 = 0) (q6 : gp_I s 6 4 = 0) (q7 : gp_R s 25 6 = none) (q8 : gp_R s 25 7 = none) (q9 : gp_R s 25 8 = none) (q10 : gp_R s 25 9 = none) (q11 : ∀ k, k < 8 → gp_R s 4 k = some 25) (q12 : gp_R s 51 6 = some 55) (q13 : gp_R s 51 7 = some 56) (q14 : gp_us s = 606895) (q15 : gp_sz s = 117) (k : ∀ (t : gH), xM z t → (gp_I t 1 2 = 0) → (gp_I t 1 6 = 0) → (gp_I t 1 7 = 1) → ((-2147483648) ≤ gp_I t 2 1 ∧ gp_I t 2 1 ≤ 2147483647) → (gp_I t 51 8 = 0) → (gp_I t 57 1 = 0) → (gp_I t 57 3 = 0) → (gp_I t 6 4 = 0) → (gp_R t 25 6 = none) → (gp_R t 25 7 = none) → (gp_R t 25 8 = none) → (gp_R t 25 9 = none) → (∀ k, k < 8 → gp_R t 4 k = some 25) → (gp_R t 51 6 = some 55) → (gp_R t 51 7 = some 56) → (gp_us t = 606895) → (gp_sz t = 117) → K (some (gp_i (-1000000001))) t) : gs_C L (d + 1) 2823 3 [gp_r (some 1), gp_i p0, gp_i p1] s K := by
  refine s_2823_e _ _ ?_
  refine zx2856_0 _ hs (by omega) (by omega) (by omega) (by omega) (by omega) (by omega) (by omega) q7 q8 q9 q10 q11 q12 q13 (⟨_, rfl, ?_⟩)
  refine ⟨fun h_1 => ?_, fun h_1 => ?_⟩
  · exfalso; omega
  · refine s_2823_14 _ _ ?_
    refine zx2855_1 hs (by omega) (by omega) (by omega) (by omega) (by omega) (by omega) (by omega) q7 q8 q9 q10 q11 q12 q13 q14 q15 (fun s_2 hs_3 q_4 q_5 q_6 q_7 q_8 q_9 q_10 q_11 q_12 q_13 q_14 q_15 q_16 q_17 q_18 q_19 q_20 => ⟨_, rfl, ?_⟩)
    exact k s_2 hs_3 (by omega) (by omega) (by omega) (by omega) (by omega) (by omega) (by omega) (by omega) q_12 q_13 q_14 q_15 q_16 q_17 q_18 q_19 q_20
set_option maxRecDepth 100000 in
/-- GatheredPoints.negate [(8, 2147483647), (-2147483648, 2147483647)] -/
theorem zx2823_1 {z : gH} {L d : Nat} {K : Option gV → gH → Prop} {s : gH} (p0 : Int) (p1 : Int) (hs : xM z s) (h_p0 : 8 ≤ p0 ∧ p0 ≤ 2147483647) (h_p1 : (-2147483648) ≤ p1 ∧ p1 ≤ 2147483647) (q0 : gp_I s 1 2 = 0) (q1 : gp_I s 1 6 = 0) (q2 : gp_I s 1 7 = 1) (q3 : gp_I s 51 8 = 0) (q4 : gp_I s 57 1 = 0) (q5 : gp_I s 57 3 = 0) (q6 : gp_I s 6 4 = 0) (q7 : gp_R s 25 6 = none) (q8 : gp_R s 25 7 = none) (q9 : gp_R s 25 8 = none) (q10 : gp_R s 25 9 = none) (q11 : ∀ k, k < 8 → gp_R s 4 k = some 25) (q12 : gp_R s 51 6 = some 55) (q13 : gp_R s 51 7 = some 56) (q14 : gp_us s = 606895) (q15 : gp_sz s = 117) (k : ∀ (t : gH), xM z t → (gp_I t 1 2 = 0) → (gp_I t 1 6 = 0) → (gp_I t 1 7 = 1) → ((-2147483648) ≤ gp_I t 2 1 ∧ gp_I t 2 1 ≤ 2147483647) → (gp_I t 51 8 = 0) → (gp_I t 57 1 = 0) → (gp_I t 57 3 = 0) → (gp_I t 6 4 = 0) → (gp_R t 25 6 = none) → (gp_R t 25 7 = none) → (gp_R t 25 8 = none) → (gp_R t 25 9 = none) → (∀ k, k < 8 → gp_R t 4 k = some 25) → (gp_R t 51 6 = some 55) → (gp_R t 51 7 = some 56) → (gp_us t = 606895) → (gp_sz t = 117) → K (some (gp_i (-1000000001))) t) : gs_C L (d + 1) 2823 3 [gp_r (some 1), gp_i p0, gp_i p1] s K := by
  refine s_2823_e _ _ ?_
  refine zx2856_1 _ hs (by omega) (by omega) (by omega) (by omega) (by omega) (by omega) (by omega) q7 q8 q9 q10 q11 q12 q13 (⟨_, rfl, ?_⟩)
  refine ⟨fun h_1 => ?_, fun h_1 => ?_⟩
  · exfalso; omega
  · refine s_2823_14 _ _ ?_
    refine zx2855_1 hs (by omega) (by omega) (by omega) (by omega) (by omega) (by omega) (by omega) q7 q8 q9 q10 q11 q12 q13 q14 q15 (fun s_2 hs_3 q_4 q_5 q_6 q_7 q_8 q_9 q_10 q_11 q_12 q_13 q_14 q_15 q_16 q_17 q_18 q_19 q_20 => ⟨_, rfl, ?_⟩)
    exact k s_2 hs_3 (by omega) (by omega) (by omega) (by omega) (by omega) (by omega) (by omega) (by omega) q_12 q_13 q_14 q_15 q_16 q_17 q_18 q_19 q_20
set_option maxRecDepth 100000 in
/-- GatheredPoints.negate [(0, 7), (-2147483648, -1)] -/
theorem zx2823_2 {z : gH} {L d : Nat} {K : Option gV → gH → Prop} {s : gH} (p0 : Int) (p1 : Int) (hs : xM z s) (h_p0 : 0 ≤ p0 ∧ p0 ≤ 7) (h_p1 : (-2147483648) ≤ p1 ∧ p1 ≤ (-1)) (q0 : gp_I s 1 2 = 0) (q1 : gp_I s 1 6 = 0) (q2 : gp_I s 1 7 = 1) (q3 : gp_I s 51 8 = 0) (q4 : gp_I s 57 1 = 0) (q5 : gp_I s 57 3 = 0) (q6 : gp_I s 6 4 = 0) (q7 : gp_R s 25 6 = none) (q8 : gp_R s 25 7 = none) (q9 : gp_R s 25 8 = none) (q10 : gp_R s 25 9 = none) (q11 : ∀ k, k < 8 → gp_R s 4 k = some 25) (q12 : gp_R s 51 6 = some 55) (q13 : gp_R s 51 7 = some 56) (q14 : gp_us s = 606895) (q15 : gp_sz s = 117) (k : ∀ (t : gH), xM z t → (gp_I t 1 2 = 0) → (gp_I t 1 6 = 0) → (gp_I t 1 7 = 1) → ((-2147483648) ≤ gp_I t 2 1 ∧ gp_I t 2 1 ≤ 2147483647) → (gp_I t 51 8 = 0) → (gp_I t 57 1 = 0) → (gp_I t 57 3 = 0) → (gp_I t 6 4 = 0) → (gp_R t 25 6 = none) → (gp_R t 25 7 = none) → (gp_R t 25 8 = none) → (gp_R t 25 9 = none) → (∀ k, k < 8 → gp_R t 4 k = some 25) → (gp_R t 51 6 = some 55) → (gp_R t 51 7 = some 56) → (gp_us t = 606895) → (gp_sz t = 117) → K (some (gp_i (-1000000001))) t) : gs_C L (d + 1) 2823 3 [gp_r (some 1), gp_i p0, gp_i p1] s K := by
  refine s_2823_e _ _ ?_
  refine zx2856_2 _ hs (by omega) (by omega) (by omega) (by omega) (by omega) (by omega) (by omega) q7 q8 q9 q10 q11 q12 q13 (⟨_, rfl, ?_⟩)
  refine ⟨fun h_1 => ?_, fun h_1 => ?_⟩
  · refine zx2856_0 _ hs (by omega) (by omega) (by omega) (by omega) (by omega) (by omega) (by omega) q7 q8 q9 q10 q11 q12 q13 (⟨_, rfl, ?_⟩)
    refine ⟨fun h_2 => ?_, fun h_2 => ?_⟩
    · exfalso; omega
    · refine s_2823_14 _ _ ?_
      refine zx2855_1 hs (by omega) (by omega) (by omega) (by omega) (by omega) (by omega) (by omega) q7 q8 q9 q10 q11 q12 q13 q14 q15 (fun s_3 hs_4 q_5 q_6 q_7 q_8 q_9 q_10 q_11 q_12 q_13 q_14 q_15 q_16 q_17 q_18 q_19 q_20 q_21 => ⟨_, rfl, ?_⟩)
      exact k s_3 hs_4 (by omega) (by omega) (by omega) (by omega) (by omega) (by omega) (by omega) (by omega) q_13 q_14 q_15 q_16 q_17 q_18 q_19 q_20 q_21
  · exfalso; omega
set_option maxRecDepth 100000 in
/-- GatheredPoints.negate [(0, 7), (8, 2147483647)] -/
theorem zx2823_3 {z : gH} {L d : Nat} {K : Option gV → gH → Prop} {s : gH} (p0 : Int) (p1 : Int) (hs : xM z s) (h_p0 : 0 ≤ p0 ∧ p0 ≤ 7) (h_p1 : 8 ≤ p1 ∧ p1 ≤ 2147483647) (q0 : gp_I s 1 2 = 0) (q1 : gp_I s 1 6 = 0) (q2 : gp_I s 1 7 = 1) (q3 : gp_I s 51 8 = 0) (q4 : gp_I s 57 1 = 0) (q5 : gp_I s 57 3 = 0) (q6 : gp_I s 6 4 = 0) (q7 : gp_R s 25 6 = none) (q8 : gp_R s 25 7 = none) (q9 : gp_R s 25 8 = none) (q10 : gp_R s 25 9 = none) (q11 : ∀ k, k < 8 → gp_R s 4 k = some 25) (q12 : gp_R s 51 6 = some 55) (q13 : gp_R s 51 7 = some 56) (q14 : gp_us s = 606895) (q15 : gp_sz s = 117) (k : ∀ (t : gH), xM z t → (gp_I t 1 2 = 0) → (gp_I t 1 6 = 0) → (gp_I t 1 7 = 1) → ((-2147483648) ≤ gp_I t 2 1 ∧ gp_I t 2 1 ≤ 2147483647) → (gp_I t 51 8 = 0) → (gp_I t 57 1 = 0) → (gp_I t 57 3 = 0) → (gp_I t 6 4 = 0) → (gp_R t 25 6 = none) → (gp_R t 25 7 = none) → (gp_R t 25 8 = none) → (gp_R t 25 9 = none) → (∀ k, k < 8 → gp_R t 4 k = some 25) → (gp_R t 51 6 = some 55) → (gp_R t 51 7 = some 56) → (gp_us t = 606895) → (gp_sz t = 117) → K (some (gp_i (-1000000001))) t) : gs_C L (d + 1) 2823 3 [gp_r (some 1), gp_i p0, gp_i p1] s K := by
  refine s_2823_e _ _ ?_
  refine zx2856_2 _ hs (by omega) (by omega) (by omega) (by omega) (by omega) (by omega) (by omega) q7 q8 q9 q10 q11 q12 q13 (⟨_, rfl, ?_⟩)
  refine ⟨fun h_1 => ?_, fun h_1 => ?_⟩
  · refine zx2856_1 _ hs (by omega) (by omega) (by omega) (by omega) (by omega) (by omega) (by omega) q7 q8 q9 q10 q11 q12 q13 (⟨_, rfl, ?_⟩)
    refine ⟨fun h_2 => ?_, fun h_2 => ?_⟩
    · exfalso; omega
    · refine s_2823_14 _ _ ?_
      refine zx2855_1 hs (by omega) (by omega) (by omega) (by omega) (by omega) (by omega) (by omega) q7 q8 q9 q10 q11 q12 q13 q14 q15 (fun s_3 hs_4 q_5 q_6 q_7 q_8 q_9 q_10 q_11 q_12 q_13 q_14 q_15 q_16 q_17 q_18 q_19 q_20 q_21 => ⟨_, rfl, ?_⟩)
      exact k s_3 hs_4 (by omega) (by omega) (by omega) (by omega) (by omega) (by omega) (by omega) (by omega) q_13 q_14 q_15 q_16 q_17 q_18 q_19 q_20 q_21
  · exfalso; omega
set_option maxRecDepth 100000 in
/-- GatheredPoints.carried [0, 21] -/
theorem zx2863_1 {z : gH} {L d : Nat} {K : Option gV → gH → Prop} {s : gH}  (hs : xM z s)  (q0 : gp_I s 1 2 = 0) (q1 : gp_I s 1 6 = 0) (q2 : gp_I s 1 7 = 1) (q3 : gp_I s 51 8 = 0) (q4 : gp_I s 57 1 = 0) (q5 : gp_I s 57 3 = 0) (q6 : gp_R s 25 6 = none) (q7 : gp_R s 25 7 = none) (q8 : gp_R s 25 8 = none) (q9 : gp_R s 25 9 = none) (q10 : ∀ k, k < 8 → gp_R s 4 k = some 25) (q11 : gp_R s 51 6 = some 55) (q12 : gp_R s 51 7 = some 56) (k : K (some (gp_l (0#64))) s) : gs_C L (d + 1) 2863 7 [gp_l (0#64), gp_r (some 21)] s K := by
  refine s_2863_e _ _ ?_
  refine s_2863_5 _ _ _ _ ?_
  have e_2 : gp_cmp (0#64) (0#64) = 0 := by decide
  try rw [e_2]
  refine ⟨fun h_3 => ?_, fun h_3 => ?_⟩
  · exact k
  · exfalso; omega
set_option maxRecDepth 100000 in
/-- Pool.add [0, 0, (0, 0), (0, 0)] -/
theorem zx1028_0 {z : gH} {L d : Nat} {K : Option gV → gH → Prop} {s : gH}  (hs : xM z s)  (q0 : gp_I s 1 2 = 0) (q1 : gp_I s 1 6 = 0) (q2 : gp_I s 1 7 = 1) (q3 : gp_I s 51 8 = 0) (q4 : gp_I s 57 1 = 0) (q5 : gp_I s 57 3 = 0) (q6 : gp_I s 6 4 = 0) (q7 : gp_R s 25 6 = none) (q8 : gp_R s 25 7 = none) (q9 : gp_R s 25 8 = none) (q10 : gp_R s 25 9 = none) (q11 : ∀ k, k < 8 → gp_R s 4 k = some 25) (q12 : gp_R s 51 6 = some 55) (q13 : gp_R s 51 7 = some 56) (q14 : gp_us s = 606895) (q15 : gp_sz s = 117) (k : ∀ (t : gH), xM z t → (gp_I t 1 2 = 0) → (gp_I t 1 6 = 0) → (gp_I t 1 7 = 1) → (gp_I t 51 8 = 0) → (gp_I t 57 1 = 0) → (gp_I t 57 3 = 0) → (gp_I t 6 4 = 1) → (gp_R t 25 6 = none) → (gp_R t 25 7 = none) → (gp_R t 25 8 = none) → (gp_R t 25 9 = none) → (∀ k, k < 8 → gp_R t 4 k = some 25) → (gp_R t 51 6 = some 55) → (gp_R t 51 7 = some 56) → (gp_us t = 606895) → (gp_sz t = 117) → K (some (gp_i 0)) t) : gs_C L (d + 2) 1028 7 [gp_r (some 6), gp_l (0#64), gp_l (0#64), gp_i 0, gp_i 0] s K := by
  refine s_1028_e _ _ _ _ ?_
  refine zx1026_0 hs (by omega) (by omega) (by omega) (by omega) (by omega) (by omega) (by omega) q7 q8 q9 q10 q11 q12 q13 q14 q15 (fun s_1 hs_2 q_3 q_4 q_5 q_6 q_7 q_8 q_9 q_10 q_11 q_12 q_13 q_14 q_15 q_16 q_17 q_18 => ⟨rfl, ?_⟩)
  refine zx1027_0 hs_2 (by omega) (by omega) (by omega) (by omega) (by omega) (by omega) (by omega) q_10 q_11 q_12 q_13 q_14 q_15 q_16 q_17 q_18 (fun s_19 hs_20 q_21 q_22 q_23 q_24 q_25 q_26 q_27 q_28 q_29 q_30 q_31 q_32 q_33 q_34 q_35 q_36 => ⟨_, rfl, ?_⟩)
  exact k s_19 hs_20 (by omega) (by omega) (by omega) (by omega) (by omega) (by omega) (by omega) q_28 q_29 q_30 q_31 q_32 q_33 q_34 q_35 q_36
set_option maxRecDepth 100000 in
/-- Maker.negated [25] -/
theorem zx260_0 {z : gH} {L d : Nat} {K : Option gV → gH → Prop} {s : gH}  (hs : xM z s)  (q0 : gp_I s 1 2 = 0) (q1 : gp_I s 1 6 = 0) (q2 : gp_I s 1 7 = 1) (q3 : gp_I s 51 8 = 0) (q4 : gp_I s 57 1 = 0) (q5 : gp_I s 57 3 = 0) (q6 : gp_I s 6 4 = 0) (q7 : gp_R s 25 6 = none) (q8 : gp_R s 25 7 = none) (q9 : gp_R s 25 8 = none) (q10 : gp_R s 25 9 = none) (q11 : ∀ k, k < 8 → gp_R s 4 k = some 25) (q12 : gp_R s 51 6 = some 55) (q13 : gp_R s 51 7 = some 56) (q14 : gp_us s = 606895) (q15 : gp_sz s = 117) (k : ∀ (t : gH), xM z t → (gp_I t 1 2 = 0) → (gp_I t 1 6 = 0) → (gp_I t 1 7 = 1) → (gp_I t 117 0 = 1) → (gp_I t 120 0 = 0) → (gp_I t 121 0 = 0) → (gp_I t 122 0 = 0) → (gp_I t 51 8 = 0) → (gp_I t 57 1 = 0) → (gp_I t 57 3 = 0) → (gp_I t 6 4 = 1) → (gp_L t 118 0 = 0#64) → (gp_L t 119 0 = 0#64) → (gp_R t 117 1 = some 118) → (gp_R t 117 2 = some 119) → (gp_R t 117 3 = some 120) → (gp_R t 117 4 = some 121) → (gp_R t 117 5 = some 122) → (gp_R t 117 6 = none) → (gp_R t 117 7 = none) → (gp_R t 117 8 = none) → (gp_R t 117 9 = none) → (gp_R t 25 6 = none) → (gp_R t 25 7 = none) → (gp_R t 25 8 = none) → (gp_R t 25 9 = none) → (∀ k, k < 8 → gp_R t 4 k = some 25) → (gp_R t 51 6 = some 55) → (gp_R t 51 7 = some 56) → (gp_sh t 117 = (9, 10)) → (gp_sh t 118 = (101, 1)) → (gp_sh t 119 = (101, 1)) → (gp_sh t 120 = (100, 1)) → (gp_sh t 121 = (100, 1)) → (gp_sh t 122 = (100, 1)) → (gp_us t = 606910) → (gp_sz t = 123) → K (some (gp_r (some 117))) t) : gs_C L (d + 3) 260 3 [gp_r (some 20), gp_r (some 25)] s K := by
  refine s_260_e _ ?_
  refine zx1025_0 hs (by omega) (by omega) (by omega) (by omega) (by omega) (by omega) (by omega) q7 q8 q9 q10 q11 q12 q13 q14 q15 (fun s_1 hs_2 q_3 q_4 q_5 q_6 q_7 q_8 q_9 q_10 q_11 q_12 q_13 q_14 q_15 q_16 q_17 q_18 => ⟨rfl, ?_⟩)
  refine s_260_9 _ _ ?_
  refine ⟨25, rfl, ?_⟩
  refine ⟨rfl, ?_⟩
  have f_20 := xr25_0 hs_2 0
  have e_21 : gp_I s_1 25 0 = 1 := by omega
  try rw [e_21]
  refine ⟨fun h_22 => ?_, fun h_22 => ?_⟩
  · refine ⟨rfl, ?_⟩
    try rw [show gp_R (gp_mk L s_1) 25 2 = some 27 from rfl]
    refine ⟨27, rfl, ?_⟩
    refine ⟨⟨rfl, by show 0 ≤ 0 ∧ 0 < 1; omega⟩, ?_⟩
    try rw [xr27 hs_2 ((0 : Int).toNat)]
    refine zx2863_1 hs_2 (by omega) (by omega) (by omega) (by omega) (by omega) (by omega) q_10 q_11 q_12 q_13 q_14 q_15 q_16 (⟨_, rfl, ?_⟩)
    refine ⟨rfl, ?_⟩
    try rw [show gp_R (gp_mk L s_1) 25 1 = some 26 from rfl]
    refine ⟨26, rfl, ?_⟩
    refine ⟨⟨rfl, by show 0 ≤ 0 ∧ 0 < 1; omega⟩, ?_⟩
    try rw [xr26 hs_2 ((0 : Int).toNat)]
    refine zx2863_1 hs_2 (by omega) (by omega) (by omega) (by omega) (by omega) (by omega) q_10 q_11 q_12 q_13 q_14 q_15 q_16 (⟨_, rfl, ?_⟩)
    refine ⟨rfl, ?_⟩
    try rw [show gp_R (gp_mk L s_1) 25 4 = some 29 from rfl]
    refine ⟨29, rfl, ?_⟩
    refine ⟨⟨rfl, by show 0 ≤ 0 ∧ 0 < 1; omega⟩, ?_⟩
    have f_23 := xr29 hs_2 ((0 : Int).toNat)
    have e_24 : gp_I s_1 29 (0 : Int).toNat = 0 := by omega
    try rw [e_24]
    have w_25 := gz_w (-0)
    have e_26 : gp_wr (-0) = 0 := by omega
    try rw [e_26]
    refine ⟨rfl, ?_⟩
    try rw [show gp_R (gp_mk L s_1) 25 3 = some 28 from rfl]
    refine ⟨28, rfl, ?_⟩
    refine ⟨⟨rfl, by show 0 ≤ 0 ∧ 0 < 1; omega⟩, ?_⟩
    have f_27 := xr28 hs_2 ((0 : Int).toNat)
    have e_28 : gp_I s_1 28 (0 : Int).toNat = 0 := by omega
    try rw [e_28]
    have w_29 := gz_w (-0)
    have e_30 : gp_wr (-0) = 0 := by omega
    try rw [e_30]
    refine zx1028_0 hs_2 (by omega) (by omega) (by omega) (by omega) (by omega) (by omega) (by omega) q_10 q_11 q_12 q_13 q_14 q_15 q_16 q_17 q_18 (fun s_31 hs_32 q_33 q_34 q_35 q_36 q_37 q_38 q_39 q_40 q_41 q_42 q_43 q_44 q_45 q_46 q_47 q_48 => ⟨_, rfl, ?_⟩)
    refine ⟨by omega, ?_⟩
    intro s_49 e_50
    have hs_51 : xM z s_49 := by rw [e_50]; exact xw21 hs_32 _ _ (by omega)
    have q_52 : gp_I s_49 1 2 = 0 := by rw [e_50]; exact q_33
    have q_53 : gp_I s_49 1 6 = 0 := by rw [e_50]; exact q_34
    have q_54 : gp_I s_49 1 7 = 1 := by rw [e_50]; exact q_35
    have q_55 : gp_I s_49 51 8 = 0 := by rw [e_50]; exact q_36
    have q_56 : gp_I s_49 57 1 = 0 := by rw [e_50]; exact q_37
    have q_57 : gp_I s_49 57 3 = 0 := by rw [e_50]; exact q_38
    have q_58 : gp_I s_49 6 4 = 1 := by rw [e_50]; exact q_39
    have q_59 : gp_R s_49 25 6 = none := by rw [e_50]; exact q_40
    have q_60 : gp_R s_49 25 7 = none := by rw [e_50]; exact q_41
    have q_61 : gp_R s_49 25 8 = none := by rw [e_50]; exact q_42
    have q_62 : gp_R s_49 25 9 = none := by rw [e_50]; exact q_43
    have q_63 : ∀ k, k < 8 → gp_R s_49 4 k = some 25 := by rw [e_50]; exact q_44
    have q_64 : gp_R s_49 51 6 = some 55 := by rw [e_50]; exact q_45
    have q_65 : gp_R s_49 51 7 = some 56 := by rw [e_50]; exact q_46
    have q_66 : gp_us s_49 = 606895 := by rw [e_50]; exact q_47
    have q_67 : gp_sz s_49 = 117 := by rw [e_50]; exact q_48
    have w_68 := gz_w (0 + 1)
    have e_69 : gp_wr (0 + 1) = 1 := by omega
    try rw [e_69]
    refine s_260_9 _ _ ?_
    refine ⟨25, rfl, ?_⟩
    refine ⟨rfl, ?_⟩
    have f_71 := xr25_0 hs_51 0
    have e_72 : gp_I s_49 25 0 = 1 := by omega
    try rw [e_72]
    refine ⟨fun h_73 => ?_, fun h_73 => ?_⟩
    · exfalso; omega
    · refine ⟨rfl, ?_⟩
      refine zx2306_0 hs_51 q_59 q_60 q_61 q_62 (⟨_, rfl, ?_⟩)
      refine ⟨by omega, ?_⟩
      have f_74 := xr21 hs_51 ((0 : Int).toNat)
      have e_75 : gp_I s_49 21 (0 : Int).toNat = 0 := by omega
      try rw [e_75]
      refine zx1032_0 hs_51 (by omega) (by omega) (by omega) (by omega) (by omega) (by omega) (by omega) q_59 q_60 q_61 q_62 q_63 q_64 q_65 q_66 q_67 (fun s_77 hs_78 q_79 q_80 q_81 q_82 q_83 q_84 q_85 q_86 q_87 q_88 q_89 q_90 q_91 q_92 q_93 q_94 q_95 q_96 q_97 q_98 q_99 q_100 q_101 q_102 q_103 q_104 q_105 q_106 q_107 q_108 q_109 q_110 q_111 q_112 q_113 q_114 q_115 => ⟨_, rfl, ?_⟩)
      exact k s_77 hs_78 (by omega) (by omega) (by omega) (by omega) (by omega) (by omega) (by omega) (by omega) (by omega) (by omega) (by omega) q_90 q_91 q_92 q_93 q_94 q_95 q_96 q_97 q_98 q_99 q_100 q_101 q_102 q_103 q_104 q_105 q_106 q_107 q_108 q_109 q_110 q_111 q_112 q_113 q_114 q_115
  · exfalso; omega
set_option maxRecDepth 100000 in
/-- GatheredPoints.negate [(0, 7), (0, 7)] -/
theorem zx2823_4 {z : gH} {L d : Nat} {K : Option gV → gH → Prop} {s : gH} (p0 : Int) (p1 : Int) (hs : xM z s) (h_p0 : 0 ≤ p0 ∧ p0 ≤ 7) (h_p1 : 0 ≤ p1 ∧ p1 ≤ 7) (q0 : gp_I s 1 2 = 0) (q1 : gp_I s 1 6 = 0) (q2 : gp_I s 1 7 = 1) (q3 : gp_I s 51 8 = 0) (q4 : gp_I s 57 1 = 0) (q5 : gp_I s 57 3 = 0) (q6 : gp_I s 6 4 = 0) (q7 : gp_R s 25 6 = none) (q8 : gp_R s 25 7 = none) (q9 : gp_R s 25 8 = none) (q10 : gp_R s 25 9 = none) (q11 : ∀ k, k < 8 → gp_R s 4 k = some 25) (q12 : gp_R s 51 6 = some 55) (q13 : gp_R s 51 7 = some 56) (q14 : gp_us s = 606895) (q15 : gp_sz s = 117) (k : ∀ (t : gH), xM z t → (gp_I t 1 2 = 0) → (gp_I t 1 6 = 0) → (gp_I t 1 7 = 1) → (gp_I t 117 0 = 1) → (gp_I t 120 0 = 0) → (gp_I t 121 0 = 0) → (gp_I t 122 0 = 0) → (gp_I t 51 8 = 0) → (gp_I t 57 1 = 0) → (gp_I t 57 3 = 0) → (gp_I t 6 4 = 1) → (gp_L t 118 0 = 0#64) → (gp_L t 119 0 = 0#64) → (gp_R t 117 1 = some 118) → (gp_R t 117 2 = some 119) → (gp_R t 117 3 = some 120) → (gp_R t 117 4 = some 121) → (gp_R t 117 5 = some 122) → (gp_R t 117 6 = none) → (gp_R t 117 7 = none) → (gp_R t 117 8 = none) → (gp_R t 117 9 = none) → (gp_R t 25 6 = none) → (gp_R t 25 7 = none) → (gp_R t 25 8 = none) → (gp_R t 25 9 = none) → (gp_R t 51 6 = some 55) → (gp_R t 51 7 = some 56) → (gp_sh t 117 = (9, 10)) → (gp_sh t 118 = (101, 1)) → (gp_sh t 119 = (101, 1)) → (gp_sh t 120 = (100, 1)) → (gp_sh t 121 = (100, 1)) → (gp_sh t 122 = (100, 1)) → (gp_us t = 606910) → (gp_sz t = 123) → K (some (gp_i 1)) t) : gs_C L (d + 4) 2823 3 [gp_r (some 1), gp_i p0, gp_i p1] s K := by
  refine s_2823_e _ _ ?_
  refine zx2856_2 _ hs (by omega) (by omega) (by omega) (by omega) (by omega) (by omega) (by omega) q7 q8 q9 q10 q11 q12 q13 (⟨_, rfl, ?_⟩)
  refine ⟨fun h_1 => ?_, fun h_1 => ?_⟩
  · refine zx2856_2 _ hs (by omega) (by omega) (by omega) (by omega) (by omega) (by omega) (by omega) q7 q8 q9 q10 q11 q12 q13 (⟨_, rfl, ?_⟩)
    refine ⟨fun h_2 => ?_, fun h_2 => ?_⟩
    · refine ⟨by omega, ?_⟩
      try rw [show gp_R (gp_mk L s) 4 p0.toNat = some 25 from (q11 _ (by omega))]
      refine zx260_0 hs (by omega) (by omega) (by omega) (by omega) (by omega) (by omega) (by omega) q7 q8 q9 q10 q11 q12 q13 q14 q15 (fun s_4 hs_5 q_6 q_7 q_8 q_9 q_10 q_11 q_12 q_13 q_14 q_15 q_16 q_17 q_18 q_19 q_20 q_21 q_22 q_23 q_24 q_25 q_26 q_27 q_28 q_29 q_30 q_31 q_32 q_33 q_34 q_35 q_36 q_37 q_38 q_39 q_40 q_41 q_42 => ⟨_, rfl, ?_⟩)
      refine zx2854_21 _ hs_5 (by omega) (by omega) (by omega) (by omega) (by omega) (by omega) (by omega) (by omega) (by omega) (by omega) (by omega) (by omega) q_17 q_18 q_19 q_20 q_21 q_22 q_23 q_24 q_25 q_26 q_27 q_28 q_29 q_30 q_31 q_32 q_33 q_34 q_35 q_36 q_37 q_38 q_39 q_40 q_41 q_42 (fun s_43 hs_44 q_45 q_46 q_47 q_48 q_49 q_50 q_51 q_52 q_53 q_54 q_55 q_56 q_57 q_58 q_59 q_60 q_61 q_62 q_63 q_64 q_65 q_66 q_67 q_68 q_69 q_70 q_71 q_72 q_73 q_74 q_75 q_76 q_77 q_78 q_79 q_80 => ⟨_, rfl, ?_⟩)
      exact k s_43 hs_44 (by omega) (by omega) (by omega) (by omega) (by omega) (by omega) (by omega) (by omega) (by omega) (by omega) (by omega) q_56 q_57 q_58 q_59 q_60 q_61 q_62 q_63 q_64 q_65 q_66 q_67 q_68 q_69 q_70 q_71 q_72 q_73 q_74 q_75 q_76 q_77 q_78 q_79 q_80
    · exfalso; omega
  · exfalso; omega
set_option maxRecDepth 100000 in
/-- GatheredPoints.reduce [(-2147483648, -1), (-2147483648, 2147483647)] -/
theorem zx2831_0 {z : gH} {L d : Nat} {K : Option gV → gH → Prop} {s : gH} (p0 : Int) (p1 : Int) (hs : xM z s) (h_p0 : (-2147483648) ≤ p0 ∧ p0 ≤ (-1)) (h_p1 : (-2147483648) ≤ p1 ∧ p1 ≤ 2147483647) (q0 : gp_I s 1 2 = 0) (q1 : gp_I s 1 6 = 0) (q2 : gp_I s 1 7 = 1) (q3 : gp_I s 51 8 = 0) (q4 : gp_I s 57 1 = 0) (q5 : gp_I s 57 3 = 0) (q6 : gp_I s 6 4 = 0) (q7 : gp_R s 25 6 = none) (q8 : gp_R s 25 7 = none) (q9 : gp_R s 25 8 = none) (q10 : gp_R s 25 9 = none) (q11 : ∀ k, k < 8 → gp_R s 4 k = some 25) (q12 : gp_R s 51 6 = some 55) (q13 : gp_R s 51 7 = some 56) (q14 : gp_us s = 606895) (q15 : gp_sz s = 117) (k : ∀ (t : gH), xM z t → (gp_I t 1 2 = 0) → (gp_I t 1 6 = 0) → (gp_I t 1 7 = 1) → ((-2147483648) ≤ gp_I t 2 1 ∧ gp_I t 2 1 ≤ 2147483647) → (gp_I t 51 8 = 0) → (gp_I t 57 1 = 0) → (gp_I t 57 3 = 0) → (gp_I t 6 4 = 0) → (gp_R t 25 6 = none) → (gp_R t 25 7 = none) → (gp_R t 25 8 = none) → (gp_R t 25 9 = none) → (∀ k, k < 8 → gp_R t 4 k = some 25) → (gp_R t 51 6 = some 55) → (gp_R t 51 7 = some 56) → (gp_us t = 606895) → (gp_sz t = 117) → K (some (gp_i (-1000000001))) t) : gs_C L (d + 1) 2831 3 [gp_r (some 1), gp_i p0, gp_i p1] s K := by
  refine s_2831_e _ _ ?_
  refine zx2856_0 _ hs (by omega) (by omega) (by omega) (by omega) (by omega) (by omega) (by omega) q7 q8 q9 q10 q11 q12 q13 (⟨_, rfl, ?_⟩)
  refine ⟨fun h_1 => ?_, fun h_1 => ?_⟩
  · exfalso; omega
  · refine s_2831_14 _ _ ?_
    refine zx2855_1 hs (by omega) (by omega) (by omega) (by omega) (by omega) (by omega) (by omega) q7 q8 q9 q10 q11 q12 q13 q14 q15 (fun s_2 hs_3 q_4 q_5 q_6 q_7 q_8 q_9 q_10 q_11 q_12 q_13 q_14 q_15 q_16 q_17 q_18 q_19 q_20 => ⟨_, rfl, ?_⟩)
    exact k s_2 hs_3 (by omega) (by omega) (by omega) (by omega) (by omega) (by omega) (by omega) (by omega) q_12 q_13 q_14 q_15 q_16 q_17 q_18 q_19 q_20
set_option maxRecDepth 100000 in
/-- GatheredPoints.reduce [(8, 2147483647), (-2147483648, 2147483647)] -/
theorem zx2831_1 {z : gH} {L d : Nat} {K : Option gV → gH → Prop} {s : gH} (p0 : Int) (p1 : Int) (hs : xM z s) (h_p0 : 8 ≤ p0 ∧ p0 ≤ 2147483647) (h_p1 : (-2147483648) ≤ p1 ∧ p1 ≤ 2147483647) (q0 : gp_I s 1 2 = 0) (q1 : gp_I s 1 6 = 0) (q2 : gp_I s 1 7 = 1) (q3 : gp_I s 51 8 = 0) (q4 : gp_I s 57 1 = 0) (q5 : gp_I s 57 3 = 0) (q6 : gp_I s 6 4 = 0) (q7 : gp_R s 25 6 = none) (q8 : gp_R s 25 7 = none) (q9 : gp_R s 25 8 = none) (q10 : gp_R s 25 9 = none) (q11 : ∀ k, k < 8 → gp_R s 4 k = some 25) (q12 : gp_R s 51 6 = some 55) (q13 : gp_R s 51 7 = some 56) (q14 : gp_us s = 606895) (q15 : gp_sz s = 117) (k : ∀ (t : gH), xM z t → (gp_I t 1 2 = 0) → (gp_I t 1 6 = 0) → (gp_I t 1 7 = 1) → ((-2147483648) ≤ gp_I t 2 1 ∧ gp_I t 2 1 ≤ 2147483647) → (gp_I t 51 8 = 0) → (gp_I t 57 1 = 0) → (gp_I t 57 3 = 0) → (gp_I t 6 4 = 0) → (gp_R t 25 6 = none) → (gp_R t 25 7 = none) → (gp_R t 25 8 = none) → (gp_R t 25 9 = none) → (∀ k, k < 8 → gp_R t 4 k = some 25) → (gp_R t 51 6 = some 55) → (gp_R t 51 7 = some 56) → (gp_us t = 606895) → (gp_sz t = 117) → K (some (gp_i (-1000000001))) t) : gs_C L (d + 1) 2831 3 [gp_r (some 1), gp_i p0, gp_i p1] s K := by
  refine s_2831_e _ _ ?_
  refine zx2856_1 _ hs (by omega) (by omega) (by omega) (by omega) (by omega) (by omega) (by omega) q7 q8 q9 q10 q11 q12 q13 (⟨_, rfl, ?_⟩)
  refine ⟨fun h_1 => ?_, fun h_1 => ?_⟩
  · exfalso; omega
  · refine s_2831_14 _ _ ?_
    refine zx2855_1 hs (by omega) (by omega) (by omega) (by omega) (by omega) (by omega) (by omega) q7 q8 q9 q10 q11 q12 q13 q14 q15 (fun s_2 hs_3 q_4 q_5 q_6 q_7 q_8 q_9 q_10 q_11 q_12 q_13 q_14 q_15 q_16 q_17 q_18 q_19 q_20 => ⟨_, rfl, ?_⟩)
    exact k s_2 hs_3 (by omega) (by omega) (by omega) (by omega) (by omega) (by omega) (by omega) (by omega) q_12 q_13 q_14 q_15 q_16 q_17 q_18 q_19 q_20
set_option maxRecDepth 100000 in
/-- GatheredPoints.reduce [(0, 7), (-2147483648, -1)] -/
theorem zx2831_2 {z : gH} {L d : Nat} {K : Option gV → gH → Prop} {s : gH} (p0 : Int) (p1 : Int) (hs : xM z s) (h_p0 : 0 ≤ p0 ∧ p0 ≤ 7) (h_p1 : (-2147483648) ≤ p1 ∧ p1 ≤ (-1)) (q0 : gp_I s 1 2 = 0) (q1 : gp_I s 1 6 = 0) (q2 : gp_I s 1 7 = 1) (q3 : gp_I s 51 8 = 0) (q4 : gp_I s 57 1 = 0) (q5 : gp_I s 57 3 = 0) (q6 : gp_I s 6 4 = 0) (q7 : gp_R s 25 6 = none) (q8 : gp_R s 25 7 = none) (q9 : gp_R s 25 8 = none) (q10 : gp_R s 25 9 = none) (q11 : ∀ k, k < 8 → gp_R s 4 k = some 25) (q12 : gp_R s 51 6 = some 55) (q13 : gp_R s 51 7 = some 56) (q14 : gp_us s = 606895) (q15 : gp_sz s = 117) (k : ∀ (t : gH), xM z t → (gp_I t 1 2 = 0) → (gp_I t 1 6 = 0) → (gp_I t 1 7 = 1) → ((-2147483648) ≤ gp_I t 2 1 ∧ gp_I t 2 1 ≤ 2147483647) → (gp_I t 51 8 = 0) → (gp_I t 57 1 = 0) → (gp_I t 57 3 = 0) → (gp_I t 6 4 = 0) → (gp_R t 25 6 = none) → (gp_R t 25 7 = none) → (gp_R t 25 8 = none) → (gp_R t 25 9 = none) → (∀ k, k < 8 → gp_R t 4 k = some 25) → (gp_R t 51 6 = some 55) → (gp_R t 51 7 = some 56) → (gp_us t = 606895) → (gp_sz t = 117) → K (some (gp_i (-1000000001))) t) : gs_C L (d + 1) 2831 3 [gp_r (some 1), gp_i p0, gp_i p1] s K := by
  refine s_2831_e _ _ ?_
  refine zx2856_2 _ hs (by omega) (by omega) (by omega) (by omega) (by omega) (by omega) (by omega) q7 q8 q9 q10 q11 q12 q13 (⟨_, rfl, ?_⟩)
  refine ⟨fun h_1 => ?_, fun h_1 => ?_⟩
  · refine zx2856_0 _ hs (by omega) (by omega) (by omega) (by omega) (by omega) (by omega) (by omega) q7 q8 q9 q10 q11 q12 q13 (⟨_, rfl, ?_⟩)
    refine ⟨fun h_2 => ?_, fun h_2 => ?_⟩
    · exfalso; omega
    · refine s_2831_14 _ _ ?_
      refine zx2855_1 hs (by omega) (by omega) (by omega) (by omega) (by omega) (by omega) (by omega) q7 q8 q9 q10 q11 q12 q13 q14 q15 (fun s_3 hs_4 q_5 q_6 q_7 q_8 q_9 q_10 q_11 q_12 q_13 q_14 q_15 q_16 q_17 q_18 q_19 q_20 q_21 => ⟨_, rfl, ?_⟩)
      exact k s_3 hs_4 (by omega) (by omega) (by omega) (by omega) (by omega) (by omega) (by omega) (by omega) q_13 q_14 q_15 q_16 q_17 q_18 q_19 q_20 q_21
  · exfalso; omega
set_option maxRecDepth 100000 in
/-- GatheredPoints.reduce [(0, 7), (8, 2147483647)] -/
theorem zx2831_3 {z : gH} {L d : Nat} {K : Option gV → gH → Prop} {s : gH} (p0 : Int) (p1 : Int) (hs : xM z s) (h_p0 : 0 ≤ p0 ∧ p0 ≤ 7) (h_p1 : 8 ≤ p1 ∧ p1 ≤ 2147483647) (q0 : gp_I s 1 2 = 0) (q1 : gp_I s 1 6 = 0) (q2 : gp_I s 1 7 = 1) (q3 : gp_I s 51 8 = 0) (q4 : gp_I s 57 1 = 0) (q5 : gp_I s 57 3 = 0) (q6 : gp_I s 6 4 = 0) (q7 : gp_R s 25 6 = none) (q8 : gp_R s 25 7 = none) (q9 : gp_R s 25 8 = none) (q10 : gp_R s 25 9 = none) (q11 : ∀ k, k < 8 → gp_R s 4 k = some 25) (q12 : gp_R s 51 6 = some 55) (q13 : gp_R s 51 7 = some 56) (q14 : gp_us s = 606895) (q15 : gp_sz s = 117) (k : ∀ (t : gH), xM z t → (gp_I t 1 2 = 0) → (gp_I t 1 6 = 0) → (gp_I t 1 7 = 1) → ((-2147483648) ≤ gp_I t 2 1 ∧ gp_I t 2 1 ≤ 2147483647) → (gp_I t 51 8 = 0) → (gp_I t 57 1 = 0) → (gp_I t 57 3 = 0) → (gp_I t 6 4 = 0) → (gp_R t 25 6 = none) → (gp_R t 25 7 = none) → (gp_R t 25 8 = none) → (gp_R t 25 9 = none) → (∀ k, k < 8 → gp_R t 4 k = some 25) → (gp_R t 51 6 = some 55) → (gp_R t 51 7 = some 56) → (gp_us t = 606895) → (gp_sz t = 117) → K (some (gp_i (-1000000001))) t) : gs_C L (d + 1) 2831 3 [gp_r (some 1), gp_i p0, gp_i p1] s K := by
  refine s_2831_e _ _ ?_
  refine zx2856_2 _ hs (by omega) (by omega) (by omega) (by omega) (by omega) (by omega) (by omega) q7 q8 q9 q10 q11 q12 q13 (⟨_, rfl, ?_⟩)
  refine ⟨fun h_1 => ?_, fun h_1 => ?_⟩
  · refine zx2856_1 _ hs (by omega) (by omega) (by omega) (by omega) (by omega) (by omega) (by omega) q7 q8 q9 q10 q11 q12 q13 (⟨_, rfl, ?_⟩)
    refine ⟨fun h_2 => ?_, fun h_2 => ?_⟩
    · exfalso; omega
    · refine s_2831_14 _ _ ?_
      refine zx2855_1 hs (by omega) (by omega) (by omega) (by omega) (by omega) (by omega) (by omega) q7 q8 q9 q10 q11 q12 q13 q14 q15 (fun s_3 hs_4 q_5 q_6 q_7 q_8 q_9 q_10 q_11 q_12 q_13 q_14 q_15 q_16 q_17 q_18 q_19 q_20 q_21 => ⟨_, rfl, ?_⟩)
      exact k s_3 hs_4 (by omega) (by omega) (by omega) (by omega) (by omega) (by omega) (by omega) (by omega) q_13 q_14 q_15 q_16 q_17 q_18 q_19 q_20 q_21
  · exfalso; omega
set_option maxRecDepth 100000 in
/-- Table.options [25, (0, 0), (0, 0)] -/
theorem zx2307_0 {z : gH} {L d : Nat} {K : Option gV → gH → Prop} {s : gH}  (hs : xM z s)  (q0 : gp_R s 25 6 = none) (q1 : gp_R s 25 7 = none) (q2 : gp_R s 25 8 = none) (q3 : gp_R s 25 9 = none) (k : K (some (gp_l (0#64))) s) : gs_C L d 2307 3 [gp_r (some 25), gp_i 0, gp_i 0] s K := by
  refine s_2307_e _ _ _ ?_
  refine ⟨fun h_1 => ?_, fun h_1 => ?_⟩
  · refine ⟨25, rfl, ?_⟩
    refine ⟨rfl, ?_⟩
    try rw [show gp_R (gp_mk L s) 25 1 = some 26 from rfl]
    refine ⟨26, rfl, ?_⟩
    refine ⟨⟨rfl, by show 0 ≤ 0 ∧ 0 < 1; omega⟩, ?_⟩
    try rw [xr26 hs ((0 : Int).toNat)]
    refine s_2307_19 _ _ _ _ ?_
    exact k
  · exfalso; omega
set_option maxRecDepth 100000 in
/-- Table.shutNumber [25, (0, 0), (0, 0)] -/
theorem zx2308_0 {z : gH} {L d : Nat} {K : Option gV → gH → Prop} {s : gH}  (hs : xM z s)  (q0 : gp_R s 25 6 = none) (q1 : gp_R s 25 7 = none) (q2 : gp_R s 25 8 = none) (q3 : gp_R s 25 9 = none) (k : K (some (gp_i 0)) s) : gs_C L d 2308 3 [gp_r (some 25), gp_i 0, gp_i 0] s K := by
  refine s_2308_e _ _ _ ?_
  refine ⟨fun h_1 => ?_, fun h_1 => ?_⟩
  · refine ⟨25, rfl, ?_⟩
    refine ⟨rfl, ?_⟩
    try rw [show gp_R (gp_mk L s) 25 3 = some 28 from rfl]
    refine ⟨28, rfl, ?_⟩
    refine ⟨⟨rfl, by show 0 ≤ 0 ∧ 0 < 1; omega⟩, ?_⟩
    have f_2 := xr28 hs ((0 : Int).toNat)
    have e_3 : gp_I s 28 (0 : Int).toNat = 0 := by omega
    try rw [e_3]
    refine s_2308_19 _ _ _ _ ?_
    exact k
  · exfalso; omega
set_option maxRecDepth 100000 in
/-- Table.options [25, (0, 0), (1, 1)] -/
theorem zx2307_1 {z : gH} {L d : Nat} {K : Option gV → gH → Prop} {s : gH}  (hs : xM z s)  (q0 : gp_R s 25 6 = none) (q1 : gp_R s 25 7 = none) (q2 : gp_R s 25 8 = none) (q3 : gp_R s 25 9 = none) (k : K (some (gp_l (0#64))) s) : gs_C L d 2307 3 [gp_r (some 25), gp_i 0, gp_i 1] s K := by
  refine s_2307_e _ _ _ ?_
  refine ⟨fun h_1 => ?_, fun h_1 => ?_⟩
  · exfalso; omega
  · refine ⟨25, rfl, ?_⟩
    refine ⟨rfl, ?_⟩
    try rw [show gp_R (gp_mk L s) 25 2 = some 27 from rfl]
    refine ⟨27, rfl, ?_⟩
    refine ⟨⟨rfl, by show 0 ≤ 0 ∧ 0 < 1; omega⟩, ?_⟩
    try rw [xr27 hs ((0 : Int).toNat)]
    refine s_2307_19 _ _ _ _ ?_
    exact k
set_option maxRecDepth 100000 in
/-- Table.shutNumber [25, (0, 0), (1, 1)] -/
theorem zx2308_1 {z : gH} {L d : Nat} {K : Option gV → gH → Prop} {s : gH}  (hs : xM z s)  (q0 : gp_R s 25 6 = none) (q1 : gp_R s 25 7 = none) (q2 : gp_R s 25 8 = none) (q3 : gp_R s 25 9 = none) (k : K (some (gp_i 0)) s) : gs_C L d 2308 3 [gp_r (some 25), gp_i 0, gp_i 1] s K := by
  refine s_2308_e _ _ _ ?_
  refine ⟨fun h_1 => ?_, fun h_1 => ?_⟩
  · exfalso; omega
  · refine ⟨25, rfl, ?_⟩
    refine ⟨rfl, ?_⟩
    try rw [show gp_R (gp_mk L s) 25 4 = some 29 from rfl]
    refine ⟨29, rfl, ?_⟩
    refine ⟨⟨rfl, by show 0 ≤ 0 ∧ 0 < 1; omega⟩, ?_⟩
    have f_2 := xr29 hs ((0 : Int).toNat)
    have e_3 : gp_I s 29 (0 : Int).toNat = 0 := by omega
    try rw [e_3]
    refine s_2308_19 _ _ _ _ ?_
    exact k
set_option maxRecDepth 100000 in
/-- Measures.spread [25, (0, 0)] -/
theorem zx777_0 {z : gH} {L d : Nat} {K : Option gV → gH → Prop} {s : gH}  (hs : xM z s)  (q0 : gp_I s 1 2 = 0) (q1 : gp_I s 1 6 = 0) (q2 : gp_I s 1 7 = 1) (q3 : gp_I s 51 8 = 0) (q4 : gp_I s 57 1 = 0) (q5 : gp_I s 57 3 = 0) (q6 : gp_I s 6 4 = 0) (q7 : gp_R s 25 6 = none) (q8 : gp_R s 25 7 = none) (q9 : gp_R s 25 8 = none) (q10 : gp_R s 25 9 = none) (q11 : ∀ k, k < 8 → gp_R s 4 k = some 25) (q12 : gp_R s 51 6 = some 55) (q13 : gp_R s 51 7 = some 56) (q14 : gp_us s = 606895) (q15 : gp_sz s = 117) (k : ∀ (t : gH), xM z t → (gp_I t 1 2 = 0) → (gp_I t 1 6 = 0) → (gp_I t 1 7 = 1) → (gp_I t 51 8 = 0) → (gp_I t 57 1 = 0) → (gp_I t 57 3 = 0) → (gp_I t 6 4 = 0) → (gp_R t 25 6 = none) → (gp_R t 25 7 = none) → (gp_R t 25 8 = none) → (gp_R t 25 9 = none) → (∀ k, k < 8 → gp_R t 4 k = some 25) → (gp_R t 51 6 = some 55) → (gp_R t 51 7 = some 56) → (gp_us t = 606895) → (gp_sz t = 117) → K none t) : gs_C L (d + 1) 777 8 [gp_r (some 31), gp_r (some 25), gp_i 0] s K := by
  refine s_777_e _ _ ?_
  refine s_777_10 _ _ _ _ _ _ _ ?_
  refine ⟨fun h_2 => ?_, fun h_2 => ?_⟩
  · refine ⟨25, rfl, ?_⟩
    refine ⟨rfl, ?_⟩
    refine zx2307_0 hs q7 q8 q9 q10 (⟨_, rfl, ?_⟩)
    have e_3 : gp_cmp (0#64) (0#64) = 0 := by decide
    try rw [e_3]
    refine ⟨fun h_4 => ?_, fun h_4 => ?_⟩
    · refine ⟨rfl, ?_⟩
      refine zx2308_0 hs q7 q8 q9 q10 (⟨_, rfl, ?_⟩)
      have w_5 := gz_mi (2147483647) (0)
      have e_6 : gp_mi 2147483647 0 = 0 := by omega
      try rw [e_6]
      refine ⟨rfl, ?_⟩
      refine zx2308_0 hs q7 q8 q9 q10 (⟨_, rfl, ?_⟩)
      have w_7 := gz_mx ((-2147483648)) (0)
      have e_8 : gp_mx (-2147483648) 0 = 0 := by omega
      try rw [e_8]
      refine s_777_54 _ _ _ _ _ _ _ ?_
      have w_10 := gz_w (0 + 1)
      have e_11 : gp_wr (0 + 1) = 1 := by omega
      try rw [e_11]
      refine s_777_10 _ _ _ _ _ _ _ ?_
      refine ⟨fun h_13 => ?_, fun h_13 => ?_⟩
      · refine ⟨25, rfl, ?_⟩
        refine ⟨rfl, ?_⟩
        refine zx2307_1 hs q7 q8 q9 q10 (⟨_, rfl, ?_⟩)
        have e_14 : gp_cmp (0#64) (0#64) = 0 := by decide
        try rw [e_14]
        refine ⟨fun h_15 => ?_, fun h_15 => ?_⟩
        · refine ⟨rfl, ?_⟩
          refine zx2308_1 hs q7 q8 q9 q10 (⟨_, rfl, ?_⟩)
          have w_16 := gz_mi (0) (0)
          have e_17 : gp_mi 0 0 = 0 := by omega
          try rw [e_17]
          refine ⟨rfl, ?_⟩
          refine zx2308_1 hs q7 q8 q9 q10 (⟨_, rfl, ?_⟩)
          have w_18 := gz_mx (0) (0)
          have e_19 : gp_mx 0 0 = 0 := by omega
          try rw [e_19]
          refine s_777_54 _ _ _ _ _ _ _ ?_
          have w_21 := gz_w (1 + 1)
          have e_22 : gp_wr (1 + 1) = 2 := by omega
          try rw [e_22]
          refine s_777_10 _ _ _ _ _ _ _ ?_
          refine ⟨fun h_24 => ?_, fun h_24 => ?_⟩
          · exfalso; omega
          · refine ⟨25, rfl, ?_⟩
            refine ⟨rfl, ?_⟩
            try rw [show gp_R (gp_mk L s) 25 1 = some 26 from rfl]
            refine ⟨26, rfl, ?_⟩
            refine ⟨⟨rfl, by show 0 ≤ 0 ∧ 0 < 1; omega⟩, ?_⟩
            try rw [xr26 hs ((0 : Int).toNat)]
            refine ⟨rfl, ?_⟩
            try rw [show gp_R (gp_mk L s) 25 2 = some 27 from rfl]
            refine ⟨27, rfl, ?_⟩
            refine ⟨⟨rfl, by show 0 ≤ 0 ∧ 0 < 1; omega⟩, ?_⟩
            try rw [xr27 hs ((0 : Int).toNat)]
            have e_25 : (0#64) ||| (0#64) = 0#64 := by decide
            try rw [e_25]
            refine s_777_75 _ _ _ _ _ _ ?_
            have e_27 : gp_cmp (0#64) (0#64) = 0 := by decide
            try rw [e_27]
            refine ⟨fun h_28 => ?_, fun h_28 => ?_⟩
            · refine ⟨by omega, ?_⟩
              intro s_29 e_30
              have hs_31 : xM z s_29 := by rw [e_30]; exact xw36 hs _ _ (by omega)
              have q_32 : gp_I s_29 1 2 = 0 := by rw [e_30]; exact q0
              have q_33 : gp_I s_29 1 6 = 0 := by rw [e_30]; exact q1
              have q_34 : gp_I s_29 1 7 = 1 := by rw [e_30]; exact q2
              have q_35 : gp_I s_29 51 8 = 0 := by rw [e_30]; exact q3
              have q_36 : gp_I s_29 57 1 = 0 := by rw [e_30]; exact q4
              have q_37 : gp_I s_29 57 3 = 0 := by rw [e_30]; exact q5
              have q_38 : gp_I s_29 6 4 = 0 := by rw [e_30]; exact q6
              have q_39 : gp_R s_29 25 6 = none := by rw [e_30]; exact q7
              have q_40 : gp_R s_29 25 7 = none := by rw [e_30]; exact q8
              have q_41 : gp_R s_29 25 8 = none := by rw [e_30]; exact q9
              have q_42 : gp_R s_29 25 9 = none := by rw [e_30]; exact q10
              have q_43 : ∀ k, k < 8 → gp_R s_29 4 k = some 25 := by rw [e_30]; exact q11
              have q_44 : gp_R s_29 51 6 = some 55 := by rw [e_30]; exact q12
              have q_45 : gp_R s_29 51 7 = some 56 := by rw [e_30]; exact q13
              have q_46 : gp_us s_29 = 606895 := by rw [e_30]; exact q14
              have q_47 : gp_sz s_29 = 117 := by rw [e_30]; exact q15
              refine ⟨by omega, ?_⟩
              intro s_48 e_49
              have hs_50 : xM z s_48 := by rw [e_49]; exact xw37 hs_31 _ _ (by omega)
              have q_51 : gp_I s_48 1 2 = 0 := by rw [e_49]; exact q_32
              have q_52 : gp_I s_48 1 6 = 0 := by rw [e_49]; exact q_33
              have q_53 : gp_I s_48 1 7 = 1 := by rw [e_49]; exact q_34
              have q_54 : gp_I s_48 51 8 = 0 := by rw [e_49]; exact q_35
              have q_55 : gp_I s_48 57 1 = 0 := by rw [e_49]; exact q_36
              have q_56 : gp_I s_48 57 3 = 0 := by rw [e_49]; exact q_37
              have q_57 : gp_I s_48 6 4 = 0 := by rw [e_49]; exact q_38
              have q_58 : gp_R s_48 25 6 = none := by rw [e_49]; exact q_39
              have q_59 : gp_R s_48 25 7 = none := by rw [e_49]; exact q_40
              have q_60 : gp_R s_48 25 8 = none := by rw [e_49]; exact q_41
              have q_61 : gp_R s_48 25 9 = none := by rw [e_49]; exact q_42
              have q_62 : ∀ k, k < 8 → gp_R s_48 4 k = some 25 := by rw [e_49]; exact q_43
              have q_63 : gp_R s_48 51 6 = some 55 := by rw [e_49]; exact q_44
              have q_64 : gp_R s_48 51 7 = some 56 := by rw [e_49]; exact q_45
              have q_65 : gp_us s_48 = 606895 := by rw [e_49]; exact q_46
              have q_66 : gp_sz s_48 = 117 := by rw [e_49]; exact q_47
              exact k s_48 hs_50 (by omega) (by omega) (by omega) (by omega) (by omega) (by omega) (by omega) q_58 q_59 q_60 q_61 q_62 q_63 q_64 q_65 q_66
            · exfalso; omega
        · exfalso; omega
      · exfalso; omega
    · exfalso; omega
  · exfalso; omega
set_option maxRecDepth 100000 in
/-- Measures.sure [25] -/
theorem zx776_0 {z : gH} {L d : Nat} {K : Option gV → gH → Prop} {s : gH}  (hs : xM z s)  (q0 : gp_I s 1 2 = 0) (q1 : gp_I s 1 6 = 0) (q2 : gp_I s 1 7 = 1) (q3 : gp_I s 51 8 = 0) (q4 : gp_I s 57 1 = 0) (q5 : gp_I s 57 3 = 0) (q6 : gp_I s 6 4 = 0) (q7 : gp_R s 25 6 = none) (q8 : gp_R s 25 7 = none) (q9 : gp_R s 25 8 = none) (q10 : gp_R s 25 9 = none) (q11 : ∀ k, k < 8 → gp_R s 4 k = some 25) (q12 : gp_R s 51 6 = some 55) (q13 : gp_R s 51 7 = some 56) (q14 : gp_us s = 606895) (q15 : gp_sz s = 117) (k : ∀ (t : gH), xM z t → (gp_I t 1 2 = 0) → (gp_I t 1 6 = 0) → (gp_I t 1 7 = 1) → (gp_I t 51 8 = 0) → (gp_I t 57 1 = 0) → (gp_I t 57 3 = 0) → (gp_I t 6 4 = 0) → (gp_R t 25 6 = none) → (gp_R t 25 7 = none) → (gp_R t 25 8 = none) → (gp_R t 25 9 = none) → (∀ k, k < 8 → gp_R t 4 k = some 25) → (gp_R t 51 6 = some 55) → (gp_R t 51 7 = some 56) → (gp_us t = 606895) → (gp_sz t = 117) → K (some (gp_i 1)) t) : gs_C L (d + 2) 776 3 [gp_r (some 31), gp_r (some 25)] s K := by
  refine s_776_e _ ?_
  refine s_776_2 _ _ ?_
  refine ⟨25, rfl, ?_⟩
  refine ⟨rfl, ?_⟩
  have f_2 := xr25_0 hs 0
  have e_3 : gp_I s 25 0 = 1 := by omega
  try rw [e_3]
  refine ⟨fun h_4 => ?_, fun h_4 => ?_⟩
  · refine zx777_0 hs (by omega) (by omega) (by omega) (by omega) (by omega) (by omega) (by omega) q7 q8 q9 q10 q11 q12 q13 q14 q15 (fun s_5 hs_6 q_7 q_8 q_9 q_10 q_11 q_12 q_13 q_14 q_15 q_16 q_17 q_18 q_19 q_20 q_21 q_22 => ⟨rfl, ?_⟩)
    refine ⟨rfl, ?_⟩
    try rw [show gp_R (gp_mk L s_5) 25 1 = some 26 from rfl]
    refine ⟨26, rfl, ?_⟩
    refine ⟨⟨rfl, by show 0 ≤ 0 ∧ 0 < 1; omega⟩, ?_⟩
    try rw [xr26 hs_6 ((0 : Int).toNat)]
    have e_23 : gp_cmp (0#64) (0#64) = 0 := by decide
    try rw [e_23]
    refine ⟨fun h_24 => ?_, fun h_24 => ?_⟩
    · refine ⟨by omega, ?_⟩
      have f_25 := xr36 hs_6 ((0 : Int).toNat)
      have e_26 : gp_I s_5 36 (0 : Int).toNat = 0 := by omega
      try rw [e_26]
      refine ⟨rfl, ?_⟩
      try rw [show gp_R (gp_mk L s_5) 25 3 = some 28 from rfl]
      refine ⟨28, rfl, ?_⟩
      refine ⟨⟨rfl, by show 0 ≤ 0 ∧ 0 < 1; omega⟩, ?_⟩
      have f_27 := xr28 hs_6 ((0 : Int).toNat)
      have e_28 : gp_I s_5 28 (0 : Int).toNat = 0 := by omega
      try rw [e_28]
      refine ⟨fun h_29 => ?_, fun h_29 => ?_⟩
      · exfalso; omega
      · refine s_776_42 _ _ ?_
        refine ⟨25, rfl, ?_⟩
        refine ⟨rfl, ?_⟩
        try rw [show gp_R (gp_mk L s_5) 25 2 = some 27 from rfl]
        refine ⟨27, rfl, ?_⟩
        refine ⟨⟨rfl, by show 0 ≤ 0 ∧ 0 < 1; omega⟩, ?_⟩
        try rw [xr27 hs_6 ((0 : Int).toNat)]
        have e_31 : gp_cmp (0#64) (0#64) = 0 := by decide
        try rw [e_31]
        refine ⟨fun h_32 => ?_, fun h_32 => ?_⟩
        · refine ⟨by omega, ?_⟩
          have f_33 := xr37 hs_6 ((0 : Int).toNat)
          have e_34 : gp_I s_5 37 (0 : Int).toNat = 0 := by omega
          try rw [e_34]
          refine ⟨rfl, ?_⟩
          try rw [show gp_R (gp_mk L s_5) 25 4 = some 29 from rfl]
          refine ⟨29, rfl, ?_⟩
          refine ⟨⟨rfl, by show 0 ≤ 0 ∧ 0 < 1; omega⟩, ?_⟩
          have f_35 := xr29 hs_6 ((0 : Int).toNat)
          have e_36 : gp_I s_5 29 (0 : Int).toNat = 0 := by omega
          try rw [e_36]
          refine ⟨fun h_37 => ?_, fun h_37 => ?_⟩
          · exfalso; omega
          · refine s_776_70 _ _ ?_
            have w_39 := gz_w (0 + 1)
            have e_40 : gp_wr (0 + 1) = 1 := by omega
            try rw [e_40]
            refine s_776_2 _ _ ?_
            refine ⟨25, rfl, ?_⟩
            refine ⟨rfl, ?_⟩
            have f_42 := xr25_0 hs_6 0
            have e_43 : gp_I s_5 25 0 = 1 := by omega
            try rw [e_43]
            refine ⟨fun h_44 => ?_, fun h_44 => ?_⟩
            · exfalso; omega
            · exact k s_5 hs_6 (by omega) (by omega) (by omega) (by omega) (by omega) (by omega) (by omega) q_14 q_15 q_16 q_17 q_18 q_19 q_20 q_21 q_22
        · exfalso; omega
    · exfalso; omega
  · exfalso; omega
set_option maxRecDepth 100000 in
/-- GatheredPoints.carried [0, 45] -/
theorem zx2863_2 {z : gH} {L d : Nat} {K : Option gV → gH → Prop} {s : gH}  (hs : xM z s)  (q0 : gp_I s 1 2 = 0) (q1 : gp_I s 1 6 = 0) (q2 : gp_I s 1 7 = 1) (q3 : gp_I s 51 8 = 0) (q4 : gp_I s 57 1 = 0) (q5 : gp_I s 57 3 = 0) (q6 : gp_R s 25 6 = none) (q7 : gp_R s 25 7 = none) (q8 : gp_R s 25 8 = none) (q9 : gp_R s 25 9 = none) (q10 : ∀ k, k < 8 → gp_R s 4 k = some 25) (q11 : gp_R s 51 6 = some 55) (q12 : gp_R s 51 7 = some 56) (k : K (some (gp_l (0#64))) s) : gs_C L (d + 1) 2863 7 [gp_l (0#64), gp_r (some 45)] s K := by
  refine s_2863_e _ _ ?_
  refine s_2863_5 _ _ _ _ ?_
  have e_2 : gp_cmp (0#64) (0#64) = 0 := by decide
  try rw [e_2]
  refine ⟨fun h_3 => ?_, fun h_3 => ?_⟩
  · exact k
  · exfalso; omega
set_option maxRecDepth 100000 in
/-- Measures.highestOf [0, 33, (0, 0)] -/
theorem zx774_0 {z : gH} {L d : Nat} {K : Option gV → gH → Prop} {s : gH}  (hs : xM z s)  (q0 : gp_I s 1 2 = 0) (q1 : gp_I s 1 6 = 0) (q2 : gp_I s 1 7 = 1) (q3 : gp_I s 51 8 = 0) (q4 : gp_I s 57 1 = 0) (q5 : gp_I s 57 3 = 0) (q6 : gp_R s 25 6 = none) (q7 : gp_R s 25 7 = none) (q8 : gp_R s 25 8 = none) (q9 : gp_R s 25 9 = none) (q10 : ∀ k, k < 8 → gp_R s 4 k = some 25) (q11 : gp_R s 51 6 = some 55) (q12 : gp_R s 51 7 = some 56) (k : K (some (gp_i (-2147483648))) s) : gs_C L (d + 1) 774 7 [gp_l (0#64), gp_r (some 33), gp_i 0] s K := by
  refine s_774_e _ _ _ ?_
  refine s_774_7 _ _ _ _ _ ?_
  have e_2 : gp_cmp (0#64) (0#64) = 0 := by decide
  try rw [e_2]
  refine ⟨fun h_3 => ?_, fun h_3 => ?_⟩
  · exact k
  · exfalso; omega
set_option maxRecDepth 100000 in
/-- Measures.highestOf [0, 33, (1, 1)] -/
theorem zx774_1 {z : gH} {L d : Nat} {K : Option gV → gH → Prop} {s : gH}  (hs : xM z s)  (q0 : gp_I s 1 2 = 0) (q1 : gp_I s 1 6 = 0) (q2 : gp_I s 1 7 = 1) (q3 : gp_I s 51 8 = 0) (q4 : gp_I s 57 1 = 0) (q5 : gp_I s 57 3 = 0) (q6 : gp_R s 25 6 = none) (q7 : gp_R s 25 7 = none) (q8 : gp_R s 25 8 = none) (q9 : gp_R s 25 9 = none) (q10 : ∀ k, k < 8 → gp_R s 4 k = some 25) (q11 : gp_R s 51 6 = some 55) (q12 : gp_R s 51 7 = some 56) (k : K (some (gp_i (-2147483648))) s) : gs_C L (d + 1) 774 7 [gp_l (0#64), gp_r (some 33), gp_i 1] s K := by
  refine s_774_e _ _ _ ?_
  refine s_774_7 _ _ _ _ _ ?_
  have e_2 : gp_cmp (0#64) (0#64) = 0 := by decide
  try rw [e_2]
  refine ⟨fun h_3 => ?_, fun h_3 => ?_⟩
  · exact k
  · exfalso; omega
set_option maxRecDepth 100000 in
/-- Measures.addWaits [7, (0, 0), (1, 1)] -/
theorem zx772_0 {z : gH} {L d : Nat} {K : Option gV → gH → Prop} {s : gH}  (hs : xM z s)  (q0 : gp_I s 1 2 = 0) (q1 : gp_I s 1 6 = 0) (q2 : gp_I s 1 7 = 1) (q3 : gp_I s 51 8 = 0) (q4 : gp_I s 57 1 = 0) (q5 : gp_I s 57 3 = 0) (q6 : gp_I s 6 4 = 0) (q7 : gp_R s 25 6 = none) (q8 : gp_R s 25 7 = none) (q9 : gp_R s 25 8 = none) (q10 : gp_R s 25 9 = none) (q11 : ∀ k, k < 8 → gp_R s 4 k = some 25) (q12 : gp_R s 51 6 = some 55) (q13 : gp_R s 51 7 = some 56) (q14 : gp_us s = 606895) (q15 : gp_sz s = 117) (k : ∀ (t : gH), xM z t → (gp_I t 1 2 = 0) → (gp_I t 1 6 = 0) → (gp_I t 1 7 = 1) → (gp_I t 51 8 = 0) → (gp_I t 57 1 = 0) → (gp_I t 57 3 = 0) → (gp_I t 6 4 = 0) → (gp_R t 25 6 = none) → (gp_R t 25 7 = none) → (gp_R t 25 8 = none) → (gp_R t 25 9 = none) → (∀ k, k < 8 → gp_R t 4 k = some 25) → (gp_R t 51 6 = some 55) → (gp_R t 51 7 = some 56) → (gp_us t = 606895) → (gp_sz t = 117) → K none t) : gs_C L (d + 2) 772 7 [gp_r (some 31), gp_r (some 7), gp_i 0, gp_i 1] s K := by
  refine s_772_e _ _ _ ?_
  have w_1 := gz_w (0 * 61)
  have e_2 : gp_wr (0 * 61) = 0 := by omega
  try rw [e_2]
  refine s_772_9 _ _ _ _ _ _ ?_
  refine ⟨fun h_4 => ?_, fun h_4 => ?_⟩
  · exfalso; omega
  · refine ⟨7, rfl, ?_⟩
    refine ⟨rfl, ?_⟩
    try rw [show gp_R (gp_mk L s) 7 1 = some 8 from rfl]
    refine ⟨8, rfl, ?_⟩
    refine ⟨⟨rfl, by show 0 ≤ 0 ∧ 0 < 61; omega⟩, ?_⟩
    try rw [xr8 hs ((0 : Int).toNat)]
    refine zx774_0 hs (by omega) (by omega) (by omega) (by omega) (by omega) (by omega) q7 q8 q9 q10 q11 q12 q13 (⟨_, rfl, ?_⟩)
    refine ⟨fun h_5 => ?_, fun h_5 => ?_⟩
    · exfalso; omega
    · refine ⟨rfl, ?_⟩
      try rw [show gp_R (gp_mk L s) 7 1 = some 8 from rfl]
      refine ⟨8, rfl, ?_⟩
      refine ⟨⟨rfl, by show 0 ≤ 0 ∧ 0 < 61; omega⟩, ?_⟩
      try rw [xr8 hs ((0 : Int).toNat)]
      have e_6 : gp_cmp (0#64) (0#64) = 0 := by decide
      try rw [e_6]
      refine ⟨fun h_7 => ?_, fun h_7 => ?_⟩
      · refine ⟨rfl, ?_⟩
        try rw [show gp_R (gp_mk L s) 7 3 = some 10 from rfl]
        refine ⟨10, rfl, ?_⟩
        refine ⟨⟨rfl, by show 0 ≤ 0 ∧ 0 < 61; omega⟩, ?_⟩
        have f_8 := xr10 hs ((0 : Int).toNat)
        have e_9 : gp_I s 10 (0 : Int).toNat = 0 := by omega
        try rw [e_9]
        refine s_772_78 _ _ _ _ _ _ ?_
        have w_11 := gz_w (0 + 0)
        have e_12 : gp_wr (0 + 0) = 0 := by omega
        try rw [e_12]
        refine ⟨by omega, ?_⟩
        intro s_13 e_14
        have hs_15 : xM z s_13 := by rw [e_14]; exact xw32 hs _ _ (by omega)
        have q_16 : gp_I s_13 1 2 = 0 := by rw [e_14]; exact q0
        have q_17 : gp_I s_13 1 6 = 0 := by rw [e_14]; exact q1
        have q_18 : gp_I s_13 1 7 = 1 := by rw [e_14]; exact q2
        have q_19 : gp_I s_13 51 8 = 0 := by rw [e_14]; exact q3
        have q_20 : gp_I s_13 57 1 = 0 := by rw [e_14]; exact q4
        have q_21 : gp_I s_13 57 3 = 0 := by rw [e_14]; exact q5
        have q_22 : gp_I s_13 6 4 = 0 := by rw [e_14]; exact q6
        have q_23 : gp_R s_13 25 6 = none := by rw [e_14]; exact q7
        have q_24 : gp_R s_13 25 7 = none := by rw [e_14]; exact q8
        have q_25 : gp_R s_13 25 8 = none := by rw [e_14]; exact q9
        have q_26 : gp_R s_13 25 9 = none := by rw [e_14]; exact q10
        have q_27 : ∀ k, k < 8 → gp_R s_13 4 k = some 25 := by rw [e_14]; exact q11
        have q_28 : gp_R s_13 51 6 = some 55 := by rw [e_14]; exact q12
        have q_29 : gp_R s_13 51 7 = some 56 := by rw [e_14]; exact q13
        have q_30 : gp_us s_13 = 606895 := by rw [e_14]; exact q14
        have q_31 : gp_sz s_13 = 117 := by rw [e_14]; exact q15
        have w_32 := gz_w (0 + 0)
        have e_33 : gp_wr (0 + 0) = 0 := by omega
        try rw [e_33]
        refine ⟨7, rfl, ?_⟩
        refine ⟨rfl, ?_⟩
        try rw [show gp_R (gp_mk L s_13) 7 2 = some 9 from rfl]
        refine ⟨9, rfl, ?_⟩
        refine ⟨⟨rfl, by show 0 ≤ 0 ∧ 0 < 61; omega⟩, ?_⟩
        try rw [xr9 hs_15 ((0 : Int).toNat)]
        have e_34 : gp_cmp (0#64) (0#64) = 0 := by decide
        try rw [e_34]
        refine ⟨fun h_35 => ?_, fun h_35 => ?_⟩
        · refine ⟨rfl, ?_⟩
          try rw [show gp_R (gp_mk L s_13) 7 4 = some 11 from rfl]
          refine ⟨11, rfl, ?_⟩
          refine ⟨⟨rfl, by show 0 ≤ 0 ∧ 0 < 61; omega⟩, ?_⟩
          have f_36 := xr11 hs_15 ((0 : Int).toNat)
          have e_37 : gp_I s_13 11 (0 : Int).toNat = 0 := by omega
          try rw [e_37]
          refine s_772_134 _ _ _ _ _ _ _ _ ?_
          refine ⟨by omega, ?_⟩
          intro s_39 e_40
          have hs_41 : xM z s_39 := by rw [e_40]; exact xw33 hs_15 _ _ (by omega)
          have q_42 : gp_I s_39 1 2 = 0 := by rw [e_40]; exact q_16
          have q_43 : gp_I s_39 1 6 = 0 := by rw [e_40]; exact q_17
          have q_44 : gp_I s_39 1 7 = 1 := by rw [e_40]; exact q_18
          have q_45 : gp_I s_39 51 8 = 0 := by rw [e_40]; exact q_19
          have q_46 : gp_I s_39 57 1 = 0 := by rw [e_40]; exact q_20
          have q_47 : gp_I s_39 57 3 = 0 := by rw [e_40]; exact q_21
          have q_48 : gp_I s_39 6 4 = 0 := by rw [e_40]; exact q_22
          have q_49 : gp_R s_39 25 6 = none := by rw [e_40]; exact q_23
          have q_50 : gp_R s_39 25 7 = none := by rw [e_40]; exact q_24
          have q_51 : gp_R s_39 25 8 = none := by rw [e_40]; exact q_25
          have q_52 : gp_R s_39 25 9 = none := by rw [e_40]; exact q_26
          have q_53 : ∀ k, k < 8 → gp_R s_39 4 k = some 25 := by rw [e_40]; exact q_27
          have q_54 : gp_R s_39 51 6 = some 55 := by rw [e_40]; exact q_28
          have q_55 : gp_R s_39 51 7 = some 56 := by rw [e_40]; exact q_29
          have q_56 : gp_us s_39 = 606895 := by rw [e_40]; exact q_30
          have q_57 : gp_sz s_39 = 117 := by rw [e_40]; exact q_31
          have w_58 := gz_w (0 + 1)
          have e_59 : gp_wr (0 + 1) = 1 := by omega
          try rw [e_59]
          refine s_772_9 _ _ _ _ _ _ ?_
          refine ⟨fun h_61 => ?_, fun h_61 => ?_⟩
          · exfalso; omega
          · refine ⟨7, rfl, ?_⟩
            refine ⟨rfl, ?_⟩
            try rw [show gp_R (gp_mk L s_39) 7 1 = some 8 from rfl]
            refine ⟨8, rfl, ?_⟩
            refine ⟨⟨rfl, by show 0 ≤ 0 ∧ 0 < 61; omega⟩, ?_⟩
            try rw [xr8 hs_41 ((0 : Int).toNat)]
            refine zx774_1 hs_41 (by omega) (by omega) (by omega) (by omega) (by omega) (by omega) q_49 q_50 q_51 q_52 q_53 q_54 q_55 (⟨_, rfl, ?_⟩)
            refine ⟨fun h_62 => ?_, fun h_62 => ?_⟩
            · have w_63 := gz_w (0 + 1)
              have e_64 : gp_wr (0 + 1) = 1 := by omega
              try rw [e_64]
              have w_65 := gz_w (1 - 1)
              have e_66 : gp_wr (1 - 1) = 0 := by omega
              try rw [e_66]
              refine ⟨by omega, ?_⟩
              have f_67 := xr33 hs_41 ((0 : Int).toNat)
              have e_68 : gp_I s_39 33 (0 : Int).toNat = 0 := by omega
              try rw [e_68]
              have w_69 := gz_mx ((-2147483648)) (0)
              have e_70 : gp_mx (-2147483648) 0 = 0 := by omega
              try rw [e_70]
              refine s_772_78 _ _ _ _ _ _ ?_
              have w_72 := gz_w (0 + 1)
              have e_73 : gp_wr (0 + 1) = 1 := by omega
              try rw [e_73]
              refine ⟨by omega, ?_⟩
              intro s_74 e_75
              have hs_76 : xM z s_74 := by rw [e_75]; exact xw32 hs_41 _ _ (by omega)
              have q_77 : gp_I s_74 1 2 = 0 := by rw [e_75]; exact q_42
              have q_78 : gp_I s_74 1 6 = 0 := by rw [e_75]; exact q_43
              have q_79 : gp_I s_74 1 7 = 1 := by rw [e_75]; exact q_44
              have q_80 : gp_I s_74 51 8 = 0 := by rw [e_75]; exact q_45
              have q_81 : gp_I s_74 57 1 = 0 := by rw [e_75]; exact q_46
              have q_82 : gp_I s_74 57 3 = 0 := by rw [e_75]; exact q_47
              have q_83 : gp_I s_74 6 4 = 0 := by rw [e_75]; exact q_48
              have q_84 : gp_R s_74 25 6 = none := by rw [e_75]; exact q_49
              have q_85 : gp_R s_74 25 7 = none := by rw [e_75]; exact q_50
              have q_86 : gp_R s_74 25 8 = none := by rw [e_75]; exact q_51
              have q_87 : gp_R s_74 25 9 = none := by rw [e_75]; exact q_52
              have q_88 : ∀ k, k < 8 → gp_R s_74 4 k = some 25 := by rw [e_75]; exact q_53
              have q_89 : gp_R s_74 51 6 = some 55 := by rw [e_75]; exact q_54
              have q_90 : gp_R s_74 51 7 = some 56 := by rw [e_75]; exact q_55
              have q_91 : gp_us s_74 = 606895 := by rw [e_75]; exact q_56
              have q_92 : gp_sz s_74 = 117 := by rw [e_75]; exact q_57
              have w_93 := gz_w (0 + 1)
              have e_94 : gp_wr (0 + 1) = 1 := by omega
              try rw [e_94]
              refine ⟨7, rfl, ?_⟩
              refine ⟨rfl, ?_⟩
              try rw [show gp_R (gp_mk L s_74) 7 2 = some 9 from rfl]
              refine ⟨9, rfl, ?_⟩
              refine ⟨⟨rfl, by show 0 ≤ 0 ∧ 0 < 61; omega⟩, ?_⟩
              try rw [xr9 hs_76 ((0 : Int).toNat)]
              have e_95 : gp_cmp (0#64) (0#64) = 0 := by decide
              try rw [e_95]
              refine ⟨fun h_96 => ?_, fun h_96 => ?_⟩
              · refine ⟨rfl, ?_⟩
                try rw [show gp_R (gp_mk L s_74) 7 4 = some 11 from rfl]
                refine ⟨11, rfl, ?_⟩
                refine ⟨⟨rfl, by show 0 ≤ 0 ∧ 0 < 61; omega⟩, ?_⟩
                have f_97 := xr11 hs_76 ((0 : Int).toNat)
                have e_98 : gp_I s_74 11 (0 : Int).toNat = 0 := by omega
                try rw [e_98]
                refine s_772_134 _ _ _ _ _ _ _ _ ?_
                refine ⟨by omega, ?_⟩
                intro s_100 e_101
                have hs_102 : xM z s_100 := by rw [e_101]; exact xw33 hs_76 _ _ (by omega)
                have q_103 : gp_I s_100 1 2 = 0 := by rw [e_101]; exact q_77
                have q_104 : gp_I s_100 1 6 = 0 := by rw [e_101]; exact q_78
                have q_105 : gp_I s_100 1 7 = 1 := by rw [e_101]; exact q_79
                have q_106 : gp_I s_100 51 8 = 0 := by rw [e_101]; exact q_80
                have q_107 : gp_I s_100 57 1 = 0 := by rw [e_101]; exact q_81
                have q_108 : gp_I s_100 57 3 = 0 := by rw [e_101]; exact q_82
                have q_109 : gp_I s_100 6 4 = 0 := by rw [e_101]; exact q_83
                have q_110 : gp_R s_100 25 6 = none := by rw [e_101]; exact q_84
                have q_111 : gp_R s_100 25 7 = none := by rw [e_101]; exact q_85
                have q_112 : gp_R s_100 25 8 = none := by rw [e_101]; exact q_86
                have q_113 : gp_R s_100 25 9 = none := by rw [e_101]; exact q_87
                have q_114 : ∀ k, k < 8 → gp_R s_100 4 k = some 25 := by rw [e_101]; exact q_88
                have q_115 : gp_R s_100 51 6 = some 55 := by rw [e_101]; exact q_89
                have q_116 : gp_R s_100 51 7 = some 56 := by rw [e_101]; exact q_90
                have q_117 : gp_us s_100 = 606895 := by rw [e_101]; exact q_91
                have q_118 : gp_sz s_100 = 117 := by rw [e_101]; exact q_92
                have w_119 := gz_w (1 + 1)
                have e_120 : gp_wr (1 + 1) = 2 := by omega
                try rw [e_120]
                refine s_772_9 _ _ _ _ _ _ ?_
                refine ⟨fun h_122 => ?_, fun h_122 => ?_⟩
                · exact k s_100 hs_102 (by omega) (by omega) (by omega) (by omega) (by omega) (by omega) (by omega) q_110 q_111 q_112 q_113 q_114 q_115 q_116 q_117 q_118
                · exfalso; omega
              · exfalso; omega
            · exfalso; omega
        · exfalso; omega
      · exfalso; omega
set_option maxRecDepth 100000 in
/-- Measures.lowestOf [0, 34, (0, 0)] -/
theorem zx775_0 {z : gH} {L d : Nat} {K : Option gV → gH → Prop} {s : gH}  (hs : xM z s)  (q0 : gp_I s 1 2 = 0) (q1 : gp_I s 1 6 = 0) (q2 : gp_I s 1 7 = 1) (q3 : gp_I s 51 8 = 0) (q4 : gp_I s 57 1 = 0) (q5 : gp_I s 57 3 = 0) (q6 : gp_R s 25 6 = none) (q7 : gp_R s 25 7 = none) (q8 : gp_R s 25 8 = none) (q9 : gp_R s 25 9 = none) (q10 : ∀ k, k < 8 → gp_R s 4 k = some 25) (q11 : gp_R s 51 6 = some 55) (q12 : gp_R s 51 7 = some 56) (k : K (some (gp_i 2147483647)) s) : gs_C L (d + 1) 775 7 [gp_l (0#64), gp_r (some 34), gp_i 0] s K := by
  refine s_775_e _ _ _ ?_
  refine s_775_7 _ _ _ _ _ ?_
  have e_2 : gp_cmp (0#64) (0#64) = 0 := by decide
  try rw [e_2]
  refine ⟨fun h_3 => ?_, fun h_3 => ?_⟩
  · exact k
  · exfalso; omega
set_option maxRecDepth 100000 in
/-- Measures.lowestOf [0, 34, (1, 1)] -/
theorem zx775_1 {z : gH} {L d : Nat} {K : Option gV → gH → Prop} {s : gH}  (hs : xM z s)  (q0 : gp_I s 1 2 = 0) (q1 : gp_I s 1 6 = 0) (q2 : gp_I s 1 7 = 1) (q3 : gp_I s 51 8 = 0) (q4 : gp_I s 57 1 = 0) (q5 : gp_I s 57 3 = 0) (q6 : gp_R s 25 6 = none) (q7 : gp_R s 25 7 = none) (q8 : gp_R s 25 8 = none) (q9 : gp_R s 25 9 = none) (q10 : ∀ k, k < 8 → gp_R s 4 k = some 25) (q11 : gp_R s 51 6 = some 55) (q12 : gp_R s 51 7 = some 56) (k : K (some (gp_i 2147483647)) s) : gs_C L (d + 1) 775 7 [gp_l (0#64), gp_r (some 34), gp_i 1] s K := by
  refine s_775_e _ _ _ ?_
  refine s_775_7 _ _ _ _ _ ?_
  have e_2 : gp_cmp (0#64) (0#64) = 0 := by decide
  try rw [e_2]
  refine ⟨fun h_3 => ?_, fun h_3 => ?_⟩
  · exact k
  · exfalso; omega
set_option maxRecDepth 100000 in
/-- Measures.addNegatives [7, (0, 0), (1, 1)] -/
theorem zx773_0 {z : gH} {L d : Nat} {K : Option gV → gH → Prop} {s : gH}  (hs : xM z s)  (q0 : gp_I s 1 2 = 0) (q1 : gp_I s 1 6 = 0) (q2 : gp_I s 1 7 = 1) (q3 : gp_I s 51 8 = 0) (q4 : gp_I s 57 1 = 0) (q5 : gp_I s 57 3 = 0) (q6 : gp_I s 6 4 = 0) (q7 : gp_R s 25 6 = none) (q8 : gp_R s 25 7 = none) (q9 : gp_R s 25 8 = none) (q10 : gp_R s 25 9 = none) (q11 : ∀ k, k < 8 → gp_R s 4 k = some 25) (q12 : gp_R s 51 6 = some 55) (q13 : gp_R s 51 7 = some 56) (q14 : gp_us s = 606895) (q15 : gp_sz s = 117) (k : ∀ (t : gH), xM z t → (gp_I t 1 2 = 0) → (gp_I t 1 6 = 0) → (gp_I t 1 7 = 1) → (gp_I t 51 8 = 0) → (gp_I t 57 1 = 0) → (gp_I t 57 3 = 0) → (gp_I t 6 4 = 0) → (gp_R t 25 6 = none) → (gp_R t 25 7 = none) → (gp_R t 25 8 = none) → (gp_R t 25 9 = none) → (∀ k, k < 8 → gp_R t 4 k = some 25) → (gp_R t 51 6 = some 55) → (gp_R t 51 7 = some 56) → (gp_us t = 606895) → (gp_sz t = 117) → K none t) : gs_C L (d + 2) 773 7 [gp_r (some 31), gp_r (some 7), gp_i 0, gp_i 1] s K := by
  refine s_773_e _ _ _ ?_
  have w_1 := gz_w (0 * 61)
  have e_2 : gp_wr (0 * 61) = 0 := by omega
  try rw [e_2]
  refine s_773_9 _ _ _ _ _ _ ?_
  refine ⟨fun h_4 => ?_, fun h_4 => ?_⟩
  · exfalso; omega
  · refine ⟨7, rfl, ?_⟩
    refine ⟨rfl, ?_⟩
    try rw [show gp_R (gp_mk L s) 7 2 = some 9 from rfl]
    refine ⟨9, rfl, ?_⟩
    refine ⟨⟨rfl, by show 0 ≤ 0 ∧ 0 < 61; omega⟩, ?_⟩
    try rw [xr9 hs ((0 : Int).toNat)]
    refine zx775_0 hs (by omega) (by omega) (by omega) (by omega) (by omega) (by omega) q7 q8 q9 q10 q11 q12 q13 (⟨_, rfl, ?_⟩)
    refine ⟨fun h_5 => ?_, fun h_5 => ?_⟩
    · exfalso; omega
    · refine ⟨rfl, ?_⟩
      try rw [show gp_R (gp_mk L s) 7 2 = some 9 from rfl]
      refine ⟨9, rfl, ?_⟩
      refine ⟨⟨rfl, by show 0 ≤ 0 ∧ 0 < 61; omega⟩, ?_⟩
      try rw [xr9 hs ((0 : Int).toNat)]
      have e_6 : gp_cmp (0#64) (0#64) = 0 := by decide
      try rw [e_6]
      refine ⟨fun h_7 => ?_, fun h_7 => ?_⟩
      · refine ⟨rfl, ?_⟩
        try rw [show gp_R (gp_mk L s) 7 4 = some 11 from rfl]
        refine ⟨11, rfl, ?_⟩
        refine ⟨⟨rfl, by show 0 ≤ 0 ∧ 0 < 61; omega⟩, ?_⟩
        have f_8 := xr11 hs ((0 : Int).toNat)
        have e_9 : gp_I s 11 (0 : Int).toNat = 0 := by omega
        try rw [e_9]
        refine s_773_78 _ _ _ _ _ _ ?_
        have w_11 := gz_w (0 + 0)
        have e_12 : gp_wr (0 + 0) = 0 := by omega
        try rw [e_12]
        refine ⟨by omega, ?_⟩
        intro s_13 e_14
        have hs_15 : xM z s_13 := by rw [e_14]; exact xw35 hs _ _ (by omega)
        have q_16 : gp_I s_13 1 2 = 0 := by rw [e_14]; exact q0
        have q_17 : gp_I s_13 1 6 = 0 := by rw [e_14]; exact q1
        have q_18 : gp_I s_13 1 7 = 1 := by rw [e_14]; exact q2
        have q_19 : gp_I s_13 51 8 = 0 := by rw [e_14]; exact q3
        have q_20 : gp_I s_13 57 1 = 0 := by rw [e_14]; exact q4
        have q_21 : gp_I s_13 57 3 = 0 := by rw [e_14]; exact q5
        have q_22 : gp_I s_13 6 4 = 0 := by rw [e_14]; exact q6
        have q_23 : gp_R s_13 25 6 = none := by rw [e_14]; exact q7
        have q_24 : gp_R s_13 25 7 = none := by rw [e_14]; exact q8
        have q_25 : gp_R s_13 25 8 = none := by rw [e_14]; exact q9
        have q_26 : gp_R s_13 25 9 = none := by rw [e_14]; exact q10
        have q_27 : ∀ k, k < 8 → gp_R s_13 4 k = some 25 := by rw [e_14]; exact q11
        have q_28 : gp_R s_13 51 6 = some 55 := by rw [e_14]; exact q12
        have q_29 : gp_R s_13 51 7 = some 56 := by rw [e_14]; exact q13
        have q_30 : gp_us s_13 = 606895 := by rw [e_14]; exact q14
        have q_31 : gp_sz s_13 = 117 := by rw [e_14]; exact q15
        have w_32 := gz_w (0 + 0)
        have e_33 : gp_wr (0 + 0) = 0 := by omega
        try rw [e_33]
        refine ⟨7, rfl, ?_⟩
        refine ⟨rfl, ?_⟩
        try rw [show gp_R (gp_mk L s_13) 7 1 = some 8 from rfl]
        refine ⟨8, rfl, ?_⟩
        refine ⟨⟨rfl, by show 0 ≤ 0 ∧ 0 < 61; omega⟩, ?_⟩
        try rw [xr8 hs_15 ((0 : Int).toNat)]
        have e_34 : gp_cmp (0#64) (0#64) = 0 := by decide
        try rw [e_34]
        refine ⟨fun h_35 => ?_, fun h_35 => ?_⟩
        · refine ⟨rfl, ?_⟩
          try rw [show gp_R (gp_mk L s_13) 7 3 = some 10 from rfl]
          refine ⟨10, rfl, ?_⟩
          refine ⟨⟨rfl, by show 0 ≤ 0 ∧ 0 < 61; omega⟩, ?_⟩
          have f_36 := xr10 hs_15 ((0 : Int).toNat)
          have e_37 : gp_I s_13 10 (0 : Int).toNat = 0 := by omega
          try rw [e_37]
          refine s_773_134 _ _ _ _ _ _ _ _ ?_
          refine ⟨by omega, ?_⟩
          intro s_39 e_40
          have hs_41 : xM z s_39 := by rw [e_40]; exact xw34 hs_15 _ _ (by omega)
          have q_42 : gp_I s_39 1 2 = 0 := by rw [e_40]; exact q_16
          have q_43 : gp_I s_39 1 6 = 0 := by rw [e_40]; exact q_17
          have q_44 : gp_I s_39 1 7 = 1 := by rw [e_40]; exact q_18
          have q_45 : gp_I s_39 51 8 = 0 := by rw [e_40]; exact q_19
          have q_46 : gp_I s_39 57 1 = 0 := by rw [e_40]; exact q_20
          have q_47 : gp_I s_39 57 3 = 0 := by rw [e_40]; exact q_21
          have q_48 : gp_I s_39 6 4 = 0 := by rw [e_40]; exact q_22
          have q_49 : gp_R s_39 25 6 = none := by rw [e_40]; exact q_23
          have q_50 : gp_R s_39 25 7 = none := by rw [e_40]; exact q_24
          have q_51 : gp_R s_39 25 8 = none := by rw [e_40]; exact q_25
          have q_52 : gp_R s_39 25 9 = none := by rw [e_40]; exact q_26
          have q_53 : ∀ k, k < 8 → gp_R s_39 4 k = some 25 := by rw [e_40]; exact q_27
          have q_54 : gp_R s_39 51 6 = some 55 := by rw [e_40]; exact q_28
          have q_55 : gp_R s_39 51 7 = some 56 := by rw [e_40]; exact q_29
          have q_56 : gp_us s_39 = 606895 := by rw [e_40]; exact q_30
          have q_57 : gp_sz s_39 = 117 := by rw [e_40]; exact q_31
          have w_58 := gz_w (0 + 1)
          have e_59 : gp_wr (0 + 1) = 1 := by omega
          try rw [e_59]
          refine s_773_9 _ _ _ _ _ _ ?_
          refine ⟨fun h_61 => ?_, fun h_61 => ?_⟩
          · exfalso; omega
          · refine ⟨7, rfl, ?_⟩
            refine ⟨rfl, ?_⟩
            try rw [show gp_R (gp_mk L s_39) 7 2 = some 9 from rfl]
            refine ⟨9, rfl, ?_⟩
            refine ⟨⟨rfl, by show 0 ≤ 0 ∧ 0 < 61; omega⟩, ?_⟩
            try rw [xr9 hs_41 ((0 : Int).toNat)]
            refine zx775_1 hs_41 (by omega) (by omega) (by omega) (by omega) (by omega) (by omega) q_49 q_50 q_51 q_52 q_53 q_54 q_55 (⟨_, rfl, ?_⟩)
            refine ⟨fun h_62 => ?_, fun h_62 => ?_⟩
            · have w_63 := gz_w (0 + 1)
              have e_64 : gp_wr (0 + 1) = 1 := by omega
              try rw [e_64]
              have w_65 := gz_w (1 - 1)
              have e_66 : gp_wr (1 - 1) = 0 := by omega
              try rw [e_66]
              refine ⟨by omega, ?_⟩
              have f_67 := xr34 hs_41 ((0 : Int).toNat)
              have e_68 : gp_I s_39 34 (0 : Int).toNat = 0 := by omega
              try rw [e_68]
              have w_69 := gz_mi (2147483647) (0)
              have e_70 : gp_mi 2147483647 0 = 0 := by omega
              try rw [e_70]
              refine s_773_78 _ _ _ _ _ _ ?_
              have w_72 := gz_w (0 + 1)
              have e_73 : gp_wr (0 + 1) = 1 := by omega
              try rw [e_73]
              refine ⟨by omega, ?_⟩
              intro s_74 e_75
              have hs_76 : xM z s_74 := by rw [e_75]; exact xw35 hs_41 _ _ (by omega)
              have q_77 : gp_I s_74 1 2 = 0 := by rw [e_75]; exact q_42
              have q_78 : gp_I s_74 1 6 = 0 := by rw [e_75]; exact q_43
              have q_79 : gp_I s_74 1 7 = 1 := by rw [e_75]; exact q_44
              have q_80 : gp_I s_74 51 8 = 0 := by rw [e_75]; exact q_45
              have q_81 : gp_I s_74 57 1 = 0 := by rw [e_75]; exact q_46
              have q_82 : gp_I s_74 57 3 = 0 := by rw [e_75]; exact q_47
              have q_83 : gp_I s_74 6 4 = 0 := by rw [e_75]; exact q_48
              have q_84 : gp_R s_74 25 6 = none := by rw [e_75]; exact q_49
              have q_85 : gp_R s_74 25 7 = none := by rw [e_75]; exact q_50
              have q_86 : gp_R s_74 25 8 = none := by rw [e_75]; exact q_51
              have q_87 : gp_R s_74 25 9 = none := by rw [e_75]; exact q_52
              have q_88 : ∀ k, k < 8 → gp_R s_74 4 k = some 25 := by rw [e_75]; exact q_53
              have q_89 : gp_R s_74 51 6 = some 55 := by rw [e_75]; exact q_54
              have q_90 : gp_R s_74 51 7 = some 56 := by rw [e_75]; exact q_55
              have q_91 : gp_us s_74 = 606895 := by rw [e_75]; exact q_56
              have q_92 : gp_sz s_74 = 117 := by rw [e_75]; exact q_57
              have w_93 := gz_w (0 + 1)
              have e_94 : gp_wr (0 + 1) = 1 := by omega
              try rw [e_94]
              refine ⟨7, rfl, ?_⟩
              refine ⟨rfl, ?_⟩
              try rw [show gp_R (gp_mk L s_74) 7 1 = some 8 from rfl]
              refine ⟨8, rfl, ?_⟩
              refine ⟨⟨rfl, by show 0 ≤ 0 ∧ 0 < 61; omega⟩, ?_⟩
              try rw [xr8 hs_76 ((0 : Int).toNat)]
              have e_95 : gp_cmp (0#64) (0#64) = 0 := by decide
              try rw [e_95]
              refine ⟨fun h_96 => ?_, fun h_96 => ?_⟩
              · refine ⟨rfl, ?_⟩
                try rw [show gp_R (gp_mk L s_74) 7 3 = some 10 from rfl]
                refine ⟨10, rfl, ?_⟩
                refine ⟨⟨rfl, by show 0 ≤ 0 ∧ 0 < 61; omega⟩, ?_⟩
                have f_97 := xr10 hs_76 ((0 : Int).toNat)
                have e_98 : gp_I s_74 10 (0 : Int).toNat = 0 := by omega
                try rw [e_98]
                refine s_773_134 _ _ _ _ _ _ _ _ ?_
                refine ⟨by omega, ?_⟩
                intro s_100 e_101
                have hs_102 : xM z s_100 := by rw [e_101]; exact xw34 hs_76 _ _ (by omega)
                have q_103 : gp_I s_100 1 2 = 0 := by rw [e_101]; exact q_77
                have q_104 : gp_I s_100 1 6 = 0 := by rw [e_101]; exact q_78
                have q_105 : gp_I s_100 1 7 = 1 := by rw [e_101]; exact q_79
                have q_106 : gp_I s_100 51 8 = 0 := by rw [e_101]; exact q_80
                have q_107 : gp_I s_100 57 1 = 0 := by rw [e_101]; exact q_81
                have q_108 : gp_I s_100 57 3 = 0 := by rw [e_101]; exact q_82
                have q_109 : gp_I s_100 6 4 = 0 := by rw [e_101]; exact q_83
                have q_110 : gp_R s_100 25 6 = none := by rw [e_101]; exact q_84
                have q_111 : gp_R s_100 25 7 = none := by rw [e_101]; exact q_85
                have q_112 : gp_R s_100 25 8 = none := by rw [e_101]; exact q_86
                have q_113 : gp_R s_100 25 9 = none := by rw [e_101]; exact q_87
                have q_114 : ∀ k, k < 8 → gp_R s_100 4 k = some 25 := by rw [e_101]; exact q_88
                have q_115 : gp_R s_100 51 6 = some 55 := by rw [e_101]; exact q_89
                have q_116 : gp_R s_100 51 7 = some 56 := by rw [e_101]; exact q_90
                have q_117 : gp_us s_100 = 606895 := by rw [e_101]; exact q_91
                have q_118 : gp_sz s_100 = 117 := by rw [e_101]; exact q_92
                have w_119 := gz_w (1 + 1)
                have e_120 : gp_wr (1 + 1) = 2 := by omega
                try rw [e_120]
                refine s_773_9 _ _ _ _ _ _ ?_
                refine ⟨fun h_122 => ?_, fun h_122 => ?_⟩
                · exact k s_100 hs_102 (by omega) (by omega) (by omega) (by omega) (by omega) (by omega) (by omega) q_110 q_111 q_112 q_113 q_114 q_115 q_116 q_117 q_118
                · exfalso; omega
              · exfalso; omega
            · exfalso; omega
        · exfalso; omega
      · exfalso; omega
set_option maxRecDepth 100000 in
/-- Measures.measure [7, (0, 0), (1, 1)] -/
theorem zx771_0 {z : gH} {L d : Nat} {K : Option gV → gH → Prop} {s : gH}  (hs : xM z s)  (q0 : gp_I s 1 2 = 0) (q1 : gp_I s 1 6 = 0) (q2 : gp_I s 1 7 = 1) (q3 : gp_I s 51 8 = 0) (q4 : gp_I s 57 1 = 0) (q5 : gp_I s 57 3 = 0) (q6 : gp_I s 6 4 = 0) (q7 : gp_R s 25 6 = none) (q8 : gp_R s 25 7 = none) (q9 : gp_R s 25 8 = none) (q10 : gp_R s 25 9 = none) (q11 : ∀ k, k < 8 → gp_R s 4 k = some 25) (q12 : gp_R s 51 6 = some 55) (q13 : gp_R s 51 7 = some 56) (q14 : gp_us s = 606895) (q15 : gp_sz s = 117) (k : ∀ (t : gH), xM z t → (gp_I t 1 2 = 0) → (gp_I t 1 6 = 0) → (gp_I t 1 7 = 1) → (gp_I t 51 8 = 0) → (gp_I t 57 1 = 0) → (gp_I t 57 3 = 0) → (gp_I t 6 4 = 0) → (gp_R t 25 6 = none) → (gp_R t 25 7 = none) → (gp_R t 25 8 = none) → (gp_R t 25 9 = none) → (∀ k, k < 8 → gp_R t 4 k = some 25) → (gp_R t 51 6 = some 55) → (gp_R t 51 7 = some 56) → (gp_us t = 606895) → (gp_sz t = 117) → K none t) : gs_C L (d + 3) 771 6 [gp_r (some 31), gp_r (some 7), gp_i 0, gp_i 1] s K := by
  refine s_771_e _ _ _ ?_
  refine zx772_0 hs (by omega) (by omega) (by omega) (by omega) (by omega) (by omega) (by omega) q7 q8 q9 q10 q11 q12 q13 q14 q15 (fun s_1 hs_2 q_3 q_4 q_5 q_6 q_7 q_8 q_9 q_10 q_11 q_12 q_13 q_14 q_15 q_16 q_17 q_18 => ⟨rfl, ?_⟩)
  refine zx773_0 hs_2 (by omega) (by omega) (by omega) (by omega) (by omega) (by omega) (by omega) q_10 q_11 q_12 q_13 q_14 q_15 q_16 q_17 q_18 (fun s_19 hs_20 q_21 q_22 q_23 q_24 q_25 q_26 q_27 q_28 q_29 q_30 q_31 q_32 q_33 q_34 q_35 q_36 => ⟨rfl, ?_⟩)
  have w_37 := gz_w (0 * 61)
  have e_38 : gp_wr (0 * 61) = 0 := by omega
  try rw [e_38]
  refine ⟨7, rfl, ?_⟩
  refine ⟨rfl, ?_⟩
  try rw [show gp_R (gp_mk L s_19) 7 7 = some 17 from rfl]
  refine ⟨by omega, ?_⟩
  have f_39 := xr33 hs_20 ((0 : Int).toNat)
  have e_40 : gp_I s_19 33 (0 : Int).toNat = 0 := by omega
  try rw [e_40]
  refine ⟨17, rfl, ?_⟩
  refine ⟨⟨rfl, by show 0 ≤ 0 ∧ 0 < 61; omega⟩, ?_⟩
  intro s_41 e_42
  have hs_43 : xM z s_41 := by rw [e_42]; exact xw17 hs_20 _ _ (by omega)
  have q_44 : gp_I s_41 1 2 = 0 := by rw [e_42]; exact q_21
  have q_45 : gp_I s_41 1 6 = 0 := by rw [e_42]; exact q_22
  have q_46 : gp_I s_41 1 7 = 1 := by rw [e_42]; exact q_23
  have q_47 : gp_I s_41 51 8 = 0 := by rw [e_42]; exact q_24
  have q_48 : gp_I s_41 57 1 = 0 := by rw [e_42]; exact q_25
  have q_49 : gp_I s_41 57 3 = 0 := by rw [e_42]; exact q_26
  have q_50 : gp_I s_41 6 4 = 0 := by rw [e_42]; exact q_27
  have q_51 : gp_R s_41 25 6 = none := by rw [e_42]; exact q_28
  have q_52 : gp_R s_41 25 7 = none := by rw [e_42]; exact q_29
  have q_53 : gp_R s_41 25 8 = none := by rw [e_42]; exact q_30
  have q_54 : gp_R s_41 25 9 = none := by rw [e_42]; exact q_31
  have q_55 : ∀ k, k < 8 → gp_R s_41 4 k = some 25 := by rw [e_42]; exact q_32
  have q_56 : gp_R s_41 51 6 = some 55 := by rw [e_42]; exact q_33
  have q_57 : gp_R s_41 51 7 = some 56 := by rw [e_42]; exact q_34
  have q_58 : gp_us s_41 = 606895 := by rw [e_42]; exact q_35
  have q_59 : gp_sz s_41 = 117 := by rw [e_42]; exact q_36
  refine ⟨rfl, ?_⟩
  try rw [show gp_R (gp_mk L s_41) 7 8 = some 18 from rfl]
  refine ⟨18, rfl, ?_⟩
  refine ⟨⟨rfl, by show 0 ≤ 0 ∧ 0 < 61; omega⟩, ?_⟩
  intro s_60 e_61
  have hs_62 : xM z s_60 := by rw [e_61]; exact xw18 hs_43 _ _ (by omega)
  have q_63 : gp_I s_60 1 2 = 0 := by rw [e_61]; exact q_44
  have q_64 : gp_I s_60 1 6 = 0 := by rw [e_61]; exact q_45
  have q_65 : gp_I s_60 1 7 = 1 := by rw [e_61]; exact q_46
  have q_66 : gp_I s_60 51 8 = 0 := by rw [e_61]; exact q_47
  have q_67 : gp_I s_60 57 1 = 0 := by rw [e_61]; exact q_48
  have q_68 : gp_I s_60 57 3 = 0 := by rw [e_61]; exact q_49
  have q_69 : gp_I s_60 6 4 = 0 := by rw [e_61]; exact q_50
  have q_70 : gp_R s_60 25 6 = none := by rw [e_61]; exact q_51
  have q_71 : gp_R s_60 25 7 = none := by rw [e_61]; exact q_52
  have q_72 : gp_R s_60 25 8 = none := by rw [e_61]; exact q_53
  have q_73 : gp_R s_60 25 9 = none := by rw [e_61]; exact q_54
  have q_74 : ∀ k, k < 8 → gp_R s_60 4 k = some 25 := by rw [e_61]; exact q_55
  have q_75 : gp_R s_60 51 6 = some 55 := by rw [e_61]; exact q_56
  have q_76 : gp_R s_60 51 7 = some 56 := by rw [e_61]; exact q_57
  have q_77 : gp_us s_60 = 606895 := by rw [e_61]; exact q_58
  have q_78 : gp_sz s_60 = 117 := by rw [e_61]; exact q_59
  refine ⟨rfl, ?_⟩
  try rw [show gp_R (gp_mk L s_60) 7 6 = some 16 from rfl]
  refine ⟨by omega, ?_⟩
  have f_79 := xr34 hs_62 ((0 : Int).toNat)
  have e_80 : gp_I s_60 34 (0 : Int).toNat = 0 := by omega
  try rw [e_80]
  refine ⟨16, rfl, ?_⟩
  refine ⟨⟨rfl, by show 0 ≤ 0 ∧ 0 < 61; omega⟩, ?_⟩
  intro s_81 e_82
  have hs_83 : xM z s_81 := by rw [e_82]; exact xw16 hs_62 _ _ (by omega)
  have q_84 : gp_I s_81 1 2 = 0 := by rw [e_82]; exact q_63
  have q_85 : gp_I s_81 1 6 = 0 := by rw [e_82]; exact q_64
  have q_86 : gp_I s_81 1 7 = 1 := by rw [e_82]; exact q_65
  have q_87 : gp_I s_81 51 8 = 0 := by rw [e_82]; exact q_66
  have q_88 : gp_I s_81 57 1 = 0 := by rw [e_82]; exact q_67
  have q_89 : gp_I s_81 57 3 = 0 := by rw [e_82]; exact q_68
  have q_90 : gp_I s_81 6 4 = 0 := by rw [e_82]; exact q_69
  have q_91 : gp_R s_81 25 6 = none := by rw [e_82]; exact q_70
  have q_92 : gp_R s_81 25 7 = none := by rw [e_82]; exact q_71
  have q_93 : gp_R s_81 25 8 = none := by rw [e_82]; exact q_72
  have q_94 : gp_R s_81 25 9 = none := by rw [e_82]; exact q_73
  have q_95 : ∀ k, k < 8 → gp_R s_81 4 k = some 25 := by rw [e_82]; exact q_74
  have q_96 : gp_R s_81 51 6 = some 55 := by rw [e_82]; exact q_75
  have q_97 : gp_R s_81 51 7 = some 56 := by rw [e_82]; exact q_76
  have q_98 : gp_us s_81 = 606895 := by rw [e_82]; exact q_77
  have q_99 : gp_sz s_81 = 117 := by rw [e_82]; exact q_78
  refine ⟨rfl, ?_⟩
  try rw [show gp_R (gp_mk L s_81) 7 9 = some 19 from rfl]
  refine ⟨19, rfl, ?_⟩
  refine ⟨⟨rfl, by show 0 ≤ 0 ∧ 0 < 61; omega⟩, ?_⟩
  intro s_100 e_101
  have hs_102 : xM z s_100 := by rw [e_101]; exact xw19 hs_83 _ _ (by omega)
  have q_103 : gp_I s_100 1 2 = 0 := by rw [e_101]; exact q_84
  have q_104 : gp_I s_100 1 6 = 0 := by rw [e_101]; exact q_85
  have q_105 : gp_I s_100 1 7 = 1 := by rw [e_101]; exact q_86
  have q_106 : gp_I s_100 51 8 = 0 := by rw [e_101]; exact q_87
  have q_107 : gp_I s_100 57 1 = 0 := by rw [e_101]; exact q_88
  have q_108 : gp_I s_100 57 3 = 0 := by rw [e_101]; exact q_89
  have q_109 : gp_I s_100 6 4 = 0 := by rw [e_101]; exact q_90
  have q_110 : gp_R s_100 25 6 = none := by rw [e_101]; exact q_91
  have q_111 : gp_R s_100 25 7 = none := by rw [e_101]; exact q_92
  have q_112 : gp_R s_100 25 8 = none := by rw [e_101]; exact q_93
  have q_113 : gp_R s_100 25 9 = none := by rw [e_101]; exact q_94
  have q_114 : ∀ k, k < 8 → gp_R s_100 4 k = some 25 := by rw [e_101]; exact q_95
  have q_115 : gp_R s_100 51 6 = some 55 := by rw [e_101]; exact q_96
  have q_116 : gp_R s_100 51 7 = some 56 := by rw [e_101]; exact q_97
  have q_117 : gp_us s_100 = 606895 := by rw [e_101]; exact q_98
  have q_118 : gp_sz s_100 = 117 := by rw [e_101]; exact q_99
  refine s_771_63 _ _ _ _ _ ?_
  refine ⟨7, rfl, ?_⟩
  refine ⟨rfl, ?_⟩
  try rw [show gp_R (gp_mk L s_100) 7 5 = some 12 from rfl]
  refine ⟨12, rfl, ?_⟩
  refine ⟨⟨rfl, by show 0 ≤ 0 ∧ 0 < 61; omega⟩, ?_⟩
  have f_120 := xr12 hs_102 ((0 : Int).toNat)
  have e_121 : gp_I s_100 12 (0 : Int).toNat = 0 := by omega
  try rw [e_121]
  have w_122 := gz_w (0 + 1)
  have e_123 : gp_wr (0 + 1) = 1 := by omega
  try rw [e_123]
  refine ⟨fun h_124 => ?_, fun h_124 => ?_⟩
  · exfalso; omega
  · have w_125 := gz_w (0 + 1)
    have e_126 : gp_wr (0 + 1) = 1 := by omega
    try rw [e_126]
    refine ⟨by omega, ?_⟩
    have f_127 := xr33 hs_102 ((1 : Int).toNat)
    have e_128 : gp_I s_100 33 (1 : Int).toNat = 0 := by omega
    try rw [e_128]
    refine ⟨rfl, ?_⟩
    try rw [show gp_R (gp_mk L s_100) 7 7 = some 17 from rfl]
    refine ⟨17, rfl, ?_⟩
    refine ⟨⟨rfl, by show 0 ≤ 0 ∧ 0 < 61; omega⟩, ?_⟩
    have f_129 := xr17 hs_102 ((0 : Int).toNat)
    have e_130 : gp_I s_100 17 (0 : Int).toNat = 0 := by omega
    try rw [e_130]
    refine ⟨fun h_131 => ?_, fun h_131 => ?_⟩
    · exfalso; omega
    · refine s_771_119 _ _ _ _ _ ?_
      have w_133 := gz_w (0 + 1)
      have e_134 : gp_wr (0 + 1) = 1 := by omega
      try rw [e_134]
      refine ⟨by omega, ?_⟩
      have f_135 := xr34 hs_102 ((1 : Int).toNat)
      have e_136 : gp_I s_100 34 (1 : Int).toNat = 0 := by omega
      try rw [e_136]
      refine ⟨7, rfl, ?_⟩
      refine ⟨rfl, ?_⟩
      try rw [show gp_R (gp_mk L s_100) 7 6 = some 16 from rfl]
      refine ⟨16, rfl, ?_⟩
      refine ⟨⟨rfl, by show 0 ≤ 0 ∧ 0 < 61; omega⟩, ?_⟩
      have f_137 := xr16 hs_102 ((0 : Int).toNat)
      have e_138 : gp_I s_100 16 (0 : Int).toNat = 0 := by omega
      try rw [e_138]
      refine ⟨fun h_139 => ?_, fun h_139 => ?_⟩
      · exfalso; omega
      · refine s_771_162 _ _ _ _ _ ?_
        have w_141 := gz_w (1 + 1)
        have e_142 : gp_wr (1 + 1) = 2 := by omega
        try rw [e_142]
        refine s_771_63 _ _ _ _ _ ?_
        refine ⟨7, rfl, ?_⟩
        refine ⟨rfl, ?_⟩
        try rw [show gp_R (gp_mk L s_100) 7 5 = some 12 from rfl]
        refine ⟨12, rfl, ?_⟩
        refine ⟨⟨rfl, by show 0 ≤ 0 ∧ 0 < 61; omega⟩, ?_⟩
        have f_144 := xr12 hs_102 ((0 : Int).toNat)
        have e_145 : gp_I s_100 12 (0 : Int).toNat = 0 := by omega
        try rw [e_145]
        have w_146 := gz_w (0 + 1)
        have e_147 : gp_wr (0 + 1) = 1 := by omega
        try rw [e_147]
        refine ⟨fun h_148 => ?_, fun h_148 => ?_⟩
        · exact k s_100 hs_102 (by omega) (by omega) (by omega) (by omega) (by omega) (by omega) (by omega) q_110 q_111 q_112 q_113 q_114 q_115 q_116 q_117 q_118
        · exfalso; omega
set_option maxRecDepth 100000 in
/-- Least.relateLast [42, 7, (0, 0)] -/
theorem zx2_0 {z : gH} {L d : Nat} {K : Option gV → gH → Prop} {s : gH}  (hs : xM z s)  (q0 : gp_I s 1 2 = 0) (q1 : gp_I s 1 6 = 0) (q2 : gp_I s 1 7 = 1) (q3 : gp_I s 51 8 = 0) (q4 : gp_I s 57 1 = 0) (q5 : gp_I s 57 3 = 0) (q6 : gp_I s 6 4 = 0) (q7 : gp_R s 25 6 = none) (q8 : gp_R s 25 7 = none) (q9 : gp_R s 25 8 = none) (q10 : gp_R s 25 9 = none) (q11 : ∀ k, k < 8 → gp_R s 4 k = some 25) (q12 : gp_R s 51 6 = some 55) (q13 : gp_R s 51 7 = some 56) (q14 : gp_us s = 606895) (q15 : gp_sz s = 117) (k : ∀ (t : gH), xM z t → (gp_I t 1 2 = 0) → (gp_I t 1 6 = 0) → (gp_I t 1 7 = 1) → (gp_I t 51 8 = 0) → (gp_I t 57 1 = 0) → (gp_I t 57 3 = 0) → (gp_I t 6 4 = 0) → (gp_L t 43 0 = 0#64) → (gp_L t 44 0 = 0#64) → (gp_R t 25 6 = none) → (gp_R t 25 7 = none) → (gp_R t 25 8 = none) → (gp_R t 25 9 = none) → (∀ k, k < 8 → gp_R t 4 k = some 25) → (gp_R t 51 6 = some 55) → (gp_R t 51 7 = some 56) → (gp_us t = 606895) → (gp_sz t = 117) → K none t) : gs_C L (d + 1) 2 6 [gp_r (some 42), gp_r (some 7), gp_i 0] s K := by
  refine s_2_e _ _ _ ?_
  refine ⟨42, rfl, ?_⟩
  refine ⟨rfl, ?_⟩
  try rw [show gp_R (gp_mk L s) 42 0 = some 43 from rfl]
  refine ⟨43, rfl, ?_⟩
  refine ⟨⟨rfl, by show 0 ≤ 0 ∧ 0 < 61; omega⟩, ?_⟩
  intro s_1 e_2
  have hs_3 : xM z s_1 := by rw [e_2]; exact xw43 hs _ _
  have q_4 : gp_I s_1 1 2 = 0 := by rw [e_2]; exact q0
  have q_5 : gp_I s_1 1 6 = 0 := by rw [e_2]; exact q1
  have q_6 : gp_I s_1 1 7 = 1 := by rw [e_2]; exact q2
  have q_7 : gp_I s_1 51 8 = 0 := by rw [e_2]; exact q3
  have q_8 : gp_I s_1 57 1 = 0 := by rw [e_2]; exact q4
  have q_9 : gp_I s_1 57 3 = 0 := by rw [e_2]; exact q5
  have q_10 : gp_I s_1 6 4 = 0 := by rw [e_2]; exact q6
  have q_11 : gp_R s_1 25 6 = none := by rw [e_2]; exact q7
  have q_12 : gp_R s_1 25 7 = none := by rw [e_2]; exact q8
  have q_13 : gp_R s_1 25 8 = none := by rw [e_2]; exact q9
  have q_14 : gp_R s_1 25 9 = none := by rw [e_2]; exact q10
  have q_15 : ∀ k, k < 8 → gp_R s_1 4 k = some 25 := by rw [e_2]; exact q11
  have q_16 : gp_R s_1 51 6 = some 55 := by rw [e_2]; exact q12
  have q_17 : gp_R s_1 51 7 = some 56 := by rw [e_2]; exact q13
  have q_18 : gp_us s_1 = 606895 := by rw [e_2]; exact q14
  have q_19 : gp_sz s_1 = 117 := by rw [e_2]; exact q15
  have q_20 : gp_L s_1 43 0 = 0#64 := by rw [e_2]; rfl
  refine ⟨rfl, ?_⟩
  try rw [show gp_R (gp_mk L s_1) 42 1 = some 44 from rfl]
  refine ⟨44, rfl, ?_⟩
  refine ⟨⟨rfl, by show 0 ≤ 0 ∧ 0 < 61; omega⟩, ?_⟩
  intro s_21 e_22
  have hs_23 : xM z s_21 := by rw [e_22]; exact xw44 hs_3 _ _
  have q_24 : gp_I s_21 1 2 = 0 := by rw [e_22]; exact q_4
  have q_25 : gp_I s_21 1 6 = 0 := by rw [e_22]; exact q_5
  have q_26 : gp_I s_21 1 7 = 1 := by rw [e_22]; exact q_6
  have q_27 : gp_I s_21 51 8 = 0 := by rw [e_22]; exact q_7
  have q_28 : gp_I s_21 57 1 = 0 := by rw [e_22]; exact q_8
  have q_29 : gp_I s_21 57 3 = 0 := by rw [e_22]; exact q_9
  have q_30 : gp_I s_21 6 4 = 0 := by rw [e_22]; exact q_10
  have q_31 : gp_R s_21 25 6 = none := by rw [e_22]; exact q_11
  have q_32 : gp_R s_21 25 7 = none := by rw [e_22]; exact q_12
  have q_33 : gp_R s_21 25 8 = none := by rw [e_22]; exact q_13
  have q_34 : gp_R s_21 25 9 = none := by rw [e_22]; exact q_14
  have q_35 : ∀ k, k < 8 → gp_R s_21 4 k = some 25 := by rw [e_22]; exact q_15
  have q_36 : gp_R s_21 51 6 = some 55 := by rw [e_22]; exact q_16
  have q_37 : gp_R s_21 51 7 = some 56 := by rw [e_22]; exact q_17
  have q_38 : gp_us s_21 = 606895 := by rw [e_22]; exact q_18
  have q_39 : gp_sz s_21 = 117 := by rw [e_22]; exact q_19
  have q_40 : gp_L s_21 43 0 = 0#64 := by rw [e_22]; exact q_20
  have q_41 : gp_L s_21 44 0 = 0#64 := by rw [e_22]; rfl
  have e_42 : (1#64) <<< ((0 : Int) % 64).toNat = 1#64 := by decide
  try rw [e_42]
  have e_43 : BitVec.ofInt 64 (-1) = 18446744073709551615#64 := by decide
  try rw [e_43]
  have e_44 : (1#64) ^^^ (18446744073709551615#64) = 18446744073709551614#64 := by decide
  try rw [e_44]
  refine s_2_25 _ _ _ _ _ ?_
  refine ⟨fun h_47 => ?_, fun h_47 => ?_⟩
  · exfalso; omega
  · exact k s_21 hs_23 (by omega) (by omega) (by omega) (by omega) (by omega) (by omega) (by omega) q_40 q_41 q_31 q_32 q_33 q_34 q_35 q_36 q_37 q_38 q_39
set_option maxRecDepth 100000 in
/-- java/lang/Long.bitCount [0] -/
theorem zx3585_1 {z : gH} {L d : Nat} {K : Option gV → gH → Prop} {s : gH}  (hs : xM z s)  (q0 : gp_R s 25 6 = none) (q1 : gp_R s 25 7 = none) (q2 : gp_R s 25 8 = none) (q3 : gp_R s 25 9 = none) (k : K (some (gp_i 0)) s) : gs_C L d 3585 2 [gp_l (0#64)] s K := by
  refine s_3585_e _ ?_
  have e_1 : (0#64) >>> 1 = 0#64 := by decide
  try rw [e_1]
  have e_2 : BitVec.ofInt 64 6148914691236517205 = 6148914691236517205#64 := by decide
  try rw [e_2]
  have e_3 : (0#64) &&& (6148914691236517205#64) = 0#64 := by decide
  try rw [e_3]
  have e_4 : (0#64) - (0#64) = 0#64 := by decide
  try rw [e_4]
  have e_5 : BitVec.ofInt 64 3689348814741910323 = 3689348814741910323#64 := by decide
  try rw [e_5]
  have e_6 : (0#64) &&& (3689348814741910323#64) = 0#64 := by decide
  try rw [e_6]
  have e_7 : (0#64) >>> 2 = 0#64 := by decide
  try rw [e_7]
  have e_8 : BitVec.ofInt 64 3689348814741910323 = 3689348814741910323#64 := by decide
  try rw [e_8]
  have e_9 : (0#64) &&& (3689348814741910323#64) = 0#64 := by decide
  try rw [e_9]
  have e_10 : (0#64) + (0#64) = 0#64 := by decide
  try rw [e_10]
  have e_11 : (0#64) >>> 4 = 0#64 := by decide
  try rw [e_11]
  have e_12 : (0#64) + (0#64) = 0#64 := by decide
  try rw [e_12]
  have e_13 : BitVec.ofInt 64 1085102592571150095 = 1085102592571150095#64 := by decide
  try rw [e_13]
  have e_14 : (0#64) &&& (1085102592571150095#64) = 0#64 := by decide
  try rw [e_14]
  have e_15 : (0#64) >>> 8 = 0#64 := by decide
  try rw [e_15]
  have e_16 : (0#64) + (0#64) = 0#64 := by decide
  try rw [e_16]
  have e_17 : (0#64) >>> 16 = 0#64 := by decide
  try rw [e_17]
  have e_18 : (0#64) + (0#64) = 0#64 := by decide
  try rw [e_18]
  have e_19 : (0#64) >>> 32 = 0#64 := by decide
  try rw [e_19]
  have e_20 : (0#64) + (0#64) = 0#64 := by decide
  try rw [e_20]
  have e_21 : gp_wr (0#64).toInt = 0 := by decide
  try rw [e_21]
  have e_22 : gp_and 0 127 = 0 := by decide
  try rw [e_22]
  exact k
set_option maxRecDepth 100000 in
/-- Reducer.leftTurned [] -/
theorem zx1538_0 {z : gH} {L d : Nat} {K : Option gV → gH → Prop} {s : gH}  (hs : xM z s)  (q0 : gp_I s 1 2 = 0) (q1 : gp_I s 1 6 = 0) (q2 : gp_I s 1 7 = 1) (q3 : gp_I s 51 8 = 0) (q4 : gp_I s 57 1 = 0) (q5 : gp_I s 57 3 = 0) (q6 : gp_I s 6 4 = 0) (q7 : gp_L s 43 0 = 0#64) (q8 : gp_L s 44 0 = 0#64) (q9 : gp_R s 25 6 = none) (q10 : gp_R s 25 7 = none) (q11 : gp_R s 25 8 = none) (q12 : gp_R s 25 9 = none) (q13 : ∀ k, k < 8 → gp_R s 4 k = some 25) (q14 : gp_R s 51 6 = some 55) (q15 : gp_R s 51 7 = some 56) (q16 : gp_us s = 606895) (q17 : gp_sz s = 117) (k : K (some (gp_i 0)) s) : gs_C L (d + 1) 1538 8 [gp_r (some 41)] s K := by
  refine s_1538_e ?_
  try rw [xr41_4 hs 4]
  try rw [xr41_4 hs 4]
  refine zx3585_1 hs q9 q10 q11 q12 (⟨_, rfl, ?_⟩)
  refine s_1538_22 _ _ _ _ _ ?_
  refine ⟨fun h_1 => ?_, fun h_1 => ?_⟩
  · exfalso; omega
  · exact k
set_option maxRecDepth 100000 in
/-- Reducer.rightTurned [] -/
theorem zx1539_0 {z : gH} {L d : Nat} {K : Option gV → gH → Prop} {s : gH}  (hs : xM z s)  (q0 : gp_I s 1 2 = 0) (q1 : gp_I s 1 6 = 0) (q2 : gp_I s 1 7 = 1) (q3 : gp_I s 51 8 = 0) (q4 : gp_I s 57 1 = 0) (q5 : gp_I s 57 3 = 0) (q6 : gp_I s 6 4 = 0) (q7 : gp_L s 43 0 = 0#64) (q8 : gp_L s 44 0 = 0#64) (q9 : gp_R s 25 6 = none) (q10 : gp_R s 25 7 = none) (q11 : gp_R s 25 8 = none) (q12 : gp_R s 25 9 = none) (q13 : ∀ k, k < 8 → gp_R s 4 k = some 25) (q14 : gp_R s 51 6 = some 55) (q15 : gp_R s 51 7 = some 56) (q16 : gp_us s = 606895) (q17 : gp_sz s = 117) (k : K (some (gp_i 0)) s) : gs_C L (d + 1) 1539 8 [gp_r (some 41)] s K := by
  refine s_1539_e ?_
  try rw [xr41_5 hs 5]
  try rw [xr41_5 hs 5]
  refine zx3585_1 hs q9 q10 q11 q12 (⟨_, rfl, ?_⟩)
  refine s_1539_22 _ _ _ _ _ ?_
  refine ⟨fun h_1 => ?_, fun h_1 => ?_⟩
  · exfalso; omega
  · exact k
set_option maxRecDepth 100000 in
/-- Reducer.firstBeaten [0, 44, 43] -/
theorem zx1543_0 {z : gH} {L d : Nat} {K : Option gV → gH → Prop} {s : gH}  (hs : xM z s)  (q0 : gp_I s 1 2 = 0) (q1 : gp_I s 1 6 = 0) (q2 : gp_I s 1 7 = 1) (q3 : gp_I s 51 8 = 0) (q4 : gp_I s 57 1 = 0) (q5 : gp_I s 57 3 = 0) (q6 : gp_I s 6 4 = 0) (q7 : gp_R s 25 6 = none) (q8 : gp_R s 25 7 = none) (q9 : gp_R s 25 8 = none) (q10 : gp_R s 25 9 = none) (q11 : ∀ k, k < 8 → gp_R s 4 k = some 25) (q12 : gp_R s 51 6 = some 55) (q13 : gp_R s 51 7 = some 56) (k : K (some (gp_i (-1))) s) : gs_C L (d + 1) 1543 11 [gp_r (some 41), gp_l (0#64), gp_r (some 44), gp_r (some 43)] s K := by
  refine s_1543_e _ _ _ ?_
  refine zx3585_1 hs q7 q8 q9 q10 (⟨_, rfl, ?_⟩)
  refine s_1543_9 _ _ _ _ _ _ _ _ ?_
  refine ⟨fun h_3 => ?_, fun h_3 => ?_⟩
  · exfalso; omega
  · exact k
set_option maxRecDepth 100000 in
/-- Reducer.leftThinned [] -/
theorem zx1541_0 {z : gH} {L d : Nat} {K : Option gV → gH → Prop} {s : gH}  (hs : xM z s)  (q0 : gp_I s 1 2 = 0) (q1 : gp_I s 1 6 = 0) (q2 : gp_I s 1 7 = 1) (q3 : gp_I s 51 8 = 0) (q4 : gp_I s 57 1 = 0) (q5 : gp_I s 57 3 = 0) (q6 : gp_I s 6 4 = 0) (q7 : gp_L s 43 0 = 0#64) (q8 : gp_L s 44 0 = 0#64) (q9 : gp_R s 25 6 = none) (q10 : gp_R s 25 7 = none) (q11 : gp_R s 25 8 = none) (q12 : gp_R s 25 9 = none) (q13 : ∀ k, k < 8 → gp_R s 4 k = some 25) (q14 : gp_R s 51 6 = some 55) (q15 : gp_R s 51 7 = some 56) (q16 : gp_us s = 606895) (q17 : gp_sz s = 117) (k : K (some (gp_i 0)) s) : gs_C L (d + 2) 1541 2 [gp_r (some 41)] s K := by
  refine s_1541_e ?_
  try rw [xr41_4 hs 4]
  refine zx1543_0 hs (by omega) (by omega) (by omega) (by omega) (by omega) (by omega) (by omega) q9 q10 q11 q12 q13 q14 q15 (⟨_, rfl, ?_⟩)
  refine ⟨fun h_1 => ?_, fun h_1 => ?_⟩
  · refine s_1541_43 _ ?_
    refine ⟨fun h_2 => ?_, fun h_2 => ?_⟩
    · refine s_1541_52 _ _ ?_
      refine ⟨by omega, ?_⟩
      exact k
    · exfalso; omega
  · exfalso; omega
set_option maxRecDepth 100000 in
/-- Reducer.firstBeaten [0, 43, 44] -/
theorem zx1543_1 {z : gH} {L d : Nat} {K : Option gV → gH → Prop} {s : gH}  (hs : xM z s)  (q0 : gp_I s 1 2 = 0) (q1 : gp_I s 1 6 = 0) (q2 : gp_I s 1 7 = 1) (q3 : gp_I s 51 8 = 0) (q4 : gp_I s 57 1 = 0) (q5 : gp_I s 57 3 = 0) (q6 : gp_I s 6 4 = 0) (q7 : gp_R s 25 6 = none) (q8 : gp_R s 25 7 = none) (q9 : gp_R s 25 8 = none) (q10 : gp_R s 25 9 = none) (q11 : ∀ k, k < 8 → gp_R s 4 k = some 25) (q12 : gp_R s 51 6 = some 55) (q13 : gp_R s 51 7 = some 56) (k : K (some (gp_i (-1))) s) : gs_C L (d + 1) 1543 11 [gp_r (some 41), gp_l (0#64), gp_r (some 43), gp_r (some 44)] s K := by
  refine s_1543_e _ _ _ ?_
  refine zx3585_1 hs q7 q8 q9 q10 (⟨_, rfl, ?_⟩)
  refine s_1543_9 _ _ _ _ _ _ _ _ ?_
  refine ⟨fun h_3 => ?_, fun h_3 => ?_⟩
  · exfalso; omega
  · exact k
set_option maxRecDepth 100000 in
/-- Reducer.rightThinned [] -/
theorem zx1542_0 {z : gH} {L d : Nat} {K : Option gV → gH → Prop} {s : gH}  (hs : xM z s)  (q0 : gp_I s 1 2 = 0) (q1 : gp_I s 1 6 = 0) (q2 : gp_I s 1 7 = 1) (q3 : gp_I s 51 8 = 0) (q4 : gp_I s 57 1 = 0) (q5 : gp_I s 57 3 = 0) (q6 : gp_I s 6 4 = 0) (q7 : gp_L s 43 0 = 0#64) (q8 : gp_L s 44 0 = 0#64) (q9 : gp_R s 25 6 = none) (q10 : gp_R s 25 7 = none) (q11 : gp_R s 25 8 = none) (q12 : gp_R s 25 9 = none) (q13 : ∀ k, k < 8 → gp_R s 4 k = some 25) (q14 : gp_R s 51 6 = some 55) (q15 : gp_R s 51 7 = some 56) (q16 : gp_us s = 606895) (q17 : gp_sz s = 117) (k : K (some (gp_i 0)) s) : gs_C L (d + 2) 1542 2 [gp_r (some 41)] s K := by
  refine s_1542_e ?_
  try rw [xr41_5 hs 5]
  refine zx1543_1 hs (by omega) (by omega) (by omega) (by omega) (by omega) (by omega) (by omega) q9 q10 q11 q12 q13 q14 q15 (⟨_, rfl, ?_⟩)
  refine ⟨fun h_1 => ?_, fun h_1 => ?_⟩
  · refine s_1542_43 _ ?_
    refine ⟨fun h_2 => ?_, fun h_2 => ?_⟩
    · refine s_1542_52 _ _ ?_
      refine ⟨by omega, ?_⟩
      exact k
    · exfalso; omega
  · exfalso; omega
set_option maxRecDepth 100000 in
/-- Pool.settle [] -/
theorem zx1027_1 {z : gH} {L d : Nat} {K : Option gV → gH → Prop} {s : gH}  (hs : xM z s)  (q0 : gp_I s 1 2 = 0) (q1 : gp_I s 1 6 = 0) (q2 : gp_I s 1 7 = 1) (q3 : gp_I s 51 8 = 0) (q4 : gp_I s 57 1 = 0) (q5 : gp_I s 57 3 = 0) (q6 : gp_I s 6 4 = 0) (q7 : gp_L s 43 0 = 0#64) (q8 : gp_L s 44 0 = 0#64) (q9 : gp_R s 25 6 = none) (q10 : gp_R s 25 7 = none) (q11 : gp_R s 25 8 = none) (q12 : gp_R s 25 9 = none) (q13 : ∀ k, k < 8 → gp_R s 4 k = some 25) (q14 : gp_R s 51 6 = some 55) (q15 : gp_R s 51 7 = some 56) (q16 : gp_us s = 606895) (q17 : gp_sz s = 117) (k : ∀ (t : gH), xM z t → (gp_I t 1 2 = 0) → (gp_I t 1 6 = 0) → (gp_I t 1 7 = 1) → (gp_I t 51 8 = 0) → (gp_I t 57 1 = 0) → (gp_I t 57 3 = 0) → (gp_I t 6 4 = 1) → (gp_L t 43 0 = 0#64) → (gp_L t 44 0 = 0#64) → (gp_R t 25 6 = none) → (gp_R t 25 7 = none) → (gp_R t 25 8 = none) → (gp_R t 25 9 = none) → (∀ k, k < 8 → gp_R t 4 k = some 25) → (gp_R t 51 6 = some 55) → (gp_R t 51 7 = some 56) → (gp_us t = 606895) → (gp_sz t = 117) → K (some (gp_i 0)) t) : gs_C L (d + 1) 1027 6 [gp_r (some 6)] s K := by
  refine s_1027_e ?_
  try rw [show gp_I s 6 4 = 0 from q6]
  refine s_1027_7 _ _ _ _ _ ?_
  refine ⟨fun h_1 => ?_, fun h_1 => ?_⟩
  · exfalso; omega
  · try rw [show gp_I s 6 4 = 0 from q6]
    refine ⟨fun h_2 => ?_, fun h_2 => ?_⟩
    · try rw [show gp_I s 6 4 = 0 from q6]
      refine s_1027_140 _ _ _ _ _ ?_
      refine ⟨fun h_3 => ?_, fun h_3 => ?_⟩
      · exfalso; omega
      · try rw [show gp_I s 6 4 = 0 from q6]
        refine ⟨by omega, ?_⟩
        intro s_4 e_5
        have hs_6 : xM z s_4 := by rw [e_5]; exact xw14 hs _ _ (by omega)
        have q_7 : gp_I s_4 1 2 = 0 := by rw [e_5]; exact q0
        have q_8 : gp_I s_4 1 6 = 0 := by rw [e_5]; exact q1
        have q_9 : gp_I s_4 1 7 = 1 := by rw [e_5]; exact q2
        have q_10 : gp_I s_4 51 8 = 0 := by rw [e_5]; exact q3
        have q_11 : gp_I s_4 57 1 = 0 := by rw [e_5]; exact q4
        have q_12 : gp_I s_4 57 3 = 0 := by rw [e_5]; exact q5
        have q_13 : gp_I s_4 6 4 = 0 := by rw [e_5]; exact q6
        have q_14 : gp_L s_4 43 0 = 0#64 := by rw [e_5]; exact q7
        have q_15 : gp_L s_4 44 0 = 0#64 := by rw [e_5]; exact q8
        have q_16 : gp_R s_4 25 6 = none := by rw [e_5]; exact q9
        have q_17 : gp_R s_4 25 7 = none := by rw [e_5]; exact q10
        have q_18 : gp_R s_4 25 8 = none := by rw [e_5]; exact q11
        have q_19 : gp_R s_4 25 9 = none := by rw [e_5]; exact q12
        have q_20 : ∀ k, k < 8 → gp_R s_4 4 k = some 25 := by rw [e_5]; exact q13
        have q_21 : gp_R s_4 51 6 = some 55 := by rw [e_5]; exact q14
        have q_22 : gp_R s_4 51 7 = some 56 := by rw [e_5]; exact q15
        have q_23 : gp_us s_4 = 606895 := by rw [e_5]; exact q16
        have q_24 : gp_sz s_4 = 117 := by rw [e_5]; exact q17
        try rw [show gp_I s_4 6 4 = 0 from q_13]
        refine ⟨by omega, ?_⟩
        intro s_25 e_26
        have hs_27 : xM z s_25 := by rw [e_26]; exact xw13 hs_6 _ _ (by omega)
        have q_28 : gp_I s_25 1 2 = 0 := by rw [e_26]; exact q_7
        have q_29 : gp_I s_25 1 6 = 0 := by rw [e_26]; exact q_8
        have q_30 : gp_I s_25 1 7 = 1 := by rw [e_26]; exact q_9
        have q_31 : gp_I s_25 51 8 = 0 := by rw [e_26]; exact q_10
        have q_32 : gp_I s_25 57 1 = 0 := by rw [e_26]; exact q_11
        have q_33 : gp_I s_25 57 3 = 0 := by rw [e_26]; exact q_12
        have q_34 : gp_I s_25 6 4 = 0 := by rw [e_26]; exact q_13
        have q_35 : gp_L s_25 43 0 = 0#64 := by rw [e_26]; exact q_14
        have q_36 : gp_L s_25 44 0 = 0#64 := by rw [e_26]; exact q_15
        have q_37 : gp_R s_25 25 6 = none := by rw [e_26]; exact q_16
        have q_38 : gp_R s_25 25 7 = none := by rw [e_26]; exact q_17
        have q_39 : gp_R s_25 25 8 = none := by rw [e_26]; exact q_18
        have q_40 : gp_R s_25 25 9 = none := by rw [e_26]; exact q_19
        have q_41 : ∀ k, k < 8 → gp_R s_25 4 k = some 25 := by rw [e_26]; exact q_20
        have q_42 : gp_R s_25 51 6 = some 55 := by rw [e_26]; exact q_21
        have q_43 : gp_R s_25 51 7 = some 56 := by rw [e_26]; exact q_22
        have q_44 : gp_us s_25 = 606895 := by rw [e_26]; exact q_23
        have q_45 : gp_sz s_25 = 117 := by rw [e_26]; exact q_24
        try rw [show gp_I s_25 6 4 = 0 from q_34]
        have w_46 := gz_w (0 + 1)
        have e_47 : gp_wr (0 + 1) = 1 := by omega
        try rw [e_47]
        intro s_48 e_49
        have hs_50 : xM z s_48 := by rw [e_49]; exact xw6_4 hs_27 0 _
        have q_51 : gp_I s_48 1 2 = 0 := by rw [e_49]; exact q_28
        have q_52 : gp_I s_48 1 6 = 0 := by rw [e_49]; exact q_29
        have q_53 : gp_I s_48 1 7 = 1 := by rw [e_49]; exact q_30
        have q_54 : gp_I s_48 51 8 = 0 := by rw [e_49]; exact q_31
        have q_55 : gp_I s_48 57 1 = 0 := by rw [e_49]; exact q_32
        have q_56 : gp_I s_48 57 3 = 0 := by rw [e_49]; exact q_33
        have q_57 : gp_L s_48 43 0 = 0#64 := by rw [e_49]; exact q_35
        have q_58 : gp_L s_48 44 0 = 0#64 := by rw [e_49]; exact q_36
        have q_59 : gp_R s_48 25 6 = none := by rw [e_49]; exact q_37
        have q_60 : gp_R s_48 25 7 = none := by rw [e_49]; exact q_38
        have q_61 : gp_R s_48 25 8 = none := by rw [e_49]; exact q_39
        have q_62 : gp_R s_48 25 9 = none := by rw [e_49]; exact q_40
        have q_63 : ∀ k, k < 8 → gp_R s_48 4 k = some 25 := by rw [e_49]; exact q_41
        have q_64 : gp_R s_48 51 6 = some 55 := by rw [e_49]; exact q_42
        have q_65 : gp_R s_48 51 7 = some 56 := by rw [e_49]; exact q_43
        have q_66 : gp_us s_48 = 606895 := by rw [e_49]; exact q_44
        have q_67 : gp_sz s_48 = 117 := by rw [e_49]; exact q_45
        have q_68 : gp_I s_48 6 4 = 1 := by rw [e_49]; rfl
        try rw [show gp_I s_48 6 4 = 1 from q_68]
        have w_70 := gz_w (1 - 1)
        have e_71 : gp_wr (1 - 1) = 0 := by omega
        try rw [e_71]
        exact k s_48 hs_50 (by omega) (by omega) (by omega) (by omega) (by omega) (by omega) (by omega) q_57 q_58 q_59 q_60 q_61 q_62 q_63 q_64 q_65 q_66 q_67
    · exfalso; omega
set_option maxRecDepth 100000 in
/-- Least.note [42, (0, 0), (0, 0)] -/
theorem zx3_0 {z : gH} {L d : Nat} {K : Option gV → gH → Prop} {s : gH}  (hs : xM z s)  (q0 : gp_I s 1 2 = 0) (q1 : gp_I s 1 6 = 0) (q2 : gp_I s 1 7 = 1) (q3 : gp_I s 51 8 = 0) (q4 : gp_I s 57 1 = 0) (q5 : gp_I s 57 3 = 0) (q6 : gp_I s 6 4 = 1) (q7 : gp_L s 43 0 = 0#64) (q8 : gp_L s 44 0 = 0#64) (q9 : gp_R s 25 6 = none) (q10 : gp_R s 25 7 = none) (q11 : gp_R s 25 8 = none) (q12 : gp_R s 25 9 = none) (q13 : ∀ k, k < 8 → gp_R s 4 k = some 25) (q14 : gp_R s 51 6 = some 55) (q15 : gp_R s 51 7 = some 56) (q16 : gp_us s = 606895) (q17 : gp_sz s = 117) (k : ∀ (t : gH), xM z t → (gp_I t 1 2 = 0) → (gp_I t 1 6 = 0) → (gp_I t 1 7 = 1) → (gp_I t 51 8 = 0) → (gp_I t 57 1 = 0) → (gp_I t 57 3 = 0) → (gp_I t 6 4 = 1) → (gp_L t 43 0 = 1#64) → (gp_L t 44 0 = 1#64) → (gp_R t 25 6 = none) → (gp_R t 25 7 = none) → (gp_R t 25 8 = none) → (gp_R t 25 9 = none) → (∀ k, k < 8 → gp_R t 4 k = some 25) → (gp_R t 51 6 = some 55) → (gp_R t 51 7 = some 56) → (gp_us t = 606895) → (gp_sz t = 117) → K none t) : gs_C L d 3 3 [gp_r (some 42), gp_i 0, gp_i 0] s K := by
  refine s_3_e _ _ _ ?_
  refine ⟨42, rfl, ?_⟩
  refine ⟨rfl, ?_⟩
  try rw [show gp_R (gp_mk L s) 42 0 = some 43 from rfl]
  refine ⟨43, rfl, ?_⟩
  refine ⟨⟨rfl, by show 0 ≤ 0 ∧ 0 < 61; omega⟩, ?_⟩
  try rw [show gp_L s 43 (0 : Int).toNat = 0#64 from q7]
  have e_1 : (1#64) <<< ((0 : Int) % 64).toNat = 1#64 := by decide
  try rw [e_1]
  have e_2 : (0#64) ||| (1#64) = 1#64 := by decide
  try rw [e_2]
  refine ⟨⟨rfl, by show 0 ≤ 0 ∧ 0 < 61; omega⟩, ?_⟩
  intro s_3 e_4
  have hs_5 : xM z s_3 := by rw [e_4]; exact xw43 hs _ _
  have q_6 : gp_I s_3 1 2 = 0 := by rw [e_4]; exact q0
  have q_7 : gp_I s_3 1 6 = 0 := by rw [e_4]; exact q1
  have q_8 : gp_I s_3 1 7 = 1 := by rw [e_4]; exact q2
  have q_9 : gp_I s_3 51 8 = 0 := by rw [e_4]; exact q3
  have q_10 : gp_I s_3 57 1 = 0 := by rw [e_4]; exact q4
  have q_11 : gp_I s_3 57 3 = 0 := by rw [e_4]; exact q5
  have q_12 : gp_I s_3 6 4 = 1 := by rw [e_4]; exact q6
  have q_13 : gp_L s_3 44 0 = 0#64 := by rw [e_4]; exact q8
  have q_14 : gp_R s_3 25 6 = none := by rw [e_4]; exact q9
  have q_15 : gp_R s_3 25 7 = none := by rw [e_4]; exact q10
  have q_16 : gp_R s_3 25 8 = none := by rw [e_4]; exact q11
  have q_17 : gp_R s_3 25 9 = none := by rw [e_4]; exact q12
  have q_18 : ∀ k, k < 8 → gp_R s_3 4 k = some 25 := by rw [e_4]; exact q13
  have q_19 : gp_R s_3 51 6 = some 55 := by rw [e_4]; exact q14
  have q_20 : gp_R s_3 51 7 = some 56 := by rw [e_4]; exact q15
  have q_21 : gp_us s_3 = 606895 := by rw [e_4]; exact q16
  have q_22 : gp_sz s_3 = 117 := by rw [e_4]; exact q17
  have q_23 : gp_L s_3 43 0 = 1#64 := by rw [e_4]; rfl
  refine ⟨rfl, ?_⟩
  try rw [show gp_R (gp_mk L s_3) 42 1 = some 44 from rfl]
  refine ⟨44, rfl, ?_⟩
  refine ⟨⟨rfl, by show 0 ≤ 0 ∧ 0 < 61; omega⟩, ?_⟩
  try rw [show gp_L s_3 44 (0 : Int).toNat = 0#64 from q_13]
  have e_24 : (1#64) <<< ((0 : Int) % 64).toNat = 1#64 := by decide
  try rw [e_24]
  have e_25 : (0#64) ||| (1#64) = 1#64 := by decide
  try rw [e_25]
  refine ⟨⟨rfl, by show 0 ≤ 0 ∧ 0 < 61; omega⟩, ?_⟩
  intro s_26 e_27
  have hs_28 : xM z s_26 := by rw [e_27]; exact xw44 hs_5 _ _
  have q_29 : gp_I s_26 1 2 = 0 := by rw [e_27]; exact q_6
  have q_30 : gp_I s_26 1 6 = 0 := by rw [e_27]; exact q_7
  have q_31 : gp_I s_26 1 7 = 1 := by rw [e_27]; exact q_8
  have q_32 : gp_I s_26 51 8 = 0 := by rw [e_27]; exact q_9
  have q_33 : gp_I s_26 57 1 = 0 := by rw [e_27]; exact q_10
  have q_34 : gp_I s_26 57 3 = 0 := by rw [e_27]; exact q_11
  have q_35 : gp_I s_26 6 4 = 1 := by rw [e_27]; exact q_12
  have q_36 : gp_R s_26 25 6 = none := by rw [e_27]; exact q_14
  have q_37 : gp_R s_26 25 7 = none := by rw [e_27]; exact q_15
  have q_38 : gp_R s_26 25 8 = none := by rw [e_27]; exact q_16
  have q_39 : gp_R s_26 25 9 = none := by rw [e_27]; exact q_17
  have q_40 : ∀ k, k < 8 → gp_R s_26 4 k = some 25 := by rw [e_27]; exact q_18
  have q_41 : gp_R s_26 51 6 = some 55 := by rw [e_27]; exact q_19
  have q_42 : gp_R s_26 51 7 = some 56 := by rw [e_27]; exact q_20
  have q_43 : gp_us s_26 = 606895 := by rw [e_27]; exact q_21
  have q_44 : gp_sz s_26 = 117 := by rw [e_27]; exact q_22
  have q_45 : gp_L s_26 43 0 = 1#64 := by rw [e_27]; exact q_23
  have q_46 : gp_L s_26 44 0 = 1#64 := by rw [e_27]; rfl
  exact k s_26 hs_28 (by omega) (by omega) (by omega) (by omega) (by omega) (by omega) (by omega) q_45 q_46 q_36 q_37 q_38 q_39 q_40 q_41 q_42 q_43 q_44
set_option maxRecDepth 100000 in
/-- Table.<init> [117, (1, 1)] -/
theorem zx2304_22 {z : gH} {L d : Nat} {K : Option gV → gH → Prop} {s : gH}  (hs : xM z s)  (q0 : gp_I s 1 2 = 0) (q1 : gp_I s 1 6 = 0) (q2 : gp_I s 1 7 = 1) (q3 : gp_I s 117 0 = 0) (q4 : gp_I s 51 8 = 0) (q5 : gp_I s 57 1 = 0) (q6 : gp_I s 57 3 = 0) (q7 : gp_I s 6 4 = 1) (q8 : gp_L s 43 0 = 1#64) (q9 : gp_L s 44 0 = 1#64) (q10 : gp_R s 117 1 = none) (q11 : gp_R s 117 2 = none) (q12 : gp_R s 117 3 = none) (q13 : gp_R s 117 4 = none) (q14 : gp_R s 117 5 = none) (q15 : gp_R s 117 6 = none) (q16 : gp_R s 117 7 = none) (q17 : gp_R s 117 8 = none) (q18 : gp_R s 117 9 = none) (q19 : gp_R s 25 6 = none) (q20 : gp_R s 25 7 = none) (q21 : gp_R s 25 8 = none) (q22 : gp_R s 25 9 = none) (q23 : ∀ k, k < 8 → gp_R s 4 k = some 25) (q24 : gp_R s 51 6 = some 55) (q25 : gp_R s 51 7 = some 56) (q26 : gp_sh s 117 = (9, 10)) (q27 : gp_us s = 606905) (q28 : gp_sz s = 118) (k : ∀ (t : gH), xM z t → (gp_I t 1 2 = 0) → (gp_I t 1 6 = 0) → (gp_I t 1 7 = 1) → (gp_I t 117 0 = 1) → (gp_I t 120 0 = 0) → (gp_I t 121 0 = 0) → (gp_I t 122 0 = 0) → (gp_I t 51 8 = 0) → (gp_I t 57 1 = 0) → (gp_I t 57 3 = 0) → (gp_I t 6 4 = 1) → (gp_L t 118 0 = 0#64) → (gp_L t 119 0 = 0#64) → (gp_L t 43 0 = 1#64) → (gp_L t 44 0 = 1#64) → (gp_R t 117 1 = some 118) → (gp_R t 117 2 = some 119) → (gp_R t 117 3 = some 120) → (gp_R t 117 4 = some 121) → (gp_R t 117 5 = some 122) → (gp_R t 117 6 = none) → (gp_R t 117 7 = none) → (gp_R t 117 8 = none) → (gp_R t 117 9 = none) → (gp_R t 25 6 = none) → (gp_R t 25 7 = none) → (gp_R t 25 8 = none) → (gp_R t 25 9 = none) → (∀ k, k < 8 → gp_R t 4 k = some 25) → (gp_R t 51 6 = some 55) → (gp_R t 51 7 = some 56) → (gp_sh t 117 = (9, 10)) → (gp_sh t 118 = (101, 1)) → (gp_sh t 119 = (101, 1)) → (gp_sh t 120 = (100, 1)) → (gp_sh t 121 = (100, 1)) → (gp_sh t 122 = (100, 1)) → (gp_us t = 606910) → (gp_sz t = 123) → K none t) : gs_C L d 2304 2 [gp_r (some 117), gp_i 1] s K := by
  refine s_2304_e _ _ ?_
  refine ⟨117, rfl, ?_⟩
  refine ⟨(by show (gp_sh s 117).1 = 9; rw [q26]), ?_⟩
  intro s_1 e_2
  have hs_3 : xM z s_1 := by rw [e_2]; exact xI.wId hs _ _ _ (by omega)
  have q_4 : gp_I s_1 1 2 = 0 := by rw [e_2]; exact q0
  have q_5 : gp_I s_1 1 6 = 0 := by rw [e_2]; exact q1
  have q_6 : gp_I s_1 1 7 = 1 := by rw [e_2]; exact q2
  have q_7 : gp_I s_1 51 8 = 0 := by rw [e_2]; exact q4
  have q_8 : gp_I s_1 57 1 = 0 := by rw [e_2]; exact q5
  have q_9 : gp_I s_1 57 3 = 0 := by rw [e_2]; exact q6
  have q_10 : gp_I s_1 6 4 = 1 := by rw [e_2]; exact q7
  have q_11 : gp_L s_1 43 0 = 1#64 := by rw [e_2]; exact q8
  have q_12 : gp_L s_1 44 0 = 1#64 := by rw [e_2]; exact q9
  have q_13 : gp_R s_1 117 1 = none := by rw [e_2]; exact q10
  have q_14 : gp_R s_1 117 2 = none := by rw [e_2]; exact q11
  have q_15 : gp_R s_1 117 3 = none := by rw [e_2]; exact q12
  have q_16 : gp_R s_1 117 4 = none := by rw [e_2]; exact q13
  have q_17 : gp_R s_1 117 5 = none := by rw [e_2]; exact q14
  have q_18 : gp_R s_1 117 6 = none := by rw [e_2]; exact q15
  have q_19 : gp_R s_1 117 7 = none := by rw [e_2]; exact q16
  have q_20 : gp_R s_1 117 8 = none := by rw [e_2]; exact q17
  have q_21 : gp_R s_1 117 9 = none := by rw [e_2]; exact q18
  have q_22 : gp_R s_1 25 6 = none := by rw [e_2]; exact q19
  have q_23 : gp_R s_1 25 7 = none := by rw [e_2]; exact q20
  have q_24 : gp_R s_1 25 8 = none := by rw [e_2]; exact q21
  have q_25 : gp_R s_1 25 9 = none := by rw [e_2]; exact q22
  have q_26 : ∀ k, k < 8 → gp_R s_1 4 k = some 25 := by rw [e_2]; exact q23
  have q_27 : gp_R s_1 51 6 = some 55 := by rw [e_2]; exact q24
  have q_28 : gp_R s_1 51 7 = some 56 := by rw [e_2]; exact q25
  have q_29 : gp_sh s_1 117 = (9, 10) := by rw [e_2]; exact q26
  have q_30 : gp_us s_1 = 606905 := by rw [e_2]; exact q27
  have q_31 : gp_sz s_1 = 118 := by rw [e_2]; exact q28
  have q_32 : gp_I s_1 117 0 = 1 := by rw [e_2]; rfl
  refine ⟨by omega, ?_⟩
  refine ⟨by omega, ?_⟩
  try rw [show gp_sz s_1 = 118 from q_31]
  intro s_34 e_35
  have hs_36 : xM z s_34 := by rw [e_35]; exact xI.new hs_3 (by omega)
  have q_37 : gp_I s_34 1 2 = 0 := by rw [e_35, gz_nI q_31 (by decide)]; exact q_4
  have q_38 : gp_I s_34 1 6 = 0 := by rw [e_35, gz_nI q_31 (by decide)]; exact q_5
  have q_39 : gp_I s_34 1 7 = 1 := by rw [e_35, gz_nI q_31 (by decide)]; exact q_6
  have q_40 : gp_I s_34 51 8 = 0 := by rw [e_35, gz_nI q_31 (by decide)]; exact q_7
  have q_41 : gp_I s_34 57 1 = 0 := by rw [e_35, gz_nI q_31 (by decide)]; exact q_8
  have q_42 : gp_I s_34 57 3 = 0 := by rw [e_35, gz_nI q_31 (by decide)]; exact q_9
  have q_43 : gp_I s_34 6 4 = 1 := by rw [e_35, gz_nI q_31 (by decide)]; exact q_10
  have q_44 : gp_L s_34 43 0 = 1#64 := by rw [e_35, gz_nL q_31 (by decide)]; exact q_11
  have q_45 : gp_L s_34 44 0 = 1#64 := by rw [e_35, gz_nL q_31 (by decide)]; exact q_12
  have q_46 : gp_R s_34 117 1 = none := by rw [e_35, gz_nR q_31 (by decide)]; exact q_13
  have q_47 : gp_R s_34 117 2 = none := by rw [e_35, gz_nR q_31 (by decide)]; exact q_14
  have q_48 : gp_R s_34 117 3 = none := by rw [e_35, gz_nR q_31 (by decide)]; exact q_15
  have q_49 : gp_R s_34 117 4 = none := by rw [e_35, gz_nR q_31 (by decide)]; exact q_16
  have q_50 : gp_R s_34 117 5 = none := by rw [e_35, gz_nR q_31 (by decide)]; exact q_17
  have q_51 : gp_R s_34 117 6 = none := by rw [e_35, gz_nR q_31 (by decide)]; exact q_18
  have q_52 : gp_R s_34 117 7 = none := by rw [e_35, gz_nR q_31 (by decide)]; exact q_19
  have q_53 : gp_R s_34 117 8 = none := by rw [e_35, gz_nR q_31 (by decide)]; exact q_20
  have q_54 : gp_R s_34 117 9 = none := by rw [e_35, gz_nR q_31 (by decide)]; exact q_21
  have q_55 : gp_R s_34 25 6 = none := by rw [e_35, gz_nR q_31 (by decide)]; exact q_22
  have q_56 : gp_R s_34 25 7 = none := by rw [e_35, gz_nR q_31 (by decide)]; exact q_23
  have q_57 : gp_R s_34 25 8 = none := by rw [e_35, gz_nR q_31 (by decide)]; exact q_24
  have q_58 : gp_R s_34 25 9 = none := by rw [e_35, gz_nR q_31 (by decide)]; exact q_25
  have q_59 : ∀ k, k < 8 → gp_R s_34 4 k = some 25 := fun k hk => by rw [e_35, gz_nR q_31 (by decide)]; exact q_26 k hk
  have q_60 : gp_R s_34 51 6 = some 55 := by rw [e_35, gz_nR q_31 (by decide)]; exact q_27
  have q_61 : gp_R s_34 51 7 = some 56 := by rw [e_35, gz_nR q_31 (by decide)]; exact q_28
  have q_62 : gp_sh s_34 117 = (9, 10) := by rw [e_35, gz_nS q_31 (by decide)]; exact q_29
  have q_63 : gp_us s_34 = 606906 := by rw [e_35]; show gp_us s_1 + 1 = 606906; rw [q_30]; try rfl
  have q_64 : gp_sz s_34 = 119 := by rw [e_35]; exact congrArg Nat.succ q_31
  have q_65 : gp_I s_34 117 0 = 1 := by rw [e_35, gz_nI q_31 (by decide)]; exact q_32
  have q_66 : gp_sh s_34 118 = (101, 1) := by rw [e_35]; exact gz_nSs q_31
  have q_67 : gp_L s_34 118 0 = 0#64 := by rw [e_35]; exact gz_nLs q_31
  refine ⟨(by show (gp_sh s_34 117).1 = 9; rw [q_62]), ?_⟩
  refine ⟨rfl, ?_⟩
  intro s_68 e_69
  have hs_70 : xM z s_68 := by rw [e_69]; exact xI.wR hs_36 _ _ _
  have q_71 : gp_I s_68 1 2 = 0 := by rw [e_69]; exact q_37
  have q_72 : gp_I s_68 1 6 = 0 := by rw [e_69]; exact q_38
  have q_73 : gp_I s_68 1 7 = 1 := by rw [e_69]; exact q_39
  have q_74 : gp_I s_68 51 8 = 0 := by rw [e_69]; exact q_40
  have q_75 : gp_I s_68 57 1 = 0 := by rw [e_69]; exact q_41
  have q_76 : gp_I s_68 57 3 = 0 := by rw [e_69]; exact q_42
  have q_77 : gp_I s_68 6 4 = 1 := by rw [e_69]; exact q_43
  have q_78 : gp_L s_68 43 0 = 1#64 := by rw [e_69]; exact q_44
  have q_79 : gp_L s_68 44 0 = 1#64 := by rw [e_69]; exact q_45
  have q_80 : gp_R s_68 117 2 = none := by rw [e_69]; exact q_47
  have q_81 : gp_R s_68 117 3 = none := by rw [e_69]; exact q_48
  have q_82 : gp_R s_68 117 4 = none := by rw [e_69]; exact q_49
  have q_83 : gp_R s_68 117 5 = none := by rw [e_69]; exact q_50
  have q_84 : gp_R s_68 117 6 = none := by rw [e_69]; exact q_51
  have q_85 : gp_R s_68 117 7 = none := by rw [e_69]; exact q_52
  have q_86 : gp_R s_68 117 8 = none := by rw [e_69]; exact q_53
  have q_87 : gp_R s_68 117 9 = none := by rw [e_69]; exact q_54
  have q_88 : gp_R s_68 25 6 = none := by rw [e_69]; exact q_55
  have q_89 : gp_R s_68 25 7 = none := by rw [e_69]; exact q_56
  have q_90 : gp_R s_68 25 8 = none := by rw [e_69]; exact q_57
  have q_91 : gp_R s_68 25 9 = none := by rw [e_69]; exact q_58
  have q_92 : ∀ k, k < 8 → gp_R s_68 4 k = some 25 := by rw [e_69]; exact q_59
  have q_93 : gp_R s_68 51 6 = some 55 := by rw [e_69]; exact q_60
  have q_94 : gp_R s_68 51 7 = some 56 := by rw [e_69]; exact q_61
  have q_95 : gp_sh s_68 117 = (9, 10) := by rw [e_69]; exact q_62
  have q_96 : gp_us s_68 = 606906 := by rw [e_69]; exact q_63
  have q_97 : gp_sz s_68 = 119 := by rw [e_69]; exact q_64
  have q_98 : gp_I s_68 117 0 = 1 := by rw [e_69]; exact q_65
  have q_99 : gp_sh s_68 118 = (101, 1) := by rw [e_69]; exact q_66
  have q_100 : gp_L s_68 118 0 = 0#64 := by rw [e_69]; exact q_67
  have q_101 : gp_R s_68 117 1 = some 118 := by rw [e_69]; rfl
  refine ⟨by omega, ?_⟩
  refine ⟨by omega, ?_⟩
  try rw [show gp_sz s_68 = 119 from q_97]
  intro s_102 e_103
  have hs_104 : xM z s_102 := by rw [e_103]; exact xI.new hs_70 (by omega)
  have q_105 : gp_I s_102 1 2 = 0 := by rw [e_103, gz_nI q_97 (by decide)]; exact q_71
  have q_106 : gp_I s_102 1 6 = 0 := by rw [e_103, gz_nI q_97 (by decide)]; exact q_72
  have q_107 : gp_I s_102 1 7 = 1 := by rw [e_103, gz_nI q_97 (by decide)]; exact q_73
  have q_108 : gp_I s_102 51 8 = 0 := by rw [e_103, gz_nI q_97 (by decide)]; exact q_74
  have q_109 : gp_I s_102 57 1 = 0 := by rw [e_103, gz_nI q_97 (by decide)]; exact q_75
  have q_110 : gp_I s_102 57 3 = 0 := by rw [e_103, gz_nI q_97 (by decide)]; exact q_76
  have q_111 : gp_I s_102 6 4 = 1 := by rw [e_103, gz_nI q_97 (by decide)]; exact q_77
  have q_112 : gp_L s_102 43 0 = 1#64 := by rw [e_103, gz_nL q_97 (by decide)]; exact q_78
  have q_113 : gp_L s_102 44 0 = 1#64 := by rw [e_103, gz_nL q_97 (by decide)]; exact q_79
  have q_114 : gp_R s_102 117 2 = none := by rw [e_103, gz_nR q_97 (by decide)]; exact q_80
  have q_115 : gp_R s_102 117 3 = none := by rw [e_103, gz_nR q_97 (by decide)]; exact q_81
  have q_116 : gp_R s_102 117 4 = none := by rw [e_103, gz_nR q_97 (by decide)]; exact q_82
  have q_117 : gp_R s_102 117 5 = none := by rw [e_103, gz_nR q_97 (by decide)]; exact q_83
  have q_118 : gp_R s_102 117 6 = none := by rw [e_103, gz_nR q_97 (by decide)]; exact q_84
  have q_119 : gp_R s_102 117 7 = none := by rw [e_103, gz_nR q_97 (by decide)]; exact q_85
  have q_120 : gp_R s_102 117 8 = none := by rw [e_103, gz_nR q_97 (by decide)]; exact q_86
  have q_121 : gp_R s_102 117 9 = none := by rw [e_103, gz_nR q_97 (by decide)]; exact q_87
  have q_122 : gp_R s_102 25 6 = none := by rw [e_103, gz_nR q_97 (by decide)]; exact q_88
  have q_123 : gp_R s_102 25 7 = none := by rw [e_103, gz_nR q_97 (by decide)]; exact q_89
  have q_124 : gp_R s_102 25 8 = none := by rw [e_103, gz_nR q_97 (by decide)]; exact q_90
  have q_125 : gp_R s_102 25 9 = none := by rw [e_103, gz_nR q_97 (by decide)]; exact q_91
  have q_126 : ∀ k, k < 8 → gp_R s_102 4 k = some 25 := fun k hk => by rw [e_103, gz_nR q_97 (by decide)]; exact q_92 k hk
  have q_127 : gp_R s_102 51 6 = some 55 := by rw [e_103, gz_nR q_97 (by decide)]; exact q_93
  have q_128 : gp_R s_102 51 7 = some 56 := by rw [e_103, gz_nR q_97 (by decide)]; exact q_94
  have q_129 : gp_sh s_102 117 = (9, 10) := by rw [e_103, gz_nS q_97 (by decide)]; exact q_95
  have q_130 : gp_us s_102 = 606907 := by rw [e_103]; show gp_us s_68 + 1 = 606907; rw [q_96]; try rfl
  have q_131 : gp_sz s_102 = 120 := by rw [e_103]; exact congrArg Nat.succ q_97
  have q_132 : gp_I s_102 117 0 = 1 := by rw [e_103, gz_nI q_97 (by decide)]; exact q_98
  have q_133 : gp_sh s_102 118 = (101, 1) := by rw [e_103, gz_nS q_97 (by decide)]; exact q_99
  have q_134 : gp_L s_102 118 0 = 0#64 := by rw [e_103, gz_nL q_97 (by decide)]; exact q_100
  have q_135 : gp_R s_102 117 1 = some 118 := by rw [e_103, gz_nR q_97 (by decide)]; exact q_101
  have q_136 : gp_sh s_102 119 = (101, 1) := by rw [e_103]; exact gz_nSs q_97
  have q_137 : gp_L s_102 119 0 = 0#64 := by rw [e_103]; exact gz_nLs q_97
  refine ⟨(by show (gp_sh s_102 117).1 = 9; rw [q_129]), ?_⟩
  refine ⟨rfl, ?_⟩
  intro s_138 e_139
  have hs_140 : xM z s_138 := by rw [e_139]; exact xI.wR hs_104 _ _ _
  have q_141 : gp_I s_138 1 2 = 0 := by rw [e_139]; exact q_105
  have q_142 : gp_I s_138 1 6 = 0 := by rw [e_139]; exact q_106
  have q_143 : gp_I s_138 1 7 = 1 := by rw [e_139]; exact q_107
  have q_144 : gp_I s_138 51 8 = 0 := by rw [e_139]; exact q_108
  have q_145 : gp_I s_138 57 1 = 0 := by rw [e_139]; exact q_109
  have q_146 : gp_I s_138 57 3 = 0 := by rw [e_139]; exact q_110
  have q_147 : gp_I s_138 6 4 = 1 := by rw [e_139]; exact q_111
  have q_148 : gp_L s_138 43 0 = 1#64 := by rw [e_139]; exact q_112
  have q_149 : gp_L s_138 44 0 = 1#64 := by rw [e_139]; exact q_113
  have q_150 : gp_R s_138 117 3 = none := by rw [e_139]; exact q_115
  have q_151 : gp_R s_138 117 4 = none := by rw [e_139]; exact q_116
  have q_152 : gp_R s_138 117 5 = none := by rw [e_139]; exact q_117
  have q_153 : gp_R s_138 117 6 = none := by rw [e_139]; exact q_118
  have q_154 : gp_R s_138 117 7 = none := by rw [e_139]; exact q_119
  have q_155 : gp_R s_138 117 8 = none := by rw [e_139]; exact q_120
  have q_156 : gp_R s_138 117 9 = none := by rw [e_139]; exact q_121
  have q_157 : gp_R s_138 25 6 = none := by rw [e_139]; exact q_122
  have q_158 : gp_R s_138 25 7 = none := by rw [e_139]; exact q_123
  have q_159 : gp_R s_138 25 8 = none := by rw [e_139]; exact q_124
  have q_160 : gp_R s_138 25 9 = none := by rw [e_139]; exact q_125
  have q_161 : ∀ k, k < 8 → gp_R s_138 4 k = some 25 := by rw [e_139]; exact q_126
  have q_162 : gp_R s_138 51 6 = some 55 := by rw [e_139]; exact q_127
  have q_163 : gp_R s_138 51 7 = some 56 := by rw [e_139]; exact q_128
  have q_164 : gp_sh s_138 117 = (9, 10) := by rw [e_139]; exact q_129
  have q_165 : gp_us s_138 = 606907 := by rw [e_139]; exact q_130
  have q_166 : gp_sz s_138 = 120 := by rw [e_139]; exact q_131
  have q_167 : gp_I s_138 117 0 = 1 := by rw [e_139]; exact q_132
  have q_168 : gp_sh s_138 118 = (101, 1) := by rw [e_139]; exact q_133
  have q_169 : gp_L s_138 118 0 = 0#64 := by rw [e_139]; exact q_134
  have q_170 : gp_R s_138 117 1 = some 118 := by rw [e_139]; exact q_135
  have q_171 : gp_sh s_138 119 = (101, 1) := by rw [e_139]; exact q_136
  have q_172 : gp_L s_138 119 0 = 0#64 := by rw [e_139]; exact q_137
  have q_173 : gp_R s_138 117 2 = some 119 := by rw [e_139]; rfl
  refine ⟨by omega, ?_⟩
  refine ⟨by omega, ?_⟩
  try rw [show gp_sz s_138 = 120 from q_166]
  intro s_174 e_175
  have hs_176 : xM z s_174 := by rw [e_175]; exact xI.new hs_140 (by omega)
  have q_177 : gp_I s_174 1 2 = 0 := by rw [e_175, gz_nI q_166 (by decide)]; exact q_141
  have q_178 : gp_I s_174 1 6 = 0 := by rw [e_175, gz_nI q_166 (by decide)]; exact q_142
  have q_179 : gp_I s_174 1 7 = 1 := by rw [e_175, gz_nI q_166 (by decide)]; exact q_143
  have q_180 : gp_I s_174 51 8 = 0 := by rw [e_175, gz_nI q_166 (by decide)]; exact q_144
  have q_181 : gp_I s_174 57 1 = 0 := by rw [e_175, gz_nI q_166 (by decide)]; exact q_145
  have q_182 : gp_I s_174 57 3 = 0 := by rw [e_175, gz_nI q_166 (by decide)]; exact q_146
  have q_183 : gp_I s_174 6 4 = 1 := by rw [e_175, gz_nI q_166 (by decide)]; exact q_147
  have q_184 : gp_L s_174 43 0 = 1#64 := by rw [e_175, gz_nL q_166 (by decide)]; exact q_148
  have q_185 : gp_L s_174 44 0 = 1#64 := by rw [e_175, gz_nL q_166 (by decide)]; exact q_149
  have q_186 : gp_R s_174 117 3 = none := by rw [e_175, gz_nR q_166 (by decide)]; exact q_150
  have q_187 : gp_R s_174 117 4 = none := by rw [e_175, gz_nR q_166 (by decide)]; exact q_151
  have q_188 : gp_R s_174 117 5 = none := by rw [e_175, gz_nR q_166 (by decide)]; exact q_152
  have q_189 : gp_R s_174 117 6 = none := by rw [e_175, gz_nR q_166 (by decide)]; exact q_153
  have q_190 : gp_R s_174 117 7 = none := by rw [e_175, gz_nR q_166 (by decide)]; exact q_154
  have q_191 : gp_R s_174 117 8 = none := by rw [e_175, gz_nR q_166 (by decide)]; exact q_155
  have q_192 : gp_R s_174 117 9 = none := by rw [e_175, gz_nR q_166 (by decide)]; exact q_156
  have q_193 : gp_R s_174 25 6 = none := by rw [e_175, gz_nR q_166 (by decide)]; exact q_157
  have q_194 : gp_R s_174 25 7 = none := by rw [e_175, gz_nR q_166 (by decide)]; exact q_158
  have q_195 : gp_R s_174 25 8 = none := by rw [e_175, gz_nR q_166 (by decide)]; exact q_159
  have q_196 : gp_R s_174 25 9 = none := by rw [e_175, gz_nR q_166 (by decide)]; exact q_160
  have q_197 : ∀ k, k < 8 → gp_R s_174 4 k = some 25 := fun k hk => by rw [e_175, gz_nR q_166 (by decide)]; exact q_161 k hk
  have q_198 : gp_R s_174 51 6 = some 55 := by rw [e_175, gz_nR q_166 (by decide)]; exact q_162
  have q_199 : gp_R s_174 51 7 = some 56 := by rw [e_175, gz_nR q_166 (by decide)]; exact q_163
  have q_200 : gp_sh s_174 117 = (9, 10) := by rw [e_175, gz_nS q_166 (by decide)]; exact q_164
  have q_201 : gp_us s_174 = 606908 := by rw [e_175]; show gp_us s_138 + 1 = 606908; rw [q_165]; try rfl
  have q_202 : gp_sz s_174 = 121 := by rw [e_175]; exact congrArg Nat.succ q_166
  have q_203 : gp_I s_174 117 0 = 1 := by rw [e_175, gz_nI q_166 (by decide)]; exact q_167
  have q_204 : gp_sh s_174 118 = (101, 1) := by rw [e_175, gz_nS q_166 (by decide)]; exact q_168
  have q_205 : gp_L s_174 118 0 = 0#64 := by rw [e_175, gz_nL q_166 (by decide)]; exact q_169
  have q_206 : gp_R s_174 117 1 = some 118 := by rw [e_175, gz_nR q_166 (by decide)]; exact q_170
  have q_207 : gp_sh s_174 119 = (101, 1) := by rw [e_175, gz_nS q_166 (by decide)]; exact q_171
  have q_208 : gp_L s_174 119 0 = 0#64 := by rw [e_175, gz_nL q_166 (by decide)]; exact q_172
  have q_209 : gp_R s_174 117 2 = some 119 := by rw [e_175, gz_nR q_166 (by decide)]; exact q_173
  have q_210 : gp_sh s_174 120 = (100, 1) := by rw [e_175]; exact gz_nSs q_166
  have q_211 : gp_I s_174 120 0 = 0 := by rw [e_175]; exact gz_nIs q_166
  refine ⟨(by show (gp_sh s_174 117).1 = 9; rw [q_200]), ?_⟩
  refine ⟨rfl, ?_⟩
  intro s_212 e_213
  have hs_214 : xM z s_212 := by rw [e_213]; exact xI.wR hs_176 _ _ _
  have q_215 : gp_I s_212 1 2 = 0 := by rw [e_213]; exact q_177
  have q_216 : gp_I s_212 1 6 = 0 := by rw [e_213]; exact q_178
  have q_217 : gp_I s_212 1 7 = 1 := by rw [e_213]; exact q_179
  have q_218 : gp_I s_212 51 8 = 0 := by rw [e_213]; exact q_180
  have q_219 : gp_I s_212 57 1 = 0 := by rw [e_213]; exact q_181
  have q_220 : gp_I s_212 57 3 = 0 := by rw [e_213]; exact q_182
  have q_221 : gp_I s_212 6 4 = 1 := by rw [e_213]; exact q_183
  have q_222 : gp_L s_212 43 0 = 1#64 := by rw [e_213]; exact q_184
  have q_223 : gp_L s_212 44 0 = 1#64 := by rw [e_213]; exact q_185
  have q_224 : gp_R s_212 117 4 = none := by rw [e_213]; exact q_187
  have q_225 : gp_R s_212 117 5 = none := by rw [e_213]; exact q_188
  have q_226 : gp_R s_212 117 6 = none := by rw [e_213]; exact q_189
  have q_227 : gp_R s_212 117 7 = none := by rw [e_213]; exact q_190
  have q_228 : gp_R s_212 117 8 = none := by rw [e_213]; exact q_191
  have q_229 : gp_R s_212 117 9 = none := by rw [e_213]; exact q_192
  have q_230 : gp_R s_212 25 6 = none := by rw [e_213]; exact q_193
  have q_231 : gp_R s_212 25 7 = none := by rw [e_213]; exact q_194
  have q_232 : gp_R s_212 25 8 = none := by rw [e_213]; exact q_195
  have q_233 : gp_R s_212 25 9 = none := by rw [e_213]; exact q_196
  have q_234 : ∀ k, k < 8 → gp_R s_212 4 k = some 25 := by rw [e_213]; exact q_197
  have q_235 : gp_R s_212 51 6 = some 55 := by rw [e_213]; exact q_198
  have q_236 : gp_R s_212 51 7 = some 56 := by rw [e_213]; exact q_199
  have q_237 : gp_sh s_212 117 = (9, 10) := by rw [e_213]; exact q_200
  have q_238 : gp_us s_212 = 606908 := by rw [e_213]; exact q_201
  have q_239 : gp_sz s_212 = 121 := by rw [e_213]; exact q_202
  have q_240 : gp_I s_212 117 0 = 1 := by rw [e_213]; exact q_203
  have q_241 : gp_sh s_212 118 = (101, 1) := by rw [e_213]; exact q_204
  have q_242 : gp_L s_212 118 0 = 0#64 := by rw [e_213]; exact q_205
  have q_243 : gp_R s_212 117 1 = some 118 := by rw [e_213]; exact q_206
  have q_244 : gp_sh s_212 119 = (101, 1) := by rw [e_213]; exact q_207
  have q_245 : gp_L s_212 119 0 = 0#64 := by rw [e_213]; exact q_208
  have q_246 : gp_R s_212 117 2 = some 119 := by rw [e_213]; exact q_209
  have q_247 : gp_sh s_212 120 = (100, 1) := by rw [e_213]; exact q_210
  have q_248 : gp_I s_212 120 0 = 0 := by rw [e_213]; exact q_211
  have q_249 : gp_R s_212 117 3 = some 120 := by rw [e_213]; rfl
  refine ⟨by omega, ?_⟩
  refine ⟨by omega, ?_⟩
  try rw [show gp_sz s_212 = 121 from q_239]
  intro s_250 e_251
  have hs_252 : xM z s_250 := by rw [e_251]; exact xI.new hs_214 (by omega)
  have q_253 : gp_I s_250 1 2 = 0 := by rw [e_251, gz_nI q_239 (by decide)]; exact q_215
  have q_254 : gp_I s_250 1 6 = 0 := by rw [e_251, gz_nI q_239 (by decide)]; exact q_216
  have q_255 : gp_I s_250 1 7 = 1 := by rw [e_251, gz_nI q_239 (by decide)]; exact q_217
  have q_256 : gp_I s_250 51 8 = 0 := by rw [e_251, gz_nI q_239 (by decide)]; exact q_218
  have q_257 : gp_I s_250 57 1 = 0 := by rw [e_251, gz_nI q_239 (by decide)]; exact q_219
  have q_258 : gp_I s_250 57 3 = 0 := by rw [e_251, gz_nI q_239 (by decide)]; exact q_220
  have q_259 : gp_I s_250 6 4 = 1 := by rw [e_251, gz_nI q_239 (by decide)]; exact q_221
  have q_260 : gp_L s_250 43 0 = 1#64 := by rw [e_251, gz_nL q_239 (by decide)]; exact q_222
  have q_261 : gp_L s_250 44 0 = 1#64 := by rw [e_251, gz_nL q_239 (by decide)]; exact q_223
  have q_262 : gp_R s_250 117 4 = none := by rw [e_251, gz_nR q_239 (by decide)]; exact q_224
  have q_263 : gp_R s_250 117 5 = none := by rw [e_251, gz_nR q_239 (by decide)]; exact q_225
  have q_264 : gp_R s_250 117 6 = none := by rw [e_251, gz_nR q_239 (by decide)]; exact q_226
  have q_265 : gp_R s_250 117 7 = none := by rw [e_251, gz_nR q_239 (by decide)]; exact q_227
  have q_266 : gp_R s_250 117 8 = none := by rw [e_251, gz_nR q_239 (by decide)]; exact q_228
  have q_267 : gp_R s_250 117 9 = none := by rw [e_251, gz_nR q_239 (by decide)]; exact q_229
  have q_268 : gp_R s_250 25 6 = none := by rw [e_251, gz_nR q_239 (by decide)]; exact q_230
  have q_269 : gp_R s_250 25 7 = none := by rw [e_251, gz_nR q_239 (by decide)]; exact q_231
  have q_270 : gp_R s_250 25 8 = none := by rw [e_251, gz_nR q_239 (by decide)]; exact q_232
  have q_271 : gp_R s_250 25 9 = none := by rw [e_251, gz_nR q_239 (by decide)]; exact q_233
  have q_272 : ∀ k, k < 8 → gp_R s_250 4 k = some 25 := fun k hk => by rw [e_251, gz_nR q_239 (by decide)]; exact q_234 k hk
  have q_273 : gp_R s_250 51 6 = some 55 := by rw [e_251, gz_nR q_239 (by decide)]; exact q_235
  have q_274 : gp_R s_250 51 7 = some 56 := by rw [e_251, gz_nR q_239 (by decide)]; exact q_236
  have q_275 : gp_sh s_250 117 = (9, 10) := by rw [e_251, gz_nS q_239 (by decide)]; exact q_237
  have q_276 : gp_us s_250 = 606909 := by rw [e_251]; show gp_us s_212 + 1 = 606909; rw [q_238]; try rfl
  have q_277 : gp_sz s_250 = 122 := by rw [e_251]; exact congrArg Nat.succ q_239
  have q_278 : gp_I s_250 117 0 = 1 := by rw [e_251, gz_nI q_239 (by decide)]; exact q_240
  have q_279 : gp_sh s_250 118 = (101, 1) := by rw [e_251, gz_nS q_239 (by decide)]; exact q_241
  have q_280 : gp_L s_250 118 0 = 0#64 := by rw [e_251, gz_nL q_239 (by decide)]; exact q_242
  have q_281 : gp_R s_250 117 1 = some 118 := by rw [e_251, gz_nR q_239 (by decide)]; exact q_243
  have q_282 : gp_sh s_250 119 = (101, 1) := by rw [e_251, gz_nS q_239 (by decide)]; exact q_244
  have q_283 : gp_L s_250 119 0 = 0#64 := by rw [e_251, gz_nL q_239 (by decide)]; exact q_245
  have q_284 : gp_R s_250 117 2 = some 119 := by rw [e_251, gz_nR q_239 (by decide)]; exact q_246
  have q_285 : gp_sh s_250 120 = (100, 1) := by rw [e_251, gz_nS q_239 (by decide)]; exact q_247
  have q_286 : gp_I s_250 120 0 = 0 := by rw [e_251, gz_nI q_239 (by decide)]; exact q_248
  have q_287 : gp_R s_250 117 3 = some 120 := by rw [e_251, gz_nR q_239 (by decide)]; exact q_249
  have q_288 : gp_sh s_250 121 = (100, 1) := by rw [e_251]; exact gz_nSs q_239
  have q_289 : gp_I s_250 121 0 = 0 := by rw [e_251]; exact gz_nIs q_239
  refine ⟨(by show (gp_sh s_250 117).1 = 9; rw [q_275]), ?_⟩
  refine ⟨rfl, ?_⟩
  intro s_290 e_291
  have hs_292 : xM z s_290 := by rw [e_291]; exact xI.wR hs_252 _ _ _
  have q_293 : gp_I s_290 1 2 = 0 := by rw [e_291]; exact q_253
  have q_294 : gp_I s_290 1 6 = 0 := by rw [e_291]; exact q_254
  have q_295 : gp_I s_290 1 7 = 1 := by rw [e_291]; exact q_255
  have q_296 : gp_I s_290 51 8 = 0 := by rw [e_291]; exact q_256
  have q_297 : gp_I s_290 57 1 = 0 := by rw [e_291]; exact q_257
  have q_298 : gp_I s_290 57 3 = 0 := by rw [e_291]; exact q_258
  have q_299 : gp_I s_290 6 4 = 1 := by rw [e_291]; exact q_259
  have q_300 : gp_L s_290 43 0 = 1#64 := by rw [e_291]; exact q_260
  have q_301 : gp_L s_290 44 0 = 1#64 := by rw [e_291]; exact q_261
  have q_302 : gp_R s_290 117 5 = none := by rw [e_291]; exact q_263
  have q_303 : gp_R s_290 117 6 = none := by rw [e_291]; exact q_264
  have q_304 : gp_R s_290 117 7 = none := by rw [e_291]; exact q_265
  have q_305 : gp_R s_290 117 8 = none := by rw [e_291]; exact q_266
  have q_306 : gp_R s_290 117 9 = none := by rw [e_291]; exact q_267
  have q_307 : gp_R s_290 25 6 = none := by rw [e_291]; exact q_268
  have q_308 : gp_R s_290 25 7 = none := by rw [e_291]; exact q_269
  have q_309 : gp_R s_290 25 8 = none := by rw [e_291]; exact q_270
  have q_310 : gp_R s_290 25 9 = none := by rw [e_291]; exact q_271
  have q_311 : ∀ k, k < 8 → gp_R s_290 4 k = some 25 := by rw [e_291]; exact q_272
  have q_312 : gp_R s_290 51 6 = some 55 := by rw [e_291]; exact q_273
  have q_313 : gp_R s_290 51 7 = some 56 := by rw [e_291]; exact q_274
  have q_314 : gp_sh s_290 117 = (9, 10) := by rw [e_291]; exact q_275
  have q_315 : gp_us s_290 = 606909 := by rw [e_291]; exact q_276
  have q_316 : gp_sz s_290 = 122 := by rw [e_291]; exact q_277
  have q_317 : gp_I s_290 117 0 = 1 := by rw [e_291]; exact q_278
  have q_318 : gp_sh s_290 118 = (101, 1) := by rw [e_291]; exact q_279
  have q_319 : gp_L s_290 118 0 = 0#64 := by rw [e_291]; exact q_280
  have q_320 : gp_R s_290 117 1 = some 118 := by rw [e_291]; exact q_281
  have q_321 : gp_sh s_290 119 = (101, 1) := by rw [e_291]; exact q_282
  have q_322 : gp_L s_290 119 0 = 0#64 := by rw [e_291]; exact q_283
  have q_323 : gp_R s_290 117 2 = some 119 := by rw [e_291]; exact q_284
  have q_324 : gp_sh s_290 120 = (100, 1) := by rw [e_291]; exact q_285
  have q_325 : gp_I s_290 120 0 = 0 := by rw [e_291]; exact q_286
  have q_326 : gp_R s_290 117 3 = some 120 := by rw [e_291]; exact q_287
  have q_327 : gp_sh s_290 121 = (100, 1) := by rw [e_291]; exact q_288
  have q_328 : gp_I s_290 121 0 = 0 := by rw [e_291]; exact q_289
  have q_329 : gp_R s_290 117 4 = some 121 := by rw [e_291]; rfl
  refine ⟨by omega, ?_⟩
  refine ⟨by omega, ?_⟩
  try rw [show gp_sz s_290 = 122 from q_316]
  intro s_330 e_331
  have hs_332 : xM z s_330 := by rw [e_331]; exact xI.new hs_292 (by omega)
  have q_333 : gp_I s_330 1 2 = 0 := by rw [e_331, gz_nI q_316 (by decide)]; exact q_293
  have q_334 : gp_I s_330 1 6 = 0 := by rw [e_331, gz_nI q_316 (by decide)]; exact q_294
  have q_335 : gp_I s_330 1 7 = 1 := by rw [e_331, gz_nI q_316 (by decide)]; exact q_295
  have q_336 : gp_I s_330 51 8 = 0 := by rw [e_331, gz_nI q_316 (by decide)]; exact q_296
  have q_337 : gp_I s_330 57 1 = 0 := by rw [e_331, gz_nI q_316 (by decide)]; exact q_297
  have q_338 : gp_I s_330 57 3 = 0 := by rw [e_331, gz_nI q_316 (by decide)]; exact q_298
  have q_339 : gp_I s_330 6 4 = 1 := by rw [e_331, gz_nI q_316 (by decide)]; exact q_299
  have q_340 : gp_L s_330 43 0 = 1#64 := by rw [e_331, gz_nL q_316 (by decide)]; exact q_300
  have q_341 : gp_L s_330 44 0 = 1#64 := by rw [e_331, gz_nL q_316 (by decide)]; exact q_301
  have q_342 : gp_R s_330 117 5 = none := by rw [e_331, gz_nR q_316 (by decide)]; exact q_302
  have q_343 : gp_R s_330 117 6 = none := by rw [e_331, gz_nR q_316 (by decide)]; exact q_303
  have q_344 : gp_R s_330 117 7 = none := by rw [e_331, gz_nR q_316 (by decide)]; exact q_304
  have q_345 : gp_R s_330 117 8 = none := by rw [e_331, gz_nR q_316 (by decide)]; exact q_305
  have q_346 : gp_R s_330 117 9 = none := by rw [e_331, gz_nR q_316 (by decide)]; exact q_306
  have q_347 : gp_R s_330 25 6 = none := by rw [e_331, gz_nR q_316 (by decide)]; exact q_307
  have q_348 : gp_R s_330 25 7 = none := by rw [e_331, gz_nR q_316 (by decide)]; exact q_308
  have q_349 : gp_R s_330 25 8 = none := by rw [e_331, gz_nR q_316 (by decide)]; exact q_309
  have q_350 : gp_R s_330 25 9 = none := by rw [e_331, gz_nR q_316 (by decide)]; exact q_310
  have q_351 : ∀ k, k < 8 → gp_R s_330 4 k = some 25 := fun k hk => by rw [e_331, gz_nR q_316 (by decide)]; exact q_311 k hk
  have q_352 : gp_R s_330 51 6 = some 55 := by rw [e_331, gz_nR q_316 (by decide)]; exact q_312
  have q_353 : gp_R s_330 51 7 = some 56 := by rw [e_331, gz_nR q_316 (by decide)]; exact q_313
  have q_354 : gp_sh s_330 117 = (9, 10) := by rw [e_331, gz_nS q_316 (by decide)]; exact q_314
  have q_355 : gp_us s_330 = 606910 := by rw [e_331]; show gp_us s_290 + 1 = 606910; rw [q_315]; try rfl
  have q_356 : gp_sz s_330 = 123 := by rw [e_331]; exact congrArg Nat.succ q_316
  have q_357 : gp_I s_330 117 0 = 1 := by rw [e_331, gz_nI q_316 (by decide)]; exact q_317
  have q_358 : gp_sh s_330 118 = (101, 1) := by rw [e_331, gz_nS q_316 (by decide)]; exact q_318
  have q_359 : gp_L s_330 118 0 = 0#64 := by rw [e_331, gz_nL q_316 (by decide)]; exact q_319
  have q_360 : gp_R s_330 117 1 = some 118 := by rw [e_331, gz_nR q_316 (by decide)]; exact q_320
  have q_361 : gp_sh s_330 119 = (101, 1) := by rw [e_331, gz_nS q_316 (by decide)]; exact q_321
  have q_362 : gp_L s_330 119 0 = 0#64 := by rw [e_331, gz_nL q_316 (by decide)]; exact q_322
  have q_363 : gp_R s_330 117 2 = some 119 := by rw [e_331, gz_nR q_316 (by decide)]; exact q_323
  have q_364 : gp_sh s_330 120 = (100, 1) := by rw [e_331, gz_nS q_316 (by decide)]; exact q_324
  have q_365 : gp_I s_330 120 0 = 0 := by rw [e_331, gz_nI q_316 (by decide)]; exact q_325
  have q_366 : gp_R s_330 117 3 = some 120 := by rw [e_331, gz_nR q_316 (by decide)]; exact q_326
  have q_367 : gp_sh s_330 121 = (100, 1) := by rw [e_331, gz_nS q_316 (by decide)]; exact q_327
  have q_368 : gp_I s_330 121 0 = 0 := by rw [e_331, gz_nI q_316 (by decide)]; exact q_328
  have q_369 : gp_R s_330 117 4 = some 121 := by rw [e_331, gz_nR q_316 (by decide)]; exact q_329
  have q_370 : gp_sh s_330 122 = (100, 1) := by rw [e_331]; exact gz_nSs q_316
  have q_371 : gp_I s_330 122 0 = 0 := by rw [e_331]; exact gz_nIs q_316
  refine ⟨(by show (gp_sh s_330 117).1 = 9; rw [q_354]), ?_⟩
  refine ⟨rfl, ?_⟩
  intro s_372 e_373
  have hs_374 : xM z s_372 := by rw [e_373]; exact xI.wR hs_332 _ _ _
  have q_375 : gp_I s_372 1 2 = 0 := by rw [e_373]; exact q_333
  have q_376 : gp_I s_372 1 6 = 0 := by rw [e_373]; exact q_334
  have q_377 : gp_I s_372 1 7 = 1 := by rw [e_373]; exact q_335
  have q_378 : gp_I s_372 51 8 = 0 := by rw [e_373]; exact q_336
  have q_379 : gp_I s_372 57 1 = 0 := by rw [e_373]; exact q_337
  have q_380 : gp_I s_372 57 3 = 0 := by rw [e_373]; exact q_338
  have q_381 : gp_I s_372 6 4 = 1 := by rw [e_373]; exact q_339
  have q_382 : gp_L s_372 43 0 = 1#64 := by rw [e_373]; exact q_340
  have q_383 : gp_L s_372 44 0 = 1#64 := by rw [e_373]; exact q_341
  have q_384 : gp_R s_372 117 6 = none := by rw [e_373]; exact q_343
  have q_385 : gp_R s_372 117 7 = none := by rw [e_373]; exact q_344
  have q_386 : gp_R s_372 117 8 = none := by rw [e_373]; exact q_345
  have q_387 : gp_R s_372 117 9 = none := by rw [e_373]; exact q_346
  have q_388 : gp_R s_372 25 6 = none := by rw [e_373]; exact q_347
  have q_389 : gp_R s_372 25 7 = none := by rw [e_373]; exact q_348
  have q_390 : gp_R s_372 25 8 = none := by rw [e_373]; exact q_349
  have q_391 : gp_R s_372 25 9 = none := by rw [e_373]; exact q_350
  have q_392 : ∀ k, k < 8 → gp_R s_372 4 k = some 25 := by rw [e_373]; exact q_351
  have q_393 : gp_R s_372 51 6 = some 55 := by rw [e_373]; exact q_352
  have q_394 : gp_R s_372 51 7 = some 56 := by rw [e_373]; exact q_353
  have q_395 : gp_sh s_372 117 = (9, 10) := by rw [e_373]; exact q_354
  have q_396 : gp_us s_372 = 606910 := by rw [e_373]; exact q_355
  have q_397 : gp_sz s_372 = 123 := by rw [e_373]; exact q_356
  have q_398 : gp_I s_372 117 0 = 1 := by rw [e_373]; exact q_357
  have q_399 : gp_sh s_372 118 = (101, 1) := by rw [e_373]; exact q_358
  have q_400 : gp_L s_372 118 0 = 0#64 := by rw [e_373]; exact q_359
  have q_401 : gp_R s_372 117 1 = some 118 := by rw [e_373]; exact q_360
  have q_402 : gp_sh s_372 119 = (101, 1) := by rw [e_373]; exact q_361
  have q_403 : gp_L s_372 119 0 = 0#64 := by rw [e_373]; exact q_362
  have q_404 : gp_R s_372 117 2 = some 119 := by rw [e_373]; exact q_363
  have q_405 : gp_sh s_372 120 = (100, 1) := by rw [e_373]; exact q_364
  have q_406 : gp_I s_372 120 0 = 0 := by rw [e_373]; exact q_365
  have q_407 : gp_R s_372 117 3 = some 120 := by rw [e_373]; exact q_366
  have q_408 : gp_sh s_372 121 = (100, 1) := by rw [e_373]; exact q_367
  have q_409 : gp_I s_372 121 0 = 0 := by rw [e_373]; exact q_368
  have q_410 : gp_R s_372 117 4 = some 121 := by rw [e_373]; exact q_369
  have q_411 : gp_sh s_372 122 = (100, 1) := by rw [e_373]; exact q_370
  have q_412 : gp_I s_372 122 0 = 0 := by rw [e_373]; exact q_371
  have q_413 : gp_R s_372 117 5 = some 122 := by rw [e_373]; rfl
  exact k s_372 hs_374 (by omega) (by omega) (by omega) (by omega) (by omega) (by omega) (by omega) (by omega) (by omega) (by omega) (by omega) q_400 q_403 q_382 q_383 q_401 q_404 q_407 q_410 q_413 q_384 q_385 q_386 q_387 q_388 q_389 q_390 q_391 q_392 q_393 q_394 q_395 q_399 q_402 q_405 q_408 q_411 q_396 q_397
set_option maxRecDepth 100000 in
/-- Pool.tableOf [(0, 0)] -/
theorem zx1032_1 {z : gH} {L d : Nat} {K : Option gV → gH → Prop} {s : gH}  (hs : xM z s)  (q0 : gp_I s 1 2 = 0) (q1 : gp_I s 1 6 = 0) (q2 : gp_I s 1 7 = 1) (q3 : gp_I s 51 8 = 0) (q4 : gp_I s 57 1 = 0) (q5 : gp_I s 57 3 = 0) (q6 : gp_I s 6 4 = 1) (q7 : gp_L s 43 0 = 1#64) (q8 : gp_L s 44 0 = 1#64) (q9 : gp_R s 25 6 = none) (q10 : gp_R s 25 7 = none) (q11 : gp_R s 25 8 = none) (q12 : gp_R s 25 9 = none) (q13 : ∀ k, k < 8 → gp_R s 4 k = some 25) (q14 : gp_R s 51 6 = some 55) (q15 : gp_R s 51 7 = some 56) (q16 : gp_us s = 606895) (q17 : gp_sz s = 117) (k : ∀ (t : gH), xM z t → (gp_I t 1 2 = 0) → (gp_I t 1 6 = 0) → (gp_I t 1 7 = 1) → (gp_I t 117 0 = 1) → (gp_I t 120 0 = 0) → (gp_I t 121 0 = 0) → (gp_I t 122 0 = 0) → (gp_I t 51 8 = 0) → (gp_I t 57 1 = 0) → (gp_I t 57 3 = 0) → (gp_I t 6 4 = 1) → (gp_L t 118 0 = 0#64) → (gp_L t 119 0 = 0#64) → (gp_L t 43 0 = 1#64) → (gp_L t 44 0 = 1#64) → (gp_R t 117 1 = some 118) → (gp_R t 117 2 = some 119) → (gp_R t 117 3 = some 120) → (gp_R t 117 4 = some 121) → (gp_R t 117 5 = some 122) → (gp_R t 117 6 = none) → (gp_R t 117 7 = none) → (gp_R t 117 8 = none) → (gp_R t 117 9 = none) → (gp_R t 25 6 = none) → (gp_R t 25 7 = none) → (gp_R t 25 8 = none) → (gp_R t 25 9 = none) → (∀ k, k < 8 → gp_R t 4 k = some 25) → (gp_R t 51 6 = some 55) → (gp_R t 51 7 = some 56) → (gp_sh t 117 = (9, 10)) → (gp_sh t 118 = (101, 1)) → (gp_sh t 119 = (101, 1)) → (gp_sh t 120 = (100, 1)) → (gp_sh t 121 = (100, 1)) → (gp_sh t 122 = (100, 1)) → (gp_us t = 606910) → (gp_sz t = 123) → K (some (gp_r (some 117))) t) : gs_C L (d + 2) 1032 8 [gp_r (some 6), gp_i 0] s K := by
  refine s_1032_e _ ?_
  refine zx2309_0 hs (by omega) (by omega) (by omega) (by omega) (by omega) (by omega) q9 q10 q11 q12 q13 q14 q15 (⟨_, rfl, ?_⟩)
  refine ⟨by omega, ?_⟩
  try rw [show gp_sz s = 117 from q17]
  intro s_1 e_2
  have hs_3 : xM z s_1 := by rw [e_2]; exact xI.new hs (by omega)
  have q_4 : gp_I s_1 1 2 = 0 := by rw [e_2, gz_nI q17 (by decide)]; exact q0
  have q_5 : gp_I s_1 1 6 = 0 := by rw [e_2, gz_nI q17 (by decide)]; exact q1
  have q_6 : gp_I s_1 1 7 = 1 := by rw [e_2, gz_nI q17 (by decide)]; exact q2
  have q_7 : gp_I s_1 51 8 = 0 := by rw [e_2, gz_nI q17 (by decide)]; exact q3
  have q_8 : gp_I s_1 57 1 = 0 := by rw [e_2, gz_nI q17 (by decide)]; exact q4
  have q_9 : gp_I s_1 57 3 = 0 := by rw [e_2, gz_nI q17 (by decide)]; exact q5
  have q_10 : gp_I s_1 6 4 = 1 := by rw [e_2, gz_nI q17 (by decide)]; exact q6
  have q_11 : gp_L s_1 43 0 = 1#64 := by rw [e_2, gz_nL q17 (by decide)]; exact q7
  have q_12 : gp_L s_1 44 0 = 1#64 := by rw [e_2, gz_nL q17 (by decide)]; exact q8
  have q_13 : gp_R s_1 25 6 = none := by rw [e_2, gz_nR q17 (by decide)]; exact q9
  have q_14 : gp_R s_1 25 7 = none := by rw [e_2, gz_nR q17 (by decide)]; exact q10
  have q_15 : gp_R s_1 25 8 = none := by rw [e_2, gz_nR q17 (by decide)]; exact q11
  have q_16 : gp_R s_1 25 9 = none := by rw [e_2, gz_nR q17 (by decide)]; exact q12
  have q_17 : ∀ k, k < 8 → gp_R s_1 4 k = some 25 := fun k hk => by rw [e_2, gz_nR q17 (by decide)]; exact q13 k hk
  have q_18 : gp_R s_1 51 6 = some 55 := by rw [e_2, gz_nR q17 (by decide)]; exact q14
  have q_19 : gp_R s_1 51 7 = some 56 := by rw [e_2, gz_nR q17 (by decide)]; exact q15
  have q_20 : gp_us s_1 = 606905 := by rw [e_2]; show gp_us s + 10 = 606905; rw [q16]; try rfl
  have q_21 : gp_sz s_1 = 118 := by rw [e_2]; exact congrArg Nat.succ q17
  have q_22 : gp_sh s_1 117 = (9, 10) := by rw [e_2]; exact gz_nSs q17
  have q_23 : gp_I s_1 117 0 = 0 := by rw [e_2]; exact gz_nIs q17
  have q_24 : gp_R s_1 117 1 = none := by rw [e_2]; exact gz_nRs q17
  have q_25 : gp_R s_1 117 2 = none := by rw [e_2]; exact gz_nRs q17
  have q_26 : gp_R s_1 117 3 = none := by rw [e_2]; exact gz_nRs q17
  have q_27 : gp_R s_1 117 4 = none := by rw [e_2]; exact gz_nRs q17
  have q_28 : gp_R s_1 117 5 = none := by rw [e_2]; exact gz_nRs q17
  have q_29 : gp_R s_1 117 6 = none := by rw [e_2]; exact gz_nRs q17
  have q_30 : gp_R s_1 117 7 = none := by rw [e_2]; exact gz_nRs q17
  have q_31 : gp_R s_1 117 8 = none := by rw [e_2]; exact gz_nRs q17
  have q_32 : gp_R s_1 117 9 = none := by rw [e_2]; exact gz_nRs q17
  refine zx3585_0 hs_3 (by omega) q_24 q_25 q_26 q_27 q_28 q_29 q_30 q_31 q_32 q_13 q_14 q_15 q_16 q_22 (⟨_, rfl, ?_⟩)
  refine zx2304_22 hs_3 (by omega) (by omega) (by omega) (by omega) (by omega) (by omega) (by omega) (by omega) q_11 q_12 q_24 q_25 q_26 q_27 q_28 q_29 q_30 q_31 q_32 q_13 q_14 q_15 q_16 q_17 q_18 q_19 q_22 q_20 q_21 (fun s_33 hs_34 q_35 q_36 q_37 q_38 q_39 q_40 q_41 q_42 q_43 q_44 q_45 q_46 q_47 q_48 q_49 q_50 q_51 q_52 q_53 q_54 q_55 q_56 q_57 q_58 q_59 q_60 q_61 q_62 q_63 q_64 q_65 q_66 q_67 q_68 q_69 q_70 q_71 q_72 q_73 => ⟨rfl, ?_⟩)
  refine s_1032_28 _ _ _ _ _ _ ?_
  try rw [show gp_I s_33 6 4 = 1 from q_45]
  refine ⟨fun h_75 => ?_, fun h_75 => ?_⟩
  · refine ⟨117, rfl, ?_⟩
    refine ⟨(by show (gp_sh s_33 117).1 = 9; rw [q_66]), ?_⟩
    try rw [show gp_I s_33 117 0 = 1 from q_38]
    refine ⟨fun h_76 => ?_, fun h_76 => ?_⟩
    · refine ⟨by omega, ?_⟩
      have f_77 := xr14 hs_34 ((0 : Int).toNat)
      have e_78 : gp_I s_33 14 (0 : Int).toNat = 0 := by omega
      try rw [e_78]
      refine zx2862_1 hs_34 (by omega) (by omega) (by omega) (by omega) (by omega) (by omega) (by omega) (by omega) (by omega) (by omega) q_46 q_47 q_50 q_51 q_52 q_53 q_54 q_55 q_56 q_57 q_58 q_59 q_60 q_61 q_62 q_63 q_64 q_65 q_66 q_67 q_68 q_69 q_70 q_71 (⟨_, rfl, ?_⟩)
      refine ⟨fun h_79 => ?_, fun h_79 => ?_⟩
      · exfalso; omega
      · refine ⟨by omega, ?_⟩
        intro s_80 e_81
        have hs_82 : xM z s_80 := by rw [e_81]; exact xw15 hs_34 _ _ (by omega)
        have q_83 : gp_I s_80 1 2 = 0 := by rw [e_81]; exact q_35
        have q_84 : gp_I s_80 1 6 = 0 := by rw [e_81]; exact q_36
        have q_85 : gp_I s_80 1 7 = 1 := by rw [e_81]; exact q_37
        have q_86 : gp_I s_80 117 0 = 1 := by rw [e_81]; exact q_38
        have q_87 : gp_I s_80 120 0 = 0 := by rw [e_81]; exact q_39
        have q_88 : gp_I s_80 121 0 = 0 := by rw [e_81]; exact q_40
        have q_89 : gp_I s_80 122 0 = 0 := by rw [e_81]; exact q_41
        have q_90 : gp_I s_80 51 8 = 0 := by rw [e_81]; exact q_42
        have q_91 : gp_I s_80 57 1 = 0 := by rw [e_81]; exact q_43
        have q_92 : gp_I s_80 57 3 = 0 := by rw [e_81]; exact q_44
        have q_93 : gp_I s_80 6 4 = 1 := by rw [e_81]; exact q_45
        have q_94 : gp_L s_80 118 0 = 0#64 := by rw [e_81]; exact q_46
        have q_95 : gp_L s_80 119 0 = 0#64 := by rw [e_81]; exact q_47
        have q_96 : gp_L s_80 43 0 = 1#64 := by rw [e_81]; exact q_48
        have q_97 : gp_L s_80 44 0 = 1#64 := by rw [e_81]; exact q_49
        have q_98 : gp_R s_80 117 1 = some 118 := by rw [e_81]; exact q_50
        have q_99 : gp_R s_80 117 2 = some 119 := by rw [e_81]; exact q_51
        have q_100 : gp_R s_80 117 3 = some 120 := by rw [e_81]; exact q_52
        have q_101 : gp_R s_80 117 4 = some 121 := by rw [e_81]; exact q_53
        have q_102 : gp_R s_80 117 5 = some 122 := by rw [e_81]; exact q_54
        have q_103 : gp_R s_80 117 6 = none := by rw [e_81]; exact q_55
        have q_104 : gp_R s_80 117 7 = none := by rw [e_81]; exact q_56
        have q_105 : gp_R s_80 117 8 = none := by rw [e_81]; exact q_57
        have q_106 : gp_R s_80 117 9 = none := by rw [e_81]; exact q_58
        have q_107 : gp_R s_80 25 6 = none := by rw [e_81]; exact q_59
        have q_108 : gp_R s_80 25 7 = none := by rw [e_81]; exact q_60
        have q_109 : gp_R s_80 25 8 = none := by rw [e_81]; exact q_61
        have q_110 : gp_R s_80 25 9 = none := by rw [e_81]; exact q_62
        have q_111 : ∀ k, k < 8 → gp_R s_80 4 k = some 25 := by rw [e_81]; exact q_63
        have q_112 : gp_R s_80 51 6 = some 55 := by rw [e_81]; exact q_64
        have q_113 : gp_R s_80 51 7 = some 56 := by rw [e_81]; exact q_65
        have q_114 : gp_sh s_80 117 = (9, 10) := by rw [e_81]; exact q_66
        have q_115 : gp_sh s_80 118 = (101, 1) := by rw [e_81]; exact q_67
        have q_116 : gp_sh s_80 119 = (101, 1) := by rw [e_81]; exact q_68
        have q_117 : gp_sh s_80 120 = (100, 1) := by rw [e_81]; exact q_69
        have q_118 : gp_sh s_80 121 = (100, 1) := by rw [e_81]; exact q_70
        have q_119 : gp_sh s_80 122 = (100, 1) := by rw [e_81]; exact q_71
        have q_120 : gp_us s_80 = 606910 := by rw [e_81]; exact q_72
        have q_121 : gp_sz s_80 = 123 := by rw [e_81]; exact q_73
        refine ⟨(by show (gp_sh s_80 117).1 = 9; rw [q_114]), ?_⟩
        try rw [show gp_R (gp_mk L s_80) 117 1 = some 118 from q_98]
        refine ⟨by omega, ?_⟩
        try rw [xr8 hs_82 ((0 : Int).toNat)]
        refine zx2863_0 hs_82 (by omega) (by omega) (by omega) (by omega) (by omega) (by omega) (by omega) (by omega) (by omega) (by omega) q_94 q_95 q_98 q_99 q_100 q_101 q_102 q_103 q_104 q_105 q_106 q_107 q_108 q_109 q_110 q_111 q_112 q_113 q_114 q_115 q_116 q_117 q_118 q_119 (⟨_, rfl, ?_⟩)
        refine ⟨118, rfl, ?_⟩
        refine ⟨⟨by show (gp_sh s_80 118).1 = 101; rw [q_115], by omega, by show 0 < ((gp_sh s_80 118).2 : Int); rw [q_115]; show 0 < 1; omega⟩, ?_⟩
        intro s_122 e_123
        have hs_124 : xM z s_122 := by rw [e_123]; exact xI.wLd hs_82 _ _ _ (by omega)
        have q_125 : gp_I s_122 1 2 = 0 := by rw [e_123]; exact q_83
        have q_126 : gp_I s_122 1 6 = 0 := by rw [e_123]; exact q_84
        have q_127 : gp_I s_122 1 7 = 1 := by rw [e_123]; exact q_85
        have q_128 : gp_I s_122 117 0 = 1 := by rw [e_123]; exact q_86
        have q_129 : gp_I s_122 120 0 = 0 := by rw [e_123]; exact q_87
        have q_130 : gp_I s_122 121 0 = 0 := by rw [e_123]; exact q_88
        have q_131 : gp_I s_122 122 0 = 0 := by rw [e_123]; exact q_89
        have q_132 : gp_I s_122 51 8 = 0 := by rw [e_123]; exact q_90
        have q_133 : gp_I s_122 57 1 = 0 := by rw [e_123]; exact q_91
        have q_134 : gp_I s_122 57 3 = 0 := by rw [e_123]; exact q_92
        have q_135 : gp_I s_122 6 4 = 1 := by rw [e_123]; exact q_93
        have q_136 : gp_L s_122 119 0 = 0#64 := by rw [e_123]; exact q_95
        have q_137 : gp_L s_122 43 0 = 1#64 := by rw [e_123]; exact q_96
        have q_138 : gp_L s_122 44 0 = 1#64 := by rw [e_123]; exact q_97
        have q_139 : gp_R s_122 117 1 = some 118 := by rw [e_123]; exact q_98
        have q_140 : gp_R s_122 117 2 = some 119 := by rw [e_123]; exact q_99
        have q_141 : gp_R s_122 117 3 = some 120 := by rw [e_123]; exact q_100
        have q_142 : gp_R s_122 117 4 = some 121 := by rw [e_123]; exact q_101
        have q_143 : gp_R s_122 117 5 = some 122 := by rw [e_123]; exact q_102
        have q_144 : gp_R s_122 117 6 = none := by rw [e_123]; exact q_103
        have q_145 : gp_R s_122 117 7 = none := by rw [e_123]; exact q_104
        have q_146 : gp_R s_122 117 8 = none := by rw [e_123]; exact q_105
        have q_147 : gp_R s_122 117 9 = none := by rw [e_123]; exact q_106
        have q_148 : gp_R s_122 25 6 = none := by rw [e_123]; exact q_107
        have q_149 : gp_R s_122 25 7 = none := by rw [e_123]; exact q_108
        have q_150 : gp_R s_122 25 8 = none := by rw [e_123]; exact q_109
        have q_151 : gp_R s_122 25 9 = none := by rw [e_123]; exact q_110
        have q_152 : ∀ k, k < 8 → gp_R s_122 4 k = some 25 := by rw [e_123]; exact q_111
        have q_153 : gp_R s_122 51 6 = some 55 := by rw [e_123]; exact q_112
        have q_154 : gp_R s_122 51 7 = some 56 := by rw [e_123]; exact q_113
        have q_155 : gp_sh s_122 117 = (9, 10) := by rw [e_123]; exact q_114
        have q_156 : gp_sh s_122 118 = (101, 1) := by rw [e_123]; exact q_115
        have q_157 : gp_sh s_122 119 = (101, 1) := by rw [e_123]; exact q_116
        have q_158 : gp_sh s_122 120 = (100, 1) := by rw [e_123]; exact q_117
        have q_159 : gp_sh s_122 121 = (100, 1) := by rw [e_123]; exact q_118
        have q_160 : gp_sh s_122 122 = (100, 1) := by rw [e_123]; exact q_119
        have q_161 : gp_us s_122 = 606910 := by rw [e_123]; exact q_120
        have q_162 : gp_sz s_122 = 123 := by rw [e_123]; exact q_121
        have q_163 : gp_L s_122 118 0 = 0#64 := by rw [e_123]; rfl
        refine ⟨(by show (gp_sh s_122 117).1 = 9; rw [q_155]), ?_⟩
        try rw [show gp_R (gp_mk L s_122) 117 2 = some 119 from q_140]
        refine ⟨by omega, ?_⟩
        try rw [xr9 hs_124 ((0 : Int).toNat)]
        refine zx2863_0 hs_124 (by omega) (by omega) (by omega) (by omega) (by omega) (by omega) (by omega) (by omega) (by omega) (by omega) q_163 q_136 q_139 q_140 q_141 q_142 q_143 q_144 q_145 q_146 q_147 q_148 q_149 q_150 q_151 q_152 q_153 q_154 q_155 q_156 q_157 q_158 q_159 q_160 (⟨_, rfl, ?_⟩)
        refine ⟨119, rfl, ?_⟩
        refine ⟨⟨by show (gp_sh s_122 119).1 = 101; rw [q_157], by omega, by show 0 < ((gp_sh s_122 119).2 : Int); rw [q_157]; show 0 < 1; omega⟩, ?_⟩
        intro s_164 e_165
        have hs_166 : xM z s_164 := by rw [e_165]; exact xI.wLd hs_124 _ _ _ (by omega)
        have q_167 : gp_I s_164 1 2 = 0 := by rw [e_165]; exact q_125
        have q_168 : gp_I s_164 1 6 = 0 := by rw [e_165]; exact q_126
        have q_169 : gp_I s_164 1 7 = 1 := by rw [e_165]; exact q_127
        have q_170 : gp_I s_164 117 0 = 1 := by rw [e_165]; exact q_128
        have q_171 : gp_I s_164 120 0 = 0 := by rw [e_165]; exact q_129
        have q_172 : gp_I s_164 121 0 = 0 := by rw [e_165]; exact q_130
        have q_173 : gp_I s_164 122 0 = 0 := by rw [e_165]; exact q_131
        have q_174 : gp_I s_164 51 8 = 0 := by rw [e_165]; exact q_132
        have q_175 : gp_I s_164 57 1 = 0 := by rw [e_165]; exact q_133
        have q_176 : gp_I s_164 57 3 = 0 := by rw [e_165]; exact q_134
        have q_177 : gp_I s_164 6 4 = 1 := by rw [e_165]; exact q_135
        have q_178 : gp_L s_164 43 0 = 1#64 := by rw [e_165]; exact q_137
        have q_179 : gp_L s_164 44 0 = 1#64 := by rw [e_165]; exact q_138
        have q_180 : gp_R s_164 117 1 = some 118 := by rw [e_165]; exact q_139
        have q_181 : gp_R s_164 117 2 = some 119 := by rw [e_165]; exact q_140
        have q_182 : gp_R s_164 117 3 = some 120 := by rw [e_165]; exact q_141
        have q_183 : gp_R s_164 117 4 = some 121 := by rw [e_165]; exact q_142
        have q_184 : gp_R s_164 117 5 = some 122 := by rw [e_165]; exact q_143
        have q_185 : gp_R s_164 117 6 = none := by rw [e_165]; exact q_144
        have q_186 : gp_R s_164 117 7 = none := by rw [e_165]; exact q_145
        have q_187 : gp_R s_164 117 8 = none := by rw [e_165]; exact q_146
        have q_188 : gp_R s_164 117 9 = none := by rw [e_165]; exact q_147
        have q_189 : gp_R s_164 25 6 = none := by rw [e_165]; exact q_148
        have q_190 : gp_R s_164 25 7 = none := by rw [e_165]; exact q_149
        have q_191 : gp_R s_164 25 8 = none := by rw [e_165]; exact q_150
        have q_192 : gp_R s_164 25 9 = none := by rw [e_165]; exact q_151
        have q_193 : ∀ k, k < 8 → gp_R s_164 4 k = some 25 := by rw [e_165]; exact q_152
        have q_194 : gp_R s_164 51 6 = some 55 := by rw [e_165]; exact q_153
        have q_195 : gp_R s_164 51 7 = some 56 := by rw [e_165]; exact q_154
        have q_196 : gp_sh s_164 117 = (9, 10) := by rw [e_165]; exact q_155
        have q_197 : gp_sh s_164 118 = (101, 1) := by rw [e_165]; exact q_156
        have q_198 : gp_sh s_164 119 = (101, 1) := by rw [e_165]; exact q_157
        have q_199 : gp_sh s_164 120 = (100, 1) := by rw [e_165]; exact q_158
        have q_200 : gp_sh s_164 121 = (100, 1) := by rw [e_165]; exact q_159
        have q_201 : gp_sh s_164 122 = (100, 1) := by rw [e_165]; exact q_160
        have q_202 : gp_us s_164 = 606910 := by rw [e_165]; exact q_161
        have q_203 : gp_sz s_164 = 123 := by rw [e_165]; exact q_162
        have q_204 : gp_L s_164 118 0 = 0#64 := by rw [e_165]; exact q_163
        have q_205 : gp_L s_164 119 0 = 0#64 := by rw [e_165]; rfl
        refine ⟨(by show (gp_sh s_164 117).1 = 9; rw [q_196]), ?_⟩
        try rw [show gp_R (gp_mk L s_164) 117 3 = some 120 from q_182]
        refine ⟨by omega, ?_⟩
        have f_206 := xr10 hs_166 ((0 : Int).toNat)
        have e_207 : gp_I s_164 10 (0 : Int).toNat = 0 := by omega
        try rw [e_207]
        refine ⟨120, rfl, ?_⟩
        refine ⟨⟨by show (gp_sh s_164 120).1 = 100; rw [q_199], by omega, by show 0 < ((gp_sh s_164 120).2 : Int); rw [q_199]; show 0 < 1; omega⟩, ?_⟩
        intro s_208 e_209
        have hs_210 : xM z s_208 := by rw [e_209]; exact xI.wId hs_166 _ _ _ (by omega)
        have q_211 : gp_I s_208 1 2 = 0 := by rw [e_209]; exact q_167
        have q_212 : gp_I s_208 1 6 = 0 := by rw [e_209]; exact q_168
        have q_213 : gp_I s_208 1 7 = 1 := by rw [e_209]; exact q_169
        have q_214 : gp_I s_208 117 0 = 1 := by rw [e_209]; exact q_170
        have q_215 : gp_I s_208 121 0 = 0 := by rw [e_209]; exact q_172
        have q_216 : gp_I s_208 122 0 = 0 := by rw [e_209]; exact q_173
        have q_217 : gp_I s_208 51 8 = 0 := by rw [e_209]; exact q_174
        have q_218 : gp_I s_208 57 1 = 0 := by rw [e_209]; exact q_175
        have q_219 : gp_I s_208 57 3 = 0 := by rw [e_209]; exact q_176
        have q_220 : gp_I s_208 6 4 = 1 := by rw [e_209]; exact q_177
        have q_221 : gp_L s_208 43 0 = 1#64 := by rw [e_209]; exact q_178
        have q_222 : gp_L s_208 44 0 = 1#64 := by rw [e_209]; exact q_179
        have q_223 : gp_R s_208 117 1 = some 118 := by rw [e_209]; exact q_180
        have q_224 : gp_R s_208 117 2 = some 119 := by rw [e_209]; exact q_181
        have q_225 : gp_R s_208 117 3 = some 120 := by rw [e_209]; exact q_182
        have q_226 : gp_R s_208 117 4 = some 121 := by rw [e_209]; exact q_183
        have q_227 : gp_R s_208 117 5 = some 122 := by rw [e_209]; exact q_184
        have q_228 : gp_R s_208 117 6 = none := by rw [e_209]; exact q_185
        have q_229 : gp_R s_208 117 7 = none := by rw [e_209]; exact q_186
        have q_230 : gp_R s_208 117 8 = none := by rw [e_209]; exact q_187
        have q_231 : gp_R s_208 117 9 = none := by rw [e_209]; exact q_188
        have q_232 : gp_R s_208 25 6 = none := by rw [e_209]; exact q_189
        have q_233 : gp_R s_208 25 7 = none := by rw [e_209]; exact q_190
        have q_234 : gp_R s_208 25 8 = none := by rw [e_209]; exact q_191
        have q_235 : gp_R s_208 25 9 = none := by rw [e_209]; exact q_192
        have q_236 : ∀ k, k < 8 → gp_R s_208 4 k = some 25 := by rw [e_209]; exact q_193
        have q_237 : gp_R s_208 51 6 = some 55 := by rw [e_209]; exact q_194
        have q_238 : gp_R s_208 51 7 = some 56 := by rw [e_209]; exact q_195
        have q_239 : gp_sh s_208 117 = (9, 10) := by rw [e_209]; exact q_196
        have q_240 : gp_sh s_208 118 = (101, 1) := by rw [e_209]; exact q_197
        have q_241 : gp_sh s_208 119 = (101, 1) := by rw [e_209]; exact q_198
        have q_242 : gp_sh s_208 120 = (100, 1) := by rw [e_209]; exact q_199
        have q_243 : gp_sh s_208 121 = (100, 1) := by rw [e_209]; exact q_200
        have q_244 : gp_sh s_208 122 = (100, 1) := by rw [e_209]; exact q_201
        have q_245 : gp_us s_208 = 606910 := by rw [e_209]; exact q_202
        have q_246 : gp_sz s_208 = 123 := by rw [e_209]; exact q_203
        have q_247 : gp_L s_208 118 0 = 0#64 := by rw [e_209]; exact q_204
        have q_248 : gp_L s_208 119 0 = 0#64 := by rw [e_209]; exact q_205
        have q_249 : gp_I s_208 120 0 = 0 := by rw [e_209]; rfl
        refine ⟨(by show (gp_sh s_208 117).1 = 9; rw [q_239]), ?_⟩
        try rw [show gp_R (gp_mk L s_208) 117 4 = some 121 from q_226]
        refine ⟨by omega, ?_⟩
        have f_251 := xr11 hs_210 ((0 : Int).toNat)
        have e_252 : gp_I s_208 11 (0 : Int).toNat = 0 := by omega
        try rw [e_252]
        refine ⟨121, rfl, ?_⟩
        refine ⟨⟨by show (gp_sh s_208 121).1 = 100; rw [q_243], by omega, by show 0 < ((gp_sh s_208 121).2 : Int); rw [q_243]; show 0 < 1; omega⟩, ?_⟩
        intro s_253 e_254
        have hs_255 : xM z s_253 := by rw [e_254]; exact xI.wId hs_210 _ _ _ (by omega)
        have q_256 : gp_I s_253 1 2 = 0 := by rw [e_254]; exact q_211
        have q_257 : gp_I s_253 1 6 = 0 := by rw [e_254]; exact q_212
        have q_258 : gp_I s_253 1 7 = 1 := by rw [e_254]; exact q_213
        have q_259 : gp_I s_253 117 0 = 1 := by rw [e_254]; exact q_214
        have q_260 : gp_I s_253 122 0 = 0 := by rw [e_254]; exact q_216
        have q_261 : gp_I s_253 51 8 = 0 := by rw [e_254]; exact q_217
        have q_262 : gp_I s_253 57 1 = 0 := by rw [e_254]; exact q_218
        have q_263 : gp_I s_253 57 3 = 0 := by rw [e_254]; exact q_219
        have q_264 : gp_I s_253 6 4 = 1 := by rw [e_254]; exact q_220
        have q_265 : gp_L s_253 43 0 = 1#64 := by rw [e_254]; exact q_221
        have q_266 : gp_L s_253 44 0 = 1#64 := by rw [e_254]; exact q_222
        have q_267 : gp_R s_253 117 1 = some 118 := by rw [e_254]; exact q_223
        have q_268 : gp_R s_253 117 2 = some 119 := by rw [e_254]; exact q_224
        have q_269 : gp_R s_253 117 3 = some 120 := by rw [e_254]; exact q_225
        have q_270 : gp_R s_253 117 4 = some 121 := by rw [e_254]; exact q_226
        have q_271 : gp_R s_253 117 5 = some 122 := by rw [e_254]; exact q_227
        have q_272 : gp_R s_253 117 6 = none := by rw [e_254]; exact q_228
        have q_273 : gp_R s_253 117 7 = none := by rw [e_254]; exact q_229
        have q_274 : gp_R s_253 117 8 = none := by rw [e_254]; exact q_230
        have q_275 : gp_R s_253 117 9 = none := by rw [e_254]; exact q_231
        have q_276 : gp_R s_253 25 6 = none := by rw [e_254]; exact q_232
        have q_277 : gp_R s_253 25 7 = none := by rw [e_254]; exact q_233
        have q_278 : gp_R s_253 25 8 = none := by rw [e_254]; exact q_234
        have q_279 : gp_R s_253 25 9 = none := by rw [e_254]; exact q_235
        have q_280 : ∀ k, k < 8 → gp_R s_253 4 k = some 25 := by rw [e_254]; exact q_236
        have q_281 : gp_R s_253 51 6 = some 55 := by rw [e_254]; exact q_237
        have q_282 : gp_R s_253 51 7 = some 56 := by rw [e_254]; exact q_238
        have q_283 : gp_sh s_253 117 = (9, 10) := by rw [e_254]; exact q_239
        have q_284 : gp_sh s_253 118 = (101, 1) := by rw [e_254]; exact q_240
        have q_285 : gp_sh s_253 119 = (101, 1) := by rw [e_254]; exact q_241
        have q_286 : gp_sh s_253 120 = (100, 1) := by rw [e_254]; exact q_242
        have q_287 : gp_sh s_253 121 = (100, 1) := by rw [e_254]; exact q_243
        have q_288 : gp_sh s_253 122 = (100, 1) := by rw [e_254]; exact q_244
        have q_289 : gp_us s_253 = 606910 := by rw [e_254]; exact q_245
        have q_290 : gp_sz s_253 = 123 := by rw [e_254]; exact q_246
        have q_291 : gp_L s_253 118 0 = 0#64 := by rw [e_254]; exact q_247
        have q_292 : gp_L s_253 119 0 = 0#64 := by rw [e_254]; exact q_248
        have q_293 : gp_I s_253 120 0 = 0 := by rw [e_254]; exact q_249
        have q_294 : gp_I s_253 121 0 = 0 := by rw [e_254]; rfl
        refine ⟨(by show (gp_sh s_253 117).1 = 9; rw [q_283]), ?_⟩
        try rw [show gp_R (gp_mk L s_253) 117 5 = some 122 from q_271]
        refine ⟨by omega, ?_⟩
        have f_296 := xr12 hs_255 ((0 : Int).toNat)
        have e_297 : gp_I s_253 12 (0 : Int).toNat = 0 := by omega
        try rw [e_297]
        refine ⟨122, rfl, ?_⟩
        refine ⟨⟨by show (gp_sh s_253 122).1 = 100; rw [q_288], by omega, by show 0 < ((gp_sh s_253 122).2 : Int); rw [q_288]; show 0 < 1; omega⟩, ?_⟩
        intro s_298 e_299
        have hs_300 : xM z s_298 := by rw [e_299]; exact xI.wId hs_255 _ _ _ (by omega)
        have q_301 : gp_I s_298 1 2 = 0 := by rw [e_299]; exact q_256
        have q_302 : gp_I s_298 1 6 = 0 := by rw [e_299]; exact q_257
        have q_303 : gp_I s_298 1 7 = 1 := by rw [e_299]; exact q_258
        have q_304 : gp_I s_298 117 0 = 1 := by rw [e_299]; exact q_259
        have q_305 : gp_I s_298 51 8 = 0 := by rw [e_299]; exact q_261
        have q_306 : gp_I s_298 57 1 = 0 := by rw [e_299]; exact q_262
        have q_307 : gp_I s_298 57 3 = 0 := by rw [e_299]; exact q_263
        have q_308 : gp_I s_298 6 4 = 1 := by rw [e_299]; exact q_264
        have q_309 : gp_L s_298 43 0 = 1#64 := by rw [e_299]; exact q_265
        have q_310 : gp_L s_298 44 0 = 1#64 := by rw [e_299]; exact q_266
        have q_311 : gp_R s_298 117 1 = some 118 := by rw [e_299]; exact q_267
        have q_312 : gp_R s_298 117 2 = some 119 := by rw [e_299]; exact q_268
        have q_313 : gp_R s_298 117 3 = some 120 := by rw [e_299]; exact q_269
        have q_314 : gp_R s_298 117 4 = some 121 := by rw [e_299]; exact q_270
        have q_315 : gp_R s_298 117 5 = some 122 := by rw [e_299]; exact q_271
        have q_316 : gp_R s_298 117 6 = none := by rw [e_299]; exact q_272
        have q_317 : gp_R s_298 117 7 = none := by rw [e_299]; exact q_273
        have q_318 : gp_R s_298 117 8 = none := by rw [e_299]; exact q_274
        have q_319 : gp_R s_298 117 9 = none := by rw [e_299]; exact q_275
        have q_320 : gp_R s_298 25 6 = none := by rw [e_299]; exact q_276
        have q_321 : gp_R s_298 25 7 = none := by rw [e_299]; exact q_277
        have q_322 : gp_R s_298 25 8 = none := by rw [e_299]; exact q_278
        have q_323 : gp_R s_298 25 9 = none := by rw [e_299]; exact q_279
        have q_324 : ∀ k, k < 8 → gp_R s_298 4 k = some 25 := by rw [e_299]; exact q_280
        have q_325 : gp_R s_298 51 6 = some 55 := by rw [e_299]; exact q_281
        have q_326 : gp_R s_298 51 7 = some 56 := by rw [e_299]; exact q_282
        have q_327 : gp_sh s_298 117 = (9, 10) := by rw [e_299]; exact q_283
        have q_328 : gp_sh s_298 118 = (101, 1) := by rw [e_299]; exact q_284
        have q_329 : gp_sh s_298 119 = (101, 1) := by rw [e_299]; exact q_285
        have q_330 : gp_sh s_298 120 = (100, 1) := by rw [e_299]; exact q_286
        have q_331 : gp_sh s_298 121 = (100, 1) := by rw [e_299]; exact q_287
        have q_332 : gp_sh s_298 122 = (100, 1) := by rw [e_299]; exact q_288
        have q_333 : gp_us s_298 = 606910 := by rw [e_299]; exact q_289
        have q_334 : gp_sz s_298 = 123 := by rw [e_299]; exact q_290
        have q_335 : gp_L s_298 118 0 = 0#64 := by rw [e_299]; exact q_291
        have q_336 : gp_L s_298 119 0 = 0#64 := by rw [e_299]; exact q_292
        have q_337 : gp_I s_298 120 0 = 0 := by rw [e_299]; exact q_293
        have q_338 : gp_I s_298 121 0 = 0 := by rw [e_299]; exact q_294
        have q_339 : gp_I s_298 122 0 = 0 := by rw [e_299]; rfl
        have w_341 := gz_w (0 + 1)
        have e_342 : gp_wr (0 + 1) = 1 := by omega
        try rw [e_342]
        refine s_1032_181 _ _ _ _ _ _ ?_
        have w_344 := gz_w (0 + 1)
        have e_345 : gp_wr (0 + 1) = 1 := by omega
        try rw [e_345]
        refine s_1032_28 _ _ _ _ _ _ ?_
        try rw [show gp_I s_298 6 4 = 1 from q_308]
        refine ⟨fun h_347 => ?_, fun h_347 => ?_⟩
        · exfalso; omega
        · refine s_1032_187 _ _ _ _ _ _ ?_
          exact k s_298 hs_300 (by omega) (by omega) (by omega) (by omega) (by omega) (by omega) (by omega) (by omega) (by omega) (by omega) (by omega) q_335 q_336 q_309 q_310 q_311 q_312 q_313 q_314 q_315 q_316 q_317 q_318 q_319 q_320 q_321 q_322 q_323 q_324 q_325 q_326 q_327 q_328 q_329 q_330 q_331 q_332 q_333 q_334
    · exfalso; omega
  · exfalso; omega
set_option maxRecDepth 100000 in
/-- Reducer.reduced [25] -/
theorem zx1537_0 {z : gH} {L d : Nat} {K : Option gV → gH → Prop} {s : gH}  (hs : xM z s)  (q0 : gp_I s 1 2 = 0) (q1 : gp_I s 1 6 = 0) (q2 : gp_I s 1 7 = 1) (q3 : gp_I s 51 8 = 0) (q4 : gp_I s 57 1 = 0) (q5 : gp_I s 57 3 = 0) (q6 : gp_I s 6 4 = 0) (q7 : gp_R s 25 6 = none) (q8 : gp_R s 25 7 = none) (q9 : gp_R s 25 8 = none) (q10 : gp_R s 25 9 = none) (q11 : ∀ k, k < 8 → gp_R s 4 k = some 25) (q12 : gp_R s 51 6 = some 55) (q13 : gp_R s 51 7 = some 56) (q14 : gp_us s = 606895) (q15 : gp_sz s = 117) (k : ∀ (t : gH), xM z t → (gp_I t 1 2 = 0) → (gp_I t 1 6 = 0) → (gp_I t 1 7 = 1) → (gp_I t 117 0 = 1) → (gp_I t 120 0 = 0) → (gp_I t 121 0 = 0) → (gp_I t 122 0 = 0) → (gp_I t 51 8 = 0) → (gp_I t 57 1 = 0) → (gp_I t 57 3 = 0) → (gp_I t 6 4 = 1) → (gp_L t 118 0 = 0#64) → (gp_L t 119 0 = 0#64) → (gp_L t 43 0 = 1#64) → (gp_L t 44 0 = 1#64) → (gp_R t 117 1 = some 118) → (gp_R t 117 2 = some 119) → (gp_R t 117 3 = some 120) → (gp_R t 117 4 = some 121) → (gp_R t 117 5 = some 122) → (gp_R t 117 6 = none) → (gp_R t 117 7 = none) → (gp_R t 117 8 = none) → (gp_R t 117 9 = none) → (gp_R t 25 6 = none) → (gp_R t 25 7 = none) → (gp_R t 25 8 = none) → (gp_R t 25 9 = none) → (∀ k, k < 8 → gp_R t 4 k = some 25) → (gp_R t 51 6 = some 55) → (gp_R t 51 7 = some 56) → (gp_sh t 117 = (9, 10)) → (gp_sh t 118 = (101, 1)) → (gp_sh t 119 = (101, 1)) → (gp_sh t 120 = (100, 1)) → (gp_sh t 121 = (100, 1)) → (gp_sh t 122 = (100, 1)) → (gp_us t = 606910) → (gp_sz t = 123) → K (some (gp_r (some 117))) t) : gs_C L (d + 4) 1537 6 [gp_r (some 41), gp_r (some 25)] s K := by
  refine s_1537_e _ ?_
  refine zx1025_0 hs (by omega) (by omega) (by omega) (by omega) (by omega) (by omega) (by omega) q7 q8 q9 q10 q11 q12 q13 q14 q15 (fun s_1 hs_2 q_3 q_4 q_5 q_6 q_7 q_8 q_9 q_10 q_11 q_12 q_13 q_14 q_15 q_16 q_17 q_18 => ⟨rfl, ?_⟩)
  refine ⟨25, rfl, ?_⟩
  refine ⟨rfl, ?_⟩
  try rw [show gp_R (gp_mk L s_1) 25 5 = some 30 from rfl]
  refine ⟨rfl, ?_⟩
  refine zx2306_0 hs_2 q_10 q_11 q_12 q_13 (⟨_, rfl, ?_⟩)
  refine ⟨30, rfl, ?_⟩
  refine ⟨⟨rfl, by show 0 ≤ 0 ∧ 0 < 1; omega⟩, ?_⟩
  have f_19 := xr30 hs_2 ((0 : Int).toNat)
  have e_20 : gp_I s_1 30 (0 : Int).toNat = 0 := by omega
  try rw [e_20]
  have w_21 := gz_w (0 + 1)
  have e_22 : gp_wr (0 + 1) = 1 := by omega
  try rw [e_22]
  refine s_1537_21 _ _ _ _ _ ?_
  refine ⟨25, rfl, ?_⟩
  refine ⟨rfl, ?_⟩
  have f_24 := xr25_0 hs_2 0
  have e_25 : gp_I s_1 25 0 = 1 := by omega
  try rw [e_25]
  refine ⟨fun h_26 => ?_, fun h_26 => ?_⟩
  · refine ⟨rfl, ?_⟩
    try rw [show gp_R (gp_mk L s_1) 25 1 = some 26 from rfl]
    refine ⟨26, rfl, ?_⟩
    refine ⟨⟨rfl, by show 0 ≤ 0 ∧ 0 < 1; omega⟩, ?_⟩
    try rw [xr26 hs_2 ((0 : Int).toNat)]
    refine zx2863_2 hs_2 (by omega) (by omega) (by omega) (by omega) (by omega) (by omega) q_10 q_11 q_12 q_13 q_14 q_15 q_16 (⟨_, rfl, ?_⟩)
    intro s_27 e_28
    have hs_29 : xM z s_27 := by rw [e_28]; exact xw41_4 hs_2 0 _ rfl
    have q_30 : gp_I s_27 1 2 = 0 := by rw [e_28]; exact q_3
    have q_31 : gp_I s_27 1 6 = 0 := by rw [e_28]; exact q_4
    have q_32 : gp_I s_27 1 7 = 1 := by rw [e_28]; exact q_5
    have q_33 : gp_I s_27 51 8 = 0 := by rw [e_28]; exact q_6
    have q_34 : gp_I s_27 57 1 = 0 := by rw [e_28]; exact q_7
    have q_35 : gp_I s_27 57 3 = 0 := by rw [e_28]; exact q_8
    have q_36 : gp_I s_27 6 4 = 0 := by rw [e_28]; exact q_9
    have q_37 : gp_R s_27 25 6 = none := by rw [e_28]; exact q_10
    have q_38 : gp_R s_27 25 7 = none := by rw [e_28]; exact q_11
    have q_39 : gp_R s_27 25 8 = none := by rw [e_28]; exact q_12
    have q_40 : gp_R s_27 25 9 = none := by rw [e_28]; exact q_13
    have q_41 : ∀ k, k < 8 → gp_R s_27 4 k = some 25 := by rw [e_28]; exact q_14
    have q_42 : gp_R s_27 51 6 = some 55 := by rw [e_28]; exact q_15
    have q_43 : gp_R s_27 51 7 = some 56 := by rw [e_28]; exact q_16
    have q_44 : gp_us s_27 = 606895 := by rw [e_28]; exact q_17
    have q_45 : gp_sz s_27 = 117 := by rw [e_28]; exact q_18
    refine ⟨rfl, ?_⟩
    try rw [show gp_R (gp_mk L s_27) 25 2 = some 27 from rfl]
    refine ⟨27, rfl, ?_⟩
    refine ⟨⟨rfl, by show 0 ≤ 0 ∧ 0 < 1; omega⟩, ?_⟩
    try rw [xr27 hs_29 ((0 : Int).toNat)]
    refine zx2863_2 hs_29 (by omega) (by omega) (by omega) (by omega) (by omega) (by omega) q_37 q_38 q_39 q_40 q_41 q_42 q_43 (⟨_, rfl, ?_⟩)
    intro s_46 e_47
    have hs_48 : xM z s_46 := by rw [e_47]; exact xw41_5 hs_29 0 _ rfl
    have q_49 : gp_I s_46 1 2 = 0 := by rw [e_47]; exact q_30
    have q_50 : gp_I s_46 1 6 = 0 := by rw [e_47]; exact q_31
    have q_51 : gp_I s_46 1 7 = 1 := by rw [e_47]; exact q_32
    have q_52 : gp_I s_46 51 8 = 0 := by rw [e_47]; exact q_33
    have q_53 : gp_I s_46 57 1 = 0 := by rw [e_47]; exact q_34
    have q_54 : gp_I s_46 57 3 = 0 := by rw [e_47]; exact q_35
    have q_55 : gp_I s_46 6 4 = 0 := by rw [e_47]; exact q_36
    have q_56 : gp_R s_46 25 6 = none := by rw [e_47]; exact q_37
    have q_57 : gp_R s_46 25 7 = none := by rw [e_47]; exact q_38
    have q_58 : gp_R s_46 25 8 = none := by rw [e_47]; exact q_39
    have q_59 : gp_R s_46 25 9 = none := by rw [e_47]; exact q_40
    have q_60 : ∀ k, k < 8 → gp_R s_46 4 k = some 25 := by rw [e_47]; exact q_41
    have q_61 : gp_R s_46 51 6 = some 55 := by rw [e_47]; exact q_42
    have q_62 : gp_R s_46 51 7 = some 56 := by rw [e_47]; exact q_43
    have q_63 : gp_us s_46 = 606895 := by rw [e_47]; exact q_44
    have q_64 : gp_sz s_46 = 117 := by rw [e_47]; exact q_45
    refine s_1537_69 _ _ _ _ _ ?_
    refine ⟨fun h_66 => ?_, fun h_66 => ?_⟩
    · refine ⟨fun h_67 => ?_, fun h_67 => ?_⟩
      · exfalso; omega
      · try rw [xr41_4 hs_48 4]
        try rw [xr41_5 hs_48 5]
        refine ⟨25, rfl, ?_⟩
        refine ⟨rfl, ?_⟩
        try rw [show gp_R (gp_mk L s_46) 25 3 = some 28 from rfl]
        refine ⟨28, rfl, ?_⟩
        refine ⟨⟨rfl, by show 0 ≤ 0 ∧ 0 < 1; omega⟩, ?_⟩
        have f_68 := xr28 hs_48 ((0 : Int).toNat)
        have e_69 : gp_I s_46 28 (0 : Int).toNat = 0 := by omega
        try rw [e_69]
        refine ⟨rfl, ?_⟩
        try rw [show gp_R (gp_mk L s_46) 25 4 = some 29 from rfl]
        refine ⟨29, rfl, ?_⟩
        refine ⟨⟨rfl, by show 0 ≤ 0 ∧ 0 < 1; omega⟩, ?_⟩
        have f_70 := xr29 hs_48 ((0 : Int).toNat)
        have e_71 : gp_I s_46 29 (0 : Int).toNat = 0 := by omega
        try rw [e_71]
        refine zx1026_0 hs_48 (by omega) (by omega) (by omega) (by omega) (by omega) (by omega) (by omega) q_56 q_57 q_58 q_59 q_60 q_61 q_62 q_63 q_64 (fun s_72 hs_73 q_74 q_75 q_76 q_77 q_78 q_79 q_80 q_81 q_82 q_83 q_84 q_85 q_86 q_87 q_88 q_89 => ⟨rfl, ?_⟩)
        try rw [show gp_I s_72 6 4 = 0 from q_80]
        refine zx771_0 hs_73 (by omega) (by omega) (by omega) (by omega) (by omega) (by omega) (by omega) q_81 q_82 q_83 q_84 q_85 q_86 q_87 q_88 q_89 (fun s_90 hs_91 q_92 q_93 q_94 q_95 q_96 q_97 q_98 q_99 q_100 q_101 q_102 q_103 q_104 q_105 q_106 q_107 => ⟨rfl, ?_⟩)
        try rw [show gp_I s_90 6 4 = 0 from q_98]
        refine zx2_0 hs_91 (by omega) (by omega) (by omega) (by omega) (by omega) (by omega) (by omega) q_99 q_100 q_101 q_102 q_103 q_104 q_105 q_106 q_107 (fun s_108 hs_109 q_110 q_111 q_112 q_113 q_114 q_115 q_116 q_117 q_118 q_119 q_120 q_121 q_122 q_123 q_124 q_125 q_126 q_127 => ⟨rfl, ?_⟩)
        refine zx1538_0 hs_109 (by omega) (by omega) (by omega) (by omega) (by omega) (by omega) (by omega) q_117 q_118 q_119 q_120 q_121 q_122 q_123 q_124 q_125 q_126 q_127 (⟨_, rfl, ?_⟩)
        refine ⟨fun h_128 => ?_, fun h_128 => ?_⟩
        · refine zx1539_0 hs_109 (by omega) (by omega) (by omega) (by omega) (by omega) (by omega) (by omega) q_117 q_118 q_119 q_120 q_121 q_122 q_123 q_124 q_125 q_126 q_127 (⟨_, rfl, ?_⟩)
          refine ⟨fun h_129 => ?_, fun h_129 => ?_⟩
          · refine zx1541_0 hs_109 (by omega) (by omega) (by omega) (by omega) (by omega) (by omega) (by omega) q_117 q_118 q_119 q_120 q_121 q_122 q_123 q_124 q_125 q_126 q_127 (⟨_, rfl, ?_⟩)
            refine ⟨fun h_130 => ?_, fun h_130 => ?_⟩
            · refine zx1542_0 hs_109 (by omega) (by omega) (by omega) (by omega) (by omega) (by omega) (by omega) q_117 q_118 q_119 q_120 q_121 q_122 q_123 q_124 q_125 q_126 q_127 (⟨_, rfl, ?_⟩)
              refine ⟨fun h_131 => ?_, fun h_131 => ?_⟩
              · refine s_1537_184 _ _ _ _ _ _ ?_
                have w_133 := gz_w (0 + 1)
                have e_134 : gp_wr (0 + 1) = 1 := by omega
                try rw [e_134]
                refine s_1537_69 _ _ _ _ _ ?_
                refine ⟨fun h_136 => ?_, fun h_136 => ?_⟩
                · refine ⟨fun h_137 => ?_, fun h_137 => ?_⟩
                  · refine s_1537_192 _ _ _ _ _ ?_
                    refine zx1027_1 hs_109 (by omega) (by omega) (by omega) (by omega) (by omega) (by omega) (by omega) q_117 q_118 q_119 q_120 q_121 q_122 q_123 q_124 q_125 q_126 q_127 (fun s_139 hs_140 q_141 q_142 q_143 q_144 q_145 q_146 q_147 q_148 q_149 q_150 q_151 q_152 q_153 q_154 q_155 q_156 q_157 q_158 => ⟨_, rfl, ?_⟩)
                    refine ⟨by omega, ?_⟩
                    intro s_159 e_160
                    have hs_161 : xM z s_159 := by rw [e_160]; exact xw45 hs_140 _ _ (by omega)
                    have q_162 : gp_I s_159 1 2 = 0 := by rw [e_160]; exact q_141
                    have q_163 : gp_I s_159 1 6 = 0 := by rw [e_160]; exact q_142
                    have q_164 : gp_I s_159 1 7 = 1 := by rw [e_160]; exact q_143
                    have q_165 : gp_I s_159 51 8 = 0 := by rw [e_160]; exact q_144
                    have q_166 : gp_I s_159 57 1 = 0 := by rw [e_160]; exact q_145
                    have q_167 : gp_I s_159 57 3 = 0 := by rw [e_160]; exact q_146
                    have q_168 : gp_I s_159 6 4 = 1 := by rw [e_160]; exact q_147
                    have q_169 : gp_L s_159 43 0 = 0#64 := by rw [e_160]; exact q_148
                    have q_170 : gp_L s_159 44 0 = 0#64 := by rw [e_160]; exact q_149
                    have q_171 : gp_R s_159 25 6 = none := by rw [e_160]; exact q_150
                    have q_172 : gp_R s_159 25 7 = none := by rw [e_160]; exact q_151
                    have q_173 : gp_R s_159 25 8 = none := by rw [e_160]; exact q_152
                    have q_174 : gp_R s_159 25 9 = none := by rw [e_160]; exact q_153
                    have q_175 : ∀ k, k < 8 → gp_R s_159 4 k = some 25 := by rw [e_160]; exact q_154
                    have q_176 : gp_R s_159 51 6 = some 55 := by rw [e_160]; exact q_155
                    have q_177 : gp_R s_159 51 7 = some 56 := by rw [e_160]; exact q_156
                    have q_178 : gp_us s_159 = 606895 := by rw [e_160]; exact q_157
                    have q_179 : gp_sz s_159 = 117 := by rw [e_160]; exact q_158
                    refine ⟨by omega, ?_⟩
                    have f_180 := xr45 hs_161 ((0 : Int).toNat)
                    have e_181 : gp_I s_159 45 (0 : Int).toNat = 0 := by omega
                    try rw [e_181]
                    refine ⟨fun h_182 => ?_, fun h_182 => ?_⟩
                    · exfalso; omega
                    · refine ⟨by omega, ?_⟩
                      have f_183 := xr45 hs_161 ((0 : Int).toNat)
                      have e_184 : gp_I s_159 45 (0 : Int).toNat = 0 := by omega
                      try rw [e_184]
                      refine ⟨by omega, ?_⟩
                      have f_185 := xr45 hs_161 ((0 : Int).toNat)
                      have e_186 : gp_I s_159 45 (0 : Int).toNat = 0 := by omega
                      try rw [e_186]
                      refine zx3_0 hs_161 (by omega) (by omega) (by omega) (by omega) (by omega) (by omega) (by omega) q_169 q_170 q_171 q_172 q_173 q_174 q_175 q_176 q_177 q_178 q_179 (fun s_187 hs_188 q_189 q_190 q_191 q_192 q_193 q_194 q_195 q_196 q_197 q_198 q_199 q_200 q_201 q_202 q_203 q_204 q_205 q_206 => ⟨rfl, ?_⟩)
                      have w_207 := gz_w (0 + 1)
                      have e_208 : gp_wr (0 + 1) = 1 := by omega
                      try rw [e_208]
                      refine s_1537_21 _ _ _ _ _ ?_
                      refine ⟨25, rfl, ?_⟩
                      refine ⟨rfl, ?_⟩
                      have f_210 := xr25_0 hs_188 0
                      have e_211 : gp_I s_187 25 0 = 1 := by omega
                      try rw [e_211]
                      refine ⟨fun h_212 => ?_, fun h_212 => ?_⟩
                      · exfalso; omega
                      · refine ⟨rfl, ?_⟩
                        refine zx2306_0 hs_188 q_198 q_199 q_200 q_201 (⟨_, rfl, ?_⟩)
                        refine ⟨by omega, ?_⟩
                        have f_213 := xr45 hs_188 ((0 : Int).toNat)
                        have e_214 : gp_I s_187 45 (0 : Int).toNat = 0 := by omega
                        try rw [e_214]
                        refine zx1032_1 hs_188 (by omega) (by omega) (by omega) (by omega) (by omega) (by omega) (by omega) q_196 q_197 q_198 q_199 q_200 q_201 q_202 q_203 q_204 q_205 q_206 (fun s_216 hs_217 q_218 q_219 q_220 q_221 q_222 q_223 q_224 q_225 q_226 q_227 q_228 q_229 q_230 q_231 q_232 q_233 q_234 q_235 q_236 q_237 q_238 q_239 q_240 q_241 q_242 q_243 q_244 q_245 q_246 q_247 q_248 q_249 q_250 q_251 q_252 q_253 q_254 q_255 q_256 => ⟨_, rfl, ?_⟩)
                        exact k s_216 hs_217 (by omega) (by omega) (by omega) (by omega) (by omega) (by omega) (by omega) (by omega) (by omega) (by omega) (by omega) q_229 q_230 q_231 q_232 q_233 q_234 q_235 q_236 q_237 q_238 q_239 q_240 q_241 q_242 q_243 q_244 q_245 q_246 q_247 q_248 q_249 q_250 q_251 q_252 q_253 q_254 q_255 q_256
                  · exfalso; omega
                · exfalso; omega
              · exfalso; omega
            · exfalso; omega
          · exfalso; omega
        · exfalso; omega
    · exfalso; omega
  · exfalso; omega
set_option maxRecDepth 100000 in
/-- GatheredPoints.hold [(0, 7), 117] -/
theorem zx2854_22 {z : gH} {L d : Nat} {K : Option gV → gH → Prop} {s : gH} (p0 : Int) (hs : xM z s) (h_p0 : 0 ≤ p0 ∧ p0 ≤ 7) (q0 : gp_I s 1 2 = 0) (q1 : gp_I s 1 6 = 0) (q2 : gp_I s 1 7 = 1) (q3 : gp_I s 117 0 = 1) (q4 : gp_I s 120 0 = 0) (q5 : gp_I s 121 0 = 0) (q6 : gp_I s 122 0 = 0) (q7 : gp_I s 51 8 = 0) (q8 : gp_I s 57 1 = 0) (q9 : gp_I s 57 3 = 0) (q10 : gp_I s 6 4 = 1) (q11 : gp_L s 118 0 = 0#64) (q12 : gp_L s 119 0 = 0#64) (q13 : gp_L s 43 0 = 1#64) (q14 : gp_L s 44 0 = 1#64) (q15 : gp_R s 117 1 = some 118) (q16 : gp_R s 117 2 = some 119) (q17 : gp_R s 117 3 = some 120) (q18 : gp_R s 117 4 = some 121) (q19 : gp_R s 117 5 = some 122) (q20 : gp_R s 117 6 = none) (q21 : gp_R s 117 7 = none) (q22 : gp_R s 117 8 = none) (q23 : gp_R s 117 9 = none) (q24 : gp_R s 25 6 = none) (q25 : gp_R s 25 7 = none) (q26 : gp_R s 25 8 = none) (q27 : gp_R s 25 9 = none) (q28 : ∀ k, k < 8 → gp_R s 4 k = some 25) (q29 : gp_R s 51 6 = some 55) (q30 : gp_R s 51 7 = some 56) (q31 : gp_sh s 117 = (9, 10)) (q32 : gp_sh s 118 = (101, 1)) (q33 : gp_sh s 119 = (101, 1)) (q34 : gp_sh s 120 = (100, 1)) (q35 : gp_sh s 121 = (100, 1)) (q36 : gp_sh s 122 = (100, 1)) (q37 : gp_us s = 606910) (q38 : gp_sz s = 123) (k : ∀ (t : gH), xM z t → (gp_I t 1 2 = 0) → (gp_I t 1 6 = 0) → (gp_I t 1 7 = 1) → (gp_I t 117 0 = 1) → (gp_I t 120 0 = 0) → (gp_I t 121 0 = 0) → (gp_I t 122 0 = 0) → (gp_I t 51 8 = 0) → (gp_I t 57 1 = 0) → (gp_I t 57 3 = 0) → (gp_I t 6 4 = 1) → (gp_L t 118 0 = 0#64) → (gp_L t 119 0 = 0#64) → (gp_L t 43 0 = 1#64) → (gp_L t 44 0 = 1#64) → (gp_R t 117 1 = some 118) → (gp_R t 117 2 = some 119) → (gp_R t 117 3 = some 120) → (gp_R t 117 4 = some 121) → (gp_R t 117 5 = some 122) → (gp_R t 117 6 = none) → (gp_R t 117 7 = none) → (gp_R t 117 8 = none) → (gp_R t 117 9 = none) → (gp_R t 25 6 = none) → (gp_R t 25 7 = none) → (gp_R t 25 8 = none) → (gp_R t 25 9 = none) → (gp_R t 51 6 = some 55) → (gp_R t 51 7 = some 56) → (gp_sh t 117 = (9, 10)) → (gp_sh t 118 = (101, 1)) → (gp_sh t 119 = (101, 1)) → (gp_sh t 120 = (100, 1)) → (gp_sh t 121 = (100, 1)) → (gp_sh t 122 = (100, 1)) → (gp_us t = 606910) → (gp_sz t = 123) → K (some (gp_i 1)) t) : gs_C L d 2854 3 [gp_r (some 1), gp_i p0, gp_r (some 117)] s K := by
  refine s_2854_e _ _ ?_
  refine ⟨117, rfl, ?_⟩
  refine ⟨by omega, ?_⟩
  refine ⟨(by show (gp_sh s 117).1 = 9; rw [q31]), ?_⟩
  intro s_1 e_2
  have hs_3 : xM z s_1 := by rw [e_2]; exact xI.wR hs _ _ _
  have q_4 : gp_I s_1 1 2 = 0 := by rw [e_2]; exact q0
  have q_5 : gp_I s_1 1 6 = 0 := by rw [e_2]; exact q1
  have q_6 : gp_I s_1 1 7 = 1 := by rw [e_2]; exact q2
  have q_7 : gp_I s_1 117 0 = 1 := by rw [e_2]; exact q3
  have q_8 : gp_I s_1 120 0 = 0 := by rw [e_2]; exact q4
  have q_9 : gp_I s_1 121 0 = 0 := by rw [e_2]; exact q5
  have q_10 : gp_I s_1 122 0 = 0 := by rw [e_2]; exact q6
  have q_11 : gp_I s_1 51 8 = 0 := by rw [e_2]; exact q7
  have q_12 : gp_I s_1 57 1 = 0 := by rw [e_2]; exact q8
  have q_13 : gp_I s_1 57 3 = 0 := by rw [e_2]; exact q9
  have q_14 : gp_I s_1 6 4 = 1 := by rw [e_2]; exact q10
  have q_15 : gp_L s_1 118 0 = 0#64 := by rw [e_2]; exact q11
  have q_16 : gp_L s_1 119 0 = 0#64 := by rw [e_2]; exact q12
  have q_17 : gp_L s_1 43 0 = 1#64 := by rw [e_2]; exact q13
  have q_18 : gp_L s_1 44 0 = 1#64 := by rw [e_2]; exact q14
  have q_19 : gp_R s_1 117 1 = some 118 := by rw [e_2]; exact q15
  have q_20 : gp_R s_1 117 2 = some 119 := by rw [e_2]; exact q16
  have q_21 : gp_R s_1 117 3 = some 120 := by rw [e_2]; exact q17
  have q_22 : gp_R s_1 117 4 = some 121 := by rw [e_2]; exact q18
  have q_23 : gp_R s_1 117 5 = some 122 := by rw [e_2]; exact q19
  have q_24 : gp_R s_1 117 6 = none := by rw [e_2]; exact q20
  have q_25 : gp_R s_1 117 7 = none := by rw [e_2]; exact q21
  have q_26 : gp_R s_1 117 8 = none := by rw [e_2]; exact q22
  have q_27 : gp_R s_1 117 9 = none := by rw [e_2]; exact q23
  have q_28 : gp_R s_1 25 6 = none := by rw [e_2]; exact q24
  have q_29 : gp_R s_1 25 7 = none := by rw [e_2]; exact q25
  have q_30 : gp_R s_1 25 8 = none := by rw [e_2]; exact q26
  have q_31 : gp_R s_1 25 9 = none := by rw [e_2]; exact q27
  have q_32 : gp_R s_1 51 6 = some 55 := by rw [e_2]; exact q29
  have q_33 : gp_R s_1 51 7 = some 56 := by rw [e_2]; exact q30
  have q_34 : gp_sh s_1 117 = (9, 10) := by rw [e_2]; exact q31
  have q_35 : gp_sh s_1 118 = (101, 1) := by rw [e_2]; exact q32
  have q_36 : gp_sh s_1 119 = (101, 1) := by rw [e_2]; exact q33
  have q_37 : gp_sh s_1 120 = (100, 1) := by rw [e_2]; exact q34
  have q_38 : gp_sh s_1 121 = (100, 1) := by rw [e_2]; exact q35
  have q_39 : gp_sh s_1 122 = (100, 1) := by rw [e_2]; exact q36
  have q_40 : gp_us s_1 = 606910 := by rw [e_2]; exact q37
  have q_41 : gp_sz s_1 = 123 := by rw [e_2]; exact q38
  refine ⟨(by show (gp_sh s_1 117).1 = 9; rw [q_34]), ?_⟩
  try rw [show gp_I s_1 117 0 = 1 from q_7]
  exact k s_1 hs_3 (by omega) (by omega) (by omega) (by omega) (by omega) (by omega) (by omega) (by omega) (by omega) (by omega) (by omega) q_15 q_16 q_17 q_18 q_19 q_20 q_21 q_22 q_23 q_24 q_25 q_26 q_27 q_28 q_29 q_30 q_31 q_32 q_33 q_34 q_35 q_36 q_37 q_38 q_39 q_40 q_41
set_option maxRecDepth 100000 in
/-- GatheredPoints.reduce [(0, 7), (0, 7)] -/
theorem zx2831_4 {z : gH} {L d : Nat} {K : Option gV → gH → Prop} {s : gH} (p0 : Int) (p1 : Int) (hs : xM z s) (h_p0 : 0 ≤ p0 ∧ p0 ≤ 7) (h_p1 : 0 ≤ p1 ∧ p1 ≤ 7) (q0 : gp_I s 1 2 = 0) (q1 : gp_I s 1 6 = 0) (q2 : gp_I s 1 7 = 1) (q3 : gp_I s 51 8 = 0) (q4 : gp_I s 57 1 = 0) (q5 : gp_I s 57 3 = 0) (q6 : gp_I s 6 4 = 0) (q7 : gp_R s 25 6 = none) (q8 : gp_R s 25 7 = none) (q9 : gp_R s 25 8 = none) (q10 : gp_R s 25 9 = none) (q11 : ∀ k, k < 8 → gp_R s 4 k = some 25) (q12 : gp_R s 51 6 = some 55) (q13 : gp_R s 51 7 = some 56) (q14 : gp_us s = 606895) (q15 : gp_sz s = 117) (k : ∀ (t : gH), xM z t → (gp_I t 1 2 = 0) → (gp_I t 1 6 = 0) → (gp_I t 1 7 = 1) → (gp_I t 117 0 = 1) → (gp_I t 120 0 = 0) → (gp_I t 121 0 = 0) → (gp_I t 122 0 = 0) → (gp_I t 51 8 = 0) → (gp_I t 57 1 = 0) → (gp_I t 57 3 = 0) → (gp_I t 6 4 = 1) → (gp_L t 118 0 = 0#64) → (gp_L t 119 0 = 0#64) → (gp_L t 43 0 = 1#64) → (gp_L t 44 0 = 1#64) → (gp_R t 117 1 = some 118) → (gp_R t 117 2 = some 119) → (gp_R t 117 3 = some 120) → (gp_R t 117 4 = some 121) → (gp_R t 117 5 = some 122) → (gp_R t 117 6 = none) → (gp_R t 117 7 = none) → (gp_R t 117 8 = none) → (gp_R t 117 9 = none) → (gp_R t 25 6 = none) → (gp_R t 25 7 = none) → (gp_R t 25 8 = none) → (gp_R t 25 9 = none) → (gp_R t 51 6 = some 55) → (gp_R t 51 7 = some 56) → (gp_sh t 117 = (9, 10)) → (gp_sh t 118 = (101, 1)) → (gp_sh t 119 = (101, 1)) → (gp_sh t 120 = (100, 1)) → (gp_sh t 121 = (100, 1)) → (gp_sh t 122 = (100, 1)) → (gp_us t = 606910) → (gp_sz t = 123) → K (some (gp_i 1)) t) : gs_C L (d + 5) 2831 3 [gp_r (some 1), gp_i p0, gp_i p1] s K := by
  refine s_2831_e _ _ ?_
  refine zx2856_2 _ hs (by omega) (by omega) (by omega) (by omega) (by omega) (by omega) (by omega) q7 q8 q9 q10 q11 q12 q13 (⟨_, rfl, ?_⟩)
  refine ⟨fun h_1 => ?_, fun h_1 => ?_⟩
  · refine zx2856_2 _ hs (by omega) (by omega) (by omega) (by omega) (by omega) (by omega) (by omega) q7 q8 q9 q10 q11 q12 q13 (⟨_, rfl, ?_⟩)
    refine ⟨fun h_2 => ?_, fun h_2 => ?_⟩
    · refine ⟨by omega, ?_⟩
      try rw [show gp_R (gp_mk L s) 4 p0.toNat = some 25 from (q11 _ (by omega))]
      refine zx776_0 hs (by omega) (by omega) (by omega) (by omega) (by omega) (by omega) (by omega) q7 q8 q9 q10 q11 q12 q13 q14 q15 (fun s_3 hs_4 q_5 q_6 q_7 q_8 q_9 q_10 q_11 q_12 q_13 q_14 q_15 q_16 q_17 q_18 q_19 q_20 => ⟨_, rfl, ?_⟩)
      refine ⟨fun h_21 => ?_, fun h_21 => ?_⟩
      · exfalso; omega
      · refine ⟨by omega, ?_⟩
        try rw [show gp_R (gp_mk L s_3) 4 p0.toNat = some 25 from (q_16 _ (by omega))]
        refine zx1537_0 hs_4 (by omega) (by omega) (by omega) (by omega) (by omega) (by omega) (by omega) q_12 q_13 q_14 q_15 q_16 q_17 q_18 q_19 q_20 (fun s_23 hs_24 q_25 q_26 q_27 q_28 q_29 q_30 q_31 q_32 q_33 q_34 q_35 q_36 q_37 q_38 q_39 q_40 q_41 q_42 q_43 q_44 q_45 q_46 q_47 q_48 q_49 q_50 q_51 q_52 q_53 q_54 q_55 q_56 q_57 q_58 q_59 q_60 q_61 q_62 q_63 => ⟨_, rfl, ?_⟩)
        refine zx2854_22 _ hs_24 (by omega) (by omega) (by omega) (by omega) (by omega) (by omega) (by omega) (by omega) (by omega) (by omega) (by omega) (by omega) q_36 q_37 q_38 q_39 q_40 q_41 q_42 q_43 q_44 q_45 q_46 q_47 q_48 q_49 q_50 q_51 q_52 q_53 q_54 q_55 q_56 q_57 q_58 q_59 q_60 q_61 q_62 q_63 (fun s_64 hs_65 q_66 q_67 q_68 q_69 q_70 q_71 q_72 q_73 q_74 q_75 q_76 q_77 q_78 q_79 q_80 q_81 q_82 q_83 q_84 q_85 q_86 q_87 q_88 q_89 q_90 q_91 q_92 q_93 q_94 q_95 q_96 q_97 q_98 q_99 q_100 q_101 q_102 q_103 => ⟨_, rfl, ?_⟩)
        exact k s_64 hs_65 (by omega) (by omega) (by omega) (by omega) (by omega) (by omega) (by omega) (by omega) (by omega) (by omega) (by omega) q_77 q_78 q_79 q_80 q_81 q_82 q_83 q_84 q_85 q_86 q_87 q_88 q_89 q_90 q_91 q_92 q_93 q_94 q_95 q_96 q_97 q_98 q_99 q_100 q_101 q_102 q_103
    · exfalso; omega
  · exfalso; omega
set_option maxRecDepth 100000 in
/-- GatheredPoints.order [(-2147483648, -1), (-2147483648, 2147483647)] -/
theorem zx2827_0 {z : gH} {L d : Nat} {K : Option gV → gH → Prop} {s : gH} (p0 : Int) (p1 : Int) (hs : xM z s) (h_p0 : (-2147483648) ≤ p0 ∧ p0 ≤ (-1)) (h_p1 : (-2147483648) ≤ p1 ∧ p1 ≤ 2147483647) (q0 : gp_I s 1 2 = 0) (q1 : gp_I s 1 6 = 0) (q2 : gp_I s 1 7 = 1) (q3 : gp_I s 51 8 = 0) (q4 : gp_I s 57 1 = 0) (q5 : gp_I s 57 3 = 0) (q6 : gp_I s 6 4 = 0) (q7 : gp_R s 25 6 = none) (q8 : gp_R s 25 7 = none) (q9 : gp_R s 25 8 = none) (q10 : gp_R s 25 9 = none) (q11 : ∀ k, k < 8 → gp_R s 4 k = some 25) (q12 : gp_R s 51 6 = some 55) (q13 : gp_R s 51 7 = some 56) (q14 : gp_us s = 606895) (q15 : gp_sz s = 117) (k : ∀ (t : gH), xM z t → (gp_I t 1 2 = 0) → (gp_I t 1 6 = 0) → (gp_I t 1 7 = 1) → ((-2147483648) ≤ gp_I t 2 1 ∧ gp_I t 2 1 ≤ 2147483647) → (gp_I t 51 8 = 0) → (gp_I t 57 1 = 0) → (gp_I t 57 3 = 0) → (gp_I t 6 4 = 0) → (gp_R t 25 6 = none) → (gp_R t 25 7 = none) → (gp_R t 25 8 = none) → (gp_R t 25 9 = none) → (∀ k, k < 8 → gp_R t 4 k = some 25) → (gp_R t 51 6 = some 55) → (gp_R t 51 7 = some 56) → (gp_us t = 606895) → (gp_sz t = 117) → K (some (gp_i (-1000000001))) t) : gs_C L (d + 1) 2827 3 [gp_r (some 1), gp_i p0, gp_i p1] s K := by
  refine s_2827_e _ _ ?_
  refine zx2856_0 _ hs (by omega) (by omega) (by omega) (by omega) (by omega) (by omega) (by omega) q7 q8 q9 q10 q11 q12 q13 (⟨_, rfl, ?_⟩)
  refine ⟨fun h_1 => ?_, fun h_1 => ?_⟩
  · exfalso; omega
  · refine s_2827_14 _ _ ?_
    refine zx2855_1 hs (by omega) (by omega) (by omega) (by omega) (by omega) (by omega) (by omega) q7 q8 q9 q10 q11 q12 q13 q14 q15 (fun s_2 hs_3 q_4 q_5 q_6 q_7 q_8 q_9 q_10 q_11 q_12 q_13 q_14 q_15 q_16 q_17 q_18 q_19 q_20 => ⟨_, rfl, ?_⟩)
    exact k s_2 hs_3 (by omega) (by omega) (by omega) (by omega) (by omega) (by omega) (by omega) (by omega) q_12 q_13 q_14 q_15 q_16 q_17 q_18 q_19 q_20
set_option maxRecDepth 100000 in
/-- GatheredPoints.order [(8, 2147483647), (-2147483648, 2147483647)] -/
theorem zx2827_1 {z : gH} {L d : Nat} {K : Option gV → gH → Prop} {s : gH} (p0 : Int) (p1 : Int) (hs : xM z s) (h_p0 : 8 ≤ p0 ∧ p0 ≤ 2147483647) (h_p1 : (-2147483648) ≤ p1 ∧ p1 ≤ 2147483647) (q0 : gp_I s 1 2 = 0) (q1 : gp_I s 1 6 = 0) (q2 : gp_I s 1 7 = 1) (q3 : gp_I s 51 8 = 0) (q4 : gp_I s 57 1 = 0) (q5 : gp_I s 57 3 = 0) (q6 : gp_I s 6 4 = 0) (q7 : gp_R s 25 6 = none) (q8 : gp_R s 25 7 = none) (q9 : gp_R s 25 8 = none) (q10 : gp_R s 25 9 = none) (q11 : ∀ k, k < 8 → gp_R s 4 k = some 25) (q12 : gp_R s 51 6 = some 55) (q13 : gp_R s 51 7 = some 56) (q14 : gp_us s = 606895) (q15 : gp_sz s = 117) (k : ∀ (t : gH), xM z t → (gp_I t 1 2 = 0) → (gp_I t 1 6 = 0) → (gp_I t 1 7 = 1) → ((-2147483648) ≤ gp_I t 2 1 ∧ gp_I t 2 1 ≤ 2147483647) → (gp_I t 51 8 = 0) → (gp_I t 57 1 = 0) → (gp_I t 57 3 = 0) → (gp_I t 6 4 = 0) → (gp_R t 25 6 = none) → (gp_R t 25 7 = none) → (gp_R t 25 8 = none) → (gp_R t 25 9 = none) → (∀ k, k < 8 → gp_R t 4 k = some 25) → (gp_R t 51 6 = some 55) → (gp_R t 51 7 = some 56) → (gp_us t = 606895) → (gp_sz t = 117) → K (some (gp_i (-1000000001))) t) : gs_C L (d + 1) 2827 3 [gp_r (some 1), gp_i p0, gp_i p1] s K := by
  refine s_2827_e _ _ ?_
  refine zx2856_1 _ hs (by omega) (by omega) (by omega) (by omega) (by omega) (by omega) (by omega) q7 q8 q9 q10 q11 q12 q13 (⟨_, rfl, ?_⟩)
  refine ⟨fun h_1 => ?_, fun h_1 => ?_⟩
  · exfalso; omega
  · refine s_2827_14 _ _ ?_
    refine zx2855_1 hs (by omega) (by omega) (by omega) (by omega) (by omega) (by omega) (by omega) q7 q8 q9 q10 q11 q12 q13 q14 q15 (fun s_2 hs_3 q_4 q_5 q_6 q_7 q_8 q_9 q_10 q_11 q_12 q_13 q_14 q_15 q_16 q_17 q_18 q_19 q_20 => ⟨_, rfl, ?_⟩)
    exact k s_2 hs_3 (by omega) (by omega) (by omega) (by omega) (by omega) (by omega) (by omega) (by omega) q_12 q_13 q_14 q_15 q_16 q_17 q_18 q_19 q_20
set_option maxRecDepth 100000 in
/-- GatheredPoints.order [(0, 7), (-2147483648, -1)] -/
theorem zx2827_2 {z : gH} {L d : Nat} {K : Option gV → gH → Prop} {s : gH} (p0 : Int) (p1 : Int) (hs : xM z s) (h_p0 : 0 ≤ p0 ∧ p0 ≤ 7) (h_p1 : (-2147483648) ≤ p1 ∧ p1 ≤ (-1)) (q0 : gp_I s 1 2 = 0) (q1 : gp_I s 1 6 = 0) (q2 : gp_I s 1 7 = 1) (q3 : gp_I s 51 8 = 0) (q4 : gp_I s 57 1 = 0) (q5 : gp_I s 57 3 = 0) (q6 : gp_I s 6 4 = 0) (q7 : gp_R s 25 6 = none) (q8 : gp_R s 25 7 = none) (q9 : gp_R s 25 8 = none) (q10 : gp_R s 25 9 = none) (q11 : ∀ k, k < 8 → gp_R s 4 k = some 25) (q12 : gp_R s 51 6 = some 55) (q13 : gp_R s 51 7 = some 56) (q14 : gp_us s = 606895) (q15 : gp_sz s = 117) (k : ∀ (t : gH), xM z t → (gp_I t 1 2 = 0) → (gp_I t 1 6 = 0) → (gp_I t 1 7 = 1) → ((-2147483648) ≤ gp_I t 2 1 ∧ gp_I t 2 1 ≤ 2147483647) → (gp_I t 51 8 = 0) → (gp_I t 57 1 = 0) → (gp_I t 57 3 = 0) → (gp_I t 6 4 = 0) → (gp_R t 25 6 = none) → (gp_R t 25 7 = none) → (gp_R t 25 8 = none) → (gp_R t 25 9 = none) → (∀ k, k < 8 → gp_R t 4 k = some 25) → (gp_R t 51 6 = some 55) → (gp_R t 51 7 = some 56) → (gp_us t = 606895) → (gp_sz t = 117) → K (some (gp_i (-1000000001))) t) : gs_C L (d + 1) 2827 3 [gp_r (some 1), gp_i p0, gp_i p1] s K := by
  refine s_2827_e _ _ ?_
  refine zx2856_2 _ hs (by omega) (by omega) (by omega) (by omega) (by omega) (by omega) (by omega) q7 q8 q9 q10 q11 q12 q13 (⟨_, rfl, ?_⟩)
  refine ⟨fun h_1 => ?_, fun h_1 => ?_⟩
  · refine zx2856_0 _ hs (by omega) (by omega) (by omega) (by omega) (by omega) (by omega) (by omega) q7 q8 q9 q10 q11 q12 q13 (⟨_, rfl, ?_⟩)
    refine ⟨fun h_2 => ?_, fun h_2 => ?_⟩
    · exfalso; omega
    · refine s_2827_14 _ _ ?_
      refine zx2855_1 hs (by omega) (by omega) (by omega) (by omega) (by omega) (by omega) (by omega) q7 q8 q9 q10 q11 q12 q13 q14 q15 (fun s_3 hs_4 q_5 q_6 q_7 q_8 q_9 q_10 q_11 q_12 q_13 q_14 q_15 q_16 q_17 q_18 q_19 q_20 q_21 => ⟨_, rfl, ?_⟩)
      exact k s_3 hs_4 (by omega) (by omega) (by omega) (by omega) (by omega) (by omega) (by omega) (by omega) q_13 q_14 q_15 q_16 q_17 q_18 q_19 q_20 q_21
  · exfalso; omega
set_option maxRecDepth 100000 in
/-- GatheredPoints.order [(0, 7), (8, 2147483647)] -/
theorem zx2827_3 {z : gH} {L d : Nat} {K : Option gV → gH → Prop} {s : gH} (p0 : Int) (p1 : Int) (hs : xM z s) (h_p0 : 0 ≤ p0 ∧ p0 ≤ 7) (h_p1 : 8 ≤ p1 ∧ p1 ≤ 2147483647) (q0 : gp_I s 1 2 = 0) (q1 : gp_I s 1 6 = 0) (q2 : gp_I s 1 7 = 1) (q3 : gp_I s 51 8 = 0) (q4 : gp_I s 57 1 = 0) (q5 : gp_I s 57 3 = 0) (q6 : gp_I s 6 4 = 0) (q7 : gp_R s 25 6 = none) (q8 : gp_R s 25 7 = none) (q9 : gp_R s 25 8 = none) (q10 : gp_R s 25 9 = none) (q11 : ∀ k, k < 8 → gp_R s 4 k = some 25) (q12 : gp_R s 51 6 = some 55) (q13 : gp_R s 51 7 = some 56) (q14 : gp_us s = 606895) (q15 : gp_sz s = 117) (k : ∀ (t : gH), xM z t → (gp_I t 1 2 = 0) → (gp_I t 1 6 = 0) → (gp_I t 1 7 = 1) → ((-2147483648) ≤ gp_I t 2 1 ∧ gp_I t 2 1 ≤ 2147483647) → (gp_I t 51 8 = 0) → (gp_I t 57 1 = 0) → (gp_I t 57 3 = 0) → (gp_I t 6 4 = 0) → (gp_R t 25 6 = none) → (gp_R t 25 7 = none) → (gp_R t 25 8 = none) → (gp_R t 25 9 = none) → (∀ k, k < 8 → gp_R t 4 k = some 25) → (gp_R t 51 6 = some 55) → (gp_R t 51 7 = some 56) → (gp_us t = 606895) → (gp_sz t = 117) → K (some (gp_i (-1000000001))) t) : gs_C L (d + 1) 2827 3 [gp_r (some 1), gp_i p0, gp_i p1] s K := by
  refine s_2827_e _ _ ?_
  refine zx2856_2 _ hs (by omega) (by omega) (by omega) (by omega) (by omega) (by omega) (by omega) q7 q8 q9 q10 q11 q12 q13 (⟨_, rfl, ?_⟩)
  refine ⟨fun h_1 => ?_, fun h_1 => ?_⟩
  · refine zx2856_1 _ hs (by omega) (by omega) (by omega) (by omega) (by omega) (by omega) (by omega) q7 q8 q9 q10 q11 q12 q13 (⟨_, rfl, ?_⟩)
    refine ⟨fun h_2 => ?_, fun h_2 => ?_⟩
    · exfalso; omega
    · refine s_2827_14 _ _ ?_
      refine zx2855_1 hs (by omega) (by omega) (by omega) (by omega) (by omega) (by omega) (by omega) q7 q8 q9 q10 q11 q12 q13 q14 q15 (fun s_3 hs_4 q_5 q_6 q_7 q_8 q_9 q_10 q_11 q_12 q_13 q_14 q_15 q_16 q_17 q_18 q_19 q_20 q_21 => ⟨_, rfl, ?_⟩)
      exact k s_3 hs_4 (by omega) (by omega) (by omega) (by omega) (by omega) (by omega) (by omega) (by omega) q_13 q_14 q_15 q_16 q_17 q_18 q_19 q_20 q_21
  · exfalso; omega
set_option maxRecDepth 100000 in
/-- java/lang/Integer.compare [(0, 0), (0, 0)] -/
theorem zx3328_0 {z : gH} {L d : Nat} {K : Option gV → gH → Prop} {s : gH}  (hs : xM z s)  (q0 : gp_R s 25 6 = none) (q1 : gp_R s 25 7 = none) (q2 : gp_R s 25 8 = none) (q3 : gp_R s 25 9 = none) (k : K (some (gp_i 0)) s) : gs_C L d 3328 2 [gp_i 0, gp_i 0] s K := by
  refine s_3328_e _ _ ?_
  refine ⟨fun h_1 => ?_, fun h_1 => ?_⟩
  · exfalso; omega
  · refine ⟨fun h_2 => ?_, fun h_2 => ?_⟩
    · refine s_3328_19 _ _ _ ?_
      exact k
    · exfalso; omega
set_option maxRecDepth 100000 in
/-- Maker.sideWay [25, (0, 0), 25, (0, 0), (0, 0)] -/
theorem zx266_0 {z : gH} {L d : Nat} {K : Option gV → gH → Prop} {s : gH}  (hs : xM z s)  (q0 : gp_I s 1 2 = 0) (q1 : gp_I s 1 6 = 0) (q2 : gp_I s 1 7 = 1) (q3 : gp_I s 51 8 = 0) (q4 : gp_I s 57 1 = 0) (q5 : gp_I s 57 3 = 0) (q6 : gp_I s 6 4 = 0) (q7 : gp_R s 25 6 = none) (q8 : gp_R s 25 7 = none) (q9 : gp_R s 25 8 = none) (q10 : gp_R s 25 9 = none) (q11 : ∀ k, k < 8 → gp_R s 4 k = some 25) (q12 : gp_R s 51 6 = some 55) (q13 : gp_R s 51 7 = some 56) (k : K (some (gp_i 0)) s) : gs_C L (d + 1) 266 11 [gp_r (some 20), gp_r (some 25), gp_i 0, gp_r (some 25), gp_i 0, gp_i 0] s K := by
  refine s_266_e _ _ _ _ _ ?_
  refine ⟨25, rfl, ?_⟩
  refine ⟨rfl, ?_⟩
  refine zx2307_0 hs q7 q8 q9 q10 (⟨_, rfl, ?_⟩)
  refine ⟨25, rfl, ?_⟩
  refine ⟨rfl, ?_⟩
  refine zx2307_0 hs q7 q8 q9 q10 (⟨_, rfl, ?_⟩)
  have e_1 : gp_cmp (0#64) (0#64) = 0 := by decide
  try rw [e_1]
  refine ⟨fun h_2 => ?_, fun h_2 => ?_⟩
  · have e_3 : gp_cmp (0#64) (0#64) = 0 := by decide
    try rw [e_3]
    refine ⟨fun h_4 => ?_, fun h_4 => ?_⟩
    · refine ⟨rfl, ?_⟩
      refine zx2308_0 hs q7 q8 q9 q10 (⟨_, rfl, ?_⟩)
      refine ⟨rfl, ?_⟩
      refine zx2308_0 hs q7 q8 q9 q10 (⟨_, rfl, ?_⟩)
      refine zx3328_0 hs q7 q8 q9 q10 (⟨_, rfl, ?_⟩)
      exact k
    · exfalso; omega
  · exfalso; omega
set_option maxRecDepth 100000 in
/-- Maker.sideWay [25, (0, 0), 25, (0, 0), (1, 1)] -/
theorem zx266_1 {z : gH} {L d : Nat} {K : Option gV → gH → Prop} {s : gH}  (hs : xM z s)  (q0 : gp_I s 1 2 = 0) (q1 : gp_I s 1 6 = 0) (q2 : gp_I s 1 7 = 1) (q3 : gp_I s 51 8 = 0) (q4 : gp_I s 57 1 = 0) (q5 : gp_I s 57 3 = 0) (q6 : gp_I s 6 4 = 0) (q7 : gp_R s 25 6 = none) (q8 : gp_R s 25 7 = none) (q9 : gp_R s 25 8 = none) (q10 : gp_R s 25 9 = none) (q11 : ∀ k, k < 8 → gp_R s 4 k = some 25) (q12 : gp_R s 51 6 = some 55) (q13 : gp_R s 51 7 = some 56) (k : K (some (gp_i 0)) s) : gs_C L (d + 1) 266 11 [gp_r (some 20), gp_r (some 25), gp_i 0, gp_r (some 25), gp_i 0, gp_i 1] s K := by
  refine s_266_e _ _ _ _ _ ?_
  refine ⟨25, rfl, ?_⟩
  refine ⟨rfl, ?_⟩
  refine zx2307_1 hs q7 q8 q9 q10 (⟨_, rfl, ?_⟩)
  refine ⟨25, rfl, ?_⟩
  refine ⟨rfl, ?_⟩
  refine zx2307_1 hs q7 q8 q9 q10 (⟨_, rfl, ?_⟩)
  have e_1 : gp_cmp (0#64) (0#64) = 0 := by decide
  try rw [e_1]
  refine ⟨fun h_2 => ?_, fun h_2 => ?_⟩
  · have e_3 : gp_cmp (0#64) (0#64) = 0 := by decide
    try rw [e_3]
    refine ⟨fun h_4 => ?_, fun h_4 => ?_⟩
    · refine ⟨rfl, ?_⟩
      refine zx2308_1 hs q7 q8 q9 q10 (⟨_, rfl, ?_⟩)
      refine ⟨rfl, ?_⟩
      refine zx2308_1 hs q7 q8 q9 q10 (⟨_, rfl, ?_⟩)
      refine zx3328_0 hs q7 q8 q9 q10 (⟨_, rfl, ?_⟩)
      exact k
    · exfalso; omega
  · exfalso; omega
set_option maxRecDepth 100000 in
/-- Maker.nodeWay [25, (0, 0), 25, (0, 0)] -/
theorem zx265_0 {z : gH} {L d : Nat} {K : Option gV → gH → Prop} {s : gH}  (hs : xM z s)  (q0 : gp_I s 1 2 = 0) (q1 : gp_I s 1 6 = 0) (q2 : gp_I s 1 7 = 1) (q3 : gp_I s 51 8 = 0) (q4 : gp_I s 57 1 = 0) (q5 : gp_I s 57 3 = 0) (q6 : gp_I s 6 4 = 0) (q7 : gp_R s 25 6 = none) (q8 : gp_R s 25 7 = none) (q9 : gp_R s 25 8 = none) (q10 : gp_R s 25 9 = none) (q11 : ∀ k, k < 8 → gp_R s 4 k = some 25) (q12 : gp_R s 51 6 = some 55) (q13 : gp_R s 51 7 = some 56) (k : K (some (gp_i 0)) s) : gs_C L (d + 2) 265 6 [gp_r (some 20), gp_r (some 25), gp_i 0, gp_r (some 25), gp_i 0] s K := by
  refine s_265_e _ _ _ _ ?_
  refine ⟨25, rfl, ?_⟩
  refine ⟨rfl, ?_⟩
  try rw [show gp_R (gp_mk L s) 25 5 = some 30 from rfl]
  refine ⟨30, rfl, ?_⟩
  refine ⟨⟨rfl, by show 0 ≤ 0 ∧ 0 < 1; omega⟩, ?_⟩
  have f_1 := xr30 hs ((0 : Int).toNat)
  have e_2 : gp_I s 30 (0 : Int).toNat = 0 := by omega
  try rw [e_2]
  refine ⟨25, rfl, ?_⟩
  refine ⟨rfl, ?_⟩
  try rw [show gp_R (gp_mk L s) 25 5 = some 30 from rfl]
  refine ⟨30, rfl, ?_⟩
  refine ⟨⟨rfl, by show 0 ≤ 0 ∧ 0 < 1; omega⟩, ?_⟩
  have f_3 := xr30 hs ((0 : Int).toNat)
  have e_4 : gp_I s 30 (0 : Int).toNat = 0 := by omega
  try rw [e_4]
  refine ⟨fun h_5 => ?_, fun h_5 => ?_⟩
  · refine zx266_0 hs (by omega) (by omega) (by omega) (by omega) (by omega) (by omega) (by omega) q7 q8 q9 q10 q11 q12 q13 (⟨_, rfl, ?_⟩)
    refine ⟨fun h_6 => ?_, fun h_6 => ?_⟩
    · refine zx266_1 hs (by omega) (by omega) (by omega) (by omega) (by omega) (by omega) (by omega) q7 q8 q9 q10 q11 q12 q13 (⟨_, rfl, ?_⟩)
      refine s_265_70 _ _ _ _ _ _ ?_
      exact k
    · exfalso; omega
  · exfalso; omega
set_option maxRecDepth 100000 in
/-- Maker.wayOf [25, 25] -/
theorem zx264_0 {z : gH} {L d : Nat} {K : Option gV → gH → Prop} {s : gH}  (hs : xM z s)  (q0 : gp_I s 1 2 = 0) (q1 : gp_I s 1 6 = 0) (q2 : gp_I s 1 7 = 1) (q3 : gp_I s 51 8 = 0) (q4 : gp_I s 57 1 = 0) (q5 : gp_I s 57 3 = 0) (q6 : gp_I s 6 4 = 0) (q7 : gp_R s 25 6 = none) (q8 : gp_R s 25 7 = none) (q9 : gp_R s 25 8 = none) (q10 : gp_R s 25 9 = none) (q11 : ∀ k, k < 8 → gp_R s 4 k = some 25) (q12 : gp_R s 51 6 = some 55) (q13 : gp_R s 51 7 = some 56) (q14 : gp_us s = 606895) (q15 : gp_sz s = 117) (k : ∀ (t : gH), xM z t → (gp_I t 1 2 = 0) → (gp_I t 1 6 = 0) → (gp_I t 1 7 = 1) → (gp_I t 51 8 = 0) → (gp_I t 57 1 = 0) → (gp_I t 57 3 = 0) → (gp_I t 6 4 = 0) → (gp_R t 25 6 = none) → (gp_R t 25 7 = none) → (gp_R t 25 8 = none) → (gp_R t 25 9 = none) → (∀ k, k < 8 → gp_R t 4 k = some 25) → (gp_R t 51 6 = some 55) → (gp_R t 51 7 = some 56) → (gp_us t = 606895) → (gp_sz t = 117) → K (some (gp_i 0)) t) : gs_C L (d + 3) 264 7 [gp_r (some 20), gp_r (some 25), gp_r (some 25)] s K := by
  refine s_264_e _ _ ?_
  refine s_264_8 _ _ _ _ _ _ ?_
  refine ⟨25, rfl, ?_⟩
  refine ⟨rfl, ?_⟩
  have f_3 := xr25_0 hs 0
  have e_4 : gp_I s 25 0 = 1 := by omega
  try rw [e_4]
  refine ⟨fun h_5 => ?_, fun h_5 => ?_⟩
  · refine ⟨25, rfl, ?_⟩
    refine ⟨rfl, ?_⟩
    have f_6 := xr25_0 hs 0
    have e_7 : gp_I s 25 0 = 1 := by omega
    try rw [e_7]
    refine ⟨fun h_8 => ?_, fun h_8 => ?_⟩
    · refine zx265_0 hs (by omega) (by omega) (by omega) (by omega) (by omega) (by omega) (by omega) q7 q8 q9 q10 q11 q12 q13 (⟨_, rfl, ?_⟩)
      refine ⟨fun h_9 => ?_, fun h_9 => ?_⟩
      · exfalso; omega
      · refine ⟨by omega, ?_⟩
        intro s_10 e_11
        have hs_12 : xM z s_10 := by rw [e_11]; exact xw23 hs _ _ (by omega)
        have q_13 : gp_I s_10 1 2 = 0 := by rw [e_11]; exact q0
        have q_14 : gp_I s_10 1 6 = 0 := by rw [e_11]; exact q1
        have q_15 : gp_I s_10 1 7 = 1 := by rw [e_11]; exact q2
        have q_16 : gp_I s_10 51 8 = 0 := by rw [e_11]; exact q3
        have q_17 : gp_I s_10 57 1 = 0 := by rw [e_11]; exact q4
        have q_18 : gp_I s_10 57 3 = 0 := by rw [e_11]; exact q5
        have q_19 : gp_I s_10 6 4 = 0 := by rw [e_11]; exact q6
        have q_20 : gp_R s_10 25 6 = none := by rw [e_11]; exact q7
        have q_21 : gp_R s_10 25 7 = none := by rw [e_11]; exact q8
        have q_22 : gp_R s_10 25 8 = none := by rw [e_11]; exact q9
        have q_23 : gp_R s_10 25 9 = none := by rw [e_11]; exact q10
        have q_24 : ∀ k, k < 8 → gp_R s_10 4 k = some 25 := by rw [e_11]; exact q11
        have q_25 : gp_R s_10 51 6 = some 55 := by rw [e_11]; exact q12
        have q_26 : gp_R s_10 51 7 = some 56 := by rw [e_11]; exact q13
        have q_27 : gp_us s_10 = 606895 := by rw [e_11]; exact q14
        have q_28 : gp_sz s_10 = 117 := by rw [e_11]; exact q15
        have w_29 := gz_w (0 + 1)
        have e_30 : gp_wr (0 + 1) = 1 := by omega
        try rw [e_30]
        refine s_264_52 _ _ _ _ _ _ ?_
        refine ⟨fun h_33 => ?_, fun h_33 => ?_⟩
        · exfalso; omega
        · refine ⟨by omega, ?_⟩
          intro s_34 e_35
          have hs_36 : xM z s_34 := by rw [e_35]; exact xw24 hs_12 _ _ (by omega)
          have q_37 : gp_I s_34 1 2 = 0 := by rw [e_35]; exact q_13
          have q_38 : gp_I s_34 1 6 = 0 := by rw [e_35]; exact q_14
          have q_39 : gp_I s_34 1 7 = 1 := by rw [e_35]; exact q_15
          have q_40 : gp_I s_34 51 8 = 0 := by rw [e_35]; exact q_16
          have q_41 : gp_I s_34 57 1 = 0 := by rw [e_35]; exact q_17
          have q_42 : gp_I s_34 57 3 = 0 := by rw [e_35]; exact q_18
          have q_43 : gp_I s_34 6 4 = 0 := by rw [e_35]; exact q_19
          have q_44 : gp_R s_34 25 6 = none := by rw [e_35]; exact q_20
          have q_45 : gp_R s_34 25 7 = none := by rw [e_35]; exact q_21
          have q_46 : gp_R s_34 25 8 = none := by rw [e_35]; exact q_22
          have q_47 : gp_R s_34 25 9 = none := by rw [e_35]; exact q_23
          have q_48 : ∀ k, k < 8 → gp_R s_34 4 k = some 25 := by rw [e_35]; exact q_24
          have q_49 : gp_R s_34 51 6 = some 55 := by rw [e_35]; exact q_25
          have q_50 : gp_R s_34 51 7 = some 56 := by rw [e_35]; exact q_26
          have q_51 : gp_us s_34 = 606895 := by rw [e_35]; exact q_27
          have q_52 : gp_sz s_34 = 117 := by rw [e_35]; exact q_28
          have w_53 := gz_w (0 + 1)
          have e_54 : gp_wr (0 + 1) = 1 := by omega
          try rw [e_54]
          refine s_264_69 _ _ _ _ _ _ ?_
          have w_57 := gz_w (0 + 1)
          have e_58 : gp_wr (0 + 1) = 1 := by omega
          try rw [e_58]
          refine ⟨fun h_59 => ?_, fun h_59 => ?_⟩
          · refine ⟨25, rfl, ?_⟩
            refine ⟨rfl, ?_⟩
            have f_60 := xr25_0 hs_36 0
            have e_61 : gp_I s_34 25 0 = 1 := by omega
            try rw [e_61]
            refine ⟨fun h_62 => ?_, fun h_62 => ?_⟩
            · refine ⟨25, rfl, ?_⟩
              refine ⟨rfl, ?_⟩
              have f_63 := xr25_0 hs_36 0
              have e_64 : gp_I s_34 25 0 = 1 := by omega
              try rw [e_64]
              refine ⟨fun h_65 => ?_, fun h_65 => ?_⟩
              · exact k s_34 hs_36 (by omega) (by omega) (by omega) (by omega) (by omega) (by omega) (by omega) q_44 q_45 q_46 q_47 q_48 q_49 q_50 q_51 q_52
              · exfalso; omega
            · exfalso; omega
          · exfalso; omega
    · exfalso; omega
  · exfalso; omega
set_option maxRecDepth 100000 in
/-- GatheredPoints.order [(0, 7), (0, 7)] -/
theorem zx2827_4 {z : gH} {L d : Nat} {K : Option gV → gH → Prop} {s : gH} (p0 : Int) (p1 : Int) (hs : xM z s) (h_p0 : 0 ≤ p0 ∧ p0 ≤ 7) (h_p1 : 0 ≤ p1 ∧ p1 ≤ 7) (q0 : gp_I s 1 2 = 0) (q1 : gp_I s 1 6 = 0) (q2 : gp_I s 1 7 = 1) (q3 : gp_I s 51 8 = 0) (q4 : gp_I s 57 1 = 0) (q5 : gp_I s 57 3 = 0) (q6 : gp_I s 6 4 = 0) (q7 : gp_R s 25 6 = none) (q8 : gp_R s 25 7 = none) (q9 : gp_R s 25 8 = none) (q10 : gp_R s 25 9 = none) (q11 : ∀ k, k < 8 → gp_R s 4 k = some 25) (q12 : gp_R s 51 6 = some 55) (q13 : gp_R s 51 7 = some 56) (q14 : gp_us s = 606895) (q15 : gp_sz s = 117) (k : ∀ (t : gH), xM z t → (gp_I t 1 2 = 0) → (gp_I t 1 6 = 0) → (gp_I t 1 7 = 1) → (gp_I t 51 8 = 0) → (gp_I t 57 1 = 0) → (gp_I t 57 3 = 0) → (gp_I t 6 4 = 0) → (gp_R t 25 6 = none) → (gp_R t 25 7 = none) → (gp_R t 25 8 = none) → (gp_R t 25 9 = none) → (∀ k, k < 8 → gp_R t 4 k = some 25) → (gp_R t 51 6 = some 55) → (gp_R t 51 7 = some 56) → (gp_us t = 606895) → (gp_sz t = 117) → K (some (gp_i 0)) t) : gs_C L (d + 4) 2827 3 [gp_r (some 1), gp_i p0, gp_i p1] s K := by
  refine s_2827_e _ _ ?_
  refine zx2856_2 _ hs (by omega) (by omega) (by omega) (by omega) (by omega) (by omega) (by omega) q7 q8 q9 q10 q11 q12 q13 (⟨_, rfl, ?_⟩)
  refine ⟨fun h_1 => ?_, fun h_1 => ?_⟩
  · refine zx2856_2 _ hs (by omega) (by omega) (by omega) (by omega) (by omega) (by omega) (by omega) q7 q8 q9 q10 q11 q12 q13 (⟨_, rfl, ?_⟩)
    refine ⟨fun h_2 => ?_, fun h_2 => ?_⟩
    · refine ⟨by omega, ?_⟩
      try rw [show gp_R (gp_mk L s) 4 p0.toNat = some 25 from (q11 _ (by omega))]
      refine ⟨by omega, ?_⟩
      try rw [show gp_R (gp_mk L s) 4 p1.toNat = some 25 from (q11 _ (by omega))]
      refine zx264_0 hs (by omega) (by omega) (by omega) (by omega) (by omega) (by omega) (by omega) q7 q8 q9 q10 q11 q12 q13 q14 q15 (fun s_3 hs_4 q_5 q_6 q_7 q_8 q_9 q_10 q_11 q_12 q_13 q_14 q_15 q_16 q_17 q_18 q_19 q_20 => ⟨_, rfl, ?_⟩)
      exact k s_3 hs_4 (by omega) (by omega) (by omega) (by omega) (by omega) (by omega) (by omega) q_12 q_13 q_14 q_15 q_16 q_17 q_18 q_19 q_20
    · exfalso; omega
  · exfalso; omega
set_option maxRecDepth 100000 in
/-- GatheredPoints.refused [(1, 1)] -/
theorem zx2855_4 {z : gH} {L d : Nat} {K : Option gV → gH → Prop} {s : gH}  (hs : xM z s)  (q0 : gp_I s 1 2 = 0) (q1 : gp_I s 1 6 = 0) (q2 : gp_I s 1 7 = 1) (q3 : gp_I s 51 8 = 0) (q4 : gp_I s 57 1 = 0) (q5 : gp_I s 57 3 = 0) (q6 : gp_R s 25 6 = none) (q7 : gp_R s 25 7 = none) (q8 : gp_R s 25 8 = none) (q9 : gp_R s 25 9 = none) (q10 : ∀ k, k < 8 → gp_R s 4 k = some 25) (q11 : gp_R s 51 6 = some 55) (q12 : gp_R s 51 7 = some 56) (q13 : gp_us s = 606895) (q14 : gp_sz s = 117) (k : ∀ (t : gH), xM z t → (gp_I t 1 2 = 0) → (gp_I t 1 6 = 0) → (gp_I t 1 7 = 1) → ((-2147483648) ≤ gp_I t 2 1 ∧ gp_I t 2 1 ≤ 2147483647) → (gp_I t 51 8 = 0) → (gp_I t 57 1 = 0) → (gp_I t 57 3 = 0) → (gp_R t 25 6 = none) → (gp_R t 25 7 = none) → (gp_R t 25 8 = none) → (gp_R t 25 9 = none) → (∀ k, k < 8 → gp_R t 4 k = some 25) → (gp_R t 51 6 = some 55) → (gp_R t 51 7 = some 56) → (gp_us t = 606895) → (gp_sz t = 117) → K (some (gp_i (-1000000001))) t) : gs_C L d 2855 2 [gp_r (some 1), gp_i 1] s K := by
  refine s_2855_e _ ?_
  refine ⟨by omega, ?_⟩
  have w_1 := gz_w ((gp_I s 2 (1 : Int).toNat) + 1)
  refine ⟨by omega, ?_⟩
  intro s_2 e_3
  have hs_4 : xM z s_2 := by rw [e_3]; exact xw2 hs _ _
  have q_5 : gp_I s_2 1 2 = 0 := by rw [e_3]; exact q0
  have q_6 : gp_I s_2 1 6 = 0 := by rw [e_3]; exact q1
  have q_7 : gp_I s_2 1 7 = 1 := by rw [e_3]; exact q2
  have q_8 : gp_I s_2 51 8 = 0 := by rw [e_3]; exact q3
  have q_9 : gp_I s_2 57 1 = 0 := by rw [e_3]; exact q4
  have q_10 : gp_I s_2 57 3 = 0 := by rw [e_3]; exact q5
  have q_11 : gp_R s_2 25 6 = none := by rw [e_3]; exact q6
  have q_12 : gp_R s_2 25 7 = none := by rw [e_3]; exact q7
  have q_13 : gp_R s_2 25 8 = none := by rw [e_3]; exact q8
  have q_14 : gp_R s_2 25 9 = none := by rw [e_3]; exact q9
  have q_15 : ∀ k, k < 8 → gp_R s_2 4 k = some 25 := by rw [e_3]; exact q10
  have q_16 : gp_R s_2 51 6 = some 55 := by rw [e_3]; exact q11
  have q_17 : gp_R s_2 51 7 = some 56 := by rw [e_3]; exact q12
  have q_18 : gp_us s_2 = 606895 := by rw [e_3]; exact q13
  have q_19 : gp_sz s_2 = 117 := by rw [e_3]; exact q14
  have q_20 : (-2147483648) ≤ gp_I s_2 2 1 ∧ gp_I s_2 2 1 ≤ 2147483647 := by have x_21 : gp_I s_2 2 1 = gp_wr ((gp_I s 2 (1 : Int).toNat) + 1) := (by rw [e_3]; rfl); omega
  have w_22 := gz_w ((-1000000000) - 1)
  have e_23 : gp_wr ((-1000000000) - 1) = (-1000000001) := by omega
  try rw [e_23]
  exact k s_2 hs_4 (by omega) (by omega) (by omega) (by omega) (by omega) (by omega) (by omega) q_11 q_12 q_13 q_14 q_15 q_16 q_17 q_18 q_19
set_option maxRecDepth 100000 in
/-- GatheredPoints.compare [(-2147483648, -1), (-2147483648, 2147483647)] -/
theorem zx2828_0 {z : gH} {L d : Nat} {K : Option gV → gH → Prop} {s : gH} (p0 : Int) (p1 : Int) (hs : xM z s) (h_p0 : (-2147483648) ≤ p0 ∧ p0 ≤ (-1)) (h_p1 : (-2147483648) ≤ p1 ∧ p1 ≤ 2147483647) (q0 : gp_I s 1 2 = 0) (q1 : gp_I s 1 6 = 0) (q2 : gp_I s 1 7 = 1) (q3 : gp_I s 51 8 = 0) (q4 : gp_I s 57 1 = 0) (q5 : gp_I s 57 3 = 0) (q6 : gp_R s 25 6 = none) (q7 : gp_R s 25 7 = none) (q8 : gp_R s 25 8 = none) (q9 : gp_R s 25 9 = none) (q10 : ∀ k, k < 8 → gp_R s 4 k = some 25) (q11 : gp_R s 51 6 = some 55) (q12 : gp_R s 51 7 = some 56) (q13 : gp_us s = 606895) (q14 : gp_sz s = 117) (k : ∀ (t : gH), xM z t → (gp_I t 1 2 = 0) → (gp_I t 1 6 = 0) → (gp_I t 1 7 = 1) → ((-2147483648) ≤ gp_I t 2 1 ∧ gp_I t 2 1 ≤ 2147483647) → (gp_I t 51 8 = 0) → (gp_I t 57 1 = 0) → (gp_I t 57 3 = 0) → (gp_R t 25 6 = none) → (gp_R t 25 7 = none) → (gp_R t 25 8 = none) → (gp_R t 25 9 = none) → (∀ k, k < 8 → gp_R t 4 k = some 25) → (gp_R t 51 6 = some 55) → (gp_R t 51 7 = some 56) → (gp_us t = 606895) → (gp_sz t = 117) → K (some (gp_i (-1000000001))) t) : gs_C L (d + 1) 2828 4 [gp_r (some 1), gp_i p0, gp_i p1] s K := by
  refine s_2828_e _ _ ?_
  refine zx2856_0 _ hs (by omega) (by omega) (by omega) (by omega) (by omega) (by omega) (by omega) q6 q7 q8 q9 q10 q11 q12 (⟨_, rfl, ?_⟩)
  refine ⟨fun h_1 => ?_, fun h_1 => ?_⟩
  · exfalso; omega
  · refine s_2828_14 _ _ _ ?_
    refine zx2855_4 hs (by omega) (by omega) (by omega) (by omega) (by omega) (by omega) q6 q7 q8 q9 q10 q11 q12 q13 q14 (fun s_2 hs_3 q_4 q_5 q_6 q_7 q_8 q_9 q_10 q_11 q_12 q_13 q_14 q_15 q_16 q_17 q_18 q_19 => ⟨_, rfl, ?_⟩)
    exact k s_2 hs_3 (by omega) (by omega) (by omega) (by omega) (by omega) (by omega) (by omega) q_11 q_12 q_13 q_14 q_15 q_16 q_17 q_18 q_19
set_option maxRecDepth 100000 in
/-- GatheredPoints.compare [(8, 2147483647), (-2147483648, 2147483647)] -/
theorem zx2828_1 {z : gH} {L d : Nat} {K : Option gV → gH → Prop} {s : gH} (p0 : Int) (p1 : Int) (hs : xM z s) (h_p0 : 8 ≤ p0 ∧ p0 ≤ 2147483647) (h_p1 : (-2147483648) ≤ p1 ∧ p1 ≤ 2147483647) (q0 : gp_I s 1 2 = 0) (q1 : gp_I s 1 6 = 0) (q2 : gp_I s 1 7 = 1) (q3 : gp_I s 51 8 = 0) (q4 : gp_I s 57 1 = 0) (q5 : gp_I s 57 3 = 0) (q6 : gp_R s 25 6 = none) (q7 : gp_R s 25 7 = none) (q8 : gp_R s 25 8 = none) (q9 : gp_R s 25 9 = none) (q10 : ∀ k, k < 8 → gp_R s 4 k = some 25) (q11 : gp_R s 51 6 = some 55) (q12 : gp_R s 51 7 = some 56) (q13 : gp_us s = 606895) (q14 : gp_sz s = 117) (k : ∀ (t : gH), xM z t → (gp_I t 1 2 = 0) → (gp_I t 1 6 = 0) → (gp_I t 1 7 = 1) → ((-2147483648) ≤ gp_I t 2 1 ∧ gp_I t 2 1 ≤ 2147483647) → (gp_I t 51 8 = 0) → (gp_I t 57 1 = 0) → (gp_I t 57 3 = 0) → (gp_R t 25 6 = none) → (gp_R t 25 7 = none) → (gp_R t 25 8 = none) → (gp_R t 25 9 = none) → (∀ k, k < 8 → gp_R t 4 k = some 25) → (gp_R t 51 6 = some 55) → (gp_R t 51 7 = some 56) → (gp_us t = 606895) → (gp_sz t = 117) → K (some (gp_i (-1000000001))) t) : gs_C L (d + 1) 2828 4 [gp_r (some 1), gp_i p0, gp_i p1] s K := by
  refine s_2828_e _ _ ?_
  refine zx2856_1 _ hs (by omega) (by omega) (by omega) (by omega) (by omega) (by omega) (by omega) q6 q7 q8 q9 q10 q11 q12 (⟨_, rfl, ?_⟩)
  refine ⟨fun h_1 => ?_, fun h_1 => ?_⟩
  · exfalso; omega
  · refine s_2828_14 _ _ _ ?_
    refine zx2855_4 hs (by omega) (by omega) (by omega) (by omega) (by omega) (by omega) q6 q7 q8 q9 q10 q11 q12 q13 q14 (fun s_2 hs_3 q_4 q_5 q_6 q_7 q_8 q_9 q_10 q_11 q_12 q_13 q_14 q_15 q_16 q_17 q_18 q_19 => ⟨_, rfl, ?_⟩)
    exact k s_2 hs_3 (by omega) (by omega) (by omega) (by omega) (by omega) (by omega) (by omega) q_11 q_12 q_13 q_14 q_15 q_16 q_17 q_18 q_19
set_option maxRecDepth 100000 in
/-- GatheredPoints.compare [(0, 7), (-2147483648, -1)] -/
theorem zx2828_2 {z : gH} {L d : Nat} {K : Option gV → gH → Prop} {s : gH} (p0 : Int) (p1 : Int) (hs : xM z s) (h_p0 : 0 ≤ p0 ∧ p0 ≤ 7) (h_p1 : (-2147483648) ≤ p1 ∧ p1 ≤ (-1)) (q0 : gp_I s 1 2 = 0) (q1 : gp_I s 1 6 = 0) (q2 : gp_I s 1 7 = 1) (q3 : gp_I s 51 8 = 0) (q4 : gp_I s 57 1 = 0) (q5 : gp_I s 57 3 = 0) (q6 : gp_R s 25 6 = none) (q7 : gp_R s 25 7 = none) (q8 : gp_R s 25 8 = none) (q9 : gp_R s 25 9 = none) (q10 : ∀ k, k < 8 → gp_R s 4 k = some 25) (q11 : gp_R s 51 6 = some 55) (q12 : gp_R s 51 7 = some 56) (q13 : gp_us s = 606895) (q14 : gp_sz s = 117) (k : ∀ (t : gH), xM z t → (gp_I t 1 2 = 0) → (gp_I t 1 6 = 0) → (gp_I t 1 7 = 1) → ((-2147483648) ≤ gp_I t 2 1 ∧ gp_I t 2 1 ≤ 2147483647) → (gp_I t 51 8 = 0) → (gp_I t 57 1 = 0) → (gp_I t 57 3 = 0) → (gp_R t 25 6 = none) → (gp_R t 25 7 = none) → (gp_R t 25 8 = none) → (gp_R t 25 9 = none) → (∀ k, k < 8 → gp_R t 4 k = some 25) → (gp_R t 51 6 = some 55) → (gp_R t 51 7 = some 56) → (gp_us t = 606895) → (gp_sz t = 117) → K (some (gp_i (-1000000001))) t) : gs_C L (d + 1) 2828 4 [gp_r (some 1), gp_i p0, gp_i p1] s K := by
  refine s_2828_e _ _ ?_
  refine zx2856_2 _ hs (by omega) (by omega) (by omega) (by omega) (by omega) (by omega) (by omega) q6 q7 q8 q9 q10 q11 q12 (⟨_, rfl, ?_⟩)
  refine ⟨fun h_1 => ?_, fun h_1 => ?_⟩
  · refine zx2856_0 _ hs (by omega) (by omega) (by omega) (by omega) (by omega) (by omega) (by omega) q6 q7 q8 q9 q10 q11 q12 (⟨_, rfl, ?_⟩)
    refine ⟨fun h_2 => ?_, fun h_2 => ?_⟩
    · exfalso; omega
    · refine s_2828_14 _ _ _ ?_
      refine zx2855_4 hs (by omega) (by omega) (by omega) (by omega) (by omega) (by omega) q6 q7 q8 q9 q10 q11 q12 q13 q14 (fun s_3 hs_4 q_5 q_6 q_7 q_8 q_9 q_10 q_11 q_12 q_13 q_14 q_15 q_16 q_17 q_18 q_19 q_20 => ⟨_, rfl, ?_⟩)
      exact k s_3 hs_4 (by omega) (by omega) (by omega) (by omega) (by omega) (by omega) (by omega) q_12 q_13 q_14 q_15 q_16 q_17 q_18 q_19 q_20
  · exfalso; omega
set_option maxRecDepth 100000 in
/-- GatheredPoints.compare [(0, 7), (8, 2147483647)] -/
theorem zx2828_3 {z : gH} {L d : Nat} {K : Option gV → gH → Prop} {s : gH} (p0 : Int) (p1 : Int) (hs : xM z s) (h_p0 : 0 ≤ p0 ∧ p0 ≤ 7) (h_p1 : 8 ≤ p1 ∧ p1 ≤ 2147483647) (q0 : gp_I s 1 2 = 0) (q1 : gp_I s 1 6 = 0) (q2 : gp_I s 1 7 = 1) (q3 : gp_I s 51 8 = 0) (q4 : gp_I s 57 1 = 0) (q5 : gp_I s 57 3 = 0) (q6 : gp_R s 25 6 = none) (q7 : gp_R s 25 7 = none) (q8 : gp_R s 25 8 = none) (q9 : gp_R s 25 9 = none) (q10 : ∀ k, k < 8 → gp_R s 4 k = some 25) (q11 : gp_R s 51 6 = some 55) (q12 : gp_R s 51 7 = some 56) (q13 : gp_us s = 606895) (q14 : gp_sz s = 117) (k : ∀ (t : gH), xM z t → (gp_I t 1 2 = 0) → (gp_I t 1 6 = 0) → (gp_I t 1 7 = 1) → ((-2147483648) ≤ gp_I t 2 1 ∧ gp_I t 2 1 ≤ 2147483647) → (gp_I t 51 8 = 0) → (gp_I t 57 1 = 0) → (gp_I t 57 3 = 0) → (gp_R t 25 6 = none) → (gp_R t 25 7 = none) → (gp_R t 25 8 = none) → (gp_R t 25 9 = none) → (∀ k, k < 8 → gp_R t 4 k = some 25) → (gp_R t 51 6 = some 55) → (gp_R t 51 7 = some 56) → (gp_us t = 606895) → (gp_sz t = 117) → K (some (gp_i (-1000000001))) t) : gs_C L (d + 1) 2828 4 [gp_r (some 1), gp_i p0, gp_i p1] s K := by
  refine s_2828_e _ _ ?_
  refine zx2856_2 _ hs (by omega) (by omega) (by omega) (by omega) (by omega) (by omega) (by omega) q6 q7 q8 q9 q10 q11 q12 (⟨_, rfl, ?_⟩)
  refine ⟨fun h_1 => ?_, fun h_1 => ?_⟩
  · refine zx2856_1 _ hs (by omega) (by omega) (by omega) (by omega) (by omega) (by omega) (by omega) q6 q7 q8 q9 q10 q11 q12 (⟨_, rfl, ?_⟩)
    refine ⟨fun h_2 => ?_, fun h_2 => ?_⟩
    · exfalso; omega
    · refine s_2828_14 _ _ _ ?_
      refine zx2855_4 hs (by omega) (by omega) (by omega) (by omega) (by omega) (by omega) q6 q7 q8 q9 q10 q11 q12 q13 q14 (fun s_3 hs_4 q_5 q_6 q_7 q_8 q_9 q_10 q_11 q_12 q_13 q_14 q_15 q_16 q_17 q_18 q_19 q_20 => ⟨_, rfl, ?_⟩)
      exact k s_3 hs_4 (by omega) (by omega) (by omega) (by omega) (by omega) (by omega) (by omega) q_12 q_13 q_14 q_15 q_16 q_17 q_18 q_19 q_20
  · exfalso; omega
set_option maxRecDepth 100000 in
/-- Measures.spread [25, (0, 0)] -/
theorem zx777_1 {z : gH} {L d : Nat} {K : Option gV → gH → Prop} {s : gH}  (hs : xM z s)  (q0 : gp_I s 1 2 = 0) (q1 : gp_I s 1 6 = 0) (q2 : gp_I s 1 7 = 1) (q3 : gp_I s 51 8 = 0) (q4 : gp_I s 57 1 = 0) (q5 : gp_I s 57 3 = 0) (q6 : gp_R s 25 6 = none) (q7 : gp_R s 25 7 = none) (q8 : gp_R s 25 8 = none) (q9 : gp_R s 25 9 = none) (q10 : ∀ k, k < 8 → gp_R s 4 k = some 25) (q11 : gp_R s 51 6 = some 55) (q12 : gp_R s 51 7 = some 56) (q13 : gp_us s = 606895) (q14 : gp_sz s = 117) (k : ∀ (t : gH), xM z t → (gp_I t 1 2 = 0) → (gp_I t 1 6 = 0) → (gp_I t 1 7 = 1) → (gp_I t 51 8 = 0) → (gp_I t 57 1 = 0) → (gp_I t 57 3 = 0) → (gp_R t 25 6 = none) → (gp_R t 25 7 = none) → (gp_R t 25 8 = none) → (gp_R t 25 9 = none) → (∀ k, k < 8 → gp_R t 4 k = some 25) → (gp_R t 51 6 = some 55) → (gp_R t 51 7 = some 56) → (gp_us t = 606895) → (gp_sz t = 117) → K none t) : gs_C L (d + 1) 777 8 [gp_r (some 31), gp_r (some 25), gp_i 0] s K := by
  refine s_777_e _ _ ?_
  refine s_777_10 _ _ _ _ _ _ _ ?_
  refine ⟨fun h_2 => ?_, fun h_2 => ?_⟩
  · refine ⟨25, rfl, ?_⟩
    refine ⟨rfl, ?_⟩
    refine zx2307_0 hs q6 q7 q8 q9 (⟨_, rfl, ?_⟩)
    have e_3 : gp_cmp (0#64) (0#64) = 0 := by decide
    try rw [e_3]
    refine ⟨fun h_4 => ?_, fun h_4 => ?_⟩
    · refine ⟨rfl, ?_⟩
      refine zx2308_0 hs q6 q7 q8 q9 (⟨_, rfl, ?_⟩)
      have w_5 := gz_mi (2147483647) (0)
      have e_6 : gp_mi 2147483647 0 = 0 := by omega
      try rw [e_6]
      refine ⟨rfl, ?_⟩
      refine zx2308_0 hs q6 q7 q8 q9 (⟨_, rfl, ?_⟩)
      have w_7 := gz_mx ((-2147483648)) (0)
      have e_8 : gp_mx (-2147483648) 0 = 0 := by omega
      try rw [e_8]
      refine s_777_54 _ _ _ _ _ _ _ ?_
      have w_10 := gz_w (0 + 1)
      have e_11 : gp_wr (0 + 1) = 1 := by omega
      try rw [e_11]
      refine s_777_10 _ _ _ _ _ _ _ ?_
      refine ⟨fun h_13 => ?_, fun h_13 => ?_⟩
      · refine ⟨25, rfl, ?_⟩
        refine ⟨rfl, ?_⟩
        refine zx2307_1 hs q6 q7 q8 q9 (⟨_, rfl, ?_⟩)
        have e_14 : gp_cmp (0#64) (0#64) = 0 := by decide
        try rw [e_14]
        refine ⟨fun h_15 => ?_, fun h_15 => ?_⟩
        · refine ⟨rfl, ?_⟩
          refine zx2308_1 hs q6 q7 q8 q9 (⟨_, rfl, ?_⟩)
          have w_16 := gz_mi (0) (0)
          have e_17 : gp_mi 0 0 = 0 := by omega
          try rw [e_17]
          refine ⟨rfl, ?_⟩
          refine zx2308_1 hs q6 q7 q8 q9 (⟨_, rfl, ?_⟩)
          have w_18 := gz_mx (0) (0)
          have e_19 : gp_mx 0 0 = 0 := by omega
          try rw [e_19]
          refine s_777_54 _ _ _ _ _ _ _ ?_
          have w_21 := gz_w (1 + 1)
          have e_22 : gp_wr (1 + 1) = 2 := by omega
          try rw [e_22]
          refine s_777_10 _ _ _ _ _ _ _ ?_
          refine ⟨fun h_24 => ?_, fun h_24 => ?_⟩
          · exfalso; omega
          · refine ⟨25, rfl, ?_⟩
            refine ⟨rfl, ?_⟩
            try rw [show gp_R (gp_mk L s) 25 1 = some 26 from rfl]
            refine ⟨26, rfl, ?_⟩
            refine ⟨⟨rfl, by show 0 ≤ 0 ∧ 0 < 1; omega⟩, ?_⟩
            try rw [xr26 hs ((0 : Int).toNat)]
            refine ⟨rfl, ?_⟩
            try rw [show gp_R (gp_mk L s) 25 2 = some 27 from rfl]
            refine ⟨27, rfl, ?_⟩
            refine ⟨⟨rfl, by show 0 ≤ 0 ∧ 0 < 1; omega⟩, ?_⟩
            try rw [xr27 hs ((0 : Int).toNat)]
            have e_25 : (0#64) ||| (0#64) = 0#64 := by decide
            try rw [e_25]
            refine s_777_75 _ _ _ _ _ _ ?_
            have e_27 : gp_cmp (0#64) (0#64) = 0 := by decide
            try rw [e_27]
            refine ⟨fun h_28 => ?_, fun h_28 => ?_⟩
            · refine ⟨by omega, ?_⟩
              intro s_29 e_30
              have hs_31 : xM z s_29 := by rw [e_30]; exact xw36 hs _ _ (by omega)
              have q_32 : gp_I s_29 1 2 = 0 := by rw [e_30]; exact q0
              have q_33 : gp_I s_29 1 6 = 0 := by rw [e_30]; exact q1
              have q_34 : gp_I s_29 1 7 = 1 := by rw [e_30]; exact q2
              have q_35 : gp_I s_29 51 8 = 0 := by rw [e_30]; exact q3
              have q_36 : gp_I s_29 57 1 = 0 := by rw [e_30]; exact q4
              have q_37 : gp_I s_29 57 3 = 0 := by rw [e_30]; exact q5
              have q_38 : gp_R s_29 25 6 = none := by rw [e_30]; exact q6
              have q_39 : gp_R s_29 25 7 = none := by rw [e_30]; exact q7
              have q_40 : gp_R s_29 25 8 = none := by rw [e_30]; exact q8
              have q_41 : gp_R s_29 25 9 = none := by rw [e_30]; exact q9
              have q_42 : ∀ k, k < 8 → gp_R s_29 4 k = some 25 := by rw [e_30]; exact q10
              have q_43 : gp_R s_29 51 6 = some 55 := by rw [e_30]; exact q11
              have q_44 : gp_R s_29 51 7 = some 56 := by rw [e_30]; exact q12
              have q_45 : gp_us s_29 = 606895 := by rw [e_30]; exact q13
              have q_46 : gp_sz s_29 = 117 := by rw [e_30]; exact q14
              refine ⟨by omega, ?_⟩
              intro s_47 e_48
              have hs_49 : xM z s_47 := by rw [e_48]; exact xw37 hs_31 _ _ (by omega)
              have q_50 : gp_I s_47 1 2 = 0 := by rw [e_48]; exact q_32
              have q_51 : gp_I s_47 1 6 = 0 := by rw [e_48]; exact q_33
              have q_52 : gp_I s_47 1 7 = 1 := by rw [e_48]; exact q_34
              have q_53 : gp_I s_47 51 8 = 0 := by rw [e_48]; exact q_35
              have q_54 : gp_I s_47 57 1 = 0 := by rw [e_48]; exact q_36
              have q_55 : gp_I s_47 57 3 = 0 := by rw [e_48]; exact q_37
              have q_56 : gp_R s_47 25 6 = none := by rw [e_48]; exact q_38
              have q_57 : gp_R s_47 25 7 = none := by rw [e_48]; exact q_39
              have q_58 : gp_R s_47 25 8 = none := by rw [e_48]; exact q_40
              have q_59 : gp_R s_47 25 9 = none := by rw [e_48]; exact q_41
              have q_60 : ∀ k, k < 8 → gp_R s_47 4 k = some 25 := by rw [e_48]; exact q_42
              have q_61 : gp_R s_47 51 6 = some 55 := by rw [e_48]; exact q_43
              have q_62 : gp_R s_47 51 7 = some 56 := by rw [e_48]; exact q_44
              have q_63 : gp_us s_47 = 606895 := by rw [e_48]; exact q_45
              have q_64 : gp_sz s_47 = 117 := by rw [e_48]; exact q_46
              exact k s_47 hs_49 (by omega) (by omega) (by omega) (by omega) (by omega) (by omega) q_56 q_57 q_58 q_59 q_60 q_61 q_62 q_63 q_64
            · exfalso; omega
        · exfalso; omega
      · exfalso; omega
    · exfalso; omega
  · exfalso; omega
set_option maxRecDepth 100000 in
/-- Measures.sure [25] -/
theorem zx776_1 {z : gH} {L d : Nat} {K : Option gV → gH → Prop} {s : gH}  (hs : xM z s)  (q0 : gp_I s 1 2 = 0) (q1 : gp_I s 1 6 = 0) (q2 : gp_I s 1 7 = 1) (q3 : gp_I s 51 8 = 0) (q4 : gp_I s 57 1 = 0) (q5 : gp_I s 57 3 = 0) (q6 : gp_R s 25 6 = none) (q7 : gp_R s 25 7 = none) (q8 : gp_R s 25 8 = none) (q9 : gp_R s 25 9 = none) (q10 : ∀ k, k < 8 → gp_R s 4 k = some 25) (q11 : gp_R s 51 6 = some 55) (q12 : gp_R s 51 7 = some 56) (q13 : gp_us s = 606895) (q14 : gp_sz s = 117) (k : ∀ (t : gH), xM z t → (gp_I t 1 2 = 0) → (gp_I t 1 6 = 0) → (gp_I t 1 7 = 1) → (gp_I t 51 8 = 0) → (gp_I t 57 1 = 0) → (gp_I t 57 3 = 0) → (gp_R t 25 6 = none) → (gp_R t 25 7 = none) → (gp_R t 25 8 = none) → (gp_R t 25 9 = none) → (∀ k, k < 8 → gp_R t 4 k = some 25) → (gp_R t 51 6 = some 55) → (gp_R t 51 7 = some 56) → (gp_us t = 606895) → (gp_sz t = 117) → K (some (gp_i 1)) t) : gs_C L (d + 2) 776 3 [gp_r (some 31), gp_r (some 25)] s K := by
  refine s_776_e _ ?_
  refine s_776_2 _ _ ?_
  refine ⟨25, rfl, ?_⟩
  refine ⟨rfl, ?_⟩
  have f_2 := xr25_0 hs 0
  have e_3 : gp_I s 25 0 = 1 := by omega
  try rw [e_3]
  refine ⟨fun h_4 => ?_, fun h_4 => ?_⟩
  · refine zx777_1 hs (by omega) (by omega) (by omega) (by omega) (by omega) (by omega) q6 q7 q8 q9 q10 q11 q12 q13 q14 (fun s_5 hs_6 q_7 q_8 q_9 q_10 q_11 q_12 q_13 q_14 q_15 q_16 q_17 q_18 q_19 q_20 q_21 => ⟨rfl, ?_⟩)
    refine ⟨rfl, ?_⟩
    try rw [show gp_R (gp_mk L s_5) 25 1 = some 26 from rfl]
    refine ⟨26, rfl, ?_⟩
    refine ⟨⟨rfl, by show 0 ≤ 0 ∧ 0 < 1; omega⟩, ?_⟩
    try rw [xr26 hs_6 ((0 : Int).toNat)]
    have e_22 : gp_cmp (0#64) (0#64) = 0 := by decide
    try rw [e_22]
    refine ⟨fun h_23 => ?_, fun h_23 => ?_⟩
    · refine ⟨by omega, ?_⟩
      have f_24 := xr36 hs_6 ((0 : Int).toNat)
      have e_25 : gp_I s_5 36 (0 : Int).toNat = 0 := by omega
      try rw [e_25]
      refine ⟨rfl, ?_⟩
      try rw [show gp_R (gp_mk L s_5) 25 3 = some 28 from rfl]
      refine ⟨28, rfl, ?_⟩
      refine ⟨⟨rfl, by show 0 ≤ 0 ∧ 0 < 1; omega⟩, ?_⟩
      have f_26 := xr28 hs_6 ((0 : Int).toNat)
      have e_27 : gp_I s_5 28 (0 : Int).toNat = 0 := by omega
      try rw [e_27]
      refine ⟨fun h_28 => ?_, fun h_28 => ?_⟩
      · exfalso; omega
      · refine s_776_42 _ _ ?_
        refine ⟨25, rfl, ?_⟩
        refine ⟨rfl, ?_⟩
        try rw [show gp_R (gp_mk L s_5) 25 2 = some 27 from rfl]
        refine ⟨27, rfl, ?_⟩
        refine ⟨⟨rfl, by show 0 ≤ 0 ∧ 0 < 1; omega⟩, ?_⟩
        try rw [xr27 hs_6 ((0 : Int).toNat)]
        have e_30 : gp_cmp (0#64) (0#64) = 0 := by decide
        try rw [e_30]
        refine ⟨fun h_31 => ?_, fun h_31 => ?_⟩
        · refine ⟨by omega, ?_⟩
          have f_32 := xr37 hs_6 ((0 : Int).toNat)
          have e_33 : gp_I s_5 37 (0 : Int).toNat = 0 := by omega
          try rw [e_33]
          refine ⟨rfl, ?_⟩
          try rw [show gp_R (gp_mk L s_5) 25 4 = some 29 from rfl]
          refine ⟨29, rfl, ?_⟩
          refine ⟨⟨rfl, by show 0 ≤ 0 ∧ 0 < 1; omega⟩, ?_⟩
          have f_34 := xr29 hs_6 ((0 : Int).toNat)
          have e_35 : gp_I s_5 29 (0 : Int).toNat = 0 := by omega
          try rw [e_35]
          refine ⟨fun h_36 => ?_, fun h_36 => ?_⟩
          · exfalso; omega
          · refine s_776_70 _ _ ?_
            have w_38 := gz_w (0 + 1)
            have e_39 : gp_wr (0 + 1) = 1 := by omega
            try rw [e_39]
            refine s_776_2 _ _ ?_
            refine ⟨25, rfl, ?_⟩
            refine ⟨rfl, ?_⟩
            have f_41 := xr25_0 hs_6 0
            have e_42 : gp_I s_5 25 0 = 1 := by omega
            try rw [e_42]
            refine ⟨fun h_43 => ?_, fun h_43 => ?_⟩
            · exfalso; omega
            · exact k s_5 hs_6 (by omega) (by omega) (by omega) (by omega) (by omega) (by omega) q_13 q_14 q_15 q_16 q_17 q_18 q_19 q_20 q_21
        · exfalso; omega
    · exfalso; omega
  · exfalso; omega
set_option maxRecDepth 100000 in
/-- Table.makeBounds [25] -/
theorem zx2305_0 {z : gH} {L d : Nat} {K : Option gV → gH → Prop} {s : gH}  (hs : xM z s)  (q0 : gp_I s 1 2 = 0) (q1 : gp_I s 1 6 = 0) (q2 : gp_I s 1 7 = 1) (q3 : gp_I s 51 8 = 0) (q4 : gp_I s 57 1 = 0) (q5 : gp_I s 57 3 = 0) (q6 : gp_R s 25 6 = none) (q7 : gp_R s 25 7 = none) (q8 : gp_R s 25 8 = none) (q9 : gp_R s 25 9 = none) (q10 : ∀ k, k < 8 → gp_R s 4 k = some 25) (q11 : gp_R s 51 6 = some 55) (q12 : gp_R s 51 7 = some 56) (q13 : gp_us s = 606895) (q14 : gp_sz s = 117) (k : ∀ (t : gH), xM z t → (gp_I t 1 2 = 0) → (gp_I t 1 6 = 0) → (gp_I t 1 7 = 1) → (gp_I t 117 0 = 0) → (gp_I t 118 0 = 0) → (gp_I t 119 0 = 0) → (gp_I t 120 0 = 0) → (gp_I t 51 8 = 0) → (gp_I t 57 1 = 0) → (gp_I t 57 3 = 0) → (gp_R t 25 6 = some 117) → (gp_R t 25 7 = some 118) → (gp_R t 25 8 = some 119) → (gp_R t 25 9 = some 120) → (∀ k, k < 8 → gp_R t 4 k = some 25) → (gp_R t 51 6 = some 55) → (gp_R t 51 7 = some 56) → (gp_sh t 117 = (100, 1)) → (gp_sh t 118 = (100, 1)) → (gp_sh t 119 = (100, 1)) → (gp_sh t 120 = (100, 1)) → (gp_us t = 606899) → (gp_sz t = 121) → K none t) : gs_C L d 2305 1 [gp_r (some 25)] s K := by
  refine s_2305_e _ ?_
  refine ⟨25, rfl, ?_⟩
  refine ⟨rfl, ?_⟩
  have f_1 := xr25_0 hs 0
  have e_2 : gp_I s 25 0 = 1 := by omega
  try rw [e_2]
  refine ⟨by omega, ?_⟩
  refine ⟨by omega, ?_⟩
  try rw [show gp_sz s = 117 from q14]
  intro s_3 e_4
  have hs_5 : xM z s_3 := by rw [e_4]; exact xI.new hs (by omega)
  have q_6 : gp_I s_3 1 2 = 0 := by rw [e_4, gz_nI q14 (by decide)]; exact q0
  have q_7 : gp_I s_3 1 6 = 0 := by rw [e_4, gz_nI q14 (by decide)]; exact q1
  have q_8 : gp_I s_3 1 7 = 1 := by rw [e_4, gz_nI q14 (by decide)]; exact q2
  have q_9 : gp_I s_3 51 8 = 0 := by rw [e_4, gz_nI q14 (by decide)]; exact q3
  have q_10 : gp_I s_3 57 1 = 0 := by rw [e_4, gz_nI q14 (by decide)]; exact q4
  have q_11 : gp_I s_3 57 3 = 0 := by rw [e_4, gz_nI q14 (by decide)]; exact q5
  have q_12 : gp_R s_3 25 6 = none := by rw [e_4, gz_nR q14 (by decide)]; exact q6
  have q_13 : gp_R s_3 25 7 = none := by rw [e_4, gz_nR q14 (by decide)]; exact q7
  have q_14 : gp_R s_3 25 8 = none := by rw [e_4, gz_nR q14 (by decide)]; exact q8
  have q_15 : gp_R s_3 25 9 = none := by rw [e_4, gz_nR q14 (by decide)]; exact q9
  have q_16 : ∀ k, k < 8 → gp_R s_3 4 k = some 25 := fun k hk => by rw [e_4, gz_nR q14 (by decide)]; exact q10 k hk
  have q_17 : gp_R s_3 51 6 = some 55 := by rw [e_4, gz_nR q14 (by decide)]; exact q11
  have q_18 : gp_R s_3 51 7 = some 56 := by rw [e_4, gz_nR q14 (by decide)]; exact q12
  have q_19 : gp_us s_3 = 606896 := by rw [e_4]; show gp_us s + 1 = 606896; rw [q13]; try rfl
  have q_20 : gp_sz s_3 = 118 := by rw [e_4]; exact congrArg Nat.succ q14
  have q_21 : gp_sh s_3 117 = (100, 1) := by rw [e_4]; exact gz_nSs q14
  have q_22 : gp_I s_3 117 0 = 0 := by rw [e_4]; exact gz_nIs q14
  refine ⟨rfl, ?_⟩
  refine ⟨rfl, ?_⟩
  intro s_23 e_24
  have hs_25 : xM z s_23 := by rw [e_24]; exact xI.wR hs_5 _ _ _
  have q_26 : gp_I s_23 1 2 = 0 := by rw [e_24]; exact q_6
  have q_27 : gp_I s_23 1 6 = 0 := by rw [e_24]; exact q_7
  have q_28 : gp_I s_23 1 7 = 1 := by rw [e_24]; exact q_8
  have q_29 : gp_I s_23 51 8 = 0 := by rw [e_24]; exact q_9
  have q_30 : gp_I s_23 57 1 = 0 := by rw [e_24]; exact q_10
  have q_31 : gp_I s_23 57 3 = 0 := by rw [e_24]; exact q_11
  have q_32 : gp_R s_23 25 7 = none := by rw [e_24]; exact q_13
  have q_33 : gp_R s_23 25 8 = none := by rw [e_24]; exact q_14
  have q_34 : gp_R s_23 25 9 = none := by rw [e_24]; exact q_15
  have q_35 : ∀ k, k < 8 → gp_R s_23 4 k = some 25 := by rw [e_24]; exact q_16
  have q_36 : gp_R s_23 51 6 = some 55 := by rw [e_24]; exact q_17
  have q_37 : gp_R s_23 51 7 = some 56 := by rw [e_24]; exact q_18
  have q_38 : gp_us s_23 = 606896 := by rw [e_24]; exact q_19
  have q_39 : gp_sz s_23 = 118 := by rw [e_24]; exact q_20
  have q_40 : gp_sh s_23 117 = (100, 1) := by rw [e_24]; exact q_21
  have q_41 : gp_I s_23 117 0 = 0 := by rw [e_24]; exact q_22
  have q_42 : gp_R s_23 25 6 = some 117 := by rw [e_24]; rfl
  refine ⟨rfl, ?_⟩
  have f_43 := xr25_0 hs_25 0
  have e_44 : gp_I s_23 25 0 = 1 := by omega
  try rw [e_44]
  refine ⟨by omega, ?_⟩
  refine ⟨by omega, ?_⟩
  try rw [show gp_sz s_23 = 118 from q_39]
  intro s_45 e_46
  have hs_47 : xM z s_45 := by rw [e_46]; exact xI.new hs_25 (by omega)
  have q_48 : gp_I s_45 1 2 = 0 := by rw [e_46, gz_nI q_39 (by decide)]; exact q_26
  have q_49 : gp_I s_45 1 6 = 0 := by rw [e_46, gz_nI q_39 (by decide)]; exact q_27
  have q_50 : gp_I s_45 1 7 = 1 := by rw [e_46, gz_nI q_39 (by decide)]; exact q_28
  have q_51 : gp_I s_45 51 8 = 0 := by rw [e_46, gz_nI q_39 (by decide)]; exact q_29
  have q_52 : gp_I s_45 57 1 = 0 := by rw [e_46, gz_nI q_39 (by decide)]; exact q_30
  have q_53 : gp_I s_45 57 3 = 0 := by rw [e_46, gz_nI q_39 (by decide)]; exact q_31
  have q_54 : gp_R s_45 25 7 = none := by rw [e_46, gz_nR q_39 (by decide)]; exact q_32
  have q_55 : gp_R s_45 25 8 = none := by rw [e_46, gz_nR q_39 (by decide)]; exact q_33
  have q_56 : gp_R s_45 25 9 = none := by rw [e_46, gz_nR q_39 (by decide)]; exact q_34
  have q_57 : ∀ k, k < 8 → gp_R s_45 4 k = some 25 := fun k hk => by rw [e_46, gz_nR q_39 (by decide)]; exact q_35 k hk
  have q_58 : gp_R s_45 51 6 = some 55 := by rw [e_46, gz_nR q_39 (by decide)]; exact q_36
  have q_59 : gp_R s_45 51 7 = some 56 := by rw [e_46, gz_nR q_39 (by decide)]; exact q_37
  have q_60 : gp_us s_45 = 606897 := by rw [e_46]; show gp_us s_23 + 1 = 606897; rw [q_38]; try rfl
  have q_61 : gp_sz s_45 = 119 := by rw [e_46]; exact congrArg Nat.succ q_39
  have q_62 : gp_sh s_45 117 = (100, 1) := by rw [e_46, gz_nS q_39 (by decide)]; exact q_40
  have q_63 : gp_I s_45 117 0 = 0 := by rw [e_46, gz_nI q_39 (by decide)]; exact q_41
  have q_64 : gp_R s_45 25 6 = some 117 := by rw [e_46, gz_nR q_39 (by decide)]; exact q_42
  have q_65 : gp_sh s_45 118 = (100, 1) := by rw [e_46]; exact gz_nSs q_39
  have q_66 : gp_I s_45 118 0 = 0 := by rw [e_46]; exact gz_nIs q_39
  refine ⟨rfl, ?_⟩
  refine ⟨rfl, ?_⟩
  intro s_67 e_68
  have hs_69 : xM z s_67 := by rw [e_68]; exact xI.wR hs_47 _ _ _
  have q_70 : gp_I s_67 1 2 = 0 := by rw [e_68]; exact q_48
  have q_71 : gp_I s_67 1 6 = 0 := by rw [e_68]; exact q_49
  have q_72 : gp_I s_67 1 7 = 1 := by rw [e_68]; exact q_50
  have q_73 : gp_I s_67 51 8 = 0 := by rw [e_68]; exact q_51
  have q_74 : gp_I s_67 57 1 = 0 := by rw [e_68]; exact q_52
  have q_75 : gp_I s_67 57 3 = 0 := by rw [e_68]; exact q_53
  have q_76 : gp_R s_67 25 8 = none := by rw [e_68]; exact q_55
  have q_77 : gp_R s_67 25 9 = none := by rw [e_68]; exact q_56
  have q_78 : ∀ k, k < 8 → gp_R s_67 4 k = some 25 := by rw [e_68]; exact q_57
  have q_79 : gp_R s_67 51 6 = some 55 := by rw [e_68]; exact q_58
  have q_80 : gp_R s_67 51 7 = some 56 := by rw [e_68]; exact q_59
  have q_81 : gp_us s_67 = 606897 := by rw [e_68]; exact q_60
  have q_82 : gp_sz s_67 = 119 := by rw [e_68]; exact q_61
  have q_83 : gp_sh s_67 117 = (100, 1) := by rw [e_68]; exact q_62
  have q_84 : gp_I s_67 117 0 = 0 := by rw [e_68]; exact q_63
  have q_85 : gp_R s_67 25 6 = some 117 := by rw [e_68]; exact q_64
  have q_86 : gp_sh s_67 118 = (100, 1) := by rw [e_68]; exact q_65
  have q_87 : gp_I s_67 118 0 = 0 := by rw [e_68]; exact q_66
  have q_88 : gp_R s_67 25 7 = some 118 := by rw [e_68]; rfl
  refine ⟨rfl, ?_⟩
  have f_89 := xr25_0 hs_69 0
  have e_90 : gp_I s_67 25 0 = 1 := by omega
  try rw [e_90]
  refine ⟨by omega, ?_⟩
  refine ⟨by omega, ?_⟩
  try rw [show gp_sz s_67 = 119 from q_82]
  intro s_91 e_92
  have hs_93 : xM z s_91 := by rw [e_92]; exact xI.new hs_69 (by omega)
  have q_94 : gp_I s_91 1 2 = 0 := by rw [e_92, gz_nI q_82 (by decide)]; exact q_70
  have q_95 : gp_I s_91 1 6 = 0 := by rw [e_92, gz_nI q_82 (by decide)]; exact q_71
  have q_96 : gp_I s_91 1 7 = 1 := by rw [e_92, gz_nI q_82 (by decide)]; exact q_72
  have q_97 : gp_I s_91 51 8 = 0 := by rw [e_92, gz_nI q_82 (by decide)]; exact q_73
  have q_98 : gp_I s_91 57 1 = 0 := by rw [e_92, gz_nI q_82 (by decide)]; exact q_74
  have q_99 : gp_I s_91 57 3 = 0 := by rw [e_92, gz_nI q_82 (by decide)]; exact q_75
  have q_100 : gp_R s_91 25 8 = none := by rw [e_92, gz_nR q_82 (by decide)]; exact q_76
  have q_101 : gp_R s_91 25 9 = none := by rw [e_92, gz_nR q_82 (by decide)]; exact q_77
  have q_102 : ∀ k, k < 8 → gp_R s_91 4 k = some 25 := fun k hk => by rw [e_92, gz_nR q_82 (by decide)]; exact q_78 k hk
  have q_103 : gp_R s_91 51 6 = some 55 := by rw [e_92, gz_nR q_82 (by decide)]; exact q_79
  have q_104 : gp_R s_91 51 7 = some 56 := by rw [e_92, gz_nR q_82 (by decide)]; exact q_80
  have q_105 : gp_us s_91 = 606898 := by rw [e_92]; show gp_us s_67 + 1 = 606898; rw [q_81]; try rfl
  have q_106 : gp_sz s_91 = 120 := by rw [e_92]; exact congrArg Nat.succ q_82
  have q_107 : gp_sh s_91 117 = (100, 1) := by rw [e_92, gz_nS q_82 (by decide)]; exact q_83
  have q_108 : gp_I s_91 117 0 = 0 := by rw [e_92, gz_nI q_82 (by decide)]; exact q_84
  have q_109 : gp_R s_91 25 6 = some 117 := by rw [e_92, gz_nR q_82 (by decide)]; exact q_85
  have q_110 : gp_sh s_91 118 = (100, 1) := by rw [e_92, gz_nS q_82 (by decide)]; exact q_86
  have q_111 : gp_I s_91 118 0 = 0 := by rw [e_92, gz_nI q_82 (by decide)]; exact q_87
  have q_112 : gp_R s_91 25 7 = some 118 := by rw [e_92, gz_nR q_82 (by decide)]; exact q_88
  have q_113 : gp_sh s_91 119 = (100, 1) := by rw [e_92]; exact gz_nSs q_82
  have q_114 : gp_I s_91 119 0 = 0 := by rw [e_92]; exact gz_nIs q_82
  refine ⟨rfl, ?_⟩
  refine ⟨rfl, ?_⟩
  intro s_115 e_116
  have hs_117 : xM z s_115 := by rw [e_116]; exact xI.wR hs_93 _ _ _
  have q_118 : gp_I s_115 1 2 = 0 := by rw [e_116]; exact q_94
  have q_119 : gp_I s_115 1 6 = 0 := by rw [e_116]; exact q_95
  have q_120 : gp_I s_115 1 7 = 1 := by rw [e_116]; exact q_96
  have q_121 : gp_I s_115 51 8 = 0 := by rw [e_116]; exact q_97
  have q_122 : gp_I s_115 57 1 = 0 := by rw [e_116]; exact q_98
  have q_123 : gp_I s_115 57 3 = 0 := by rw [e_116]; exact q_99
  have q_124 : gp_R s_115 25 9 = none := by rw [e_116]; exact q_101
  have q_125 : ∀ k, k < 8 → gp_R s_115 4 k = some 25 := by rw [e_116]; exact q_102
  have q_126 : gp_R s_115 51 6 = some 55 := by rw [e_116]; exact q_103
  have q_127 : gp_R s_115 51 7 = some 56 := by rw [e_116]; exact q_104
  have q_128 : gp_us s_115 = 606898 := by rw [e_116]; exact q_105
  have q_129 : gp_sz s_115 = 120 := by rw [e_116]; exact q_106
  have q_130 : gp_sh s_115 117 = (100, 1) := by rw [e_116]; exact q_107
  have q_131 : gp_I s_115 117 0 = 0 := by rw [e_116]; exact q_108
  have q_132 : gp_R s_115 25 6 = some 117 := by rw [e_116]; exact q_109
  have q_133 : gp_sh s_115 118 = (100, 1) := by rw [e_116]; exact q_110
  have q_134 : gp_I s_115 118 0 = 0 := by rw [e_116]; exact q_111
  have q_135 : gp_R s_115 25 7 = some 118 := by rw [e_116]; exact q_112
  have q_136 : gp_sh s_115 119 = (100, 1) := by rw [e_116]; exact q_113
  have q_137 : gp_I s_115 119 0 = 0 := by rw [e_116]; exact q_114
  have q_138 : gp_R s_115 25 8 = some 119 := by rw [e_116]; rfl
  refine ⟨rfl, ?_⟩
  have f_139 := xr25_0 hs_117 0
  have e_140 : gp_I s_115 25 0 = 1 := by omega
  try rw [e_140]
  refine ⟨by omega, ?_⟩
  refine ⟨by omega, ?_⟩
  try rw [show gp_sz s_115 = 120 from q_129]
  intro s_141 e_142
  have hs_143 : xM z s_141 := by rw [e_142]; exact xI.new hs_117 (by omega)
  have q_144 : gp_I s_141 1 2 = 0 := by rw [e_142, gz_nI q_129 (by decide)]; exact q_118
  have q_145 : gp_I s_141 1 6 = 0 := by rw [e_142, gz_nI q_129 (by decide)]; exact q_119
  have q_146 : gp_I s_141 1 7 = 1 := by rw [e_142, gz_nI q_129 (by decide)]; exact q_120
  have q_147 : gp_I s_141 51 8 = 0 := by rw [e_142, gz_nI q_129 (by decide)]; exact q_121
  have q_148 : gp_I s_141 57 1 = 0 := by rw [e_142, gz_nI q_129 (by decide)]; exact q_122
  have q_149 : gp_I s_141 57 3 = 0 := by rw [e_142, gz_nI q_129 (by decide)]; exact q_123
  have q_150 : gp_R s_141 25 9 = none := by rw [e_142, gz_nR q_129 (by decide)]; exact q_124
  have q_151 : ∀ k, k < 8 → gp_R s_141 4 k = some 25 := fun k hk => by rw [e_142, gz_nR q_129 (by decide)]; exact q_125 k hk
  have q_152 : gp_R s_141 51 6 = some 55 := by rw [e_142, gz_nR q_129 (by decide)]; exact q_126
  have q_153 : gp_R s_141 51 7 = some 56 := by rw [e_142, gz_nR q_129 (by decide)]; exact q_127
  have q_154 : gp_us s_141 = 606899 := by rw [e_142]; show gp_us s_115 + 1 = 606899; rw [q_128]; try rfl
  have q_155 : gp_sz s_141 = 121 := by rw [e_142]; exact congrArg Nat.succ q_129
  have q_156 : gp_sh s_141 117 = (100, 1) := by rw [e_142, gz_nS q_129 (by decide)]; exact q_130
  have q_157 : gp_I s_141 117 0 = 0 := by rw [e_142, gz_nI q_129 (by decide)]; exact q_131
  have q_158 : gp_R s_141 25 6 = some 117 := by rw [e_142, gz_nR q_129 (by decide)]; exact q_132
  have q_159 : gp_sh s_141 118 = (100, 1) := by rw [e_142, gz_nS q_129 (by decide)]; exact q_133
  have q_160 : gp_I s_141 118 0 = 0 := by rw [e_142, gz_nI q_129 (by decide)]; exact q_134
  have q_161 : gp_R s_141 25 7 = some 118 := by rw [e_142, gz_nR q_129 (by decide)]; exact q_135
  have q_162 : gp_sh s_141 119 = (100, 1) := by rw [e_142, gz_nS q_129 (by decide)]; exact q_136
  have q_163 : gp_I s_141 119 0 = 0 := by rw [e_142, gz_nI q_129 (by decide)]; exact q_137
  have q_164 : gp_R s_141 25 8 = some 119 := by rw [e_142, gz_nR q_129 (by decide)]; exact q_138
  have q_165 : gp_sh s_141 120 = (100, 1) := by rw [e_142]; exact gz_nSs q_129
  have q_166 : gp_I s_141 120 0 = 0 := by rw [e_142]; exact gz_nIs q_129
  refine ⟨rfl, ?_⟩
  refine ⟨rfl, ?_⟩
  intro s_167 e_168
  have hs_169 : xM z s_167 := by rw [e_168]; exact xI.wR hs_143 _ _ _
  have q_170 : gp_I s_167 1 2 = 0 := by rw [e_168]; exact q_144
  have q_171 : gp_I s_167 1 6 = 0 := by rw [e_168]; exact q_145
  have q_172 : gp_I s_167 1 7 = 1 := by rw [e_168]; exact q_146
  have q_173 : gp_I s_167 51 8 = 0 := by rw [e_168]; exact q_147
  have q_174 : gp_I s_167 57 1 = 0 := by rw [e_168]; exact q_148
  have q_175 : gp_I s_167 57 3 = 0 := by rw [e_168]; exact q_149
  have q_176 : ∀ k, k < 8 → gp_R s_167 4 k = some 25 := by rw [e_168]; exact q_151
  have q_177 : gp_R s_167 51 6 = some 55 := by rw [e_168]; exact q_152
  have q_178 : gp_R s_167 51 7 = some 56 := by rw [e_168]; exact q_153
  have q_179 : gp_us s_167 = 606899 := by rw [e_168]; exact q_154
  have q_180 : gp_sz s_167 = 121 := by rw [e_168]; exact q_155
  have q_181 : gp_sh s_167 117 = (100, 1) := by rw [e_168]; exact q_156
  have q_182 : gp_I s_167 117 0 = 0 := by rw [e_168]; exact q_157
  have q_183 : gp_R s_167 25 6 = some 117 := by rw [e_168]; exact q_158
  have q_184 : gp_sh s_167 118 = (100, 1) := by rw [e_168]; exact q_159
  have q_185 : gp_I s_167 118 0 = 0 := by rw [e_168]; exact q_160
  have q_186 : gp_R s_167 25 7 = some 118 := by rw [e_168]; exact q_161
  have q_187 : gp_sh s_167 119 = (100, 1) := by rw [e_168]; exact q_162
  have q_188 : gp_I s_167 119 0 = 0 := by rw [e_168]; exact q_163
  have q_189 : gp_R s_167 25 8 = some 119 := by rw [e_168]; exact q_164
  have q_190 : gp_sh s_167 120 = (100, 1) := by rw [e_168]; exact q_165
  have q_191 : gp_I s_167 120 0 = 0 := by rw [e_168]; exact q_166
  have q_192 : gp_R s_167 25 9 = some 120 := by rw [e_168]; rfl
  exact k s_167 hs_169 (by omega) (by omega) (by omega) (by omega) (by omega) (by omega) (by omega) (by omega) (by omega) (by omega) q_183 q_186 q_189 q_192 q_176 q_177 q_178 q_181 q_184 q_187 q_190 q_179 q_180
