set_option maxRecDepth 100000 in
/-- Table.root [25] -/
theorem zx2306_1 {z : gH} {L d : Nat} {K : Option gV → gH → Prop} {s : gH}  (hs : xM z s)  (q0 : gp_I s 117 0 = 0) (q1 : gp_I s 118 0 = 0) (q2 : gp_I s 119 0 = 0) (q3 : gp_I s 120 0 = 0) (q4 : gp_R s 25 6 = some 117) (q5 : gp_R s 25 7 = some 118) (q6 : gp_R s 25 8 = some 119) (q7 : gp_R s 25 9 = some 120) (q8 : gp_sh s 117 = (100, 1)) (q9 : gp_sh s 118 = (100, 1)) (q10 : gp_sh s 119 = (100, 1)) (q11 : gp_sh s 120 = (100, 1)) (k : K (some (gp_i 0)) s) : gs_C L d 2306 1 [gp_r (some 25)] s K := by
  refine s_2306_e _ ?_
  refine ⟨25, rfl, ?_⟩
  refine ⟨rfl, ?_⟩
  have f_1 := xr25_0 hs 0
  have e_2 : gp_I s 25 0 = 1 := by omega
  try rw [e_2]
  have w_3 := gz_w (1 - 1)
  have e_4 : gp_wr (1 - 1) = 0 := by omega
  try rw [e_4]
  exact k
set_option maxRecDepth 100000 in
/-- Measures.highestOf [0, 33, (0, 0)] -/
theorem zx774_2 {z : gH} {L d : Nat} {K : Option gV → gH → Prop} {s : gH}  (hs : xM z s)  (q0 : gp_I s 1 2 = 0) (q1 : gp_I s 1 6 = 0) (q2 : gp_I s 1 7 = 1) (q3 : gp_I s 117 0 = 0) (q4 : gp_I s 118 0 = 0) (q5 : gp_I s 119 0 = 0) (q6 : gp_I s 120 0 = 0) (q7 : gp_I s 51 8 = 0) (q8 : gp_I s 57 1 = 0) (q9 : gp_I s 57 3 = 0) (q10 : gp_R s 25 6 = some 117) (q11 : gp_R s 25 7 = some 118) (q12 : gp_R s 25 8 = some 119) (q13 : gp_R s 25 9 = some 120) (q14 : ∀ k, k < 8 → gp_R s 4 k = some 25) (q15 : gp_R s 51 6 = some 55) (q16 : gp_R s 51 7 = some 56) (q17 : gp_sh s 117 = (100, 1)) (q18 : gp_sh s 118 = (100, 1)) (q19 : gp_sh s 119 = (100, 1)) (q20 : gp_sh s 120 = (100, 1)) (k : K (some (gp_i (-2147483648))) s) : gs_C L (d + 1) 774 7 [gp_l (0#64), gp_r (some 33), gp_i 0] s K := by
  refine s_774_e _ _ _ ?_
  refine s_774_7 _ _ _ _ _ ?_
  have e_2 : gp_cmp (0#64) (0#64) = 0 := by decide
  try rw [e_2]
  refine ⟨fun h_3 => ?_, fun h_3 => ?_⟩
  · exact k
  · exfalso; omega
set_option maxRecDepth 100000 in
/-- Measures.highestOf [0, 33, (1, 1)] -/
theorem zx774_3 {z : gH} {L d : Nat} {K : Option gV → gH → Prop} {s : gH}  (hs : xM z s)  (q0 : gp_I s 1 2 = 0) (q1 : gp_I s 1 6 = 0) (q2 : gp_I s 1 7 = 1) (q3 : gp_I s 117 0 = 0) (q4 : gp_I s 118 0 = 0) (q5 : gp_I s 119 0 = 0) (q6 : gp_I s 120 0 = 0) (q7 : gp_I s 51 8 = 0) (q8 : gp_I s 57 1 = 0) (q9 : gp_I s 57 3 = 0) (q10 : gp_R s 25 6 = some 117) (q11 : gp_R s 25 7 = some 118) (q12 : gp_R s 25 8 = some 119) (q13 : gp_R s 25 9 = some 120) (q14 : ∀ k, k < 8 → gp_R s 4 k = some 25) (q15 : gp_R s 51 6 = some 55) (q16 : gp_R s 51 7 = some 56) (q17 : gp_sh s 117 = (100, 1)) (q18 : gp_sh s 118 = (100, 1)) (q19 : gp_sh s 119 = (100, 1)) (q20 : gp_sh s 120 = (100, 1)) (k : K (some (gp_i (-2147483648))) s) : gs_C L (d + 1) 774 7 [gp_l (0#64), gp_r (some 33), gp_i 1] s K := by
  refine s_774_e _ _ _ ?_
  refine s_774_7 _ _ _ _ _ ?_
  have e_2 : gp_cmp (0#64) (0#64) = 0 := by decide
  try rw [e_2]
  refine ⟨fun h_3 => ?_, fun h_3 => ?_⟩
  · exact k
  · exfalso; omega
set_option maxRecDepth 100000 in
/-- Measures.addWaits [25, (0, 0), (1, 1)] -/
theorem zx772_1 {z : gH} {L d : Nat} {K : Option gV → gH → Prop} {s : gH}  (hs : xM z s)  (q0 : gp_I s 1 2 = 0) (q1 : gp_I s 1 6 = 0) (q2 : gp_I s 1 7 = 1) (q3 : gp_I s 117 0 = 0) (q4 : gp_I s 118 0 = 0) (q5 : gp_I s 119 0 = 0) (q6 : gp_I s 120 0 = 0) (q7 : gp_I s 51 8 = 0) (q8 : gp_I s 57 1 = 0) (q9 : gp_I s 57 3 = 0) (q10 : gp_R s 25 6 = some 117) (q11 : gp_R s 25 7 = some 118) (q12 : gp_R s 25 8 = some 119) (q13 : gp_R s 25 9 = some 120) (q14 : ∀ k, k < 8 → gp_R s 4 k = some 25) (q15 : gp_R s 51 6 = some 55) (q16 : gp_R s 51 7 = some 56) (q17 : gp_sh s 117 = (100, 1)) (q18 : gp_sh s 118 = (100, 1)) (q19 : gp_sh s 119 = (100, 1)) (q20 : gp_sh s 120 = (100, 1)) (q21 : gp_us s = 606899) (q22 : gp_sz s = 121) (k : ∀ (t : gH), xM z t → (gp_I t 1 2 = 0) → (gp_I t 1 6 = 0) → (gp_I t 1 7 = 1) → (gp_I t 117 0 = 0) → (gp_I t 118 0 = 0) → (gp_I t 119 0 = 0) → (gp_I t 120 0 = 0) → (gp_I t 51 8 = 0) → (gp_I t 57 1 = 0) → (gp_I t 57 3 = 0) → (gp_R t 25 6 = some 117) → (gp_R t 25 7 = some 118) → (gp_R t 25 8 = some 119) → (gp_R t 25 9 = some 120) → (∀ k, k < 8 → gp_R t 4 k = some 25) → (gp_R t 51 6 = some 55) → (gp_R t 51 7 = some 56) → (gp_sh t 117 = (100, 1)) → (gp_sh t 118 = (100, 1)) → (gp_sh t 119 = (100, 1)) → (gp_sh t 120 = (100, 1)) → (gp_us t = 606899) → (gp_sz t = 121) → K none t) : gs_C L (d + 2) 772 7 [gp_r (some 31), gp_r (some 25), gp_i 0, gp_i 1] s K := by
  refine s_772_e _ _ _ ?_
  have w_1 := gz_w (0 * 61)
  have e_2 : gp_wr (0 * 61) = 0 := by omega
  try rw [e_2]
  refine s_772_9 _ _ _ _ _ _ ?_
  refine ⟨fun h_4 => ?_, fun h_4 => ?_⟩
  · exfalso; omega
  · refine ⟨25, rfl, ?_⟩
    refine ⟨rfl, ?_⟩
    try rw [show gp_R (gp_mk L s) 25 1 = some 26 from rfl]
    refine ⟨26, rfl, ?_⟩
    refine ⟨⟨rfl, by show 0 ≤ 0 ∧ 0 < 1; omega⟩, ?_⟩
    try rw [xr26 hs ((0 : Int).toNat)]
    refine zx774_2 hs (by omega) (by omega) (by omega) (by omega) (by omega) (by omega) (by omega) (by omega) (by omega) (by omega) q10 q11 q12 q13 q14 q15 q16 q17 q18 q19 q20 (⟨_, rfl, ?_⟩)
    refine ⟨fun h_5 => ?_, fun h_5 => ?_⟩
    · exfalso; omega
    · refine ⟨rfl, ?_⟩
      try rw [show gp_R (gp_mk L s) 25 1 = some 26 from rfl]
      refine ⟨26, rfl, ?_⟩
      refine ⟨⟨rfl, by show 0 ≤ 0 ∧ 0 < 1; omega⟩, ?_⟩
      try rw [xr26 hs ((0 : Int).toNat)]
      have e_6 : gp_cmp (0#64) (0#64) = 0 := by decide
      try rw [e_6]
      refine ⟨fun h_7 => ?_, fun h_7 => ?_⟩
      · refine ⟨rfl, ?_⟩
        try rw [show gp_R (gp_mk L s) 25 3 = some 28 from rfl]
        refine ⟨28, rfl, ?_⟩
        refine ⟨⟨rfl, by show 0 ≤ 0 ∧ 0 < 1; omega⟩, ?_⟩
        have f_8 := xr28 hs ((0 : Int).toNat)
        have e_9 : gp_I s 28 (0 : Int).toNat = 0 := by omega
        try rw [e_9]
        refine s_772_78 _ _ _ _ _ _ ?_
        have w_11 := gz_w (0 + 0)
        have e_12 : gp_wr (0 + 0) = 0 := by omega
        try rw [e_12]
        refine ⟨by omega, ?_⟩
        intro s_13 e_14
        have hs_15 : xM z s_13 := by rw [e_14]; exact xw32 hs _ _ (by omega)
        have q_16 : gp_I s_13 1 2 = 0 := by rw [e_14]; exact q0
        have q_17 : gp_I s_13 1 6 = 0 := by rw [e_14]; exact q1
        have q_18 : gp_I s_13 1 7 = 1 := by rw [e_14]; exact q2
        have q_19 : gp_I s_13 117 0 = 0 := by rw [e_14]; exact q3
        have q_20 : gp_I s_13 118 0 = 0 := by rw [e_14]; exact q4
        have q_21 : gp_I s_13 119 0 = 0 := by rw [e_14]; exact q5
        have q_22 : gp_I s_13 120 0 = 0 := by rw [e_14]; exact q6
        have q_23 : gp_I s_13 51 8 = 0 := by rw [e_14]; exact q7
        have q_24 : gp_I s_13 57 1 = 0 := by rw [e_14]; exact q8
        have q_25 : gp_I s_13 57 3 = 0 := by rw [e_14]; exact q9
        have q_26 : gp_R s_13 25 6 = some 117 := by rw [e_14]; exact q10
        have q_27 : gp_R s_13 25 7 = some 118 := by rw [e_14]; exact q11
        have q_28 : gp_R s_13 25 8 = some 119 := by rw [e_14]; exact q12
        have q_29 : gp_R s_13 25 9 = some 120 := by rw [e_14]; exact q13
        have q_30 : ∀ k, k < 8 → gp_R s_13 4 k = some 25 := by rw [e_14]; exact q14
        have q_31 : gp_R s_13 51 6 = some 55 := by rw [e_14]; exact q15
        have q_32 : gp_R s_13 51 7 = some 56 := by rw [e_14]; exact q16
        have q_33 : gp_sh s_13 117 = (100, 1) := by rw [e_14]; exact q17
        have q_34 : gp_sh s_13 118 = (100, 1) := by rw [e_14]; exact q18
        have q_35 : gp_sh s_13 119 = (100, 1) := by rw [e_14]; exact q19
        have q_36 : gp_sh s_13 120 = (100, 1) := by rw [e_14]; exact q20
        have q_37 : gp_us s_13 = 606899 := by rw [e_14]; exact q21
        have q_38 : gp_sz s_13 = 121 := by rw [e_14]; exact q22
        have w_39 := gz_w (0 + 0)
        have e_40 : gp_wr (0 + 0) = 0 := by omega
        try rw [e_40]
        refine ⟨25, rfl, ?_⟩
        refine ⟨rfl, ?_⟩
        try rw [show gp_R (gp_mk L s_13) 25 2 = some 27 from rfl]
        refine ⟨27, rfl, ?_⟩
        refine ⟨⟨rfl, by show 0 ≤ 0 ∧ 0 < 1; omega⟩, ?_⟩
        try rw [xr27 hs_15 ((0 : Int).toNat)]
        have e_41 : gp_cmp (0#64) (0#64) = 0 := by decide
        try rw [e_41]
        refine ⟨fun h_42 => ?_, fun h_42 => ?_⟩
        · refine ⟨rfl, ?_⟩
          try rw [show gp_R (gp_mk L s_13) 25 4 = some 29 from rfl]
          refine ⟨29, rfl, ?_⟩
          refine ⟨⟨rfl, by show 0 ≤ 0 ∧ 0 < 1; omega⟩, ?_⟩
          have f_43 := xr29 hs_15 ((0 : Int).toNat)
          have e_44 : gp_I s_13 29 (0 : Int).toNat = 0 := by omega
          try rw [e_44]
          refine s_772_134 _ _ _ _ _ _ _ _ ?_
          refine ⟨by omega, ?_⟩
          intro s_46 e_47
          have hs_48 : xM z s_46 := by rw [e_47]; exact xw33 hs_15 _ _ (by omega)
          have q_49 : gp_I s_46 1 2 = 0 := by rw [e_47]; exact q_16
          have q_50 : gp_I s_46 1 6 = 0 := by rw [e_47]; exact q_17
          have q_51 : gp_I s_46 1 7 = 1 := by rw [e_47]; exact q_18
          have q_52 : gp_I s_46 117 0 = 0 := by rw [e_47]; exact q_19
          have q_53 : gp_I s_46 118 0 = 0 := by rw [e_47]; exact q_20
          have q_54 : gp_I s_46 119 0 = 0 := by rw [e_47]; exact q_21
          have q_55 : gp_I s_46 120 0 = 0 := by rw [e_47]; exact q_22
          have q_56 : gp_I s_46 51 8 = 0 := by rw [e_47]; exact q_23
          have q_57 : gp_I s_46 57 1 = 0 := by rw [e_47]; exact q_24
          have q_58 : gp_I s_46 57 3 = 0 := by rw [e_47]; exact q_25
          have q_59 : gp_R s_46 25 6 = some 117 := by rw [e_47]; exact q_26
          have q_60 : gp_R s_46 25 7 = some 118 := by rw [e_47]; exact q_27
          have q_61 : gp_R s_46 25 8 = some 119 := by rw [e_47]; exact q_28
          have q_62 : gp_R s_46 25 9 = some 120 := by rw [e_47]; exact q_29
          have q_63 : ∀ k, k < 8 → gp_R s_46 4 k = some 25 := by rw [e_47]; exact q_30
          have q_64 : gp_R s_46 51 6 = some 55 := by rw [e_47]; exact q_31
          have q_65 : gp_R s_46 51 7 = some 56 := by rw [e_47]; exact q_32
          have q_66 : gp_sh s_46 117 = (100, 1) := by rw [e_47]; exact q_33
          have q_67 : gp_sh s_46 118 = (100, 1) := by rw [e_47]; exact q_34
          have q_68 : gp_sh s_46 119 = (100, 1) := by rw [e_47]; exact q_35
          have q_69 : gp_sh s_46 120 = (100, 1) := by rw [e_47]; exact q_36
          have q_70 : gp_us s_46 = 606899 := by rw [e_47]; exact q_37
          have q_71 : gp_sz s_46 = 121 := by rw [e_47]; exact q_38
          have w_72 := gz_w (0 + 1)
          have e_73 : gp_wr (0 + 1) = 1 := by omega
          try rw [e_73]
          refine s_772_9 _ _ _ _ _ _ ?_
          refine ⟨fun h_75 => ?_, fun h_75 => ?_⟩
          · exfalso; omega
          · refine ⟨25, rfl, ?_⟩
            refine ⟨rfl, ?_⟩
            try rw [show gp_R (gp_mk L s_46) 25 1 = some 26 from rfl]
            refine ⟨26, rfl, ?_⟩
            refine ⟨⟨rfl, by show 0 ≤ 0 ∧ 0 < 1; omega⟩, ?_⟩
            try rw [xr26 hs_48 ((0 : Int).toNat)]
            refine zx774_3 hs_48 (by omega) (by omega) (by omega) (by omega) (by omega) (by omega) (by omega) (by omega) (by omega) (by omega) q_59 q_60 q_61 q_62 q_63 q_64 q_65 q_66 q_67 q_68 q_69 (⟨_, rfl, ?_⟩)
            refine ⟨fun h_76 => ?_, fun h_76 => ?_⟩
            · have w_77 := gz_w (0 + 1)
              have e_78 : gp_wr (0 + 1) = 1 := by omega
              try rw [e_78]
              have w_79 := gz_w (1 - 1)
              have e_80 : gp_wr (1 - 1) = 0 := by omega
              try rw [e_80]
              refine ⟨by omega, ?_⟩
              have f_81 := xr33 hs_48 ((0 : Int).toNat)
              have e_82 : gp_I s_46 33 (0 : Int).toNat = 0 := by omega
              try rw [e_82]
              have w_83 := gz_mx ((-2147483648)) (0)
              have e_84 : gp_mx (-2147483648) 0 = 0 := by omega
              try rw [e_84]
              refine s_772_78 _ _ _ _ _ _ ?_
              have w_86 := gz_w (0 + 1)
              have e_87 : gp_wr (0 + 1) = 1 := by omega
              try rw [e_87]
              refine ⟨by omega, ?_⟩
              intro s_88 e_89
              have hs_90 : xM z s_88 := by rw [e_89]; exact xw32 hs_48 _ _ (by omega)
              have q_91 : gp_I s_88 1 2 = 0 := by rw [e_89]; exact q_49
              have q_92 : gp_I s_88 1 6 = 0 := by rw [e_89]; exact q_50
              have q_93 : gp_I s_88 1 7 = 1 := by rw [e_89]; exact q_51
              have q_94 : gp_I s_88 117 0 = 0 := by rw [e_89]; exact q_52
              have q_95 : gp_I s_88 118 0 = 0 := by rw [e_89]; exact q_53
              have q_96 : gp_I s_88 119 0 = 0 := by rw [e_89]; exact q_54
              have q_97 : gp_I s_88 120 0 = 0 := by rw [e_89]; exact q_55
              have q_98 : gp_I s_88 51 8 = 0 := by rw [e_89]; exact q_56
              have q_99 : gp_I s_88 57 1 = 0 := by rw [e_89]; exact q_57
              have q_100 : gp_I s_88 57 3 = 0 := by rw [e_89]; exact q_58
              have q_101 : gp_R s_88 25 6 = some 117 := by rw [e_89]; exact q_59
              have q_102 : gp_R s_88 25 7 = some 118 := by rw [e_89]; exact q_60
              have q_103 : gp_R s_88 25 8 = some 119 := by rw [e_89]; exact q_61
              have q_104 : gp_R s_88 25 9 = some 120 := by rw [e_89]; exact q_62
              have q_105 : ∀ k, k < 8 → gp_R s_88 4 k = some 25 := by rw [e_89]; exact q_63
              have q_106 : gp_R s_88 51 6 = some 55 := by rw [e_89]; exact q_64
              have q_107 : gp_R s_88 51 7 = some 56 := by rw [e_89]; exact q_65
              have q_108 : gp_sh s_88 117 = (100, 1) := by rw [e_89]; exact q_66
              have q_109 : gp_sh s_88 118 = (100, 1) := by rw [e_89]; exact q_67
              have q_110 : gp_sh s_88 119 = (100, 1) := by rw [e_89]; exact q_68
              have q_111 : gp_sh s_88 120 = (100, 1) := by rw [e_89]; exact q_69
              have q_112 : gp_us s_88 = 606899 := by rw [e_89]; exact q_70
              have q_113 : gp_sz s_88 = 121 := by rw [e_89]; exact q_71
              have w_114 := gz_w (0 + 1)
              have e_115 : gp_wr (0 + 1) = 1 := by omega
              try rw [e_115]
              refine ⟨25, rfl, ?_⟩
              refine ⟨rfl, ?_⟩
              try rw [show gp_R (gp_mk L s_88) 25 2 = some 27 from rfl]
              refine ⟨27, rfl, ?_⟩
              refine ⟨⟨rfl, by show 0 ≤ 0 ∧ 0 < 1; omega⟩, ?_⟩
              try rw [xr27 hs_90 ((0 : Int).toNat)]
              have e_116 : gp_cmp (0#64) (0#64) = 0 := by decide
              try rw [e_116]
              refine ⟨fun h_117 => ?_, fun h_117 => ?_⟩
              · refine ⟨rfl, ?_⟩
                try rw [show gp_R (gp_mk L s_88) 25 4 = some 29 from rfl]
                refine ⟨29, rfl, ?_⟩
                refine ⟨⟨rfl, by show 0 ≤ 0 ∧ 0 < 1; omega⟩, ?_⟩
                have f_118 := xr29 hs_90 ((0 : Int).toNat)
                have e_119 : gp_I s_88 29 (0 : Int).toNat = 0 := by omega
                try rw [e_119]
                refine s_772_134 _ _ _ _ _ _ _ _ ?_
                refine ⟨by omega, ?_⟩
                intro s_121 e_122
                have hs_123 : xM z s_121 := by rw [e_122]; exact xw33 hs_90 _ _ (by omega)
                have q_124 : gp_I s_121 1 2 = 0 := by rw [e_122]; exact q_91
                have q_125 : gp_I s_121 1 6 = 0 := by rw [e_122]; exact q_92
                have q_126 : gp_I s_121 1 7 = 1 := by rw [e_122]; exact q_93
                have q_127 : gp_I s_121 117 0 = 0 := by rw [e_122]; exact q_94
                have q_128 : gp_I s_121 118 0 = 0 := by rw [e_122]; exact q_95
                have q_129 : gp_I s_121 119 0 = 0 := by rw [e_122]; exact q_96
                have q_130 : gp_I s_121 120 0 = 0 := by rw [e_122]; exact q_97
                have q_131 : gp_I s_121 51 8 = 0 := by rw [e_122]; exact q_98
                have q_132 : gp_I s_121 57 1 = 0 := by rw [e_122]; exact q_99
                have q_133 : gp_I s_121 57 3 = 0 := by rw [e_122]; exact q_100
                have q_134 : gp_R s_121 25 6 = some 117 := by rw [e_122]; exact q_101
                have q_135 : gp_R s_121 25 7 = some 118 := by rw [e_122]; exact q_102
                have q_136 : gp_R s_121 25 8 = some 119 := by rw [e_122]; exact q_103
                have q_137 : gp_R s_121 25 9 = some 120 := by rw [e_122]; exact q_104
                have q_138 : ∀ k, k < 8 → gp_R s_121 4 k = some 25 := by rw [e_122]; exact q_105
                have q_139 : gp_R s_121 51 6 = some 55 := by rw [e_122]; exact q_106
                have q_140 : gp_R s_121 51 7 = some 56 := by rw [e_122]; exact q_107
                have q_141 : gp_sh s_121 117 = (100, 1) := by rw [e_122]; exact q_108
                have q_142 : gp_sh s_121 118 = (100, 1) := by rw [e_122]; exact q_109
                have q_143 : gp_sh s_121 119 = (100, 1) := by rw [e_122]; exact q_110
                have q_144 : gp_sh s_121 120 = (100, 1) := by rw [e_122]; exact q_111
                have q_145 : gp_us s_121 = 606899 := by rw [e_122]; exact q_112
                have q_146 : gp_sz s_121 = 121 := by rw [e_122]; exact q_113
                have w_147 := gz_w (1 + 1)
                have e_148 : gp_wr (1 + 1) = 2 := by omega
                try rw [e_148]
                refine s_772_9 _ _ _ _ _ _ ?_
                refine ⟨fun h_150 => ?_, fun h_150 => ?_⟩
                · exact k s_121 hs_123 (by omega) (by omega) (by omega) (by omega) (by omega) (by omega) (by omega) (by omega) (by omega) (by omega) q_134 q_135 q_136 q_137 q_138 q_139 q_140 q_141 q_142 q_143 q_144 q_145 q_146
                · exfalso; omega
              · exfalso; omega
            · exfalso; omega
        · exfalso; omega
      · exfalso; omega
set_option maxRecDepth 100000 in
/-- Measures.lowestOf [0, 34, (0, 0)] -/
theorem zx775_2 {z : gH} {L d : Nat} {K : Option gV → gH → Prop} {s : gH}  (hs : xM z s)  (q0 : gp_I s 1 2 = 0) (q1 : gp_I s 1 6 = 0) (q2 : gp_I s 1 7 = 1) (q3 : gp_I s 117 0 = 0) (q4 : gp_I s 118 0 = 0) (q5 : gp_I s 119 0 = 0) (q6 : gp_I s 120 0 = 0) (q7 : gp_I s 51 8 = 0) (q8 : gp_I s 57 1 = 0) (q9 : gp_I s 57 3 = 0) (q10 : gp_R s 25 6 = some 117) (q11 : gp_R s 25 7 = some 118) (q12 : gp_R s 25 8 = some 119) (q13 : gp_R s 25 9 = some 120) (q14 : ∀ k, k < 8 → gp_R s 4 k = some 25) (q15 : gp_R s 51 6 = some 55) (q16 : gp_R s 51 7 = some 56) (q17 : gp_sh s 117 = (100, 1)) (q18 : gp_sh s 118 = (100, 1)) (q19 : gp_sh s 119 = (100, 1)) (q20 : gp_sh s 120 = (100, 1)) (k : K (some (gp_i 2147483647)) s) : gs_C L (d + 1) 775 7 [gp_l (0#64), gp_r (some 34), gp_i 0] s K := by
  refine s_775_e _ _ _ ?_
  refine s_775_7 _ _ _ _ _ ?_
  have e_2 : gp_cmp (0#64) (0#64) = 0 := by decide
  try rw [e_2]
  refine ⟨fun h_3 => ?_, fun h_3 => ?_⟩
  · exact k
  · exfalso; omega
set_option maxRecDepth 100000 in
/-- Measures.lowestOf [0, 34, (1, 1)] -/
theorem zx775_3 {z : gH} {L d : Nat} {K : Option gV → gH → Prop} {s : gH}  (hs : xM z s)  (q0 : gp_I s 1 2 = 0) (q1 : gp_I s 1 6 = 0) (q2 : gp_I s 1 7 = 1) (q3 : gp_I s 117 0 = 0) (q4 : gp_I s 118 0 = 0) (q5 : gp_I s 119 0 = 0) (q6 : gp_I s 120 0 = 0) (q7 : gp_I s 51 8 = 0) (q8 : gp_I s 57 1 = 0) (q9 : gp_I s 57 3 = 0) (q10 : gp_R s 25 6 = some 117) (q11 : gp_R s 25 7 = some 118) (q12 : gp_R s 25 8 = some 119) (q13 : gp_R s 25 9 = some 120) (q14 : ∀ k, k < 8 → gp_R s 4 k = some 25) (q15 : gp_R s 51 6 = some 55) (q16 : gp_R s 51 7 = some 56) (q17 : gp_sh s 117 = (100, 1)) (q18 : gp_sh s 118 = (100, 1)) (q19 : gp_sh s 119 = (100, 1)) (q20 : gp_sh s 120 = (100, 1)) (k : K (some (gp_i 2147483647)) s) : gs_C L (d + 1) 775 7 [gp_l (0#64), gp_r (some 34), gp_i 1] s K := by
  refine s_775_e _ _ _ ?_
  refine s_775_7 _ _ _ _ _ ?_
  have e_2 : gp_cmp (0#64) (0#64) = 0 := by decide
  try rw [e_2]
  refine ⟨fun h_3 => ?_, fun h_3 => ?_⟩
  · exact k
  · exfalso; omega
set_option maxRecDepth 100000 in
/-- Measures.addNegatives [25, (0, 0), (1, 1)] -/
theorem zx773_1 {z : gH} {L d : Nat} {K : Option gV → gH → Prop} {s : gH}  (hs : xM z s)  (q0 : gp_I s 1 2 = 0) (q1 : gp_I s 1 6 = 0) (q2 : gp_I s 1 7 = 1) (q3 : gp_I s 117 0 = 0) (q4 : gp_I s 118 0 = 0) (q5 : gp_I s 119 0 = 0) (q6 : gp_I s 120 0 = 0) (q7 : gp_I s 51 8 = 0) (q8 : gp_I s 57 1 = 0) (q9 : gp_I s 57 3 = 0) (q10 : gp_R s 25 6 = some 117) (q11 : gp_R s 25 7 = some 118) (q12 : gp_R s 25 8 = some 119) (q13 : gp_R s 25 9 = some 120) (q14 : ∀ k, k < 8 → gp_R s 4 k = some 25) (q15 : gp_R s 51 6 = some 55) (q16 : gp_R s 51 7 = some 56) (q17 : gp_sh s 117 = (100, 1)) (q18 : gp_sh s 118 = (100, 1)) (q19 : gp_sh s 119 = (100, 1)) (q20 : gp_sh s 120 = (100, 1)) (q21 : gp_us s = 606899) (q22 : gp_sz s = 121) (k : ∀ (t : gH), xM z t → (gp_I t 1 2 = 0) → (gp_I t 1 6 = 0) → (gp_I t 1 7 = 1) → (gp_I t 117 0 = 0) → (gp_I t 118 0 = 0) → (gp_I t 119 0 = 0) → (gp_I t 120 0 = 0) → (gp_I t 51 8 = 0) → (gp_I t 57 1 = 0) → (gp_I t 57 3 = 0) → (gp_R t 25 6 = some 117) → (gp_R t 25 7 = some 118) → (gp_R t 25 8 = some 119) → (gp_R t 25 9 = some 120) → (∀ k, k < 8 → gp_R t 4 k = some 25) → (gp_R t 51 6 = some 55) → (gp_R t 51 7 = some 56) → (gp_sh t 117 = (100, 1)) → (gp_sh t 118 = (100, 1)) → (gp_sh t 119 = (100, 1)) → (gp_sh t 120 = (100, 1)) → (gp_us t = 606899) → (gp_sz t = 121) → K none t) : gs_C L (d + 2) 773 7 [gp_r (some 31), gp_r (some 25), gp_i 0, gp_i 1] s K := by
  refine s_773_e _ _ _ ?_
  have w_1 := gz_w (0 * 61)
  have e_2 : gp_wr (0 * 61) = 0 := by omega
  try rw [e_2]
  refine s_773_9 _ _ _ _ _ _ ?_
  refine ⟨fun h_4 => ?_, fun h_4 => ?_⟩
  · exfalso; omega
  · refine ⟨25, rfl, ?_⟩
    refine ⟨rfl, ?_⟩
    try rw [show gp_R (gp_mk L s) 25 2 = some 27 from rfl]
    refine ⟨27, rfl, ?_⟩
    refine ⟨⟨rfl, by show 0 ≤ 0 ∧ 0 < 1; omega⟩, ?_⟩
    try rw [xr27 hs ((0 : Int).toNat)]
    refine zx775_2 hs (by omega) (by omega) (by omega) (by omega) (by omega) (by omega) (by omega) (by omega) (by omega) (by omega) q10 q11 q12 q13 q14 q15 q16 q17 q18 q19 q20 (⟨_, rfl, ?_⟩)
    refine ⟨fun h_5 => ?_, fun h_5 => ?_⟩
    · exfalso; omega
    · refine ⟨rfl, ?_⟩
      try rw [show gp_R (gp_mk L s) 25 2 = some 27 from rfl]
      refine ⟨27, rfl, ?_⟩
      refine ⟨⟨rfl, by show 0 ≤ 0 ∧ 0 < 1; omega⟩, ?_⟩
      try rw [xr27 hs ((0 : Int).toNat)]
      have e_6 : gp_cmp (0#64) (0#64) = 0 := by decide
      try rw [e_6]
      refine ⟨fun h_7 => ?_, fun h_7 => ?_⟩
      · refine ⟨rfl, ?_⟩
        try rw [show gp_R (gp_mk L s) 25 4 = some 29 from rfl]
        refine ⟨29, rfl, ?_⟩
        refine ⟨⟨rfl, by show 0 ≤ 0 ∧ 0 < 1; omega⟩, ?_⟩
        have f_8 := xr29 hs ((0 : Int).toNat)
        have e_9 : gp_I s 29 (0 : Int).toNat = 0 := by omega
        try rw [e_9]
        refine s_773_78 _ _ _ _ _ _ ?_
        have w_11 := gz_w (0 + 0)
        have e_12 : gp_wr (0 + 0) = 0 := by omega
        try rw [e_12]
        refine ⟨by omega, ?_⟩
        intro s_13 e_14
        have hs_15 : xM z s_13 := by rw [e_14]; exact xw35 hs _ _ (by omega)
        have q_16 : gp_I s_13 1 2 = 0 := by rw [e_14]; exact q0
        have q_17 : gp_I s_13 1 6 = 0 := by rw [e_14]; exact q1
        have q_18 : gp_I s_13 1 7 = 1 := by rw [e_14]; exact q2
        have q_19 : gp_I s_13 117 0 = 0 := by rw [e_14]; exact q3
        have q_20 : gp_I s_13 118 0 = 0 := by rw [e_14]; exact q4
        have q_21 : gp_I s_13 119 0 = 0 := by rw [e_14]; exact q5
        have q_22 : gp_I s_13 120 0 = 0 := by rw [e_14]; exact q6
        have q_23 : gp_I s_13 51 8 = 0 := by rw [e_14]; exact q7
        have q_24 : gp_I s_13 57 1 = 0 := by rw [e_14]; exact q8
        have q_25 : gp_I s_13 57 3 = 0 := by rw [e_14]; exact q9
        have q_26 : gp_R s_13 25 6 = some 117 := by rw [e_14]; exact q10
        have q_27 : gp_R s_13 25 7 = some 118 := by rw [e_14]; exact q11
        have q_28 : gp_R s_13 25 8 = some 119 := by rw [e_14]; exact q12
        have q_29 : gp_R s_13 25 9 = some 120 := by rw [e_14]; exact q13
        have q_30 : ∀ k, k < 8 → gp_R s_13 4 k = some 25 := by rw [e_14]; exact q14
        have q_31 : gp_R s_13 51 6 = some 55 := by rw [e_14]; exact q15
        have q_32 : gp_R s_13 51 7 = some 56 := by rw [e_14]; exact q16
        have q_33 : gp_sh s_13 117 = (100, 1) := by rw [e_14]; exact q17
        have q_34 : gp_sh s_13 118 = (100, 1) := by rw [e_14]; exact q18
        have q_35 : gp_sh s_13 119 = (100, 1) := by rw [e_14]; exact q19
        have q_36 : gp_sh s_13 120 = (100, 1) := by rw [e_14]; exact q20
        have q_37 : gp_us s_13 = 606899 := by rw [e_14]; exact q21
        have q_38 : gp_sz s_13 = 121 := by rw [e_14]; exact q22
        have w_39 := gz_w (0 + 0)
        have e_40 : gp_wr (0 + 0) = 0 := by omega
        try rw [e_40]
        refine ⟨25, rfl, ?_⟩
        refine ⟨rfl, ?_⟩
        try rw [show gp_R (gp_mk L s_13) 25 1 = some 26 from rfl]
        refine ⟨26, rfl, ?_⟩
        refine ⟨⟨rfl, by show 0 ≤ 0 ∧ 0 < 1; omega⟩, ?_⟩
        try rw [xr26 hs_15 ((0 : Int).toNat)]
        have e_41 : gp_cmp (0#64) (0#64) = 0 := by decide
        try rw [e_41]
        refine ⟨fun h_42 => ?_, fun h_42 => ?_⟩
        · refine ⟨rfl, ?_⟩
          try rw [show gp_R (gp_mk L s_13) 25 3 = some 28 from rfl]
          refine ⟨28, rfl, ?_⟩
          refine ⟨⟨rfl, by show 0 ≤ 0 ∧ 0 < 1; omega⟩, ?_⟩
          have f_43 := xr28 hs_15 ((0 : Int).toNat)
          have e_44 : gp_I s_13 28 (0 : Int).toNat = 0 := by omega
          try rw [e_44]
          refine s_773_134 _ _ _ _ _ _ _ _ ?_
          refine ⟨by omega, ?_⟩
          intro s_46 e_47
          have hs_48 : xM z s_46 := by rw [e_47]; exact xw34 hs_15 _ _ (by omega)
          have q_49 : gp_I s_46 1 2 = 0 := by rw [e_47]; exact q_16
          have q_50 : gp_I s_46 1 6 = 0 := by rw [e_47]; exact q_17
          have q_51 : gp_I s_46 1 7 = 1 := by rw [e_47]; exact q_18
          have q_52 : gp_I s_46 117 0 = 0 := by rw [e_47]; exact q_19
          have q_53 : gp_I s_46 118 0 = 0 := by rw [e_47]; exact q_20
          have q_54 : gp_I s_46 119 0 = 0 := by rw [e_47]; exact q_21
          have q_55 : gp_I s_46 120 0 = 0 := by rw [e_47]; exact q_22
          have q_56 : gp_I s_46 51 8 = 0 := by rw [e_47]; exact q_23
          have q_57 : gp_I s_46 57 1 = 0 := by rw [e_47]; exact q_24
          have q_58 : gp_I s_46 57 3 = 0 := by rw [e_47]; exact q_25
          have q_59 : gp_R s_46 25 6 = some 117 := by rw [e_47]; exact q_26
          have q_60 : gp_R s_46 25 7 = some 118 := by rw [e_47]; exact q_27
          have q_61 : gp_R s_46 25 8 = some 119 := by rw [e_47]; exact q_28
          have q_62 : gp_R s_46 25 9 = some 120 := by rw [e_47]; exact q_29
          have q_63 : ∀ k, k < 8 → gp_R s_46 4 k = some 25 := by rw [e_47]; exact q_30
          have q_64 : gp_R s_46 51 6 = some 55 := by rw [e_47]; exact q_31
          have q_65 : gp_R s_46 51 7 = some 56 := by rw [e_47]; exact q_32
          have q_66 : gp_sh s_46 117 = (100, 1) := by rw [e_47]; exact q_33
          have q_67 : gp_sh s_46 118 = (100, 1) := by rw [e_47]; exact q_34
          have q_68 : gp_sh s_46 119 = (100, 1) := by rw [e_47]; exact q_35
          have q_69 : gp_sh s_46 120 = (100, 1) := by rw [e_47]; exact q_36
          have q_70 : gp_us s_46 = 606899 := by rw [e_47]; exact q_37
          have q_71 : gp_sz s_46 = 121 := by rw [e_47]; exact q_38
          have w_72 := gz_w (0 + 1)
          have e_73 : gp_wr (0 + 1) = 1 := by omega
          try rw [e_73]
          refine s_773_9 _ _ _ _ _ _ ?_
          refine ⟨fun h_75 => ?_, fun h_75 => ?_⟩
          · exfalso; omega
          · refine ⟨25, rfl, ?_⟩
            refine ⟨rfl, ?_⟩
            try rw [show gp_R (gp_mk L s_46) 25 2 = some 27 from rfl]
            refine ⟨27, rfl, ?_⟩
            refine ⟨⟨rfl, by show 0 ≤ 0 ∧ 0 < 1; omega⟩, ?_⟩
            try rw [xr27 hs_48 ((0 : Int).toNat)]
            refine zx775_3 hs_48 (by omega) (by omega) (by omega) (by omega) (by omega) (by omega) (by omega) (by omega) (by omega) (by omega) q_59 q_60 q_61 q_62 q_63 q_64 q_65 q_66 q_67 q_68 q_69 (⟨_, rfl, ?_⟩)
            refine ⟨fun h_76 => ?_, fun h_76 => ?_⟩
            · have w_77 := gz_w (0 + 1)
              have e_78 : gp_wr (0 + 1) = 1 := by omega
              try rw [e_78]
              have w_79 := gz_w (1 - 1)
              have e_80 : gp_wr (1 - 1) = 0 := by omega
              try rw [e_80]
              refine ⟨by omega, ?_⟩
              have f_81 := xr34 hs_48 ((0 : Int).toNat)
              have e_82 : gp_I s_46 34 (0 : Int).toNat = 0 := by omega
              try rw [e_82]
              have w_83 := gz_mi (2147483647) (0)
              have e_84 : gp_mi 2147483647 0 = 0 := by omega
              try rw [e_84]
              refine s_773_78 _ _ _ _ _ _ ?_
              have w_86 := gz_w (0 + 1)
              have e_87 : gp_wr (0 + 1) = 1 := by omega
              try rw [e_87]
              refine ⟨by omega, ?_⟩
              intro s_88 e_89
              have hs_90 : xM z s_88 := by rw [e_89]; exact xw35 hs_48 _ _ (by omega)
              have q_91 : gp_I s_88 1 2 = 0 := by rw [e_89]; exact q_49
              have q_92 : gp_I s_88 1 6 = 0 := by rw [e_89]; exact q_50
              have q_93 : gp_I s_88 1 7 = 1 := by rw [e_89]; exact q_51
              have q_94 : gp_I s_88 117 0 = 0 := by rw [e_89]; exact q_52
              have q_95 : gp_I s_88 118 0 = 0 := by rw [e_89]; exact q_53
              have q_96 : gp_I s_88 119 0 = 0 := by rw [e_89]; exact q_54
              have q_97 : gp_I s_88 120 0 = 0 := by rw [e_89]; exact q_55
              have q_98 : gp_I s_88 51 8 = 0 := by rw [e_89]; exact q_56
              have q_99 : gp_I s_88 57 1 = 0 := by rw [e_89]; exact q_57
              have q_100 : gp_I s_88 57 3 = 0 := by rw [e_89]; exact q_58
              have q_101 : gp_R s_88 25 6 = some 117 := by rw [e_89]; exact q_59
              have q_102 : gp_R s_88 25 7 = some 118 := by rw [e_89]; exact q_60
              have q_103 : gp_R s_88 25 8 = some 119 := by rw [e_89]; exact q_61
              have q_104 : gp_R s_88 25 9 = some 120 := by rw [e_89]; exact q_62
              have q_105 : ∀ k, k < 8 → gp_R s_88 4 k = some 25 := by rw [e_89]; exact q_63
              have q_106 : gp_R s_88 51 6 = some 55 := by rw [e_89]; exact q_64
              have q_107 : gp_R s_88 51 7 = some 56 := by rw [e_89]; exact q_65
              have q_108 : gp_sh s_88 117 = (100, 1) := by rw [e_89]; exact q_66
              have q_109 : gp_sh s_88 118 = (100, 1) := by rw [e_89]; exact q_67
              have q_110 : gp_sh s_88 119 = (100, 1) := by rw [e_89]; exact q_68
              have q_111 : gp_sh s_88 120 = (100, 1) := by rw [e_89]; exact q_69
              have q_112 : gp_us s_88 = 606899 := by rw [e_89]; exact q_70
              have q_113 : gp_sz s_88 = 121 := by rw [e_89]; exact q_71
              have w_114 := gz_w (0 + 1)
              have e_115 : gp_wr (0 + 1) = 1 := by omega
              try rw [e_115]
              refine ⟨25, rfl, ?_⟩
              refine ⟨rfl, ?_⟩
              try rw [show gp_R (gp_mk L s_88) 25 1 = some 26 from rfl]
              refine ⟨26, rfl, ?_⟩
              refine ⟨⟨rfl, by show 0 ≤ 0 ∧ 0 < 1; omega⟩, ?_⟩
              try rw [xr26 hs_90 ((0 : Int).toNat)]
              have e_116 : gp_cmp (0#64) (0#64) = 0 := by decide
              try rw [e_116]
              refine ⟨fun h_117 => ?_, fun h_117 => ?_⟩
              · refine ⟨rfl, ?_⟩
                try rw [show gp_R (gp_mk L s_88) 25 3 = some 28 from rfl]
                refine ⟨28, rfl, ?_⟩
                refine ⟨⟨rfl, by show 0 ≤ 0 ∧ 0 < 1; omega⟩, ?_⟩
                have f_118 := xr28 hs_90 ((0 : Int).toNat)
                have e_119 : gp_I s_88 28 (0 : Int).toNat = 0 := by omega
                try rw [e_119]
                refine s_773_134 _ _ _ _ _ _ _ _ ?_
                refine ⟨by omega, ?_⟩
                intro s_121 e_122
                have hs_123 : xM z s_121 := by rw [e_122]; exact xw34 hs_90 _ _ (by omega)
                have q_124 : gp_I s_121 1 2 = 0 := by rw [e_122]; exact q_91
                have q_125 : gp_I s_121 1 6 = 0 := by rw [e_122]; exact q_92
                have q_126 : gp_I s_121 1 7 = 1 := by rw [e_122]; exact q_93
                have q_127 : gp_I s_121 117 0 = 0 := by rw [e_122]; exact q_94
                have q_128 : gp_I s_121 118 0 = 0 := by rw [e_122]; exact q_95
                have q_129 : gp_I s_121 119 0 = 0 := by rw [e_122]; exact q_96
                have q_130 : gp_I s_121 120 0 = 0 := by rw [e_122]; exact q_97
                have q_131 : gp_I s_121 51 8 = 0 := by rw [e_122]; exact q_98
                have q_132 : gp_I s_121 57 1 = 0 := by rw [e_122]; exact q_99
                have q_133 : gp_I s_121 57 3 = 0 := by rw [e_122]; exact q_100
                have q_134 : gp_R s_121 25 6 = some 117 := by rw [e_122]; exact q_101
                have q_135 : gp_R s_121 25 7 = some 118 := by rw [e_122]; exact q_102
                have q_136 : gp_R s_121 25 8 = some 119 := by rw [e_122]; exact q_103
                have q_137 : gp_R s_121 25 9 = some 120 := by rw [e_122]; exact q_104
                have q_138 : ∀ k, k < 8 → gp_R s_121 4 k = some 25 := by rw [e_122]; exact q_105
                have q_139 : gp_R s_121 51 6 = some 55 := by rw [e_122]; exact q_106
                have q_140 : gp_R s_121 51 7 = some 56 := by rw [e_122]; exact q_107
                have q_141 : gp_sh s_121 117 = (100, 1) := by rw [e_122]; exact q_108
                have q_142 : gp_sh s_121 118 = (100, 1) := by rw [e_122]; exact q_109
                have q_143 : gp_sh s_121 119 = (100, 1) := by rw [e_122]; exact q_110
                have q_144 : gp_sh s_121 120 = (100, 1) := by rw [e_122]; exact q_111
                have q_145 : gp_us s_121 = 606899 := by rw [e_122]; exact q_112
                have q_146 : gp_sz s_121 = 121 := by rw [e_122]; exact q_113
                have w_147 := gz_w (1 + 1)
                have e_148 : gp_wr (1 + 1) = 2 := by omega
                try rw [e_148]
                refine s_773_9 _ _ _ _ _ _ ?_
                refine ⟨fun h_150 => ?_, fun h_150 => ?_⟩
                · exact k s_121 hs_123 (by omega) (by omega) (by omega) (by omega) (by omega) (by omega) (by omega) (by omega) (by omega) (by omega) q_134 q_135 q_136 q_137 q_138 q_139 q_140 q_141 q_142 q_143 q_144 q_145 q_146
                · exfalso; omega
              · exfalso; omega
            · exfalso; omega
        · exfalso; omega
      · exfalso; omega
set_option maxRecDepth 100000 in
/-- Measures.measure [25, (0, 0), (1, 1)] -/
theorem zx771_1 {z : gH} {L d : Nat} {K : Option gV → gH → Prop} {s : gH}  (hs : xM z s)  (q0 : gp_I s 1 2 = 0) (q1 : gp_I s 1 6 = 0) (q2 : gp_I s 1 7 = 1) (q3 : gp_I s 117 0 = 0) (q4 : gp_I s 118 0 = 0) (q5 : gp_I s 119 0 = 0) (q6 : gp_I s 120 0 = 0) (q7 : gp_I s 51 8 = 0) (q8 : gp_I s 57 1 = 0) (q9 : gp_I s 57 3 = 0) (q10 : gp_R s 25 6 = some 117) (q11 : gp_R s 25 7 = some 118) (q12 : gp_R s 25 8 = some 119) (q13 : gp_R s 25 9 = some 120) (q14 : ∀ k, k < 8 → gp_R s 4 k = some 25) (q15 : gp_R s 51 6 = some 55) (q16 : gp_R s 51 7 = some 56) (q17 : gp_sh s 117 = (100, 1)) (q18 : gp_sh s 118 = (100, 1)) (q19 : gp_sh s 119 = (100, 1)) (q20 : gp_sh s 120 = (100, 1)) (q21 : gp_us s = 606899) (q22 : gp_sz s = 121) (k : ∀ (t : gH), xM z t → (gp_I t 1 2 = 0) → (gp_I t 1 6 = 0) → (gp_I t 1 7 = 1) → (gp_I t 117 0 = 0) → (gp_I t 118 0 = 0) → (gp_I t 119 0 = 0) → (gp_I t 120 0 = 0) → (gp_I t 51 8 = 0) → (gp_I t 57 1 = 0) → (gp_I t 57 3 = 0) → (gp_R t 25 6 = some 117) → (gp_R t 25 7 = some 118) → (gp_R t 25 8 = some 119) → (gp_R t 25 9 = some 120) → (∀ k, k < 8 → gp_R t 4 k = some 25) → (gp_R t 51 6 = some 55) → (gp_R t 51 7 = some 56) → (gp_sh t 117 = (100, 1)) → (gp_sh t 118 = (100, 1)) → (gp_sh t 119 = (100, 1)) → (gp_sh t 120 = (100, 1)) → (gp_us t = 606899) → (gp_sz t = 121) → K none t) : gs_C L (d + 3) 771 6 [gp_r (some 31), gp_r (some 25), gp_i 0, gp_i 1] s K := by
  refine s_771_e _ _ _ ?_
  refine zx772_1 hs (by omega) (by omega) (by omega) (by omega) (by omega) (by omega) (by omega) (by omega) (by omega) (by omega) q10 q11 q12 q13 q14 q15 q16 q17 q18 q19 q20 q21 q22 (fun s_1 hs_2 q_3 q_4 q_5 q_6 q_7 q_8 q_9 q_10 q_11 q_12 q_13 q_14 q_15 q_16 q_17 q_18 q_19 q_20 q_21 q_22 q_23 q_24 q_25 => ⟨rfl, ?_⟩)
  refine zx773_1 hs_2 (by omega) (by omega) (by omega) (by omega) (by omega) (by omega) (by omega) (by omega) (by omega) (by omega) q_13 q_14 q_15 q_16 q_17 q_18 q_19 q_20 q_21 q_22 q_23 q_24 q_25 (fun s_26 hs_27 q_28 q_29 q_30 q_31 q_32 q_33 q_34 q_35 q_36 q_37 q_38 q_39 q_40 q_41 q_42 q_43 q_44 q_45 q_46 q_47 q_48 q_49 q_50 => ⟨rfl, ?_⟩)
  have w_51 := gz_w (0 * 61)
  have e_52 : gp_wr (0 * 61) = 0 := by omega
  try rw [e_52]
  refine ⟨25, rfl, ?_⟩
  refine ⟨rfl, ?_⟩
  try rw [show gp_R (gp_mk L s_26) 25 7 = some 118 from q_39]
  refine ⟨by omega, ?_⟩
  have f_53 := xr33 hs_27 ((0 : Int).toNat)
  have e_54 : gp_I s_26 33 (0 : Int).toNat = 0 := by omega
  try rw [e_54]
  refine ⟨118, rfl, ?_⟩
  refine ⟨⟨by show (gp_sh s_26 118).1 = 100; rw [q_46], by omega, by show 0 < ((gp_sh s_26 118).2 : Int); rw [q_46]; show 0 < 1; omega⟩, ?_⟩
  intro s_55 e_56
  have hs_57 : xM z s_55 := by rw [e_56]; exact xI.wId hs_27 _ _ _ (by omega)
  have q_58 : gp_I s_55 1 2 = 0 := by rw [e_56]; exact q_28
  have q_59 : gp_I s_55 1 6 = 0 := by rw [e_56]; exact q_29
  have q_60 : gp_I s_55 1 7 = 1 := by rw [e_56]; exact q_30
  have q_61 : gp_I s_55 117 0 = 0 := by rw [e_56]; exact q_31
  have q_62 : gp_I s_55 119 0 = 0 := by rw [e_56]; exact q_33
  have q_63 : gp_I s_55 120 0 = 0 := by rw [e_56]; exact q_34
  have q_64 : gp_I s_55 51 8 = 0 := by rw [e_56]; exact q_35
  have q_65 : gp_I s_55 57 1 = 0 := by rw [e_56]; exact q_36
  have q_66 : gp_I s_55 57 3 = 0 := by rw [e_56]; exact q_37
  have q_67 : gp_R s_55 25 6 = some 117 := by rw [e_56]; exact q_38
  have q_68 : gp_R s_55 25 7 = some 118 := by rw [e_56]; exact q_39
  have q_69 : gp_R s_55 25 8 = some 119 := by rw [e_56]; exact q_40
  have q_70 : gp_R s_55 25 9 = some 120 := by rw [e_56]; exact q_41
  have q_71 : ∀ k, k < 8 → gp_R s_55 4 k = some 25 := by rw [e_56]; exact q_42
  have q_72 : gp_R s_55 51 6 = some 55 := by rw [e_56]; exact q_43
  have q_73 : gp_R s_55 51 7 = some 56 := by rw [e_56]; exact q_44
  have q_74 : gp_sh s_55 117 = (100, 1) := by rw [e_56]; exact q_45
  have q_75 : gp_sh s_55 118 = (100, 1) := by rw [e_56]; exact q_46
  have q_76 : gp_sh s_55 119 = (100, 1) := by rw [e_56]; exact q_47
  have q_77 : gp_sh s_55 120 = (100, 1) := by rw [e_56]; exact q_48
  have q_78 : gp_us s_55 = 606899 := by rw [e_56]; exact q_49
  have q_79 : gp_sz s_55 = 121 := by rw [e_56]; exact q_50
  have q_80 : gp_I s_55 118 0 = 0 := by rw [e_56]; rfl
  refine ⟨rfl, ?_⟩
  try rw [show gp_R (gp_mk L s_55) 25 8 = some 119 from q_69]
  refine ⟨119, rfl, ?_⟩
  refine ⟨⟨by show (gp_sh s_55 119).1 = 100; rw [q_76], by omega, by show 0 < ((gp_sh s_55 119).2 : Int); rw [q_76]; show 0 < 1; omega⟩, ?_⟩
  intro s_82 e_83
  have hs_84 : xM z s_82 := by rw [e_83]; exact xI.wId hs_57 _ _ _ (by omega)
  have q_85 : gp_I s_82 1 2 = 0 := by rw [e_83]; exact q_58
  have q_86 : gp_I s_82 1 6 = 0 := by rw [e_83]; exact q_59
  have q_87 : gp_I s_82 1 7 = 1 := by rw [e_83]; exact q_60
  have q_88 : gp_I s_82 117 0 = 0 := by rw [e_83]; exact q_61
  have q_89 : gp_I s_82 120 0 = 0 := by rw [e_83]; exact q_63
  have q_90 : gp_I s_82 51 8 = 0 := by rw [e_83]; exact q_64
  have q_91 : gp_I s_82 57 1 = 0 := by rw [e_83]; exact q_65
  have q_92 : gp_I s_82 57 3 = 0 := by rw [e_83]; exact q_66
  have q_93 : gp_R s_82 25 6 = some 117 := by rw [e_83]; exact q_67
  have q_94 : gp_R s_82 25 7 = some 118 := by rw [e_83]; exact q_68
  have q_95 : gp_R s_82 25 8 = some 119 := by rw [e_83]; exact q_69
  have q_96 : gp_R s_82 25 9 = some 120 := by rw [e_83]; exact q_70
  have q_97 : ∀ k, k < 8 → gp_R s_82 4 k = some 25 := by rw [e_83]; exact q_71
  have q_98 : gp_R s_82 51 6 = some 55 := by rw [e_83]; exact q_72
  have q_99 : gp_R s_82 51 7 = some 56 := by rw [e_83]; exact q_73
  have q_100 : gp_sh s_82 117 = (100, 1) := by rw [e_83]; exact q_74
  have q_101 : gp_sh s_82 118 = (100, 1) := by rw [e_83]; exact q_75
  have q_102 : gp_sh s_82 119 = (100, 1) := by rw [e_83]; exact q_76
  have q_103 : gp_sh s_82 120 = (100, 1) := by rw [e_83]; exact q_77
  have q_104 : gp_us s_82 = 606899 := by rw [e_83]; exact q_78
  have q_105 : gp_sz s_82 = 121 := by rw [e_83]; exact q_79
  have q_106 : gp_I s_82 118 0 = 0 := by rw [e_83]; exact q_80
  have q_107 : gp_I s_82 119 0 = 0 := by rw [e_83]; rfl
  refine ⟨rfl, ?_⟩
  try rw [show gp_R (gp_mk L s_82) 25 6 = some 117 from q_93]
  refine ⟨by omega, ?_⟩
  have f_109 := xr34 hs_84 ((0 : Int).toNat)
  have e_110 : gp_I s_82 34 (0 : Int).toNat = 0 := by omega
  try rw [e_110]
  refine ⟨117, rfl, ?_⟩
  refine ⟨⟨by show (gp_sh s_82 117).1 = 100; rw [q_100], by omega, by show 0 < ((gp_sh s_82 117).2 : Int); rw [q_100]; show 0 < 1; omega⟩, ?_⟩
  intro s_111 e_112
  have hs_113 : xM z s_111 := by rw [e_112]; exact xI.wId hs_84 _ _ _ (by omega)
  have q_114 : gp_I s_111 1 2 = 0 := by rw [e_112]; exact q_85
  have q_115 : gp_I s_111 1 6 = 0 := by rw [e_112]; exact q_86
  have q_116 : gp_I s_111 1 7 = 1 := by rw [e_112]; exact q_87
  have q_117 : gp_I s_111 120 0 = 0 := by rw [e_112]; exact q_89
  have q_118 : gp_I s_111 51 8 = 0 := by rw [e_112]; exact q_90
  have q_119 : gp_I s_111 57 1 = 0 := by rw [e_112]; exact q_91
  have q_120 : gp_I s_111 57 3 = 0 := by rw [e_112]; exact q_92
  have q_121 : gp_R s_111 25 6 = some 117 := by rw [e_112]; exact q_93
  have q_122 : gp_R s_111 25 7 = some 118 := by rw [e_112]; exact q_94
  have q_123 : gp_R s_111 25 8 = some 119 := by rw [e_112]; exact q_95
  have q_124 : gp_R s_111 25 9 = some 120 := by rw [e_112]; exact q_96
  have q_125 : ∀ k, k < 8 → gp_R s_111 4 k = some 25 := by rw [e_112]; exact q_97
  have q_126 : gp_R s_111 51 6 = some 55 := by rw [e_112]; exact q_98
  have q_127 : gp_R s_111 51 7 = some 56 := by rw [e_112]; exact q_99
  have q_128 : gp_sh s_111 117 = (100, 1) := by rw [e_112]; exact q_100
  have q_129 : gp_sh s_111 118 = (100, 1) := by rw [e_112]; exact q_101
  have q_130 : gp_sh s_111 119 = (100, 1) := by rw [e_112]; exact q_102
  have q_131 : gp_sh s_111 120 = (100, 1) := by rw [e_112]; exact q_103
  have q_132 : gp_us s_111 = 606899 := by rw [e_112]; exact q_104
  have q_133 : gp_sz s_111 = 121 := by rw [e_112]; exact q_105
  have q_134 : gp_I s_111 118 0 = 0 := by rw [e_112]; exact q_106
  have q_135 : gp_I s_111 119 0 = 0 := by rw [e_112]; exact q_107
  have q_136 : gp_I s_111 117 0 = 0 := by rw [e_112]; rfl
  refine ⟨rfl, ?_⟩
  try rw [show gp_R (gp_mk L s_111) 25 9 = some 120 from q_124]
  refine ⟨120, rfl, ?_⟩
  refine ⟨⟨by show (gp_sh s_111 120).1 = 100; rw [q_131], by omega, by show 0 < ((gp_sh s_111 120).2 : Int); rw [q_131]; show 0 < 1; omega⟩, ?_⟩
  intro s_138 e_139
  have hs_140 : xM z s_138 := by rw [e_139]; exact xI.wId hs_113 _ _ _ (by omega)
  have q_141 : gp_I s_138 1 2 = 0 := by rw [e_139]; exact q_114
  have q_142 : gp_I s_138 1 6 = 0 := by rw [e_139]; exact q_115
  have q_143 : gp_I s_138 1 7 = 1 := by rw [e_139]; exact q_116
  have q_144 : gp_I s_138 51 8 = 0 := by rw [e_139]; exact q_118
  have q_145 : gp_I s_138 57 1 = 0 := by rw [e_139]; exact q_119
  have q_146 : gp_I s_138 57 3 = 0 := by rw [e_139]; exact q_120
  have q_147 : gp_R s_138 25 6 = some 117 := by rw [e_139]; exact q_121
  have q_148 : gp_R s_138 25 7 = some 118 := by rw [e_139]; exact q_122
  have q_149 : gp_R s_138 25 8 = some 119 := by rw [e_139]; exact q_123
  have q_150 : gp_R s_138 25 9 = some 120 := by rw [e_139]; exact q_124
  have q_151 : ∀ k, k < 8 → gp_R s_138 4 k = some 25 := by rw [e_139]; exact q_125
  have q_152 : gp_R s_138 51 6 = some 55 := by rw [e_139]; exact q_126
  have q_153 : gp_R s_138 51 7 = some 56 := by rw [e_139]; exact q_127
  have q_154 : gp_sh s_138 117 = (100, 1) := by rw [e_139]; exact q_128
  have q_155 : gp_sh s_138 118 = (100, 1) := by rw [e_139]; exact q_129
  have q_156 : gp_sh s_138 119 = (100, 1) := by rw [e_139]; exact q_130
  have q_157 : gp_sh s_138 120 = (100, 1) := by rw [e_139]; exact q_131
  have q_158 : gp_us s_138 = 606899 := by rw [e_139]; exact q_132
  have q_159 : gp_sz s_138 = 121 := by rw [e_139]; exact q_133
  have q_160 : gp_I s_138 118 0 = 0 := by rw [e_139]; exact q_134
  have q_161 : gp_I s_138 119 0 = 0 := by rw [e_139]; exact q_135
  have q_162 : gp_I s_138 117 0 = 0 := by rw [e_139]; exact q_136
  have q_163 : gp_I s_138 120 0 = 0 := by rw [e_139]; rfl
  refine s_771_63 _ _ _ _ _ ?_
  refine ⟨25, rfl, ?_⟩
  refine ⟨rfl, ?_⟩
  try rw [show gp_R (gp_mk L s_138) 25 5 = some 30 from rfl]
  refine ⟨30, rfl, ?_⟩
  refine ⟨⟨rfl, by show 0 ≤ 0 ∧ 0 < 1; omega⟩, ?_⟩
  have f_166 := xr30 hs_140 ((0 : Int).toNat)
  have e_167 : gp_I s_138 30 (0 : Int).toNat = 0 := by omega
  try rw [e_167]
  have w_168 := gz_w (0 + 1)
  have e_169 : gp_wr (0 + 1) = 1 := by omega
  try rw [e_169]
  refine ⟨fun h_170 => ?_, fun h_170 => ?_⟩
  · exfalso; omega
  · have w_171 := gz_w (0 + 1)
    have e_172 : gp_wr (0 + 1) = 1 := by omega
    try rw [e_172]
    refine ⟨by omega, ?_⟩
    have f_173 := xr33 hs_140 ((1 : Int).toNat)
    have e_174 : gp_I s_138 33 (1 : Int).toNat = 0 := by omega
    try rw [e_174]
    refine ⟨rfl, ?_⟩
    try rw [show gp_R (gp_mk L s_138) 25 7 = some 118 from q_148]
    refine ⟨118, rfl, ?_⟩
    refine ⟨⟨by show (gp_sh s_138 118).1 = 100; rw [q_155], by omega, by show 0 < ((gp_sh s_138 118).2 : Int); rw [q_155]; show 0 < 1; omega⟩, ?_⟩
    try rw [show gp_I s_138 118 (0 : Int).toNat = 0 from q_160]
    refine ⟨fun h_175 => ?_, fun h_175 => ?_⟩
    · exfalso; omega
    · refine s_771_119 _ _ _ _ _ ?_
      have w_177 := gz_w (0 + 1)
      have e_178 : gp_wr (0 + 1) = 1 := by omega
      try rw [e_178]
      refine ⟨by omega, ?_⟩
      have f_179 := xr34 hs_140 ((1 : Int).toNat)
      have e_180 : gp_I s_138 34 (1 : Int).toNat = 0 := by omega
      try rw [e_180]
      refine ⟨25, rfl, ?_⟩
      refine ⟨rfl, ?_⟩
      try rw [show gp_R (gp_mk L s_138) 25 6 = some 117 from q_147]
      refine ⟨117, rfl, ?_⟩
      refine ⟨⟨by show (gp_sh s_138 117).1 = 100; rw [q_154], by omega, by show 0 < ((gp_sh s_138 117).2 : Int); rw [q_154]; show 0 < 1; omega⟩, ?_⟩
      try rw [show gp_I s_138 117 (0 : Int).toNat = 0 from q_162]
      refine ⟨fun h_181 => ?_, fun h_181 => ?_⟩
      · exfalso; omega
      · refine s_771_162 _ _ _ _ _ ?_
        have w_183 := gz_w (1 + 1)
        have e_184 : gp_wr (1 + 1) = 2 := by omega
        try rw [e_184]
        refine s_771_63 _ _ _ _ _ ?_
        refine ⟨25, rfl, ?_⟩
        refine ⟨rfl, ?_⟩
        try rw [show gp_R (gp_mk L s_138) 25 5 = some 30 from rfl]
        refine ⟨30, rfl, ?_⟩
        refine ⟨⟨rfl, by show 0 ≤ 0 ∧ 0 < 1; omega⟩, ?_⟩
        have f_186 := xr30 hs_140 ((0 : Int).toNat)
        have e_187 : gp_I s_138 30 (0 : Int).toNat = 0 := by omega
        try rw [e_187]
        have w_188 := gz_w (0 + 1)
        have e_189 : gp_wr (0 + 1) = 1 := by omega
        try rw [e_189]
        refine ⟨fun h_190 => ?_, fun h_190 => ?_⟩
        · exact k s_138 hs_140 (by omega) (by omega) (by omega) (by omega) (by omega) (by omega) (by omega) (by omega) (by omega) (by omega) q_147 q_148 q_149 q_150 q_151 q_152 q_153 q_154 q_155 q_156 q_157 q_158 q_159
        · exfalso; omega
set_option maxRecDepth 100000 in
/-- Measures.bound [25] -/
theorem zx770_0 {z : gH} {L d : Nat} {K : Option gV → gH → Prop} {s : gH}  (hs : xM z s)  (q0 : gp_I s 1 2 = 0) (q1 : gp_I s 1 6 = 0) (q2 : gp_I s 1 7 = 1) (q3 : gp_I s 51 8 = 0) (q4 : gp_I s 57 1 = 0) (q5 : gp_I s 57 3 = 0) (q6 : gp_R s 25 6 = none) (q7 : gp_R s 25 7 = none) (q8 : gp_R s 25 8 = none) (q9 : gp_R s 25 9 = none) (q10 : ∀ k, k < 8 → gp_R s 4 k = some 25) (q11 : gp_R s 51 6 = some 55) (q12 : gp_R s 51 7 = some 56) (q13 : gp_us s = 606895) (q14 : gp_sz s = 117) (k : ∀ (t : gH), xM z t → (gp_I t 1 2 = 0) → (gp_I t 1 6 = 0) → (gp_I t 1 7 = 1) → (gp_I t 117 0 = 0) → (gp_I t 118 0 = 0) → (gp_I t 119 0 = 0) → (gp_I t 120 0 = 0) → (gp_I t 51 8 = 0) → (gp_I t 57 1 = 0) → (gp_I t 57 3 = 0) → (gp_R t 25 6 = some 117) → (gp_R t 25 7 = some 118) → (gp_R t 25 8 = some 119) → (gp_R t 25 9 = some 120) → (∀ k, k < 8 → gp_R t 4 k = some 25) → (gp_R t 51 6 = some 55) → (gp_R t 51 7 = some 56) → (gp_sh t 117 = (100, 1)) → (gp_sh t 118 = (100, 1)) → (gp_sh t 119 = (100, 1)) → (gp_sh t 120 = (100, 1)) → (gp_us t = 606899) → (gp_sz t = 121) → K none t) : gs_C L (d + 4) 770 4 [gp_r (some 31), gp_r (some 25)] s K := by
  refine s_770_e _ ?_
  refine ⟨25, rfl, ?_⟩
  refine ⟨rfl, ?_⟩
  try rw [show gp_R (gp_mk L s) 25 6 = none from q6]
  refine ⟨fun hq_1 => ?_, fun q_2 hq_1 => ?_⟩
  · refine ⟨rfl, ?_⟩
    refine zx2305_0 hs (by omega) (by omega) (by omega) (by omega) (by omega) (by omega) q6 q7 q8 q9 q10 q11 q12 q13 q14 (fun s_3 hs_4 q_5 q_6 q_7 q_8 q_9 q_10 q_11 q_12 q_13 q_14 q_15 q_16 q_17 q_18 q_19 q_20 q_21 q_22 q_23 q_24 q_25 q_26 q_27 => ⟨rfl, ?_⟩)
    refine ⟨rfl, ?_⟩
    try rw [show gp_R (gp_mk L s_3) 25 5 = some 30 from rfl]
    refine ⟨rfl, ?_⟩
    refine zx2306_1 hs_4 (by omega) (by omega) (by omega) (by omega) q_15 q_16 q_17 q_18 q_22 q_23 q_24 q_25 (⟨_, rfl, ?_⟩)
    refine ⟨30, rfl, ?_⟩
    refine ⟨⟨rfl, by show 0 ≤ 0 ∧ 0 < 1; omega⟩, ?_⟩
    have f_28 := xr30 hs_4 ((0 : Int).toNat)
    have e_29 : gp_I s_3 30 (0 : Int).toNat = 0 := by omega
    try rw [e_29]
    have w_30 := gz_w (0 + 1)
    have e_31 : gp_wr (0 + 1) = 1 := by omega
    try rw [e_31]
    refine s_770_25 _ _ _ ?_
    refine ⟨25, rfl, ?_⟩
    refine ⟨rfl, ?_⟩
    have f_33 := xr25_0 hs_4 0
    have e_34 : gp_I s_3 25 0 = 1 := by omega
    try rw [e_34]
    refine ⟨fun h_35 => ?_, fun h_35 => ?_⟩
    · refine zx771_1 hs_4 (by omega) (by omega) (by omega) (by omega) (by omega) (by omega) (by omega) (by omega) (by omega) (by omega) q_15 q_16 q_17 q_18 q_19 q_20 q_21 q_22 q_23 q_24 q_25 q_26 q_27 (fun s_36 hs_37 q_38 q_39 q_40 q_41 q_42 q_43 q_44 q_45 q_46 q_47 q_48 q_49 q_50 q_51 q_52 q_53 q_54 q_55 q_56 q_57 q_58 q_59 q_60 => ⟨rfl, ?_⟩)
      have w_61 := gz_w (0 + 1)
      have e_62 : gp_wr (0 + 1) = 1 := by omega
      try rw [e_62]
      refine s_770_25 _ _ _ ?_
      refine ⟨25, rfl, ?_⟩
      refine ⟨rfl, ?_⟩
      have f_64 := xr25_0 hs_37 0
      have e_65 : gp_I s_36 25 0 = 1 := by omega
      try rw [e_65]
      refine ⟨fun h_66 => ?_, fun h_66 => ?_⟩
      · exfalso; omega
      · refine s_770_46 _ _ _ ?_
        exact k s_36 hs_37 (by omega) (by omega) (by omega) (by omega) (by omega) (by omega) (by omega) (by omega) (by omega) (by omega) q_48 q_49 q_50 q_51 q_52 q_53 q_54 q_55 q_56 q_57 q_58 q_59 q_60
    · exfalso; omega
  · exact absurd hq_1 (by simp)
set_option maxRecDepth 100000 in
/-- Measures.bound [25] -/
theorem zx770_1 {z : gH} {L d : Nat} {K : Option gV → gH → Prop} {s : gH}  (hs : xM z s)  (q0 : gp_I s 1 2 = 0) (q1 : gp_I s 1 6 = 0) (q2 : gp_I s 1 7 = 1) (q3 : gp_I s 117 0 = 0) (q4 : gp_I s 118 0 = 0) (q5 : gp_I s 119 0 = 0) (q6 : gp_I s 120 0 = 0) (q7 : gp_I s 51 8 = 0) (q8 : gp_I s 57 1 = 0) (q9 : gp_I s 57 3 = 0) (q10 : gp_R s 25 6 = some 117) (q11 : gp_R s 25 7 = some 118) (q12 : gp_R s 25 8 = some 119) (q13 : gp_R s 25 9 = some 120) (q14 : ∀ k, k < 8 → gp_R s 4 k = some 25) (q15 : gp_R s 51 6 = some 55) (q16 : gp_R s 51 7 = some 56) (q17 : gp_sh s 117 = (100, 1)) (q18 : gp_sh s 118 = (100, 1)) (q19 : gp_sh s 119 = (100, 1)) (q20 : gp_sh s 120 = (100, 1)) (q21 : gp_us s = 606899) (q22 : gp_sz s = 121) (k : K none s) : gs_C L (d + 1) 770 4 [gp_r (some 31), gp_r (some 25)] s K := by
  refine s_770_e _ ?_
  refine ⟨25, rfl, ?_⟩
  refine ⟨rfl, ?_⟩
  try rw [show gp_R (gp_mk L s) 25 6 = some 117 from q10]
  refine ⟨fun hq_1 => ?_, fun q_2 hq_1 => ?_⟩
  · exact absurd hq_1 (by simp)
  · obtain rfl : q_2 = 117 := (Option.some.inj hq_1).symm
    refine s_770_46 _ _ _ ?_
    exact k
set_option maxRecDepth 100000 in
/-- Least.shown [38, 25, (0, 0), 25, (0, 0)] -/
theorem zx4_0 {z : gH} {L d : Nat} {K : Option gV → gH → Prop} {s : gH}  (hs : xM z s)  (q0 : gp_I s 1 2 = 0) (q1 : gp_I s 1 6 = 0) (q2 : gp_I s 1 7 = 1) (q3 : gp_I s 117 0 = 0) (q4 : gp_I s 118 0 = 0) (q5 : gp_I s 119 0 = 0) (q6 : gp_I s 120 0 = 0) (q7 : gp_I s 51 8 = 0) (q8 : gp_I s 57 1 = 0) (q9 : gp_I s 57 3 = 0) (q10 : gp_L s 39 0 = 0#64) (q11 : gp_L s 40 0 = 0#64) (q12 : gp_R s 25 6 = some 117) (q13 : gp_R s 25 7 = some 118) (q14 : gp_R s 25 8 = some 119) (q15 : gp_R s 25 9 = some 120) (q16 : ∀ k, k < 8 → gp_R s 4 k = some 25) (q17 : gp_R s 51 6 = some 55) (q18 : gp_R s 51 7 = some 56) (q19 : gp_sh s 117 = (100, 1)) (q20 : gp_sh s 118 = (100, 1)) (q21 : gp_sh s 119 = (100, 1)) (q22 : gp_sh s 120 = (100, 1)) (k : K (some (gp_i 1)) s) : gs_C L (d + 1) 4 8 [gp_r (some 38), gp_r (some 25), gp_i 0, gp_r (some 25), gp_i 0] s K := by
  refine s_4_e _ _ _ _ _ ?_
  refine ⟨25, rfl, ?_⟩
  refine ⟨rfl, ?_⟩
  try rw [show gp_R (gp_mk L s) 25 6 = some 117 from q12]
  refine ⟨117, rfl, ?_⟩
  refine ⟨⟨by show (gp_sh s 117).1 = 100; rw [q19], by omega, by show 0 < ((gp_sh s 117).2 : Int); rw [q19]; show 0 < 1; omega⟩, ?_⟩
  try rw [show gp_I s 117 (0 : Int).toNat = 0 from q3]
  refine ⟨25, rfl, ?_⟩
  refine ⟨rfl, ?_⟩
  try rw [show gp_R (gp_mk L s) 25 6 = some 117 from q12]
  refine ⟨117, rfl, ?_⟩
  refine ⟨⟨by show (gp_sh s 117).1 = 100; rw [q19], by omega, by show 0 < ((gp_sh s 117).2 : Int); rw [q19]; show 0 < 1; omega⟩, ?_⟩
  try rw [show gp_I s 117 (0 : Int).toNat = 0 from q3]
  refine ⟨fun h_1 => ?_, fun h_1 => ?_⟩
  · exfalso; omega
  · refine ⟨rfl, ?_⟩
    try rw [show gp_R (gp_mk L s) 25 7 = some 118 from q13]
    refine ⟨118, rfl, ?_⟩
    refine ⟨⟨by show (gp_sh s 118).1 = 100; rw [q20], by omega, by show 0 < ((gp_sh s 118).2 : Int); rw [q20]; show 0 < 1; omega⟩, ?_⟩
    try rw [show gp_I s 118 (0 : Int).toNat = 0 from q4]
    refine ⟨rfl, ?_⟩
    try rw [show gp_R (gp_mk L s) 25 7 = some 118 from q13]
    refine ⟨118, rfl, ?_⟩
    refine ⟨⟨by show (gp_sh s 118).1 = 100; rw [q20], by omega, by show 0 < ((gp_sh s 118).2 : Int); rw [q20]; show 0 < 1; omega⟩, ?_⟩
    try rw [show gp_I s 118 (0 : Int).toNat = 0 from q4]
    refine ⟨fun h_2 => ?_, fun h_2 => ?_⟩
    · exfalso; omega
    · refine ⟨rfl, ?_⟩
      try rw [show gp_R (gp_mk L s) 25 1 = some 26 from rfl]
      refine ⟨26, rfl, ?_⟩
      refine ⟨⟨rfl, by show 0 ≤ 0 ∧ 0 < 1; omega⟩, ?_⟩
      try rw [xr26 hs ((0 : Int).toNat)]
      refine s_4_43 _ _ _ _ _ _ _ ?_
      have e_6 : gp_cmp (0#64) (0#64) = 0 := by decide
      try rw [e_6]
      refine ⟨fun h_7 => ?_, fun h_7 => ?_⟩
      · refine ⟨25, rfl, ?_⟩
        refine ⟨rfl, ?_⟩
        try rw [show gp_R (gp_mk L s) 25 2 = some 27 from rfl]
        refine ⟨27, rfl, ?_⟩
        refine ⟨⟨rfl, by show 0 ≤ 0 ∧ 0 < 1; omega⟩, ?_⟩
        try rw [xr27 hs ((0 : Int).toNat)]
        refine s_4_117 _ _ _ _ _ _ _ ?_
        have e_11 : gp_cmp (0#64) (0#64) = 0 := by decide
        try rw [e_11]
        refine ⟨fun h_12 => ?_, fun h_12 => ?_⟩
        · exact k
        · exfalso; omega
      · exfalso; omega
set_option maxRecDepth 100000 in
/-- Least.note [38, (0, 0), (0, 0)] -/
theorem zx3_1 {z : gH} {L d : Nat} {K : Option gV → gH → Prop} {s : gH}  (hs : xM z s)  (q0 : gp_I s 1 2 = 0) (q1 : gp_I s 1 6 = 0) (q2 : gp_I s 1 7 = 1) (q3 : gp_I s 117 0 = 0) (q4 : gp_I s 118 0 = 0) (q5 : gp_I s 119 0 = 0) (q6 : gp_I s 120 0 = 0) (q7 : gp_I s 51 8 = 0) (q8 : gp_I s 57 1 = 0) (q9 : gp_I s 57 3 = 0) (q10 : gp_L s 39 0 = 0#64) (q11 : gp_L s 40 0 = 0#64) (q12 : gp_R s 25 6 = some 117) (q13 : gp_R s 25 7 = some 118) (q14 : gp_R s 25 8 = some 119) (q15 : gp_R s 25 9 = some 120) (q16 : ∀ k, k < 8 → gp_R s 4 k = some 25) (q17 : gp_R s 51 6 = some 55) (q18 : gp_R s 51 7 = some 56) (q19 : gp_sh s 117 = (100, 1)) (q20 : gp_sh s 118 = (100, 1)) (q21 : gp_sh s 119 = (100, 1)) (q22 : gp_sh s 120 = (100, 1)) (q23 : gp_us s = 606899) (q24 : gp_sz s = 121) (k : ∀ (t : gH), xM z t → (gp_I t 1 2 = 0) → (gp_I t 1 6 = 0) → (gp_I t 1 7 = 1) → (gp_I t 117 0 = 0) → (gp_I t 118 0 = 0) → (gp_I t 119 0 = 0) → (gp_I t 120 0 = 0) → (gp_I t 51 8 = 0) → (gp_I t 57 1 = 0) → (gp_I t 57 3 = 0) → (gp_L t 39 0 = 1#64) → (gp_L t 40 0 = 1#64) → (gp_R t 25 6 = some 117) → (gp_R t 25 7 = some 118) → (gp_R t 25 8 = some 119) → (gp_R t 25 9 = some 120) → (∀ k, k < 8 → gp_R t 4 k = some 25) → (gp_R t 51 6 = some 55) → (gp_R t 51 7 = some 56) → (gp_sh t 117 = (100, 1)) → (gp_sh t 118 = (100, 1)) → (gp_sh t 119 = (100, 1)) → (gp_sh t 120 = (100, 1)) → (gp_us t = 606899) → (gp_sz t = 121) → K none t) : gs_C L d 3 3 [gp_r (some 38), gp_i 0, gp_i 0] s K := by
  refine s_3_e _ _ _ ?_
  refine ⟨38, rfl, ?_⟩
  refine ⟨rfl, ?_⟩
  try rw [show gp_R (gp_mk L s) 38 0 = some 39 from rfl]
  refine ⟨39, rfl, ?_⟩
  refine ⟨⟨rfl, by show 0 ≤ 0 ∧ 0 < 61; omega⟩, ?_⟩
  try rw [show gp_L s 39 (0 : Int).toNat = 0#64 from q10]
  have e_1 : (1#64) <<< ((0 : Int) % 64).toNat = 1#64 := by decide
  try rw [e_1]
  have e_2 : (0#64) ||| (1#64) = 1#64 := by decide
  try rw [e_2]
  refine ⟨⟨rfl, by show 0 ≤ 0 ∧ 0 < 61; omega⟩, ?_⟩
  intro s_3 e_4
  have hs_5 : xM z s_3 := by rw [e_4]; exact xw39 hs _ _
  have q_6 : gp_I s_3 1 2 = 0 := by rw [e_4]; exact q0
  have q_7 : gp_I s_3 1 6 = 0 := by rw [e_4]; exact q1
  have q_8 : gp_I s_3 1 7 = 1 := by rw [e_4]; exact q2
  have q_9 : gp_I s_3 117 0 = 0 := by rw [e_4]; exact q3
  have q_10 : gp_I s_3 118 0 = 0 := by rw [e_4]; exact q4
  have q_11 : gp_I s_3 119 0 = 0 := by rw [e_4]; exact q5
  have q_12 : gp_I s_3 120 0 = 0 := by rw [e_4]; exact q6
  have q_13 : gp_I s_3 51 8 = 0 := by rw [e_4]; exact q7
  have q_14 : gp_I s_3 57 1 = 0 := by rw [e_4]; exact q8
  have q_15 : gp_I s_3 57 3 = 0 := by rw [e_4]; exact q9
  have q_16 : gp_L s_3 40 0 = 0#64 := by rw [e_4]; exact q11
  have q_17 : gp_R s_3 25 6 = some 117 := by rw [e_4]; exact q12
  have q_18 : gp_R s_3 25 7 = some 118 := by rw [e_4]; exact q13
  have q_19 : gp_R s_3 25 8 = some 119 := by rw [e_4]; exact q14
  have q_20 : gp_R s_3 25 9 = some 120 := by rw [e_4]; exact q15
  have q_21 : ∀ k, k < 8 → gp_R s_3 4 k = some 25 := by rw [e_4]; exact q16
  have q_22 : gp_R s_3 51 6 = some 55 := by rw [e_4]; exact q17
  have q_23 : gp_R s_3 51 7 = some 56 := by rw [e_4]; exact q18
  have q_24 : gp_sh s_3 117 = (100, 1) := by rw [e_4]; exact q19
  have q_25 : gp_sh s_3 118 = (100, 1) := by rw [e_4]; exact q20
  have q_26 : gp_sh s_3 119 = (100, 1) := by rw [e_4]; exact q21
  have q_27 : gp_sh s_3 120 = (100, 1) := by rw [e_4]; exact q22
  have q_28 : gp_us s_3 = 606899 := by rw [e_4]; exact q23
  have q_29 : gp_sz s_3 = 121 := by rw [e_4]; exact q24
  have q_30 : gp_L s_3 39 0 = 1#64 := by rw [e_4]; rfl
  refine ⟨rfl, ?_⟩
  try rw [show gp_R (gp_mk L s_3) 38 1 = some 40 from rfl]
  refine ⟨40, rfl, ?_⟩
  refine ⟨⟨rfl, by show 0 ≤ 0 ∧ 0 < 61; omega⟩, ?_⟩
  try rw [show gp_L s_3 40 (0 : Int).toNat = 0#64 from q_16]
  have e_31 : (1#64) <<< ((0 : Int) % 64).toNat = 1#64 := by decide
  try rw [e_31]
  have e_32 : (0#64) ||| (1#64) = 1#64 := by decide
  try rw [e_32]
  refine ⟨⟨rfl, by show 0 ≤ 0 ∧ 0 < 61; omega⟩, ?_⟩
  intro s_33 e_34
  have hs_35 : xM z s_33 := by rw [e_34]; exact xw40 hs_5 _ _
  have q_36 : gp_I s_33 1 2 = 0 := by rw [e_34]; exact q_6
  have q_37 : gp_I s_33 1 6 = 0 := by rw [e_34]; exact q_7
  have q_38 : gp_I s_33 1 7 = 1 := by rw [e_34]; exact q_8
  have q_39 : gp_I s_33 117 0 = 0 := by rw [e_34]; exact q_9
  have q_40 : gp_I s_33 118 0 = 0 := by rw [e_34]; exact q_10
  have q_41 : gp_I s_33 119 0 = 0 := by rw [e_34]; exact q_11
  have q_42 : gp_I s_33 120 0 = 0 := by rw [e_34]; exact q_12
  have q_43 : gp_I s_33 51 8 = 0 := by rw [e_34]; exact q_13
  have q_44 : gp_I s_33 57 1 = 0 := by rw [e_34]; exact q_14
  have q_45 : gp_I s_33 57 3 = 0 := by rw [e_34]; exact q_15
  have q_46 : gp_R s_33 25 6 = some 117 := by rw [e_34]; exact q_17
  have q_47 : gp_R s_33 25 7 = some 118 := by rw [e_34]; exact q_18
  have q_48 : gp_R s_33 25 8 = some 119 := by rw [e_34]; exact q_19
  have q_49 : gp_R s_33 25 9 = some 120 := by rw [e_34]; exact q_20
  have q_50 : ∀ k, k < 8 → gp_R s_33 4 k = some 25 := by rw [e_34]; exact q_21
  have q_51 : gp_R s_33 51 6 = some 55 := by rw [e_34]; exact q_22
  have q_52 : gp_R s_33 51 7 = some 56 := by rw [e_34]; exact q_23
  have q_53 : gp_sh s_33 117 = (100, 1) := by rw [e_34]; exact q_24
  have q_54 : gp_sh s_33 118 = (100, 1) := by rw [e_34]; exact q_25
  have q_55 : gp_sh s_33 119 = (100, 1) := by rw [e_34]; exact q_26
  have q_56 : gp_sh s_33 120 = (100, 1) := by rw [e_34]; exact q_27
  have q_57 : gp_us s_33 = 606899 := by rw [e_34]; exact q_28
  have q_58 : gp_sz s_33 = 121 := by rw [e_34]; exact q_29
  have q_59 : gp_L s_33 39 0 = 1#64 := by rw [e_34]; exact q_30
  have q_60 : gp_L s_33 40 0 = 1#64 := by rw [e_34]; rfl
  exact k s_33 hs_35 (by omega) (by omega) (by omega) (by omega) (by omega) (by omega) (by omega) (by omega) (by omega) (by omega) q_59 q_60 q_46 q_47 q_48 q_49 q_50 q_51 q_52 q_53 q_54 q_55 q_56 q_57 q_58
set_option maxRecDepth 100000 in
/-- GatheredPoints.has [1, (0, 0)] -/
theorem zx2862_2 {z : gH} {L d : Nat} {K : Option gV → gH → Prop} {s : gH}  (hs : xM z s)  (q0 : gp_I s 1 2 = 0) (q1 : gp_I s 1 6 = 0) (q2 : gp_I s 1 7 = 1) (q3 : gp_I s 117 0 = 0) (q4 : gp_I s 118 0 = 0) (q5 : gp_I s 119 0 = 0) (q6 : gp_I s 120 0 = 0) (q7 : gp_I s 51 8 = 0) (q8 : gp_I s 57 1 = 0) (q9 : gp_I s 57 3 = 0) (q10 : gp_R s 25 6 = some 117) (q11 : gp_R s 25 7 = some 118) (q12 : gp_R s 25 8 = some 119) (q13 : gp_R s 25 9 = some 120) (q14 : ∀ k, k < 8 → gp_R s 4 k = some 25) (q15 : gp_R s 51 6 = some 55) (q16 : gp_R s 51 7 = some 56) (q17 : gp_sh s 117 = (100, 1)) (q18 : gp_sh s 118 = (100, 1)) (q19 : gp_sh s 119 = (100, 1)) (q20 : gp_sh s 120 = (100, 1)) (k : K (some (gp_i 1)) s) : gs_C L d 2862 3 [gp_l (1#64), gp_i 0] s K := by
  refine s_2862_e _ _ ?_
  have e_1 : (1#64) >>> ((0 : Int) % 64).toNat = 1#64 := by decide
  try rw [e_1]
  have e_2 : (1#64) &&& (1#64) = 1#64 := by decide
  try rw [e_2]
  have e_3 : gp_cmp (1#64) (0#64) = 1 := by decide
  try rw [e_3]
  refine ⟨fun h_4 => ?_, fun h_4 => ?_⟩
  · exfalso; omega
  · refine s_2862_15 _ _ _ ?_
    refine ⟨by omega, ?_⟩
    exact k
set_option maxRecDepth 100000 in
/-- Least.relate [38, 25, 25] -/
theorem zx1_0 {z : gH} {L d : Nat} {K : Option gV → gH → Prop} {s : gH}  (hs : xM z s)  (q0 : gp_I s 1 2 = 0) (q1 : gp_I s 1 6 = 0) (q2 : gp_I s 1 7 = 1) (q3 : gp_I s 117 0 = 0) (q4 : gp_I s 118 0 = 0) (q5 : gp_I s 119 0 = 0) (q6 : gp_I s 120 0 = 0) (q7 : gp_I s 51 8 = 0) (q8 : gp_I s 57 1 = 0) (q9 : gp_I s 57 3 = 0) (q10 : gp_R s 25 6 = some 117) (q11 : gp_R s 25 7 = some 118) (q12 : gp_R s 25 8 = some 119) (q13 : gp_R s 25 9 = some 120) (q14 : ∀ k, k < 8 → gp_R s 4 k = some 25) (q15 : gp_R s 51 6 = some 55) (q16 : gp_R s 51 7 = some 56) (q17 : gp_sh s 117 = (100, 1)) (q18 : gp_sh s 118 = (100, 1)) (q19 : gp_sh s 119 = (100, 1)) (q20 : gp_sh s 120 = (100, 1)) (q21 : gp_us s = 606899) (q22 : gp_sz s = 121) (k : ∀ (t : gH), xM z t → (gp_I t 1 2 = 0) → (gp_I t 1 6 = 0) → (gp_I t 1 7 = 1) → (gp_I t 117 0 = 0) → (gp_I t 118 0 = 0) → (gp_I t 119 0 = 0) → (gp_I t 120 0 = 0) → (gp_I t 51 8 = 0) → (gp_I t 57 1 = 0) → (gp_I t 57 3 = 0) → (gp_L t 39 0 = 1#64) → (gp_L t 40 0 = 1#64) → (gp_R t 25 6 = some 117) → (gp_R t 25 7 = some 118) → (gp_R t 25 8 = some 119) → (gp_R t 25 9 = some 120) → (∀ k, k < 8 → gp_R t 4 k = some 25) → (gp_R t 51 6 = some 55) → (gp_R t 51 7 = some 56) → (gp_sh t 117 = (100, 1)) → (gp_sh t 118 = (100, 1)) → (gp_sh t 119 = (100, 1)) → (gp_sh t 120 = (100, 1)) → (gp_us t = 606899) → (gp_sz t = 121) → K (some (gp_i 1)) t) : gs_C L (d + 2) 1 5 [gp_r (some 38), gp_r (some 25), gp_r (some 25)] s K := by
  refine s_1_e _ _ _ ?_
  refine s_1_2 _ _ _ _ _ ?_
  refine ⟨25, rfl, ?_⟩
  refine ⟨rfl, ?_⟩
  have f_4 := xr25_0 hs 0
  have e_5 : gp_I s 25 0 = 1 := by omega
  try rw [e_5]
  refine ⟨fun h_6 => ?_, fun h_6 => ?_⟩
  · refine ⟨38, rfl, ?_⟩
    refine ⟨rfl, ?_⟩
    try rw [show gp_R (gp_mk L s) 38 0 = some 39 from rfl]
    refine ⟨39, rfl, ?_⟩
    refine ⟨⟨rfl, by show 0 ≤ 0 ∧ 0 < 61; omega⟩, ?_⟩
    intro s_7 e_8
    have hs_9 : xM z s_7 := by rw [e_8]; exact xw39 hs _ _
    have q_10 : gp_I s_7 1 2 = 0 := by rw [e_8]; exact q0
    have q_11 : gp_I s_7 1 6 = 0 := by rw [e_8]; exact q1
    have q_12 : gp_I s_7 1 7 = 1 := by rw [e_8]; exact q2
    have q_13 : gp_I s_7 117 0 = 0 := by rw [e_8]; exact q3
    have q_14 : gp_I s_7 118 0 = 0 := by rw [e_8]; exact q4
    have q_15 : gp_I s_7 119 0 = 0 := by rw [e_8]; exact q5
    have q_16 : gp_I s_7 120 0 = 0 := by rw [e_8]; exact q6
    have q_17 : gp_I s_7 51 8 = 0 := by rw [e_8]; exact q7
    have q_18 : gp_I s_7 57 1 = 0 := by rw [e_8]; exact q8
    have q_19 : gp_I s_7 57 3 = 0 := by rw [e_8]; exact q9
    have q_20 : gp_R s_7 25 6 = some 117 := by rw [e_8]; exact q10
    have q_21 : gp_R s_7 25 7 = some 118 := by rw [e_8]; exact q11
    have q_22 : gp_R s_7 25 8 = some 119 := by rw [e_8]; exact q12
    have q_23 : gp_R s_7 25 9 = some 120 := by rw [e_8]; exact q13
    have q_24 : ∀ k, k < 8 → gp_R s_7 4 k = some 25 := by rw [e_8]; exact q14
    have q_25 : gp_R s_7 51 6 = some 55 := by rw [e_8]; exact q15
    have q_26 : gp_R s_7 51 7 = some 56 := by rw [e_8]; exact q16
    have q_27 : gp_sh s_7 117 = (100, 1) := by rw [e_8]; exact q17
    have q_28 : gp_sh s_7 118 = (100, 1) := by rw [e_8]; exact q18
    have q_29 : gp_sh s_7 119 = (100, 1) := by rw [e_8]; exact q19
    have q_30 : gp_sh s_7 120 = (100, 1) := by rw [e_8]; exact q20
    have q_31 : gp_us s_7 = 606899 := by rw [e_8]; exact q21
    have q_32 : gp_sz s_7 = 121 := by rw [e_8]; exact q22
    have q_33 : gp_L s_7 39 0 = 0#64 := by rw [e_8]; rfl
    have w_34 := gz_w (0 + 1)
    have e_35 : gp_wr (0 + 1) = 1 := by omega
    try rw [e_35]
    refine s_1_2 _ _ _ _ _ ?_
    refine ⟨25, rfl, ?_⟩
    refine ⟨rfl, ?_⟩
    have f_39 := xr25_0 hs_9 0
    have e_40 : gp_I s_7 25 0 = 1 := by omega
    try rw [e_40]
    refine ⟨fun h_41 => ?_, fun h_41 => ?_⟩
    · exfalso; omega
    · refine s_1_25 _ _ _ _ _ ?_
      refine ⟨25, rfl, ?_⟩
      refine ⟨rfl, ?_⟩
      have f_45 := xr25_0 hs_9 0
      have e_46 : gp_I s_7 25 0 = 1 := by omega
      try rw [e_46]
      refine ⟨fun h_47 => ?_, fun h_47 => ?_⟩
      · refine ⟨38, rfl, ?_⟩
        refine ⟨rfl, ?_⟩
        try rw [show gp_R (gp_mk L s_7) 38 1 = some 40 from rfl]
        refine ⟨40, rfl, ?_⟩
        refine ⟨⟨rfl, by show 0 ≤ 0 ∧ 0 < 61; omega⟩, ?_⟩
        intro s_48 e_49
        have hs_50 : xM z s_48 := by rw [e_49]; exact xw40 hs_9 _ _
        have q_51 : gp_I s_48 1 2 = 0 := by rw [e_49]; exact q_10
        have q_52 : gp_I s_48 1 6 = 0 := by rw [e_49]; exact q_11
        have q_53 : gp_I s_48 1 7 = 1 := by rw [e_49]; exact q_12
        have q_54 : gp_I s_48 117 0 = 0 := by rw [e_49]; exact q_13
        have q_55 : gp_I s_48 118 0 = 0 := by rw [e_49]; exact q_14
        have q_56 : gp_I s_48 119 0 = 0 := by rw [e_49]; exact q_15
        have q_57 : gp_I s_48 120 0 = 0 := by rw [e_49]; exact q_16
        have q_58 : gp_I s_48 51 8 = 0 := by rw [e_49]; exact q_17
        have q_59 : gp_I s_48 57 1 = 0 := by rw [e_49]; exact q_18
        have q_60 : gp_I s_48 57 3 = 0 := by rw [e_49]; exact q_19
        have q_61 : gp_R s_48 25 6 = some 117 := by rw [e_49]; exact q_20
        have q_62 : gp_R s_48 25 7 = some 118 := by rw [e_49]; exact q_21
        have q_63 : gp_R s_48 25 8 = some 119 := by rw [e_49]; exact q_22
        have q_64 : gp_R s_48 25 9 = some 120 := by rw [e_49]; exact q_23
        have q_65 : ∀ k, k < 8 → gp_R s_48 4 k = some 25 := by rw [e_49]; exact q_24
        have q_66 : gp_R s_48 51 6 = some 55 := by rw [e_49]; exact q_25
        have q_67 : gp_R s_48 51 7 = some 56 := by rw [e_49]; exact q_26
        have q_68 : gp_sh s_48 117 = (100, 1) := by rw [e_49]; exact q_27
        have q_69 : gp_sh s_48 118 = (100, 1) := by rw [e_49]; exact q_28
        have q_70 : gp_sh s_48 119 = (100, 1) := by rw [e_49]; exact q_29
        have q_71 : gp_sh s_48 120 = (100, 1) := by rw [e_49]; exact q_30
        have q_72 : gp_us s_48 = 606899 := by rw [e_49]; exact q_31
        have q_73 : gp_sz s_48 = 121 := by rw [e_49]; exact q_32
        have q_74 : gp_L s_48 39 0 = 0#64 := by rw [e_49]; exact q_33
        have q_75 : gp_L s_48 40 0 = 0#64 := by rw [e_49]; rfl
        have w_76 := gz_w (0 + 1)
        have e_77 : gp_wr (0 + 1) = 1 := by omega
        try rw [e_77]
        refine s_1_25 _ _ _ _ _ ?_
        refine ⟨25, rfl, ?_⟩
        refine ⟨rfl, ?_⟩
        have f_81 := xr25_0 hs_50 0
        have e_82 : gp_I s_48 25 0 = 1 := by omega
        try rw [e_82]
        refine ⟨fun h_83 => ?_, fun h_83 => ?_⟩
        · exfalso; omega
        · refine s_1_48 _ _ _ _ _ ?_
          refine ⟨25, rfl, ?_⟩
          refine ⟨rfl, ?_⟩
          have f_87 := xr25_0 hs_50 0
          have e_88 : gp_I s_48 25 0 = 1 := by omega
          try rw [e_88]
          refine ⟨fun h_89 => ?_, fun h_89 => ?_⟩
          · refine s_1_59 _ _ _ _ _ ?_
            refine ⟨25, rfl, ?_⟩
            refine ⟨rfl, ?_⟩
            have f_93 := xr25_0 hs_50 0
            have e_94 : gp_I s_48 25 0 = 1 := by omega
            try rw [e_94]
            refine ⟨fun h_95 => ?_, fun h_95 => ?_⟩
            · refine ⟨38, rfl, ?_⟩
              refine ⟨rfl, ?_⟩
              refine zx4_0 hs_50 (by omega) (by omega) (by omega) (by omega) (by omega) (by omega) (by omega) (by omega) (by omega) (by omega) q_74 q_75 q_61 q_62 q_63 q_64 q_65 q_66 q_67 q_68 q_69 q_70 q_71 (⟨_, rfl, ?_⟩)
              refine ⟨fun h_96 => ?_, fun h_96 => ?_⟩
              · exfalso; omega
              · refine ⟨rfl, ?_⟩
                refine zx3_1 hs_50 (by omega) (by omega) (by omega) (by omega) (by omega) (by omega) (by omega) (by omega) (by omega) (by omega) q_74 q_75 q_61 q_62 q_63 q_64 q_65 q_66 q_67 q_68 q_69 q_70 q_71 q_72 q_73 (fun s_97 hs_98 q_99 q_100 q_101 q_102 q_103 q_104 q_105 q_106 q_107 q_108 q_109 q_110 q_111 q_112 q_113 q_114 q_115 q_116 q_117 q_118 q_119 q_120 q_121 q_122 q_123 => ⟨rfl, ?_⟩)
                refine s_1_87 _ _ _ _ _ ?_
                have w_127 := gz_w (0 + 1)
                have e_128 : gp_wr (0 + 1) = 1 := by omega
                try rw [e_128]
                refine s_1_59 _ _ _ _ _ ?_
                refine ⟨25, rfl, ?_⟩
                refine ⟨rfl, ?_⟩
                have f_132 := xr25_0 hs_98 0
                have e_133 : gp_I s_97 25 0 = 1 := by omega
                try rw [e_133]
                refine ⟨fun h_134 => ?_, fun h_134 => ?_⟩
                · exfalso; omega
                · have w_135 := gz_w (0 + 1)
                  have e_136 : gp_wr (0 + 1) = 1 := by omega
                  try rw [e_136]
                  refine s_1_48 _ _ _ _ _ ?_
                  refine ⟨25, rfl, ?_⟩
                  refine ⟨rfl, ?_⟩
                  have f_140 := xr25_0 hs_98 0
                  have e_141 : gp_I s_97 25 0 = 1 := by omega
                  try rw [e_141]
                  refine ⟨fun h_142 => ?_, fun h_142 => ?_⟩
                  · exfalso; omega
                  · refine ⟨38, rfl, ?_⟩
                    refine ⟨rfl, ?_⟩
                    try rw [show gp_R (gp_mk L s_97) 38 0 = some 39 from rfl]
                    refine ⟨rfl, ?_⟩
                    refine zx2306_1 hs_98 (by omega) (by omega) (by omega) (by omega) q_111 q_112 q_113 q_114 q_118 q_119 q_120 q_121 (⟨_, rfl, ?_⟩)
                    refine ⟨39, rfl, ?_⟩
                    refine ⟨⟨rfl, by show 0 ≤ 0 ∧ 0 < 61; omega⟩, ?_⟩
                    try rw [show gp_L s_97 39 (0 : Int).toNat = 1#64 from q_109]
                    refine ⟨25, rfl, ?_⟩
                    refine ⟨rfl, ?_⟩
                    refine zx2306_1 hs_98 (by omega) (by omega) (by omega) (by omega) q_111 q_112 q_113 q_114 q_118 q_119 q_120 q_121 (⟨_, rfl, ?_⟩)
                    refine zx2862_2 hs_98 (by omega) (by omega) (by omega) (by omega) (by omega) (by omega) (by omega) (by omega) (by omega) (by omega) q_111 q_112 q_113 q_114 q_115 q_116 q_117 q_118 q_119 q_120 q_121 (⟨_, rfl, ?_⟩)
                    refine ⟨by omega, ?_⟩
                    exact k s_97 hs_98 (by omega) (by omega) (by omega) (by omega) (by omega) (by omega) (by omega) (by omega) (by omega) (by omega) q_109 q_110 q_111 q_112 q_113 q_114 q_115 q_116 q_117 q_118 q_119 q_120 q_121 q_122 q_123
            · exfalso; omega
          · exfalso; omega
      · exfalso; omega
  · exfalso; omega
set_option maxRecDepth 100000 in
/-- GatheredPoints.atLeast [25, 25] -/
theorem zx2829_0 {z : gH} {L d : Nat} {K : Option gV → gH → Prop} {s : gH}  (hs : xM z s)  (q0 : gp_I s 1 2 = 0) (q1 : gp_I s 1 6 = 0) (q2 : gp_I s 1 7 = 1) (q3 : gp_I s 51 8 = 0) (q4 : gp_I s 57 1 = 0) (q5 : gp_I s 57 3 = 0) (q6 : gp_R s 25 6 = none) (q7 : gp_R s 25 7 = none) (q8 : gp_R s 25 8 = none) (q9 : gp_R s 25 9 = none) (q10 : ∀ k, k < 8 → gp_R s 4 k = some 25) (q11 : gp_R s 51 6 = some 55) (q12 : gp_R s 51 7 = some 56) (q13 : gp_us s = 606895) (q14 : gp_sz s = 117) (k : ∀ (t : gH), xM z t → (gp_I t 1 2 = 0) → (gp_I t 1 6 = 0) → (gp_I t 1 7 = 1) → (gp_I t 117 0 = 0) → (gp_I t 118 0 = 0) → (gp_I t 119 0 = 0) → (gp_I t 120 0 = 0) → (gp_I t 51 8 = 0) → (gp_I t 57 1 = 0) → (gp_I t 57 3 = 0) → (gp_L t 39 0 = 1#64) → (gp_L t 40 0 = 1#64) → (gp_R t 25 6 = some 117) → (gp_R t 25 7 = some 118) → (gp_R t 25 8 = some 119) → (gp_R t 25 9 = some 120) → (∀ k, k < 8 → gp_R t 4 k = some 25) → (gp_R t 51 6 = some 55) → (gp_R t 51 7 = some 56) → (gp_sh t 117 = (100, 1)) → (gp_sh t 118 = (100, 1)) → (gp_sh t 119 = (100, 1)) → (gp_sh t 120 = (100, 1)) → (gp_us t = 606899) → (gp_sz t = 121) → K (some (gp_i 1)) t) : gs_C L (d + 5) 2829 3 [gp_r (some 1), gp_r (some 25), gp_r (some 25)] s K := by
  refine s_2829_e _ _ ?_
  refine zx770_0 hs (by omega) (by omega) (by omega) (by omega) (by omega) (by omega) q6 q7 q8 q9 q10 q11 q12 q13 q14 (fun s_1 hs_2 q_3 q_4 q_5 q_6 q_7 q_8 q_9 q_10 q_11 q_12 q_13 q_14 q_15 q_16 q_17 q_18 q_19 q_20 q_21 q_22 q_23 q_24 q_25 => ⟨rfl, ?_⟩)
  refine zx770_1 hs_2 (by omega) (by omega) (by omega) (by omega) (by omega) (by omega) (by omega) (by omega) (by omega) (by omega) q_13 q_14 q_15 q_16 q_17 q_18 q_19 q_20 q_21 q_22 q_23 q_24 q_25 (⟨rfl, ?_⟩)
  refine zx1_0 hs_2 (by omega) (by omega) (by omega) (by omega) (by omega) (by omega) (by omega) (by omega) (by omega) (by omega) q_13 q_14 q_15 q_16 q_17 q_18 q_19 q_20 q_21 q_22 q_23 q_24 q_25 (fun s_26 hs_27 q_28 q_29 q_30 q_31 q_32 q_33 q_34 q_35 q_36 q_37 q_38 q_39 q_40 q_41 q_42 q_43 q_44 q_45 q_46 q_47 q_48 q_49 q_50 q_51 q_52 => ⟨_, rfl, ?_⟩)
  refine ⟨by omega, ?_⟩
  exact k s_26 hs_27 (by omega) (by omega) (by omega) (by omega) (by omega) (by omega) (by omega) (by omega) (by omega) (by omega) q_38 q_39 q_40 q_41 q_42 q_43 q_44 q_45 q_46 q_47 q_48 q_49 q_50 q_51 q_52
set_option maxRecDepth 100000 in
/-- Measures.bound [25] -/
theorem zx770_2 {z : gH} {L d : Nat} {K : Option gV → gH → Prop} {s : gH}  (hs : xM z s)  (q0 : gp_I s 1 2 = 0) (q1 : gp_I s 1 6 = 0) (q2 : gp_I s 1 7 = 1) (q3 : gp_I s 117 0 = 0) (q4 : gp_I s 118 0 = 0) (q5 : gp_I s 119 0 = 0) (q6 : gp_I s 120 0 = 0) (q7 : gp_I s 51 8 = 0) (q8 : gp_I s 57 1 = 0) (q9 : gp_I s 57 3 = 0) (q10 : gp_L s 39 0 = 1#64) (q11 : gp_L s 40 0 = 1#64) (q12 : gp_R s 25 6 = some 117) (q13 : gp_R s 25 7 = some 118) (q14 : gp_R s 25 8 = some 119) (q15 : gp_R s 25 9 = some 120) (q16 : ∀ k, k < 8 → gp_R s 4 k = some 25) (q17 : gp_R s 51 6 = some 55) (q18 : gp_R s 51 7 = some 56) (q19 : gp_sh s 117 = (100, 1)) (q20 : gp_sh s 118 = (100, 1)) (q21 : gp_sh s 119 = (100, 1)) (q22 : gp_sh s 120 = (100, 1)) (q23 : gp_us s = 606899) (q24 : gp_sz s = 121) (k : K none s) : gs_C L (d + 1) 770 4 [gp_r (some 31), gp_r (some 25)] s K := by
  refine s_770_e _ ?_
  refine ⟨25, rfl, ?_⟩
  refine ⟨rfl, ?_⟩
  try rw [show gp_R (gp_mk L s) 25 6 = some 117 from q12]
  refine ⟨fun hq_1 => ?_, fun q_2 hq_1 => ?_⟩
  · exact absurd hq_1 (by simp)
  · obtain rfl : q_2 = 117 := (Option.some.inj hq_1).symm
    refine s_770_46 _ _ _ ?_
    exact k
set_option maxRecDepth 100000 in
/-- Least.relate [38, 25, 25] -/
theorem zx1_1 {z : gH} {L d : Nat} {K : Option gV → gH → Prop} {s : gH}  (hs : xM z s)  (q0 : gp_I s 1 2 = 0) (q1 : gp_I s 1 6 = 0) (q2 : gp_I s 1 7 = 1) (q3 : gp_I s 117 0 = 0) (q4 : gp_I s 118 0 = 0) (q5 : gp_I s 119 0 = 0) (q6 : gp_I s 120 0 = 0) (q7 : gp_I s 51 8 = 0) (q8 : gp_I s 57 1 = 0) (q9 : gp_I s 57 3 = 0) (q10 : gp_L s 39 0 = 1#64) (q11 : gp_L s 40 0 = 1#64) (q12 : gp_R s 25 6 = some 117) (q13 : gp_R s 25 7 = some 118) (q14 : gp_R s 25 8 = some 119) (q15 : gp_R s 25 9 = some 120) (q16 : ∀ k, k < 8 → gp_R s 4 k = some 25) (q17 : gp_R s 51 6 = some 55) (q18 : gp_R s 51 7 = some 56) (q19 : gp_sh s 117 = (100, 1)) (q20 : gp_sh s 118 = (100, 1)) (q21 : gp_sh s 119 = (100, 1)) (q22 : gp_sh s 120 = (100, 1)) (q23 : gp_us s = 606899) (q24 : gp_sz s = 121) (k : ∀ (t : gH), xM z t → (gp_I t 1 2 = 0) → (gp_I t 1 6 = 0) → (gp_I t 1 7 = 1) → (gp_I t 117 0 = 0) → (gp_I t 118 0 = 0) → (gp_I t 119 0 = 0) → (gp_I t 120 0 = 0) → (gp_I t 51 8 = 0) → (gp_I t 57 1 = 0) → (gp_I t 57 3 = 0) → (gp_L t 39 0 = 1#64) → (gp_L t 40 0 = 1#64) → (gp_R t 25 6 = some 117) → (gp_R t 25 7 = some 118) → (gp_R t 25 8 = some 119) → (gp_R t 25 9 = some 120) → (∀ k, k < 8 → gp_R t 4 k = some 25) → (gp_R t 51 6 = some 55) → (gp_R t 51 7 = some 56) → (gp_sh t 117 = (100, 1)) → (gp_sh t 118 = (100, 1)) → (gp_sh t 119 = (100, 1)) → (gp_sh t 120 = (100, 1)) → (gp_us t = 606899) → (gp_sz t = 121) → K (some (gp_i 1)) t) : gs_C L (d + 2) 1 5 [gp_r (some 38), gp_r (some 25), gp_r (some 25)] s K := by
  refine s_1_e _ _ _ ?_
  refine s_1_2 _ _ _ _ _ ?_
  refine ⟨25, rfl, ?_⟩
  refine ⟨rfl, ?_⟩
  have f_4 := xr25_0 hs 0
  have e_5 : gp_I s 25 0 = 1 := by omega
  try rw [e_5]
  refine ⟨fun h_6 => ?_, fun h_6 => ?_⟩
  · refine ⟨38, rfl, ?_⟩
    refine ⟨rfl, ?_⟩
    try rw [show gp_R (gp_mk L s) 38 0 = some 39 from rfl]
    refine ⟨39, rfl, ?_⟩
    refine ⟨⟨rfl, by show 0 ≤ 0 ∧ 0 < 61; omega⟩, ?_⟩
    intro s_7 e_8
    have hs_9 : xM z s_7 := by rw [e_8]; exact xw39 hs _ _
    have q_10 : gp_I s_7 1 2 = 0 := by rw [e_8]; exact q0
    have q_11 : gp_I s_7 1 6 = 0 := by rw [e_8]; exact q1
    have q_12 : gp_I s_7 1 7 = 1 := by rw [e_8]; exact q2
    have q_13 : gp_I s_7 117 0 = 0 := by rw [e_8]; exact q3
    have q_14 : gp_I s_7 118 0 = 0 := by rw [e_8]; exact q4
    have q_15 : gp_I s_7 119 0 = 0 := by rw [e_8]; exact q5
    have q_16 : gp_I s_7 120 0 = 0 := by rw [e_8]; exact q6
    have q_17 : gp_I s_7 51 8 = 0 := by rw [e_8]; exact q7
    have q_18 : gp_I s_7 57 1 = 0 := by rw [e_8]; exact q8
    have q_19 : gp_I s_7 57 3 = 0 := by rw [e_8]; exact q9
    have q_20 : gp_L s_7 40 0 = 1#64 := by rw [e_8]; exact q11
    have q_21 : gp_R s_7 25 6 = some 117 := by rw [e_8]; exact q12
    have q_22 : gp_R s_7 25 7 = some 118 := by rw [e_8]; exact q13
    have q_23 : gp_R s_7 25 8 = some 119 := by rw [e_8]; exact q14
    have q_24 : gp_R s_7 25 9 = some 120 := by rw [e_8]; exact q15
    have q_25 : ∀ k, k < 8 → gp_R s_7 4 k = some 25 := by rw [e_8]; exact q16
    have q_26 : gp_R s_7 51 6 = some 55 := by rw [e_8]; exact q17
    have q_27 : gp_R s_7 51 7 = some 56 := by rw [e_8]; exact q18
    have q_28 : gp_sh s_7 117 = (100, 1) := by rw [e_8]; exact q19
    have q_29 : gp_sh s_7 118 = (100, 1) := by rw [e_8]; exact q20
    have q_30 : gp_sh s_7 119 = (100, 1) := by rw [e_8]; exact q21
    have q_31 : gp_sh s_7 120 = (100, 1) := by rw [e_8]; exact q22
    have q_32 : gp_us s_7 = 606899 := by rw [e_8]; exact q23
    have q_33 : gp_sz s_7 = 121 := by rw [e_8]; exact q24
    have q_34 : gp_L s_7 39 0 = 0#64 := by rw [e_8]; rfl
    have w_35 := gz_w (0 + 1)
    have e_36 : gp_wr (0 + 1) = 1 := by omega
    try rw [e_36]
    refine s_1_2 _ _ _ _ _ ?_
    refine ⟨25, rfl, ?_⟩
    refine ⟨rfl, ?_⟩
    have f_40 := xr25_0 hs_9 0
    have e_41 : gp_I s_7 25 0 = 1 := by omega
    try rw [e_41]
    refine ⟨fun h_42 => ?_, fun h_42 => ?_⟩
    · exfalso; omega
    · refine s_1_25 _ _ _ _ _ ?_
      refine ⟨25, rfl, ?_⟩
      refine ⟨rfl, ?_⟩
      have f_46 := xr25_0 hs_9 0
      have e_47 : gp_I s_7 25 0 = 1 := by omega
      try rw [e_47]
      refine ⟨fun h_48 => ?_, fun h_48 => ?_⟩
      · refine ⟨38, rfl, ?_⟩
        refine ⟨rfl, ?_⟩
        try rw [show gp_R (gp_mk L s_7) 38 1 = some 40 from rfl]
        refine ⟨40, rfl, ?_⟩
        refine ⟨⟨rfl, by show 0 ≤ 0 ∧ 0 < 61; omega⟩, ?_⟩
        intro s_49 e_50
        have hs_51 : xM z s_49 := by rw [e_50]; exact xw40 hs_9 _ _
        have q_52 : gp_I s_49 1 2 = 0 := by rw [e_50]; exact q_10
        have q_53 : gp_I s_49 1 6 = 0 := by rw [e_50]; exact q_11
        have q_54 : gp_I s_49 1 7 = 1 := by rw [e_50]; exact q_12
        have q_55 : gp_I s_49 117 0 = 0 := by rw [e_50]; exact q_13
        have q_56 : gp_I s_49 118 0 = 0 := by rw [e_50]; exact q_14
        have q_57 : gp_I s_49 119 0 = 0 := by rw [e_50]; exact q_15
        have q_58 : gp_I s_49 120 0 = 0 := by rw [e_50]; exact q_16
        have q_59 : gp_I s_49 51 8 = 0 := by rw [e_50]; exact q_17
        have q_60 : gp_I s_49 57 1 = 0 := by rw [e_50]; exact q_18
        have q_61 : gp_I s_49 57 3 = 0 := by rw [e_50]; exact q_19
        have q_62 : gp_R s_49 25 6 = some 117 := by rw [e_50]; exact q_21
        have q_63 : gp_R s_49 25 7 = some 118 := by rw [e_50]; exact q_22
        have q_64 : gp_R s_49 25 8 = some 119 := by rw [e_50]; exact q_23
        have q_65 : gp_R s_49 25 9 = some 120 := by rw [e_50]; exact q_24
        have q_66 : ∀ k, k < 8 → gp_R s_49 4 k = some 25 := by rw [e_50]; exact q_25
        have q_67 : gp_R s_49 51 6 = some 55 := by rw [e_50]; exact q_26
        have q_68 : gp_R s_49 51 7 = some 56 := by rw [e_50]; exact q_27
        have q_69 : gp_sh s_49 117 = (100, 1) := by rw [e_50]; exact q_28
        have q_70 : gp_sh s_49 118 = (100, 1) := by rw [e_50]; exact q_29
        have q_71 : gp_sh s_49 119 = (100, 1) := by rw [e_50]; exact q_30
        have q_72 : gp_sh s_49 120 = (100, 1) := by rw [e_50]; exact q_31
        have q_73 : gp_us s_49 = 606899 := by rw [e_50]; exact q_32
        have q_74 : gp_sz s_49 = 121 := by rw [e_50]; exact q_33
        have q_75 : gp_L s_49 39 0 = 0#64 := by rw [e_50]; exact q_34
        have q_76 : gp_L s_49 40 0 = 0#64 := by rw [e_50]; rfl
        have w_77 := gz_w (0 + 1)
        have e_78 : gp_wr (0 + 1) = 1 := by omega
        try rw [e_78]
        refine s_1_25 _ _ _ _ _ ?_
        refine ⟨25, rfl, ?_⟩
        refine ⟨rfl, ?_⟩
        have f_82 := xr25_0 hs_51 0
        have e_83 : gp_I s_49 25 0 = 1 := by omega
        try rw [e_83]
        refine ⟨fun h_84 => ?_, fun h_84 => ?_⟩
        · exfalso; omega
        · refine s_1_48 _ _ _ _ _ ?_
          refine ⟨25, rfl, ?_⟩
          refine ⟨rfl, ?_⟩
          have f_88 := xr25_0 hs_51 0
          have e_89 : gp_I s_49 25 0 = 1 := by omega
          try rw [e_89]
          refine ⟨fun h_90 => ?_, fun h_90 => ?_⟩
          · refine s_1_59 _ _ _ _ _ ?_
            refine ⟨25, rfl, ?_⟩
            refine ⟨rfl, ?_⟩
            have f_94 := xr25_0 hs_51 0
            have e_95 : gp_I s_49 25 0 = 1 := by omega
            try rw [e_95]
            refine ⟨fun h_96 => ?_, fun h_96 => ?_⟩
            · refine ⟨38, rfl, ?_⟩
              refine ⟨rfl, ?_⟩
              refine zx4_0 hs_51 (by omega) (by omega) (by omega) (by omega) (by omega) (by omega) (by omega) (by omega) (by omega) (by omega) q_75 q_76 q_62 q_63 q_64 q_65 q_66 q_67 q_68 q_69 q_70 q_71 q_72 (⟨_, rfl, ?_⟩)
              refine ⟨fun h_97 => ?_, fun h_97 => ?_⟩
              · exfalso; omega
              · refine ⟨rfl, ?_⟩
                refine zx3_1 hs_51 (by omega) (by omega) (by omega) (by omega) (by omega) (by omega) (by omega) (by omega) (by omega) (by omega) q_75 q_76 q_62 q_63 q_64 q_65 q_66 q_67 q_68 q_69 q_70 q_71 q_72 q_73 q_74 (fun s_98 hs_99 q_100 q_101 q_102 q_103 q_104 q_105 q_106 q_107 q_108 q_109 q_110 q_111 q_112 q_113 q_114 q_115 q_116 q_117 q_118 q_119 q_120 q_121 q_122 q_123 q_124 => ⟨rfl, ?_⟩)
                refine s_1_87 _ _ _ _ _ ?_
                have w_128 := gz_w (0 + 1)
                have e_129 : gp_wr (0 + 1) = 1 := by omega
                try rw [e_129]
                refine s_1_59 _ _ _ _ _ ?_
                refine ⟨25, rfl, ?_⟩
                refine ⟨rfl, ?_⟩
                have f_133 := xr25_0 hs_99 0
                have e_134 : gp_I s_98 25 0 = 1 := by omega
                try rw [e_134]
                refine ⟨fun h_135 => ?_, fun h_135 => ?_⟩
                · exfalso; omega
                · have w_136 := gz_w (0 + 1)
                  have e_137 : gp_wr (0 + 1) = 1 := by omega
                  try rw [e_137]
                  refine s_1_48 _ _ _ _ _ ?_
                  refine ⟨25, rfl, ?_⟩
                  refine ⟨rfl, ?_⟩
                  have f_141 := xr25_0 hs_99 0
                  have e_142 : gp_I s_98 25 0 = 1 := by omega
                  try rw [e_142]
                  refine ⟨fun h_143 => ?_, fun h_143 => ?_⟩
                  · exfalso; omega
                  · refine ⟨38, rfl, ?_⟩
                    refine ⟨rfl, ?_⟩
                    try rw [show gp_R (gp_mk L s_98) 38 0 = some 39 from rfl]
                    refine ⟨rfl, ?_⟩
                    refine zx2306_1 hs_99 (by omega) (by omega) (by omega) (by omega) q_112 q_113 q_114 q_115 q_119 q_120 q_121 q_122 (⟨_, rfl, ?_⟩)
                    refine ⟨39, rfl, ?_⟩
                    refine ⟨⟨rfl, by show 0 ≤ 0 ∧ 0 < 61; omega⟩, ?_⟩
                    try rw [show gp_L s_98 39 (0 : Int).toNat = 1#64 from q_110]
                    refine ⟨25, rfl, ?_⟩
                    refine ⟨rfl, ?_⟩
                    refine zx2306_1 hs_99 (by omega) (by omega) (by omega) (by omega) q_112 q_113 q_114 q_115 q_119 q_120 q_121 q_122 (⟨_, rfl, ?_⟩)
                    refine zx2862_2 hs_99 (by omega) (by omega) (by omega) (by omega) (by omega) (by omega) (by omega) (by omega) (by omega) (by omega) q_112 q_113 q_114 q_115 q_116 q_117 q_118 q_119 q_120 q_121 q_122 (⟨_, rfl, ?_⟩)
                    refine ⟨by omega, ?_⟩
                    exact k s_98 hs_99 (by omega) (by omega) (by omega) (by omega) (by omega) (by omega) (by omega) (by omega) (by omega) (by omega) q_110 q_111 q_112 q_113 q_114 q_115 q_116 q_117 q_118 q_119 q_120 q_121 q_122 q_123 q_124
            · exfalso; omega
          · exfalso; omega
      · exfalso; omega
  · exfalso; omega
set_option maxRecDepth 100000 in
/-- GatheredPoints.atLeast [25, 25] -/
theorem zx2829_1 {z : gH} {L d : Nat} {K : Option gV → gH → Prop} {s : gH}  (hs : xM z s)  (q0 : gp_I s 1 2 = 0) (q1 : gp_I s 1 6 = 0) (q2 : gp_I s 1 7 = 1) (q3 : gp_I s 117 0 = 0) (q4 : gp_I s 118 0 = 0) (q5 : gp_I s 119 0 = 0) (q6 : gp_I s 120 0 = 0) (q7 : gp_I s 51 8 = 0) (q8 : gp_I s 57 1 = 0) (q9 : gp_I s 57 3 = 0) (q10 : gp_L s 39 0 = 1#64) (q11 : gp_L s 40 0 = 1#64) (q12 : gp_R s 25 6 = some 117) (q13 : gp_R s 25 7 = some 118) (q14 : gp_R s 25 8 = some 119) (q15 : gp_R s 25 9 = some 120) (q16 : ∀ k, k < 8 → gp_R s 4 k = some 25) (q17 : gp_R s 51 6 = some 55) (q18 : gp_R s 51 7 = some 56) (q19 : gp_sh s 117 = (100, 1)) (q20 : gp_sh s 118 = (100, 1)) (q21 : gp_sh s 119 = (100, 1)) (q22 : gp_sh s 120 = (100, 1)) (q23 : gp_us s = 606899) (q24 : gp_sz s = 121) (k : ∀ (t : gH), xM z t → (gp_I t 1 2 = 0) → (gp_I t 1 6 = 0) → (gp_I t 1 7 = 1) → (gp_I t 117 0 = 0) → (gp_I t 118 0 = 0) → (gp_I t 119 0 = 0) → (gp_I t 120 0 = 0) → (gp_I t 51 8 = 0) → (gp_I t 57 1 = 0) → (gp_I t 57 3 = 0) → (gp_L t 39 0 = 1#64) → (gp_L t 40 0 = 1#64) → (gp_R t 25 6 = some 117) → (gp_R t 25 7 = some 118) → (gp_R t 25 8 = some 119) → (gp_R t 25 9 = some 120) → (∀ k, k < 8 → gp_R t 4 k = some 25) → (gp_R t 51 6 = some 55) → (gp_R t 51 7 = some 56) → (gp_sh t 117 = (100, 1)) → (gp_sh t 118 = (100, 1)) → (gp_sh t 119 = (100, 1)) → (gp_sh t 120 = (100, 1)) → (gp_us t = 606899) → (gp_sz t = 121) → K (some (gp_i 1)) t) : gs_C L (d + 3) 2829 3 [gp_r (some 1), gp_r (some 25), gp_r (some 25)] s K := by
  refine s_2829_e _ _ ?_
  refine zx770_2 hs (by omega) (by omega) (by omega) (by omega) (by omega) (by omega) (by omega) (by omega) (by omega) (by omega) q10 q11 q12 q13 q14 q15 q16 q17 q18 q19 q20 q21 q22 q23 q24 (⟨rfl, ?_⟩)
  refine zx770_2 hs (by omega) (by omega) (by omega) (by omega) (by omega) (by omega) (by omega) (by omega) (by omega) (by omega) q10 q11 q12 q13 q14 q15 q16 q17 q18 q19 q20 q21 q22 q23 q24 (⟨rfl, ?_⟩)
  refine zx1_1 hs (by omega) (by omega) (by omega) (by omega) (by omega) (by omega) (by omega) (by omega) (by omega) (by omega) q10 q11 q12 q13 q14 q15 q16 q17 q18 q19 q20 q21 q22 q23 q24 (fun s_1 hs_2 q_3 q_4 q_5 q_6 q_7 q_8 q_9 q_10 q_11 q_12 q_13 q_14 q_15 q_16 q_17 q_18 q_19 q_20 q_21 q_22 q_23 q_24 q_25 q_26 q_27 => ⟨_, rfl, ?_⟩)
  refine ⟨by omega, ?_⟩
  exact k s_1 hs_2 (by omega) (by omega) (by omega) (by omega) (by omega) (by omega) (by omega) (by omega) (by omega) (by omega) q_13 q_14 q_15 q_16 q_17 q_18 q_19 q_20 q_21 q_22 q_23 q_24 q_25 q_26 q_27
set_option maxRecDepth 100000 in
/-- GatheredPoints.compare [(0, 7), (0, 7)] -/
theorem zx2828_4 {z : gH} {L d : Nat} {K : Option gV → gH → Prop} {s : gH} (p0 : Int) (p1 : Int) (hs : xM z s) (h_p0 : 0 ≤ p0 ∧ p0 ≤ 7) (h_p1 : 0 ≤ p1 ∧ p1 ≤ 7) (q0 : gp_I s 1 2 = 0) (q1 : gp_I s 1 6 = 0) (q2 : gp_I s 1 7 = 1) (q3 : gp_I s 51 8 = 0) (q4 : gp_I s 57 1 = 0) (q5 : gp_I s 57 3 = 0) (q6 : gp_R s 25 6 = none) (q7 : gp_R s 25 7 = none) (q8 : gp_R s 25 8 = none) (q9 : gp_R s 25 9 = none) (q10 : ∀ k, k < 8 → gp_R s 4 k = some 25) (q11 : gp_R s 51 6 = some 55) (q12 : gp_R s 51 7 = some 56) (q13 : gp_us s = 606895) (q14 : gp_sz s = 117) (k : ∀ (t : gH), xM z t → (gp_I t 1 2 = 0) → (gp_I t 1 6 = 0) → (gp_I t 1 7 = 1) → (gp_I t 117 0 = 0) → (gp_I t 118 0 = 0) → (gp_I t 119 0 = 0) → (gp_I t 120 0 = 0) → (gp_I t 51 8 = 0) → (gp_I t 57 1 = 0) → (gp_I t 57 3 = 0) → (gp_L t 39 0 = 1#64) → (gp_L t 40 0 = 1#64) → (gp_R t 25 6 = some 117) → (gp_R t 25 7 = some 118) → (gp_R t 25 8 = some 119) → (gp_R t 25 9 = some 120) → (∀ k, k < 8 → gp_R t 4 k = some 25) → (gp_R t 51 6 = some 55) → (gp_R t 51 7 = some 56) → (gp_sh t 117 = (100, 1)) → (gp_sh t 118 = (100, 1)) → (gp_sh t 119 = (100, 1)) → (gp_sh t 120 = (100, 1)) → (gp_us t = 606899) → (gp_sz t = 121) → K (some (gp_i 3)) t) : gs_C L (d + 6) 2828 4 [gp_r (some 1), gp_i p0, gp_i p1] s K := by
  refine s_2828_e _ _ ?_
  refine zx2856_2 _ hs (by omega) (by omega) (by omega) (by omega) (by omega) (by omega) (by omega) q6 q7 q8 q9 q10 q11 q12 (⟨_, rfl, ?_⟩)
  refine ⟨fun h_1 => ?_, fun h_1 => ?_⟩
  · refine zx2856_2 _ hs (by omega) (by omega) (by omega) (by omega) (by omega) (by omega) (by omega) q6 q7 q8 q9 q10 q11 q12 (⟨_, rfl, ?_⟩)
    refine ⟨fun h_2 => ?_, fun h_2 => ?_⟩
    · refine ⟨by omega, ?_⟩
      try rw [show gp_R (gp_mk L s) 4 p0.toNat = some 25 from (q10 _ (by omega))]
      refine zx776_1 hs (by omega) (by omega) (by omega) (by omega) (by omega) (by omega) q6 q7 q8 q9 q10 q11 q12 q13 q14 (fun s_3 hs_4 q_5 q_6 q_7 q_8 q_9 q_10 q_11 q_12 q_13 q_14 q_15 q_16 q_17 q_18 q_19 => ⟨_, rfl, ?_⟩)
      refine ⟨fun h_20 => ?_, fun h_20 => ?_⟩
      · exfalso; omega
      · refine ⟨by omega, ?_⟩
        try rw [show gp_R (gp_mk L s_3) 4 p1.toNat = some 25 from (q_15 _ (by omega))]
        refine zx776_1 hs_4 (by omega) (by omega) (by omega) (by omega) (by omega) (by omega) q_11 q_12 q_13 q_14 q_15 q_16 q_17 q_18 q_19 (fun s_21 hs_22 q_23 q_24 q_25 q_26 q_27 q_28 q_29 q_30 q_31 q_32 q_33 q_34 q_35 q_36 q_37 => ⟨_, rfl, ?_⟩)
        refine ⟨fun h_38 => ?_, fun h_38 => ?_⟩
        · exfalso; omega
        · refine ⟨by omega, ?_⟩
          try rw [show gp_R (gp_mk L s_21) 4 p0.toNat = some 25 from (q_33 _ (by omega))]
          refine ⟨by omega, ?_⟩
          try rw [show gp_R (gp_mk L s_21) 4 p1.toNat = some 25 from (q_33 _ (by omega))]
          refine zx2829_0 hs_22 (by omega) (by omega) (by omega) (by omega) (by omega) (by omega) q_29 q_30 q_31 q_32 q_33 q_34 q_35 q_36 q_37 (fun s_39 hs_40 q_41 q_42 q_43 q_44 q_45 q_46 q_47 q_48 q_49 q_50 q_51 q_52 q_53 q_54 q_55 q_56 q_57 q_58 q_59 q_60 q_61 q_62 q_63 q_64 q_65 => ⟨_, rfl, ?_⟩)
          refine ⟨fun h_66 => ?_, fun h_66 => ?_⟩
          · exfalso; omega
          · refine s_2828_82 _ _ _ _ ?_
            refine ⟨by omega, ?_⟩
            try rw [show gp_R (gp_mk L s_39) 4 p1.toNat = some 25 from (q_57 _ (by omega))]
            refine ⟨by omega, ?_⟩
            try rw [show gp_R (gp_mk L s_39) 4 p0.toNat = some 25 from (q_57 _ (by omega))]
            refine zx2829_1 hs_40 (by omega) (by omega) (by omega) (by omega) (by omega) (by omega) (by omega) (by omega) (by omega) (by omega) q_51 q_52 q_53 q_54 q_55 q_56 q_57 q_58 q_59 q_60 q_61 q_62 q_63 q_64 q_65 (fun s_67 hs_68 q_69 q_70 q_71 q_72 q_73 q_74 q_75 q_76 q_77 q_78 q_79 q_80 q_81 q_82 q_83 q_84 q_85 q_86 q_87 q_88 q_89 q_90 q_91 q_92 q_93 => ⟨_, rfl, ?_⟩)
            refine ⟨fun h_94 => ?_, fun h_94 => ?_⟩
            · exfalso; omega
            · have w_95 := gz_w (1 + 2)
              have e_96 : gp_wr (1 + 2) = 3 := by omega
              try rw [e_96]
              refine s_2828_109 _ _ _ _ ?_
              exact k s_67 hs_68 (by omega) (by omega) (by omega) (by omega) (by omega) (by omega) (by omega) (by omega) (by omega) (by omega) q_79 q_80 q_81 q_82 q_83 q_84 q_85 q_86 q_87 q_88 q_89 q_90 q_91 q_92 q_93
    · exfalso; omega
  · exfalso; omega
set_option maxRecDepth 100000 in
/-- GatheredPoints.refused [(1, 1)] -/
theorem zx2855_5 {z : gH} {L d : Nat} {K : Option gV → gH → Prop} {s : gH}  (hs : xM z s)  (q0 : gp_I s 1 2 = 0) (q1 : gp_I s 1 6 = 0) (q2 : gp_I s 1 7 = 1) (q3 : gp_I s 51 8 = 0) (q4 : gp_I s 57 1 = 0) (q5 : gp_I s 57 3 = 0) (q6 : gp_I s 6 4 = 0) (q7 : gp_I s 60 8 = 0) (q8 : gp_R s 25 6 = none) (q9 : gp_R s 25 7 = none) (q10 : gp_R s 25 8 = none) (q11 : gp_R s 25 9 = none) (q12 : ∀ k, k < 8 → gp_R s 4 k = some 25) (q13 : gp_R s 51 6 = some 55) (q14 : gp_R s 51 7 = some 56) (q15 : ∀ k, k < 3 → gp_R s 52 k = some 25) (q16 : gp_R s 60 6 = some 64) (q17 : gp_R s 60 7 = some 65) (q18 : ∀ k, k < 3 → gp_R s 61 k = some 25) (q19 : gp_us s = 606895) (q20 : gp_sz s = 117) (k : ∀ (t : gH), xM z t → (gp_I t 1 2 = 0) → (gp_I t 1 6 = 0) → (gp_I t 1 7 = 1) → ((-2147483648) ≤ gp_I t 2 1 ∧ gp_I t 2 1 ≤ 2147483647) → (gp_I t 51 8 = 0) → (gp_I t 57 1 = 0) → (gp_I t 57 3 = 0) → (gp_I t 6 4 = 0) → (gp_I t 60 8 = 0) → (gp_R t 25 6 = none) → (gp_R t 25 7 = none) → (gp_R t 25 8 = none) → (gp_R t 25 9 = none) → (∀ k, k < 8 → gp_R t 4 k = some 25) → (gp_R t 51 6 = some 55) → (gp_R t 51 7 = some 56) → (∀ k, k < 3 → gp_R t 52 k = some 25) → (gp_R t 60 6 = some 64) → (gp_R t 60 7 = some 65) → (∀ k, k < 3 → gp_R t 61 k = some 25) → (gp_us t = 606895) → (gp_sz t = 117) → K (some (gp_i (-1000000001))) t) : gs_C L d 2855 2 [gp_r (some 1), gp_i 1] s K := by
  refine s_2855_e _ ?_
  refine ⟨by omega, ?_⟩
  have w_1 := gz_w ((gp_I s 2 (1 : Int).toNat) + 1)
  refine ⟨by omega, ?_⟩
  intro s_2 e_3
  have hs_4 : xM z s_2 := by rw [e_3]; exact xw2 hs _ _
  have q_5 : gp_I s_2 1 2 = 0 := by rw [e_3]; exact q0
  have q_6 : gp_I s_2 1 6 = 0 := by rw [e_3]; exact q1
  have q_7 : gp_I s_2 1 7 = 1 := by rw [e_3]; exact q2
  have q_8 : gp_I s_2 51 8 = 0 := by rw [e_3]; exact q3
  have q_9 : gp_I s_2 57 1 = 0 := by rw [e_3]; exact q4
  have q_10 : gp_I s_2 57 3 = 0 := by rw [e_3]; exact q5
  have q_11 : gp_I s_2 6 4 = 0 := by rw [e_3]; exact q6
  have q_12 : gp_I s_2 60 8 = 0 := by rw [e_3]; exact q7
  have q_13 : gp_R s_2 25 6 = none := by rw [e_3]; exact q8
  have q_14 : gp_R s_2 25 7 = none := by rw [e_3]; exact q9
  have q_15 : gp_R s_2 25 8 = none := by rw [e_3]; exact q10
  have q_16 : gp_R s_2 25 9 = none := by rw [e_3]; exact q11
  have q_17 : ∀ k, k < 8 → gp_R s_2 4 k = some 25 := by rw [e_3]; exact q12
  have q_18 : gp_R s_2 51 6 = some 55 := by rw [e_3]; exact q13
  have q_19 : gp_R s_2 51 7 = some 56 := by rw [e_3]; exact q14
  have q_20 : ∀ k, k < 3 → gp_R s_2 52 k = some 25 := by rw [e_3]; exact q15
  have q_21 : gp_R s_2 60 6 = some 64 := by rw [e_3]; exact q16
  have q_22 : gp_R s_2 60 7 = some 65 := by rw [e_3]; exact q17
  have q_23 : ∀ k, k < 3 → gp_R s_2 61 k = some 25 := by rw [e_3]; exact q18
  have q_24 : gp_us s_2 = 606895 := by rw [e_3]; exact q19
  have q_25 : gp_sz s_2 = 117 := by rw [e_3]; exact q20
  have q_26 : (-2147483648) ≤ gp_I s_2 2 1 ∧ gp_I s_2 2 1 ≤ 2147483647 := by have x_27 : gp_I s_2 2 1 = gp_wr ((gp_I s 2 (1 : Int).toNat) + 1) := (by rw [e_3]; rfl); omega
  have w_28 := gz_w ((-1000000000) - 1)
  have e_29 : gp_wr ((-1000000000) - 1) = (-1000000001) := by omega
  try rw [e_29]
  exact k s_2 hs_4 (by omega) (by omega) (by omega) (by omega) (by omega) (by omega) (by omega) (by omega) (by omega) q_13 q_14 q_15 q_16 q_17 q_18 q_19 q_20 q_21 q_22 q_23 q_24 q_25
set_option maxRecDepth 100000 in
/-- GatheredPoints.board [(-2147483648, -1), (-2147483648, 2147483647)] -/
theorem zx2841_0 {z : gH} {L d : Nat} {K : Option gV → gH → Prop} {s : gH} (p0 : Int) (p1 : Int) (hs : xM z s) (h_p0 : (-2147483648) ≤ p0 ∧ p0 ≤ (-1)) (h_p1 : (-2147483648) ≤ p1 ∧ p1 ≤ 2147483647) (q0 : gp_I s 1 2 = 0) (q1 : gp_I s 1 6 = 0) (q2 : gp_I s 1 7 = 1) (q3 : gp_I s 51 8 = 0) (q4 : gp_I s 57 1 = 0) (q5 : gp_I s 57 3 = 0) (q6 : gp_I s 6 4 = 0) (q7 : gp_I s 60 8 = 0) (q8 : gp_R s 25 6 = none) (q9 : gp_R s 25 7 = none) (q10 : gp_R s 25 8 = none) (q11 : gp_R s 25 9 = none) (q12 : ∀ k, k < 8 → gp_R s 4 k = some 25) (q13 : gp_R s 51 6 = some 55) (q14 : gp_R s 51 7 = some 56) (q15 : ∀ k, k < 3 → gp_R s 52 k = some 25) (q16 : gp_R s 60 6 = some 64) (q17 : gp_R s 60 7 = some 65) (q18 : ∀ k, k < 3 → gp_R s 61 k = some 25) (q19 : gp_us s = 606895) (q20 : gp_sz s = 117) (k : ∀ (t : gH), xM z t → (gp_I t 1 2 = 0) → (gp_I t 1 6 = 0) → (gp_I t 1 7 = 1) → ((-2147483648) ≤ gp_I t 2 1 ∧ gp_I t 2 1 ≤ 2147483647) → (gp_I t 51 8 = 0) → (gp_I t 57 1 = 0) → (gp_I t 57 3 = 0) → (gp_I t 6 4 = 0) → (gp_I t 60 8 = 0) → (gp_R t 25 6 = none) → (gp_R t 25 7 = none) → (gp_R t 25 8 = none) → (gp_R t 25 9 = none) → (∀ k, k < 8 → gp_R t 4 k = some 25) → (gp_R t 51 6 = some 55) → (gp_R t 51 7 = some 56) → (∀ k, k < 3 → gp_R t 52 k = some 25) → (gp_R t 60 6 = some 64) → (gp_R t 60 7 = some 65) → (∀ k, k < 3 → gp_R t 61 k = some 25) → (gp_us t = 606895) → (gp_sz t = 117) → K (some (gp_i (-1000000001))) t) : gs_C L (d + 1) 2841 4 [gp_r (some 1), gp_i p0, gp_i p1] s K := by
  refine s_2841_e _ _ ?_
  refine zx2856_0 _ hs (by omega) (by omega) (by omega) (by omega) (by omega) (by omega) (by omega) q8 q9 q10 q11 q12 q13 q14 (⟨_, rfl, ?_⟩)
  refine ⟨fun h_1 => ?_, fun h_1 => ?_⟩
  · exfalso; omega
  · refine s_2841_14 _ _ _ ?_
    refine zx2855_5 hs (by omega) (by omega) (by omega) (by omega) (by omega) (by omega) (by omega) (by omega) q8 q9 q10 q11 q12 q13 q14 q15 q16 q17 q18 q19 q20 (fun s_2 hs_3 q_4 q_5 q_6 q_7 q_8 q_9 q_10 q_11 q_12 q_13 q_14 q_15 q_16 q_17 q_18 q_19 q_20 q_21 q_22 q_23 q_24 q_25 => ⟨_, rfl, ?_⟩)
    exact k s_2 hs_3 (by omega) (by omega) (by omega) (by omega) (by omega) (by omega) (by omega) (by omega) (by omega) q_13 q_14 q_15 q_16 q_17 q_18 q_19 q_20 q_21 q_22 q_23 q_24 q_25
set_option maxRecDepth 100000 in
/-- GatheredPoints.board [(8, 2147483647), (-2147483648, 2147483647)] -/
theorem zx2841_1 {z : gH} {L d : Nat} {K : Option gV → gH → Prop} {s : gH} (p0 : Int) (p1 : Int) (hs : xM z s) (h_p0 : 8 ≤ p0 ∧ p0 ≤ 2147483647) (h_p1 : (-2147483648) ≤ p1 ∧ p1 ≤ 2147483647) (q0 : gp_I s 1 2 = 0) (q1 : gp_I s 1 6 = 0) (q2 : gp_I s 1 7 = 1) (q3 : gp_I s 51 8 = 0) (q4 : gp_I s 57 1 = 0) (q5 : gp_I s 57 3 = 0) (q6 : gp_I s 6 4 = 0) (q7 : gp_I s 60 8 = 0) (q8 : gp_R s 25 6 = none) (q9 : gp_R s 25 7 = none) (q10 : gp_R s 25 8 = none) (q11 : gp_R s 25 9 = none) (q12 : ∀ k, k < 8 → gp_R s 4 k = some 25) (q13 : gp_R s 51 6 = some 55) (q14 : gp_R s 51 7 = some 56) (q15 : ∀ k, k < 3 → gp_R s 52 k = some 25) (q16 : gp_R s 60 6 = some 64) (q17 : gp_R s 60 7 = some 65) (q18 : ∀ k, k < 3 → gp_R s 61 k = some 25) (q19 : gp_us s = 606895) (q20 : gp_sz s = 117) (k : ∀ (t : gH), xM z t → (gp_I t 1 2 = 0) → (gp_I t 1 6 = 0) → (gp_I t 1 7 = 1) → ((-2147483648) ≤ gp_I t 2 1 ∧ gp_I t 2 1 ≤ 2147483647) → (gp_I t 51 8 = 0) → (gp_I t 57 1 = 0) → (gp_I t 57 3 = 0) → (gp_I t 6 4 = 0) → (gp_I t 60 8 = 0) → (gp_R t 25 6 = none) → (gp_R t 25 7 = none) → (gp_R t 25 8 = none) → (gp_R t 25 9 = none) → (∀ k, k < 8 → gp_R t 4 k = some 25) → (gp_R t 51 6 = some 55) → (gp_R t 51 7 = some 56) → (∀ k, k < 3 → gp_R t 52 k = some 25) → (gp_R t 60 6 = some 64) → (gp_R t 60 7 = some 65) → (∀ k, k < 3 → gp_R t 61 k = some 25) → (gp_us t = 606895) → (gp_sz t = 117) → K (some (gp_i (-1000000001))) t) : gs_C L (d + 1) 2841 4 [gp_r (some 1), gp_i p0, gp_i p1] s K := by
  refine s_2841_e _ _ ?_
  refine zx2856_1 _ hs (by omega) (by omega) (by omega) (by omega) (by omega) (by omega) (by omega) q8 q9 q10 q11 q12 q13 q14 (⟨_, rfl, ?_⟩)
  refine ⟨fun h_1 => ?_, fun h_1 => ?_⟩
  · exfalso; omega
  · refine s_2841_14 _ _ _ ?_
    refine zx2855_5 hs (by omega) (by omega) (by omega) (by omega) (by omega) (by omega) (by omega) (by omega) q8 q9 q10 q11 q12 q13 q14 q15 q16 q17 q18 q19 q20 (fun s_2 hs_3 q_4 q_5 q_6 q_7 q_8 q_9 q_10 q_11 q_12 q_13 q_14 q_15 q_16 q_17 q_18 q_19 q_20 q_21 q_22 q_23 q_24 q_25 => ⟨_, rfl, ?_⟩)
    exact k s_2 hs_3 (by omega) (by omega) (by omega) (by omega) (by omega) (by omega) (by omega) (by omega) (by omega) q_13 q_14 q_15 q_16 q_17 q_18 q_19 q_20 q_21 q_22 q_23 q_24 q_25
set_option maxRecDepth 100000 in
/-- GatheredPoints.board [(0, 7), (-2147483648, -1)] -/
theorem zx2841_2 {z : gH} {L d : Nat} {K : Option gV → gH → Prop} {s : gH} (p0 : Int) (p1 : Int) (hs : xM z s) (h_p0 : 0 ≤ p0 ∧ p0 ≤ 7) (h_p1 : (-2147483648) ≤ p1 ∧ p1 ≤ (-1)) (q0 : gp_I s 1 2 = 0) (q1 : gp_I s 1 6 = 0) (q2 : gp_I s 1 7 = 1) (q3 : gp_I s 51 8 = 0) (q4 : gp_I s 57 1 = 0) (q5 : gp_I s 57 3 = 0) (q6 : gp_I s 6 4 = 0) (q7 : gp_I s 60 8 = 0) (q8 : gp_R s 25 6 = none) (q9 : gp_R s 25 7 = none) (q10 : gp_R s 25 8 = none) (q11 : gp_R s 25 9 = none) (q12 : ∀ k, k < 8 → gp_R s 4 k = some 25) (q13 : gp_R s 51 6 = some 55) (q14 : gp_R s 51 7 = some 56) (q15 : ∀ k, k < 3 → gp_R s 52 k = some 25) (q16 : gp_R s 60 6 = some 64) (q17 : gp_R s 60 7 = some 65) (q18 : ∀ k, k < 3 → gp_R s 61 k = some 25) (q19 : gp_us s = 606895) (q20 : gp_sz s = 117) (k : ∀ (t : gH), xM z t → (gp_I t 1 2 = 0) → (gp_I t 1 6 = 0) → (gp_I t 1 7 = 1) → ((-2147483648) ≤ gp_I t 2 1 ∧ gp_I t 2 1 ≤ 2147483647) → (gp_I t 51 8 = 0) → (gp_I t 57 1 = 0) → (gp_I t 57 3 = 0) → (gp_I t 6 4 = 0) → (gp_I t 60 8 = 0) → (gp_R t 25 6 = none) → (gp_R t 25 7 = none) → (gp_R t 25 8 = none) → (gp_R t 25 9 = none) → (∀ k, k < 8 → gp_R t 4 k = some 25) → (gp_R t 51 6 = some 55) → (gp_R t 51 7 = some 56) → (∀ k, k < 3 → gp_R t 52 k = some 25) → (gp_R t 60 6 = some 64) → (gp_R t 60 7 = some 65) → (∀ k, k < 3 → gp_R t 61 k = some 25) → (gp_us t = 606895) → (gp_sz t = 117) → K (some (gp_i (-1000000001))) t) : gs_C L (d + 1) 2841 4 [gp_r (some 1), gp_i p0, gp_i p1] s K := by
  refine s_2841_e _ _ ?_
  refine zx2856_2 _ hs (by omega) (by omega) (by omega) (by omega) (by omega) (by omega) (by omega) q8 q9 q10 q11 q12 q13 q14 (⟨_, rfl, ?_⟩)
  refine ⟨fun h_1 => ?_, fun h_1 => ?_⟩
  · refine zx2856_0 _ hs (by omega) (by omega) (by omega) (by omega) (by omega) (by omega) (by omega) q8 q9 q10 q11 q12 q13 q14 (⟨_, rfl, ?_⟩)
    refine ⟨fun h_2 => ?_, fun h_2 => ?_⟩
    · exfalso; omega
    · refine s_2841_14 _ _ _ ?_
      refine zx2855_5 hs (by omega) (by omega) (by omega) (by omega) (by omega) (by omega) (by omega) (by omega) q8 q9 q10 q11 q12 q13 q14 q15 q16 q17 q18 q19 q20 (fun s_3 hs_4 q_5 q_6 q_7 q_8 q_9 q_10 q_11 q_12 q_13 q_14 q_15 q_16 q_17 q_18 q_19 q_20 q_21 q_22 q_23 q_24 q_25 q_26 => ⟨_, rfl, ?_⟩)
      exact k s_3 hs_4 (by omega) (by omega) (by omega) (by omega) (by omega) (by omega) (by omega) (by omega) (by omega) q_14 q_15 q_16 q_17 q_18 q_19 q_20 q_21 q_22 q_23 q_24 q_25 q_26
  · exfalso; omega
set_option maxRecDepth 100000 in
/-- GatheredPoints.board [(0, 7), (8, 2147483647)] -/
theorem zx2841_3 {z : gH} {L d : Nat} {K : Option gV → gH → Prop} {s : gH} (p0 : Int) (p1 : Int) (hs : xM z s) (h_p0 : 0 ≤ p0 ∧ p0 ≤ 7) (h_p1 : 8 ≤ p1 ∧ p1 ≤ 2147483647) (q0 : gp_I s 1 2 = 0) (q1 : gp_I s 1 6 = 0) (q2 : gp_I s 1 7 = 1) (q3 : gp_I s 51 8 = 0) (q4 : gp_I s 57 1 = 0) (q5 : gp_I s 57 3 = 0) (q6 : gp_I s 6 4 = 0) (q7 : gp_I s 60 8 = 0) (q8 : gp_R s 25 6 = none) (q9 : gp_R s 25 7 = none) (q10 : gp_R s 25 8 = none) (q11 : gp_R s 25 9 = none) (q12 : ∀ k, k < 8 → gp_R s 4 k = some 25) (q13 : gp_R s 51 6 = some 55) (q14 : gp_R s 51 7 = some 56) (q15 : ∀ k, k < 3 → gp_R s 52 k = some 25) (q16 : gp_R s 60 6 = some 64) (q17 : gp_R s 60 7 = some 65) (q18 : ∀ k, k < 3 → gp_R s 61 k = some 25) (q19 : gp_us s = 606895) (q20 : gp_sz s = 117) (k : ∀ (t : gH), xM z t → (gp_I t 1 2 = 0) → (gp_I t 1 6 = 0) → (gp_I t 1 7 = 1) → ((-2147483648) ≤ gp_I t 2 1 ∧ gp_I t 2 1 ≤ 2147483647) → (gp_I t 51 8 = 0) → (gp_I t 57 1 = 0) → (gp_I t 57 3 = 0) → (gp_I t 6 4 = 0) → (gp_I t 60 8 = 0) → (gp_R t 25 6 = none) → (gp_R t 25 7 = none) → (gp_R t 25 8 = none) → (gp_R t 25 9 = none) → (∀ k, k < 8 → gp_R t 4 k = some 25) → (gp_R t 51 6 = some 55) → (gp_R t 51 7 = some 56) → (∀ k, k < 3 → gp_R t 52 k = some 25) → (gp_R t 60 6 = some 64) → (gp_R t 60 7 = some 65) → (∀ k, k < 3 → gp_R t 61 k = some 25) → (gp_us t = 606895) → (gp_sz t = 117) → K (some (gp_i (-1000000001))) t) : gs_C L (d + 1) 2841 4 [gp_r (some 1), gp_i p0, gp_i p1] s K := by
  refine s_2841_e _ _ ?_
  refine zx2856_2 _ hs (by omega) (by omega) (by omega) (by omega) (by omega) (by omega) (by omega) q8 q9 q10 q11 q12 q13 q14 (⟨_, rfl, ?_⟩)
  refine ⟨fun h_1 => ?_, fun h_1 => ?_⟩
  · refine zx2856_1 _ hs (by omega) (by omega) (by omega) (by omega) (by omega) (by omega) (by omega) q8 q9 q10 q11 q12 q13 q14 (⟨_, rfl, ?_⟩)
    refine ⟨fun h_2 => ?_, fun h_2 => ?_⟩
    · exfalso; omega
    · refine s_2841_14 _ _ _ ?_
      refine zx2855_5 hs (by omega) (by omega) (by omega) (by omega) (by omega) (by omega) (by omega) (by omega) q8 q9 q10 q11 q12 q13 q14 q15 q16 q17 q18 q19 q20 (fun s_3 hs_4 q_5 q_6 q_7 q_8 q_9 q_10 q_11 q_12 q_13 q_14 q_15 q_16 q_17 q_18 q_19 q_20 q_21 q_22 q_23 q_24 q_25 q_26 => ⟨_, rfl, ?_⟩)
      exact k s_3 hs_4 (by omega) (by omega) (by omega) (by omega) (by omega) (by omega) (by omega) (by omega) (by omega) q_14 q_15 q_16 q_17 q_18 q_19 q_20 q_21 q_22 q_23 q_24 q_25 q_26
  · exfalso; omega
set_option maxRecDepth 100000 in
/-- GatheredPoints.refused [(2, 2)] -/
theorem zx2855_6 {z : gH} {L d : Nat} {K : Option gV → gH → Prop} {s : gH}  (hs : xM z s)  (q0 : gp_I s 1 2 = 0) (q1 : gp_I s 1 6 = 0) (q2 : gp_I s 1 7 = 1) (q3 : gp_I s 51 8 = 0) (q4 : gp_I s 57 1 = 0) (q5 : gp_I s 57 3 = 0) (q6 : gp_I s 6 4 = 0) (q7 : gp_I s 60 8 = 0) (q8 : gp_R s 25 6 = none) (q9 : gp_R s 25 7 = none) (q10 : gp_R s 25 8 = none) (q11 : gp_R s 25 9 = none) (q12 : ∀ k, k < 8 → gp_R s 4 k = some 25) (q13 : gp_R s 51 6 = some 55) (q14 : gp_R s 51 7 = some 56) (q15 : ∀ k, k < 3 → gp_R s 52 k = some 25) (q16 : gp_R s 60 6 = some 64) (q17 : gp_R s 60 7 = some 65) (q18 : ∀ k, k < 3 → gp_R s 61 k = some 25) (q19 : gp_us s = 606895) (q20 : gp_sz s = 117) (k : ∀ (t : gH), xM z t → (gp_I t 1 2 = 0) → (gp_I t 1 6 = 0) → (gp_I t 1 7 = 1) → ((-2147483648) ≤ gp_I t 2 2 ∧ gp_I t 2 2 ≤ 2147483647) → (gp_I t 51 8 = 0) → (gp_I t 57 1 = 0) → (gp_I t 57 3 = 0) → (gp_I t 6 4 = 0) → (gp_I t 60 8 = 0) → (gp_R t 25 6 = none) → (gp_R t 25 7 = none) → (gp_R t 25 8 = none) → (gp_R t 25 9 = none) → (∀ k, k < 8 → gp_R t 4 k = some 25) → (gp_R t 51 6 = some 55) → (gp_R t 51 7 = some 56) → (∀ k, k < 3 → gp_R t 52 k = some 25) → (gp_R t 60 6 = some 64) → (gp_R t 60 7 = some 65) → (∀ k, k < 3 → gp_R t 61 k = some 25) → (gp_us t = 606895) → (gp_sz t = 117) → K (some (gp_i (-1000000002))) t) : gs_C L d 2855 2 [gp_r (some 1), gp_i 2] s K := by
  refine s_2855_e _ ?_
  refine ⟨by omega, ?_⟩
  have w_1 := gz_w ((gp_I s 2 (2 : Int).toNat) + 1)
  refine ⟨by omega, ?_⟩
  intro s_2 e_3
  have hs_4 : xM z s_2 := by rw [e_3]; exact xw2 hs _ _
  have q_5 : gp_I s_2 1 2 = 0 := by rw [e_3]; exact q0
  have q_6 : gp_I s_2 1 6 = 0 := by rw [e_3]; exact q1
  have q_7 : gp_I s_2 1 7 = 1 := by rw [e_3]; exact q2
  have q_8 : gp_I s_2 51 8 = 0 := by rw [e_3]; exact q3
  have q_9 : gp_I s_2 57 1 = 0 := by rw [e_3]; exact q4
  have q_10 : gp_I s_2 57 3 = 0 := by rw [e_3]; exact q5
  have q_11 : gp_I s_2 6 4 = 0 := by rw [e_3]; exact q6
  have q_12 : gp_I s_2 60 8 = 0 := by rw [e_3]; exact q7
  have q_13 : gp_R s_2 25 6 = none := by rw [e_3]; exact q8
  have q_14 : gp_R s_2 25 7 = none := by rw [e_3]; exact q9
  have q_15 : gp_R s_2 25 8 = none := by rw [e_3]; exact q10
  have q_16 : gp_R s_2 25 9 = none := by rw [e_3]; exact q11
  have q_17 : ∀ k, k < 8 → gp_R s_2 4 k = some 25 := by rw [e_3]; exact q12
  have q_18 : gp_R s_2 51 6 = some 55 := by rw [e_3]; exact q13
  have q_19 : gp_R s_2 51 7 = some 56 := by rw [e_3]; exact q14
  have q_20 : ∀ k, k < 3 → gp_R s_2 52 k = some 25 := by rw [e_3]; exact q15
  have q_21 : gp_R s_2 60 6 = some 64 := by rw [e_3]; exact q16
  have q_22 : gp_R s_2 60 7 = some 65 := by rw [e_3]; exact q17
  have q_23 : ∀ k, k < 3 → gp_R s_2 61 k = some 25 := by rw [e_3]; exact q18
  have q_24 : gp_us s_2 = 606895 := by rw [e_3]; exact q19
  have q_25 : gp_sz s_2 = 117 := by rw [e_3]; exact q20
  have q_26 : (-2147483648) ≤ gp_I s_2 2 2 ∧ gp_I s_2 2 2 ≤ 2147483647 := by have x_27 : gp_I s_2 2 2 = gp_wr ((gp_I s 2 (2 : Int).toNat) + 1) := (by rw [e_3]; rfl); omega
  have w_28 := gz_w ((-1000000000) - 2)
  have e_29 : gp_wr ((-1000000000) - 2) = (-1000000002) := by omega
  try rw [e_29]
  exact k s_2 hs_4 (by omega) (by omega) (by omega) (by omega) (by omega) (by omega) (by omega) (by omega) (by omega) q_13 q_14 q_15 q_16 q_17 q_18 q_19 q_20 q_21 q_22 q_23 q_24 q_25
set_option maxRecDepth 100000 in
/-- GatheredPoints.board [(0, 7), (0, 7)] -/
theorem zx2841_4 {z : gH} {L d : Nat} {K : Option gV → gH → Prop} {s : gH} (p0 : Int) (p1 : Int) (hs : xM z s) (h_p0 : 0 ≤ p0 ∧ p0 ≤ 7) (h_p1 : 0 ≤ p1 ∧ p1 ≤ 7) (q0 : gp_I s 1 2 = 0) (q1 : gp_I s 1 6 = 0) (q2 : gp_I s 1 7 = 1) (q3 : gp_I s 51 8 = 0) (q4 : gp_I s 57 1 = 0) (q5 : gp_I s 57 3 = 0) (q6 : gp_I s 6 4 = 0) (q7 : gp_I s 60 8 = 0) (q8 : gp_R s 25 6 = none) (q9 : gp_R s 25 7 = none) (q10 : gp_R s 25 8 = none) (q11 : gp_R s 25 9 = none) (q12 : ∀ k, k < 8 → gp_R s 4 k = some 25) (q13 : gp_R s 51 6 = some 55) (q14 : gp_R s 51 7 = some 56) (q15 : ∀ k, k < 3 → gp_R s 52 k = some 25) (q16 : gp_R s 60 6 = some 64) (q17 : gp_R s 60 7 = some 65) (q18 : ∀ k, k < 3 → gp_R s 61 k = some 25) (q19 : gp_us s = 606895) (q20 : gp_sz s = 117) (k : ∀ (t : gH), xM z t → (gp_I t 1 2 = 0) → (gp_I t 1 6 = 0) → (gp_I t 1 7 = 1) → ((-2147483648) ≤ gp_I t 2 2 ∧ gp_I t 2 2 ≤ 2147483647) → (gp_I t 51 8 = 0) → (gp_I t 57 1 = 0) → (gp_I t 57 3 = 0) → (gp_I t 6 4 = 0) → (gp_I t 60 8 = 0) → (gp_R t 25 6 = none) → (gp_R t 25 7 = none) → (gp_R t 25 8 = none) → (gp_R t 25 9 = none) → (∀ k, k < 8 → gp_R t 4 k = some 25) → (gp_R t 51 6 = some 55) → (gp_R t 51 7 = some 56) → (∀ k, k < 3 → gp_R t 52 k = some 25) → (gp_R t 60 6 = some 64) → (gp_R t 60 7 = some 65) → (∀ k, k < 3 → gp_R t 61 k = some 25) → (gp_us t = 606895) → (gp_sz t = 117) → K (some (gp_i (-1000000002))) t) : gs_C L (d + 1) 2841 4 [gp_r (some 1), gp_i p0, gp_i p1] s K := by
  refine s_2841_e _ _ ?_
  refine zx2856_2 _ hs (by omega) (by omega) (by omega) (by omega) (by omega) (by omega) (by omega) q8 q9 q10 q11 q12 q13 q14 (⟨_, rfl, ?_⟩)
  refine ⟨fun h_1 => ?_, fun h_1 => ?_⟩
  · refine zx2856_2 _ hs (by omega) (by omega) (by omega) (by omega) (by omega) (by omega) (by omega) q8 q9 q10 q11 q12 q13 q14 (⟨_, rfl, ?_⟩)
    refine ⟨fun h_2 => ?_, fun h_2 => ?_⟩
    · try rw [show gp_I s 57 1 = 0 from q4]
      refine ⟨fun h_3 => ?_, fun h_3 => ?_⟩
      · refine s_2841_45 _ _ _ _ ?_
        refine ⟨fun h_4 => ?_, fun h_4 => ?_⟩
        · refine zx2855_6 hs (by omega) (by omega) (by omega) (by omega) (by omega) (by omega) (by omega) (by omega) q8 q9 q10 q11 q12 q13 q14 q15 q16 q17 q18 q19 q20 (fun s_5 hs_6 q_7 q_8 q_9 q_10 q_11 q_12 q_13 q_14 q_15 q_16 q_17 q_18 q_19 q_20 q_21 q_22 q_23 q_24 q_25 q_26 q_27 q_28 => ⟨_, rfl, ?_⟩)
          exact k s_5 hs_6 (by omega) (by omega) (by omega) (by omega) (by omega) (by omega) (by omega) (by omega) (by omega) q_16 q_17 q_18 q_19 q_20 q_21 q_22 q_23 q_24 q_25 q_26 q_27 q_28
        · exfalso; omega
      · exfalso; omega
    · exfalso; omega
  · exfalso; omega
set_option maxRecDepth 100000 in
/-- GatheredPoints.option [(-2147483648, -1), (-2147483648, 2147483647), (-2147483648, 2147483647), (-2147483648, 2147483647)] -/
theorem zx2824_0 {z : gH} {L d : Nat} {K : Option gV → gH → Prop} {s : gH} (p0 : Int) (p1 : Int) (p2 : Int) (p3 : Int) (hs : xM z s) (h_p0 : (-2147483648) ≤ p0 ∧ p0 ≤ (-1)) (h_p1 : (-2147483648) ≤ p1 ∧ p1 ≤ 2147483647) (h_p2 : (-2147483648) ≤ p2 ∧ p2 ≤ 2147483647) (h_p3 : (-2147483648) ≤ p3 ∧ p3 ≤ 2147483647) (q0 : gp_I s 1 2 = 0) (q1 : gp_I s 1 6 = 0) (q2 : gp_I s 1 7 = 1) (q3 : gp_I s 51 8 = 0) (q4 : gp_I s 57 1 = 0) (q5 : gp_I s 57 3 = 0) (q6 : gp_I s 6 4 = 0) (q7 : gp_R s 25 6 = none) (q8 : gp_R s 25 7 = none) (q9 : gp_R s 25 8 = none) (q10 : gp_R s 25 9 = none) (q11 : ∀ k, k < 8 → gp_R s 4 k = some 25) (q12 : gp_R s 51 6 = some 55) (q13 : gp_R s 51 7 = some 56) (q14 : gp_us s = 606895) (q15 : gp_sz s = 117) (k : ∀ (t : gH), xM z t → (gp_I t 1 2 = 0) → (gp_I t 1 6 = 0) → (gp_I t 1 7 = 1) → ((-2147483648) ≤ gp_I t 2 1 ∧ gp_I t 2 1 ≤ 2147483647) → (gp_I t 51 8 = 0) → (gp_I t 57 1 = 0) → (gp_I t 57 3 = 0) → (gp_I t 6 4 = 0) → (gp_R t 25 6 = none) → (gp_R t 25 7 = none) → (gp_R t 25 8 = none) → (gp_R t 25 9 = none) → (∀ k, k < 8 → gp_R t 4 k = some 25) → (gp_R t 51 6 = some 55) → (gp_R t 51 7 = some 56) → (gp_us t = 606895) → (gp_sz t = 117) → K (some (gp_i (-1000000001))) t) : gs_C L (d + 1) 2824 8 [gp_r (some 1), gp_i p0, gp_i p1, gp_i p2, gp_i p3] s K := by
  refine s_2824_e _ _ _ _ ?_
  refine zx2856_0 _ hs (by omega) (by omega) (by omega) (by omega) (by omega) (by omega) (by omega) q7 q8 q9 q10 q11 q12 q13 (⟨_, rfl, ?_⟩)
  refine ⟨fun h_1 => ?_, fun h_1 => ?_⟩
  · exfalso; omega
  · refine s_2824_22 _ _ _ _ _ _ _ ?_
    refine zx2855_1 hs (by omega) (by omega) (by omega) (by omega) (by omega) (by omega) (by omega) q7 q8 q9 q10 q11 q12 q13 q14 q15 (fun s_2 hs_3 q_4 q_5 q_6 q_7 q_8 q_9 q_10 q_11 q_12 q_13 q_14 q_15 q_16 q_17 q_18 q_19 q_20 => ⟨_, rfl, ?_⟩)
    exact k s_2 hs_3 (by omega) (by omega) (by omega) (by omega) (by omega) (by omega) (by omega) (by omega) q_12 q_13 q_14 q_15 q_16 q_17 q_18 q_19 q_20
set_option maxRecDepth 100000 in
/-- GatheredPoints.option [(8, 2147483647), (-2147483648, 2147483647), (-2147483648, 2147483647), (-2147483648, 2147483647)] -/
theorem zx2824_1 {z : gH} {L d : Nat} {K : Option gV → gH → Prop} {s : gH} (p0 : Int) (p1 : Int) (p2 : Int) (p3 : Int) (hs : xM z s) (h_p0 : 8 ≤ p0 ∧ p0 ≤ 2147483647) (h_p1 : (-2147483648) ≤ p1 ∧ p1 ≤ 2147483647) (h_p2 : (-2147483648) ≤ p2 ∧ p2 ≤ 2147483647) (h_p3 : (-2147483648) ≤ p3 ∧ p3 ≤ 2147483647) (q0 : gp_I s 1 2 = 0) (q1 : gp_I s 1 6 = 0) (q2 : gp_I s 1 7 = 1) (q3 : gp_I s 51 8 = 0) (q4 : gp_I s 57 1 = 0) (q5 : gp_I s 57 3 = 0) (q6 : gp_I s 6 4 = 0) (q7 : gp_R s 25 6 = none) (q8 : gp_R s 25 7 = none) (q9 : gp_R s 25 8 = none) (q10 : gp_R s 25 9 = none) (q11 : ∀ k, k < 8 → gp_R s 4 k = some 25) (q12 : gp_R s 51 6 = some 55) (q13 : gp_R s 51 7 = some 56) (q14 : gp_us s = 606895) (q15 : gp_sz s = 117) (k : ∀ (t : gH), xM z t → (gp_I t 1 2 = 0) → (gp_I t 1 6 = 0) → (gp_I t 1 7 = 1) → ((-2147483648) ≤ gp_I t 2 1 ∧ gp_I t 2 1 ≤ 2147483647) → (gp_I t 51 8 = 0) → (gp_I t 57 1 = 0) → (gp_I t 57 3 = 0) → (gp_I t 6 4 = 0) → (gp_R t 25 6 = none) → (gp_R t 25 7 = none) → (gp_R t 25 8 = none) → (gp_R t 25 9 = none) → (∀ k, k < 8 → gp_R t 4 k = some 25) → (gp_R t 51 6 = some 55) → (gp_R t 51 7 = some 56) → (gp_us t = 606895) → (gp_sz t = 117) → K (some (gp_i (-1000000001))) t) : gs_C L (d + 1) 2824 8 [gp_r (some 1), gp_i p0, gp_i p1, gp_i p2, gp_i p3] s K := by
  refine s_2824_e _ _ _ _ ?_
  refine zx2856_1 _ hs (by omega) (by omega) (by omega) (by omega) (by omega) (by omega) (by omega) q7 q8 q9 q10 q11 q12 q13 (⟨_, rfl, ?_⟩)
  refine ⟨fun h_1 => ?_, fun h_1 => ?_⟩
  · exfalso; omega
  · refine s_2824_22 _ _ _ _ _ _ _ ?_
    refine zx2855_1 hs (by omega) (by omega) (by omega) (by omega) (by omega) (by omega) (by omega) q7 q8 q9 q10 q11 q12 q13 q14 q15 (fun s_2 hs_3 q_4 q_5 q_6 q_7 q_8 q_9 q_10 q_11 q_12 q_13 q_14 q_15 q_16 q_17 q_18 q_19 q_20 => ⟨_, rfl, ?_⟩)
    exact k s_2 hs_3 (by omega) (by omega) (by omega) (by omega) (by omega) (by omega) (by omega) (by omega) q_12 q_13 q_14 q_15 q_16 q_17 q_18 q_19 q_20
set_option maxRecDepth 100000 in
/-- GatheredPoints.noSide [(-2147483648, -1)] -/
theorem zx2857_0 {z : gH} {L d : Nat} {K : Option gV → gH → Prop} {s : gH} (p0 : Int) (hs : xM z s) (h_p0 : (-2147483648) ≤ p0 ∧ p0 ≤ (-1)) (q0 : gp_I s 1 2 = 0) (q1 : gp_I s 1 6 = 0) (q2 : gp_I s 1 7 = 1) (q3 : gp_I s 51 8 = 0) (q4 : gp_I s 57 1 = 0) (q5 : gp_I s 57 3 = 0) (q6 : gp_R s 25 6 = none) (q7 : gp_R s 25 7 = none) (q8 : gp_R s 25 8 = none) (q9 : gp_R s 25 9 = none) (q10 : ∀ k, k < 8 → gp_R s 4 k = some 25) (q11 : gp_R s 51 6 = some 55) (q12 : gp_R s 51 7 = some 56) (k : K (some (gp_i 1)) s) : gs_C L d 2857 1 [gp_i p0] s K := by
  refine s_2857_e _ ?_
  refine ⟨fun h_1 => ?_, fun h_1 => ?_⟩
  · exfalso; omega
  · refine ⟨fun h_2 => ?_, fun h_2 => ?_⟩
    · exfalso; omega
    · refine s_2857_14 _ _ ?_
      refine ⟨by omega, ?_⟩
      exact k
set_option maxRecDepth 100000 in
/-- GatheredPoints.option [(0, 7), (-2147483648, -1), (-2147483648, 2147483647), (-2147483648, 2147483647)] -/
theorem zx2824_2 {z : gH} {L d : Nat} {K : Option gV → gH → Prop} {s : gH} (p0 : Int) (p1 : Int) (p2 : Int) (p3 : Int) (hs : xM z s) (h_p0 : 0 ≤ p0 ∧ p0 ≤ 7) (h_p1 : (-2147483648) ≤ p1 ∧ p1 ≤ (-1)) (h_p2 : (-2147483648) ≤ p2 ∧ p2 ≤ 2147483647) (h_p3 : (-2147483648) ≤ p3 ∧ p3 ≤ 2147483647) (q0 : gp_I s 1 2 = 0) (q1 : gp_I s 1 6 = 0) (q2 : gp_I s 1 7 = 1) (q3 : gp_I s 51 8 = 0) (q4 : gp_I s 57 1 = 0) (q5 : gp_I s 57 3 = 0) (q6 : gp_I s 6 4 = 0) (q7 : gp_R s 25 6 = none) (q8 : gp_R s 25 7 = none) (q9 : gp_R s 25 8 = none) (q10 : gp_R s 25 9 = none) (q11 : ∀ k, k < 8 → gp_R s 4 k = some 25) (q12 : gp_R s 51 6 = some 55) (q13 : gp_R s 51 7 = some 56) (q14 : gp_us s = 606895) (q15 : gp_sz s = 117) (k : ∀ (t : gH), xM z t → (gp_I t 1 2 = 0) → (gp_I t 1 6 = 0) → (gp_I t 1 7 = 1) → ((-2147483648) ≤ gp_I t 2 1 ∧ gp_I t 2 1 ≤ 2147483647) → (gp_I t 51 8 = 0) → (gp_I t 57 1 = 0) → (gp_I t 57 3 = 0) → (gp_I t 6 4 = 0) → (gp_R t 25 6 = none) → (gp_R t 25 7 = none) → (gp_R t 25 8 = none) → (gp_R t 25 9 = none) → (∀ k, k < 8 → gp_R t 4 k = some 25) → (gp_R t 51 6 = some 55) → (gp_R t 51 7 = some 56) → (gp_us t = 606895) → (gp_sz t = 117) → K (some (gp_i (-1000000001))) t) : gs_C L (d + 1) 2824 8 [gp_r (some 1), gp_i p0, gp_i p1, gp_i p2, gp_i p3] s K := by
  refine s_2824_e _ _ _ _ ?_
  refine zx2856_2 _ hs (by omega) (by omega) (by omega) (by omega) (by omega) (by omega) (by omega) q7 q8 q9 q10 q11 q12 q13 (⟨_, rfl, ?_⟩)
  refine ⟨fun h_1 => ?_, fun h_1 => ?_⟩
  · refine zx2857_0 _ hs (by omega) (by omega) (by omega) (by omega) (by omega) (by omega) (by omega) q7 q8 q9 q10 q11 q12 q13 (⟨_, rfl, ?_⟩)
    refine ⟨fun h_2 => ?_, fun h_2 => ?_⟩
    · exfalso; omega
    · refine s_2824_22 _ _ _ _ _ _ _ ?_
      refine zx2855_1 hs (by omega) (by omega) (by omega) (by omega) (by omega) (by omega) (by omega) q7 q8 q9 q10 q11 q12 q13 q14 q15 (fun s_3 hs_4 q_5 q_6 q_7 q_8 q_9 q_10 q_11 q_12 q_13 q_14 q_15 q_16 q_17 q_18 q_19 q_20 q_21 => ⟨_, rfl, ?_⟩)
      exact k s_3 hs_4 (by omega) (by omega) (by omega) (by omega) (by omega) (by omega) (by omega) (by omega) q_13 q_14 q_15 q_16 q_17 q_18 q_19 q_20 q_21
  · exfalso; omega
set_option maxRecDepth 100000 in
/-- GatheredPoints.noSide [(2, 2147483647)] -/
theorem zx2857_1 {z : gH} {L d : Nat} {K : Option gV → gH → Prop} {s : gH} (p0 : Int) (hs : xM z s) (h_p0 : 2 ≤ p0 ∧ p0 ≤ 2147483647) (q0 : gp_I s 1 2 = 0) (q1 : gp_I s 1 6 = 0) (q2 : gp_I s 1 7 = 1) (q3 : gp_I s 51 8 = 0) (q4 : gp_I s 57 1 = 0) (q5 : gp_I s 57 3 = 0) (q6 : gp_R s 25 6 = none) (q7 : gp_R s 25 7 = none) (q8 : gp_R s 25 8 = none) (q9 : gp_R s 25 9 = none) (q10 : ∀ k, k < 8 → gp_R s 4 k = some 25) (q11 : gp_R s 51 6 = some 55) (q12 : gp_R s 51 7 = some 56) (k : K (some (gp_i 1)) s) : gs_C L d 2857 1 [gp_i p0] s K := by
  refine s_2857_e _ ?_
  refine ⟨fun h_1 => ?_, fun h_1 => ?_⟩
  · exfalso; omega
  · refine ⟨fun h_2 => ?_, fun h_2 => ?_⟩
    · exfalso; omega
    · refine s_2857_14 _ _ ?_
      refine ⟨by omega, ?_⟩
      exact k
set_option maxRecDepth 100000 in
/-- GatheredPoints.option [(0, 7), (2, 2147483647), (-2147483648, 2147483647), (-2147483648, 2147483647)] -/
theorem zx2824_3 {z : gH} {L d : Nat} {K : Option gV → gH → Prop} {s : gH} (p0 : Int) (p1 : Int) (p2 : Int) (p3 : Int) (hs : xM z s) (h_p0 : 0 ≤ p0 ∧ p0 ≤ 7) (h_p1 : 2 ≤ p1 ∧ p1 ≤ 2147483647) (h_p2 : (-2147483648) ≤ p2 ∧ p2 ≤ 2147483647) (h_p3 : (-2147483648) ≤ p3 ∧ p3 ≤ 2147483647) (q0 : gp_I s 1 2 = 0) (q1 : gp_I s 1 6 = 0) (q2 : gp_I s 1 7 = 1) (q3 : gp_I s 51 8 = 0) (q4 : gp_I s 57 1 = 0) (q5 : gp_I s 57 3 = 0) (q6 : gp_I s 6 4 = 0) (q7 : gp_R s 25 6 = none) (q8 : gp_R s 25 7 = none) (q9 : gp_R s 25 8 = none) (q10 : gp_R s 25 9 = none) (q11 : ∀ k, k < 8 → gp_R s 4 k = some 25) (q12 : gp_R s 51 6 = some 55) (q13 : gp_R s 51 7 = some 56) (q14 : gp_us s = 606895) (q15 : gp_sz s = 117) (k : ∀ (t : gH), xM z t → (gp_I t 1 2 = 0) → (gp_I t 1 6 = 0) → (gp_I t 1 7 = 1) → ((-2147483648) ≤ gp_I t 2 1 ∧ gp_I t 2 1 ≤ 2147483647) → (gp_I t 51 8 = 0) → (gp_I t 57 1 = 0) → (gp_I t 57 3 = 0) → (gp_I t 6 4 = 0) → (gp_R t 25 6 = none) → (gp_R t 25 7 = none) → (gp_R t 25 8 = none) → (gp_R t 25 9 = none) → (∀ k, k < 8 → gp_R t 4 k = some 25) → (gp_R t 51 6 = some 55) → (gp_R t 51 7 = some 56) → (gp_us t = 606895) → (gp_sz t = 117) → K (some (gp_i (-1000000001))) t) : gs_C L (d + 1) 2824 8 [gp_r (some 1), gp_i p0, gp_i p1, gp_i p2, gp_i p3] s K := by
  refine s_2824_e _ _ _ _ ?_
  refine zx2856_2 _ hs (by omega) (by omega) (by omega) (by omega) (by omega) (by omega) (by omega) q7 q8 q9 q10 q11 q12 q13 (⟨_, rfl, ?_⟩)
  refine ⟨fun h_1 => ?_, fun h_1 => ?_⟩
  · refine zx2857_1 _ hs (by omega) (by omega) (by omega) (by omega) (by omega) (by omega) (by omega) q7 q8 q9 q10 q11 q12 q13 (⟨_, rfl, ?_⟩)
    refine ⟨fun h_2 => ?_, fun h_2 => ?_⟩
    · exfalso; omega
    · refine s_2824_22 _ _ _ _ _ _ _ ?_
      refine zx2855_1 hs (by omega) (by omega) (by omega) (by omega) (by omega) (by omega) (by omega) q7 q8 q9 q10 q11 q12 q13 q14 q15 (fun s_3 hs_4 q_5 q_6 q_7 q_8 q_9 q_10 q_11 q_12 q_13 q_14 q_15 q_16 q_17 q_18 q_19 q_20 q_21 => ⟨_, rfl, ?_⟩)
      exact k s_3 hs_4 (by omega) (by omega) (by omega) (by omega) (by omega) (by omega) (by omega) (by omega) q_13 q_14 q_15 q_16 q_17 q_18 q_19 q_20 q_21
  · exfalso; omega
set_option maxRecDepth 100000 in
/-- GatheredPoints.noSide [(0, 0)] -/
theorem zx2857_2 {z : gH} {L d : Nat} {K : Option gV → gH → Prop} {s : gH}  (hs : xM z s)  (q0 : gp_I s 1 2 = 0) (q1 : gp_I s 1 6 = 0) (q2 : gp_I s 1 7 = 1) (q3 : gp_I s 51 8 = 0) (q4 : gp_I s 57 1 = 0) (q5 : gp_I s 57 3 = 0) (q6 : gp_R s 25 6 = none) (q7 : gp_R s 25 7 = none) (q8 : gp_R s 25 8 = none) (q9 : gp_R s 25 9 = none) (q10 : ∀ k, k < 8 → gp_R s 4 k = some 25) (q11 : gp_R s 51 6 = some 55) (q12 : gp_R s 51 7 = some 56) (k : K (some (gp_i 0)) s) : gs_C L d 2857 1 [gp_i 0] s K := by
  refine s_2857_e _ ?_
  refine ⟨fun h_1 => ?_, fun h_1 => ?_⟩
  · refine s_2857_13 _ ?_
    refine s_2857_14 _ _ ?_
    refine ⟨by omega, ?_⟩
    exact k
  · exfalso; omega
set_option maxRecDepth 100000 in
/-- GatheredPoints.option [(0, 7), (0, 0), (-2147483648, 2147483647), (-2147483648, -1)] -/
theorem zx2824_4 {z : gH} {L d : Nat} {K : Option gV → gH → Prop} {s : gH} (p0 : Int) (p2 : Int) (p3 : Int) (hs : xM z s) (h_p0 : 0 ≤ p0 ∧ p0 ≤ 7) (h_p2 : (-2147483648) ≤ p2 ∧ p2 ≤ 2147483647) (h_p3 : (-2147483648) ≤ p3 ∧ p3 ≤ (-1)) (q0 : gp_I s 1 2 = 0) (q1 : gp_I s 1 6 = 0) (q2 : gp_I s 1 7 = 1) (q3 : gp_I s 51 8 = 0) (q4 : gp_I s 57 1 = 0) (q5 : gp_I s 57 3 = 0) (q6 : gp_I s 6 4 = 0) (q7 : gp_R s 25 6 = none) (q8 : gp_R s 25 7 = none) (q9 : gp_R s 25 8 = none) (q10 : gp_R s 25 9 = none) (q11 : ∀ k, k < 8 → gp_R s 4 k = some 25) (q12 : gp_R s 51 6 = some 55) (q13 : gp_R s 51 7 = some 56) (q14 : gp_us s = 606895) (q15 : gp_sz s = 117) (k : ∀ (t : gH), xM z t → (gp_I t 1 2 = 0) → (gp_I t 1 6 = 0) → (gp_I t 1 7 = 1) → ((-2147483648) ≤ gp_I t 2 1 ∧ gp_I t 2 1 ≤ 2147483647) → (gp_I t 51 8 = 0) → (gp_I t 57 1 = 0) → (gp_I t 57 3 = 0) → (gp_I t 6 4 = 0) → (gp_R t 25 6 = none) → (gp_R t 25 7 = none) → (gp_R t 25 8 = none) → (gp_R t 25 9 = none) → (∀ k, k < 8 → gp_R t 4 k = some 25) → (gp_R t 51 6 = some 55) → (gp_R t 51 7 = some 56) → (gp_us t = 606895) → (gp_sz t = 117) → K (some (gp_i (-1000000001))) t) : gs_C L (d + 1) 2824 8 [gp_r (some 1), gp_i p0, gp_i 0, gp_i p2, gp_i p3] s K := by
  refine s_2824_e _ _ _ _ ?_
  refine zx2856_2 _ hs (by omega) (by omega) (by omega) (by omega) (by omega) (by omega) (by omega) q7 q8 q9 q10 q11 q12 q13 (⟨_, rfl, ?_⟩)
  refine ⟨fun h_1 => ?_, fun h_1 => ?_⟩
  · refine zx2857_2 hs (by omega) (by omega) (by omega) (by omega) (by omega) (by omega) q7 q8 q9 q10 q11 q12 q13 (⟨_, rfl, ?_⟩)
    refine ⟨fun h_2 => ?_, fun h_2 => ?_⟩
    · refine zx2856_0 _ hs (by omega) (by omega) (by omega) (by omega) (by omega) (by omega) (by omega) q7 q8 q9 q10 q11 q12 q13 (⟨_, rfl, ?_⟩)
      refine ⟨fun h_3 => ?_, fun h_3 => ?_⟩
      · exfalso; omega
      · refine s_2824_22 _ _ _ _ _ _ _ ?_
        refine zx2855_1 hs (by omega) (by omega) (by omega) (by omega) (by omega) (by omega) (by omega) q7 q8 q9 q10 q11 q12 q13 q14 q15 (fun s_4 hs_5 q_6 q_7 q_8 q_9 q_10 q_11 q_12 q_13 q_14 q_15 q_16 q_17 q_18 q_19 q_20 q_21 q_22 => ⟨_, rfl, ?_⟩)
        exact k s_4 hs_5 (by omega) (by omega) (by omega) (by omega) (by omega) (by omega) (by omega) (by omega) q_14 q_15 q_16 q_17 q_18 q_19 q_20 q_21 q_22
    · exfalso; omega
  · exfalso; omega
set_option maxRecDepth 100000 in
/-- GatheredPoints.option [(0, 7), (0, 0), (-2147483648, 2147483647), (8, 2147483647)] -/
theorem zx2824_5 {z : gH} {L d : Nat} {K : Option gV → gH → Prop} {s : gH} (p0 : Int) (p2 : Int) (p3 : Int) (hs : xM z s) (h_p0 : 0 ≤ p0 ∧ p0 ≤ 7) (h_p2 : (-2147483648) ≤ p2 ∧ p2 ≤ 2147483647) (h_p3 : 8 ≤ p3 ∧ p3 ≤ 2147483647) (q0 : gp_I s 1 2 = 0) (q1 : gp_I s 1 6 = 0) (q2 : gp_I s 1 7 = 1) (q3 : gp_I s 51 8 = 0) (q4 : gp_I s 57 1 = 0) (q5 : gp_I s 57 3 = 0) (q6 : gp_I s 6 4 = 0) (q7 : gp_R s 25 6 = none) (q8 : gp_R s 25 7 = none) (q9 : gp_R s 25 8 = none) (q10 : gp_R s 25 9 = none) (q11 : ∀ k, k < 8 → gp_R s 4 k = some 25) (q12 : gp_R s 51 6 = some 55) (q13 : gp_R s 51 7 = some 56) (q14 : gp_us s = 606895) (q15 : gp_sz s = 117) (k : ∀ (t : gH), xM z t → (gp_I t 1 2 = 0) → (gp_I t 1 6 = 0) → (gp_I t 1 7 = 1) → ((-2147483648) ≤ gp_I t 2 1 ∧ gp_I t 2 1 ≤ 2147483647) → (gp_I t 51 8 = 0) → (gp_I t 57 1 = 0) → (gp_I t 57 3 = 0) → (gp_I t 6 4 = 0) → (gp_R t 25 6 = none) → (gp_R t 25 7 = none) → (gp_R t 25 8 = none) → (gp_R t 25 9 = none) → (∀ k, k < 8 → gp_R t 4 k = some 25) → (gp_R t 51 6 = some 55) → (gp_R t 51 7 = some 56) → (gp_us t = 606895) → (gp_sz t = 117) → K (some (gp_i (-1000000001))) t) : gs_C L (d + 1) 2824 8 [gp_r (some 1), gp_i p0, gp_i 0, gp_i p2, gp_i p3] s K := by
  refine s_2824_e _ _ _ _ ?_
  refine zx2856_2 _ hs (by omega) (by omega) (by omega) (by omega) (by omega) (by omega) (by omega) q7 q8 q9 q10 q11 q12 q13 (⟨_, rfl, ?_⟩)
  refine ⟨fun h_1 => ?_, fun h_1 => ?_⟩
  · refine zx2857_2 hs (by omega) (by omega) (by omega) (by omega) (by omega) (by omega) q7 q8 q9 q10 q11 q12 q13 (⟨_, rfl, ?_⟩)
    refine ⟨fun h_2 => ?_, fun h_2 => ?_⟩
    · refine zx2856_1 _ hs (by omega) (by omega) (by omega) (by omega) (by omega) (by omega) (by omega) q7 q8 q9 q10 q11 q12 q13 (⟨_, rfl, ?_⟩)
      refine ⟨fun h_3 => ?_, fun h_3 => ?_⟩
      · exfalso; omega
      · refine s_2824_22 _ _ _ _ _ _ _ ?_
        refine zx2855_1 hs (by omega) (by omega) (by omega) (by omega) (by omega) (by omega) (by omega) q7 q8 q9 q10 q11 q12 q13 q14 q15 (fun s_4 hs_5 q_6 q_7 q_8 q_9 q_10 q_11 q_12 q_13 q_14 q_15 q_16 q_17 q_18 q_19 q_20 q_21 q_22 => ⟨_, rfl, ?_⟩)
        exact k s_4 hs_5 (by omega) (by omega) (by omega) (by omega) (by omega) (by omega) (by omega) (by omega) q_14 q_15 q_16 q_17 q_18 q_19 q_20 q_21 q_22
    · exfalso; omega
  · exfalso; omega
set_option maxRecDepth 100000 in
/-- GatheredPoints.noSide [(1, 1)] -/
theorem zx2857_3 {z : gH} {L d : Nat} {K : Option gV → gH → Prop} {s : gH}  (hs : xM z s)  (q0 : gp_I s 1 2 = 0) (q1 : gp_I s 1 6 = 0) (q2 : gp_I s 1 7 = 1) (q3 : gp_I s 51 8 = 0) (q4 : gp_I s 57 1 = 0) (q5 : gp_I s 57 3 = 0) (q6 : gp_R s 25 6 = none) (q7 : gp_R s 25 7 = none) (q8 : gp_R s 25 8 = none) (q9 : gp_R s 25 9 = none) (q10 : ∀ k, k < 8 → gp_R s 4 k = some 25) (q11 : gp_R s 51 6 = some 55) (q12 : gp_R s 51 7 = some 56) (k : K (some (gp_i 0)) s) : gs_C L d 2857 1 [gp_i 1] s K := by
  refine s_2857_e _ ?_
  refine ⟨fun h_1 => ?_, fun h_1 => ?_⟩
  · exfalso; omega
  · refine ⟨fun h_2 => ?_, fun h_2 => ?_⟩
    · refine s_2857_13 _ ?_
      refine s_2857_14 _ _ ?_
      refine ⟨by omega, ?_⟩
      exact k
    · exfalso; omega
set_option maxRecDepth 100000 in
/-- GatheredPoints.option [(0, 7), (1, 1), (-2147483648, 2147483647), (-2147483648, -1)] -/
theorem zx2824_6 {z : gH} {L d : Nat} {K : Option gV → gH → Prop} {s : gH} (p0 : Int) (p2 : Int) (p3 : Int) (hs : xM z s) (h_p0 : 0 ≤ p0 ∧ p0 ≤ 7) (h_p2 : (-2147483648) ≤ p2 ∧ p2 ≤ 2147483647) (h_p3 : (-2147483648) ≤ p3 ∧ p3 ≤ (-1)) (q0 : gp_I s 1 2 = 0) (q1 : gp_I s 1 6 = 0) (q2 : gp_I s 1 7 = 1) (q3 : gp_I s 51 8 = 0) (q4 : gp_I s 57 1 = 0) (q5 : gp_I s 57 3 = 0) (q6 : gp_I s 6 4 = 0) (q7 : gp_R s 25 6 = none) (q8 : gp_R s 25 7 = none) (q9 : gp_R s 25 8 = none) (q10 : gp_R s 25 9 = none) (q11 : ∀ k, k < 8 → gp_R s 4 k = some 25) (q12 : gp_R s 51 6 = some 55) (q13 : gp_R s 51 7 = some 56) (q14 : gp_us s = 606895) (q15 : gp_sz s = 117) (k : ∀ (t : gH), xM z t → (gp_I t 1 2 = 0) → (gp_I t 1 6 = 0) → (gp_I t 1 7 = 1) → ((-2147483648) ≤ gp_I t 2 1 ∧ gp_I t 2 1 ≤ 2147483647) → (gp_I t 51 8 = 0) → (gp_I t 57 1 = 0) → (gp_I t 57 3 = 0) → (gp_I t 6 4 = 0) → (gp_R t 25 6 = none) → (gp_R t 25 7 = none) → (gp_R t 25 8 = none) → (gp_R t 25 9 = none) → (∀ k, k < 8 → gp_R t 4 k = some 25) → (gp_R t 51 6 = some 55) → (gp_R t 51 7 = some 56) → (gp_us t = 606895) → (gp_sz t = 117) → K (some (gp_i (-1000000001))) t) : gs_C L (d + 1) 2824 8 [gp_r (some 1), gp_i p0, gp_i 1, gp_i p2, gp_i p3] s K := by
  refine s_2824_e _ _ _ _ ?_
  refine zx2856_2 _ hs (by omega) (by omega) (by omega) (by omega) (by omega) (by omega) (by omega) q7 q8 q9 q10 q11 q12 q13 (⟨_, rfl, ?_⟩)
  refine ⟨fun h_1 => ?_, fun h_1 => ?_⟩
  · refine zx2857_3 hs (by omega) (by omega) (by omega) (by omega) (by omega) (by omega) q7 q8 q9 q10 q11 q12 q13 (⟨_, rfl, ?_⟩)
    refine ⟨fun h_2 => ?_, fun h_2 => ?_⟩
    · refine zx2856_0 _ hs (by omega) (by omega) (by omega) (by omega) (by omega) (by omega) (by omega) q7 q8 q9 q10 q11 q12 q13 (⟨_, rfl, ?_⟩)
      refine ⟨fun h_3 => ?_, fun h_3 => ?_⟩
      · exfalso; omega
      · refine s_2824_22 _ _ _ _ _ _ _ ?_
        refine zx2855_1 hs (by omega) (by omega) (by omega) (by omega) (by omega) (by omega) (by omega) q7 q8 q9 q10 q11 q12 q13 q14 q15 (fun s_4 hs_5 q_6 q_7 q_8 q_9 q_10 q_11 q_12 q_13 q_14 q_15 q_16 q_17 q_18 q_19 q_20 q_21 q_22 => ⟨_, rfl, ?_⟩)
        exact k s_4 hs_5 (by omega) (by omega) (by omega) (by omega) (by omega) (by omega) (by omega) (by omega) q_14 q_15 q_16 q_17 q_18 q_19 q_20 q_21 q_22
    · exfalso; omega
  · exfalso; omega
set_option maxRecDepth 100000 in
/-- GatheredPoints.option [(0, 7), (1, 1), (-2147483648, 2147483647), (8, 2147483647)] -/
theorem zx2824_7 {z : gH} {L d : Nat} {K : Option gV → gH → Prop} {s : gH} (p0 : Int) (p2 : Int) (p3 : Int) (hs : xM z s) (h_p0 : 0 ≤ p0 ∧ p0 ≤ 7) (h_p2 : (-2147483648) ≤ p2 ∧ p2 ≤ 2147483647) (h_p3 : 8 ≤ p3 ∧ p3 ≤ 2147483647) (q0 : gp_I s 1 2 = 0) (q1 : gp_I s 1 6 = 0) (q2 : gp_I s 1 7 = 1) (q3 : gp_I s 51 8 = 0) (q4 : gp_I s 57 1 = 0) (q5 : gp_I s 57 3 = 0) (q6 : gp_I s 6 4 = 0) (q7 : gp_R s 25 6 = none) (q8 : gp_R s 25 7 = none) (q9 : gp_R s 25 8 = none) (q10 : gp_R s 25 9 = none) (q11 : ∀ k, k < 8 → gp_R s 4 k = some 25) (q12 : gp_R s 51 6 = some 55) (q13 : gp_R s 51 7 = some 56) (q14 : gp_us s = 606895) (q15 : gp_sz s = 117) (k : ∀ (t : gH), xM z t → (gp_I t 1 2 = 0) → (gp_I t 1 6 = 0) → (gp_I t 1 7 = 1) → ((-2147483648) ≤ gp_I t 2 1 ∧ gp_I t 2 1 ≤ 2147483647) → (gp_I t 51 8 = 0) → (gp_I t 57 1 = 0) → (gp_I t 57 3 = 0) → (gp_I t 6 4 = 0) → (gp_R t 25 6 = none) → (gp_R t 25 7 = none) → (gp_R t 25 8 = none) → (gp_R t 25 9 = none) → (∀ k, k < 8 → gp_R t 4 k = some 25) → (gp_R t 51 6 = some 55) → (gp_R t 51 7 = some 56) → (gp_us t = 606895) → (gp_sz t = 117) → K (some (gp_i (-1000000001))) t) : gs_C L (d + 1) 2824 8 [gp_r (some 1), gp_i p0, gp_i 1, gp_i p2, gp_i p3] s K := by
  refine s_2824_e _ _ _ _ ?_
  refine zx2856_2 _ hs (by omega) (by omega) (by omega) (by omega) (by omega) (by omega) (by omega) q7 q8 q9 q10 q11 q12 q13 (⟨_, rfl, ?_⟩)
  refine ⟨fun h_1 => ?_, fun h_1 => ?_⟩
  · refine zx2857_3 hs (by omega) (by omega) (by omega) (by omega) (by omega) (by omega) q7 q8 q9 q10 q11 q12 q13 (⟨_, rfl, ?_⟩)
    refine ⟨fun h_2 => ?_, fun h_2 => ?_⟩
    · refine zx2856_1 _ hs (by omega) (by omega) (by omega) (by omega) (by omega) (by omega) (by omega) q7 q8 q9 q10 q11 q12 q13 (⟨_, rfl, ?_⟩)
      refine ⟨fun h_3 => ?_, fun h_3 => ?_⟩
      · exfalso; omega
      · refine s_2824_22 _ _ _ _ _ _ _ ?_
        refine zx2855_1 hs (by omega) (by omega) (by omega) (by omega) (by omega) (by omega) (by omega) q7 q8 q9 q10 q11 q12 q13 q14 q15 (fun s_4 hs_5 q_6 q_7 q_8 q_9 q_10 q_11 q_12 q_13 q_14 q_15 q_16 q_17 q_18 q_19 q_20 q_21 q_22 => ⟨_, rfl, ?_⟩)
        exact k s_4 hs_5 (by omega) (by omega) (by omega) (by omega) (by omega) (by omega) (by omega) (by omega) q_14 q_15 q_16 q_17 q_18 q_19 q_20 q_21 q_22
    · exfalso; omega
  · exfalso; omega
set_option maxRecDepth 100000 in
/-- GatheredPoints.refused [(2, 2)] -/
theorem zx2855_7 {z : gH} {L d : Nat} {K : Option gV → gH → Prop} {s : gH}  (hs : xM z s)  (q0 : gp_I s 1 2 = 0) (q1 : gp_I s 1 6 = 0) (q2 : gp_I s 1 7 = 1) (q3 : gp_I s 51 8 = 0) (q4 : gp_I s 57 1 = 0) (q5 : gp_I s 57 3 = 0) (q6 : gp_I s 6 4 = 0) (q7 : gp_R s 25 6 = none) (q8 : gp_R s 25 7 = none) (q9 : gp_R s 25 8 = none) (q10 : gp_R s 25 9 = none) (q11 : ∀ k, k < 8 → gp_R s 4 k = some 25) (q12 : gp_R s 51 6 = some 55) (q13 : gp_R s 51 7 = some 56) (q14 : gp_us s = 606895) (q15 : gp_sz s = 117) (k : ∀ (t : gH), xM z t → (gp_I t 1 2 = 0) → (gp_I t 1 6 = 0) → (gp_I t 1 7 = 1) → ((-2147483648) ≤ gp_I t 2 2 ∧ gp_I t 2 2 ≤ 2147483647) → (gp_I t 51 8 = 0) → (gp_I t 57 1 = 0) → (gp_I t 57 3 = 0) → (gp_I t 6 4 = 0) → (gp_R t 25 6 = none) → (gp_R t 25 7 = none) → (gp_R t 25 8 = none) → (gp_R t 25 9 = none) → (∀ k, k < 8 → gp_R t 4 k = some 25) → (gp_R t 51 6 = some 55) → (gp_R t 51 7 = some 56) → (gp_us t = 606895) → (gp_sz t = 117) → K (some (gp_i (-1000000002))) t) : gs_C L d 2855 2 [gp_r (some 1), gp_i 2] s K := by
  refine s_2855_e _ ?_
  refine ⟨by omega, ?_⟩
  have w_1 := gz_w ((gp_I s 2 (2 : Int).toNat) + 1)
  refine ⟨by omega, ?_⟩
  intro s_2 e_3
  have hs_4 : xM z s_2 := by rw [e_3]; exact xw2 hs _ _
  have q_5 : gp_I s_2 1 2 = 0 := by rw [e_3]; exact q0
  have q_6 : gp_I s_2 1 6 = 0 := by rw [e_3]; exact q1
  have q_7 : gp_I s_2 1 7 = 1 := by rw [e_3]; exact q2
  have q_8 : gp_I s_2 51 8 = 0 := by rw [e_3]; exact q3
  have q_9 : gp_I s_2 57 1 = 0 := by rw [e_3]; exact q4
  have q_10 : gp_I s_2 57 3 = 0 := by rw [e_3]; exact q5
  have q_11 : gp_I s_2 6 4 = 0 := by rw [e_3]; exact q6
  have q_12 : gp_R s_2 25 6 = none := by rw [e_3]; exact q7
  have q_13 : gp_R s_2 25 7 = none := by rw [e_3]; exact q8
  have q_14 : gp_R s_2 25 8 = none := by rw [e_3]; exact q9
  have q_15 : gp_R s_2 25 9 = none := by rw [e_3]; exact q10
  have q_16 : ∀ k, k < 8 → gp_R s_2 4 k = some 25 := by rw [e_3]; exact q11
  have q_17 : gp_R s_2 51 6 = some 55 := by rw [e_3]; exact q12
  have q_18 : gp_R s_2 51 7 = some 56 := by rw [e_3]; exact q13
  have q_19 : gp_us s_2 = 606895 := by rw [e_3]; exact q14
  have q_20 : gp_sz s_2 = 117 := by rw [e_3]; exact q15
  have q_21 : (-2147483648) ≤ gp_I s_2 2 2 ∧ gp_I s_2 2 2 ≤ 2147483647 := by have x_22 : gp_I s_2 2 2 = gp_wr ((gp_I s 2 (2 : Int).toNat) + 1) := (by rw [e_3]; rfl); omega
  have w_23 := gz_w ((-1000000000) - 2)
  have e_24 : gp_wr ((-1000000000) - 2) = (-1000000002) := by omega
  try rw [e_24]
  exact k s_2 hs_4 (by omega) (by omega) (by omega) (by omega) (by omega) (by omega) (by omega) (by omega) q_12 q_13 q_14 q_15 q_16 q_17 q_18 q_19 q_20
set_option maxRecDepth 100000 in
/-- GatheredPoints.option [(0, 7), (0, 0), (-2147483648, -1), (0, 7)] -/
theorem zx2824_8 {z : gH} {L d : Nat} {K : Option gV → gH → Prop} {s : gH} (p0 : Int) (p2 : Int) (p3 : Int) (hs : xM z s) (h_p0 : 0 ≤ p0 ∧ p0 ≤ 7) (h_p2 : (-2147483648) ≤ p2 ∧ p2 ≤ (-1)) (h_p3 : 0 ≤ p3 ∧ p3 ≤ 7) (q0 : gp_I s 1 2 = 0) (q1 : gp_I s 1 6 = 0) (q2 : gp_I s 1 7 = 1) (q3 : gp_I s 51 8 = 0) (q4 : gp_I s 57 1 = 0) (q5 : gp_I s 57 3 = 0) (q6 : gp_I s 6 4 = 0) (q7 : gp_R s 25 6 = none) (q8 : gp_R s 25 7 = none) (q9 : gp_R s 25 8 = none) (q10 : gp_R s 25 9 = none) (q11 : ∀ k, k < 8 → gp_R s 4 k = some 25) (q12 : gp_R s 51 6 = some 55) (q13 : gp_R s 51 7 = some 56) (q14 : gp_us s = 606895) (q15 : gp_sz s = 117) (k : ∀ (t : gH), xM z t → (gp_I t 1 2 = 0) → (gp_I t 1 6 = 0) → (gp_I t 1 7 = 1) → ((-2147483648) ≤ gp_I t 2 2 ∧ gp_I t 2 2 ≤ 2147483647) → (gp_I t 51 8 = 0) → (gp_I t 57 1 = 0) → (gp_I t 57 3 = 0) → (gp_I t 6 4 = 0) → (gp_R t 25 6 = none) → (gp_R t 25 7 = none) → (gp_R t 25 8 = none) → (gp_R t 25 9 = none) → (∀ k, k < 8 → gp_R t 4 k = some 25) → (gp_R t 51 6 = some 55) → (gp_R t 51 7 = some 56) → (gp_us t = 606895) → (gp_sz t = 117) → K (some (gp_i (-1000000002))) t) : gs_C L (d + 1) 2824 8 [gp_r (some 1), gp_i p0, gp_i 0, gp_i p2, gp_i p3] s K := by
  refine s_2824_e _ _ _ _ ?_
  refine zx2856_2 _ hs (by omega) (by omega) (by omega) (by omega) (by omega) (by omega) (by omega) q7 q8 q9 q10 q11 q12 q13 (⟨_, rfl, ?_⟩)
  refine ⟨fun h_1 => ?_, fun h_1 => ?_⟩
  · refine zx2857_2 hs (by omega) (by omega) (by omega) (by omega) (by omega) (by omega) q7 q8 q9 q10 q11 q12 q13 (⟨_, rfl, ?_⟩)
    refine ⟨fun h_2 => ?_, fun h_2 => ?_⟩
    · refine zx2856_2 _ hs (by omega) (by omega) (by omega) (by omega) (by omega) (by omega) (by omega) q7 q8 q9 q10 q11 q12 q13 (⟨_, rfl, ?_⟩)
      refine ⟨fun h_3 => ?_, fun h_3 => ?_⟩
      · refine ⟨by omega, ?_⟩
        try rw [show gp_R (gp_mk L s) 4 p0.toNat = some 25 from (q11 _ (by omega))]
        refine ⟨25, rfl, ?_⟩
        refine ⟨rfl, ?_⟩
        refine zx2306_0 hs q7 q8 q9 q10 (⟨_, rfl, ?_⟩)
        refine ⟨rfl, ?_⟩
        refine zx2307_0 hs q7 q8 q9 q10 (⟨_, rfl, ?_⟩)
        refine ⟨fun h_4 => ?_, fun h_4 => ?_⟩
        · refine s_2824_62 _ _ _ _ _ _ ?_
          refine zx2855_7 hs (by omega) (by omega) (by omega) (by omega) (by omega) (by omega) (by omega) q7 q8 q9 q10 q11 q12 q13 q14 q15 (fun s_6 hs_7 q_8 q_9 q_10 q_11 q_12 q_13 q_14 q_15 q_16 q_17 q_18 q_19 q_20 q_21 q_22 q_23 q_24 => ⟨_, rfl, ?_⟩)
          exact k s_6 hs_7 (by omega) (by omega) (by omega) (by omega) (by omega) (by omega) (by omega) (by omega) q_16 q_17 q_18 q_19 q_20 q_21 q_22 q_23 q_24
        · exfalso; omega
      · exfalso; omega
    · exfalso; omega
  · exfalso; omega
set_option maxRecDepth 100000 in
/-- GatheredPoints.option [(0, 7), (0, 0), (0, 2147483647), (0, 7)] -/
theorem zx2824_9 {z : gH} {L d : Nat} {K : Option gV → gH → Prop} {s : gH} (p0 : Int) (p2 : Int) (p3 : Int) (hs : xM z s) (h_p0 : 0 ≤ p0 ∧ p0 ≤ 7) (h_p2 : 0 ≤ p2 ∧ p2 ≤ 2147483647) (h_p3 : 0 ≤ p3 ∧ p3 ≤ 7) (q0 : gp_I s 1 2 = 0) (q1 : gp_I s 1 6 = 0) (q2 : gp_I s 1 7 = 1) (q3 : gp_I s 51 8 = 0) (q4 : gp_I s 57 1 = 0) (q5 : gp_I s 57 3 = 0) (q6 : gp_I s 6 4 = 0) (q7 : gp_R s 25 6 = none) (q8 : gp_R s 25 7 = none) (q9 : gp_R s 25 8 = none) (q10 : gp_R s 25 9 = none) (q11 : ∀ k, k < 8 → gp_R s 4 k = some 25) (q12 : gp_R s 51 6 = some 55) (q13 : gp_R s 51 7 = some 56) (q14 : gp_us s = 606895) (q15 : gp_sz s = 117) (k : ∀ (t : gH), xM z t → (gp_I t 1 2 = 0) → (gp_I t 1 6 = 0) → (gp_I t 1 7 = 1) → ((-2147483648) ≤ gp_I t 2 2 ∧ gp_I t 2 2 ≤ 2147483647) → (gp_I t 51 8 = 0) → (gp_I t 57 1 = 0) → (gp_I t 57 3 = 0) → (gp_I t 6 4 = 0) → (gp_R t 25 6 = none) → (gp_R t 25 7 = none) → (gp_R t 25 8 = none) → (gp_R t 25 9 = none) → (∀ k, k < 8 → gp_R t 4 k = some 25) → (gp_R t 51 6 = some 55) → (gp_R t 51 7 = some 56) → (gp_us t = 606895) → (gp_sz t = 117) → K (some (gp_i (-1000000002))) t) : gs_C L (d + 1) 2824 8 [gp_r (some 1), gp_i p0, gp_i 0, gp_i p2, gp_i p3] s K := by
  refine s_2824_e _ _ _ _ ?_
  refine zx2856_2 _ hs (by omega) (by omega) (by omega) (by omega) (by omega) (by omega) (by omega) q7 q8 q9 q10 q11 q12 q13 (⟨_, rfl, ?_⟩)
  refine ⟨fun h_1 => ?_, fun h_1 => ?_⟩
  · refine zx2857_2 hs (by omega) (by omega) (by omega) (by omega) (by omega) (by omega) q7 q8 q9 q10 q11 q12 q13 (⟨_, rfl, ?_⟩)
    refine ⟨fun h_2 => ?_, fun h_2 => ?_⟩
    · refine zx2856_2 _ hs (by omega) (by omega) (by omega) (by omega) (by omega) (by omega) (by omega) q7 q8 q9 q10 q11 q12 q13 (⟨_, rfl, ?_⟩)
      refine ⟨fun h_3 => ?_, fun h_3 => ?_⟩
      · refine ⟨by omega, ?_⟩
        try rw [show gp_R (gp_mk L s) 4 p0.toNat = some 25 from (q11 _ (by omega))]
        refine ⟨25, rfl, ?_⟩
        refine ⟨rfl, ?_⟩
        refine zx2306_0 hs q7 q8 q9 q10 (⟨_, rfl, ?_⟩)
        refine ⟨rfl, ?_⟩
        refine zx2307_0 hs q7 q8 q9 q10 (⟨_, rfl, ?_⟩)
        refine ⟨fun h_4 => ?_, fun h_4 => ?_⟩
        · exfalso; omega
        · refine zx3585_1 hs q7 q8 q9 q10 (⟨_, rfl, ?_⟩)
          refine ⟨fun h_5 => ?_, fun h_5 => ?_⟩
          · exfalso; omega
          · refine s_2824_62 _ _ _ _ _ _ ?_
            refine zx2855_7 hs (by omega) (by omega) (by omega) (by omega) (by omega) (by omega) (by omega) q7 q8 q9 q10 q11 q12 q13 q14 q15 (fun s_7 hs_8 q_9 q_10 q_11 q_12 q_13 q_14 q_15 q_16 q_17 q_18 q_19 q_20 q_21 q_22 q_23 q_24 q_25 => ⟨_, rfl, ?_⟩)
            exact k s_7 hs_8 (by omega) (by omega) (by omega) (by omega) (by omega) (by omega) (by omega) (by omega) q_17 q_18 q_19 q_20 q_21 q_22 q_23 q_24 q_25
      · exfalso; omega
    · exfalso; omega
  · exfalso; omega
set_option maxRecDepth 100000 in
/-- GatheredPoints.option [(0, 7), (1, 1), (-2147483648, -1), (0, 7)] -/
theorem zx2824_10 {z : gH} {L d : Nat} {K : Option gV → gH → Prop} {s : gH} (p0 : Int) (p2 : Int) (p3 : Int) (hs : xM z s) (h_p0 : 0 ≤ p0 ∧ p0 ≤ 7) (h_p2 : (-2147483648) ≤ p2 ∧ p2 ≤ (-1)) (h_p3 : 0 ≤ p3 ∧ p3 ≤ 7) (q0 : gp_I s 1 2 = 0) (q1 : gp_I s 1 6 = 0) (q2 : gp_I s 1 7 = 1) (q3 : gp_I s 51 8 = 0) (q4 : gp_I s 57 1 = 0) (q5 : gp_I s 57 3 = 0) (q6 : gp_I s 6 4 = 0) (q7 : gp_R s 25 6 = none) (q8 : gp_R s 25 7 = none) (q9 : gp_R s 25 8 = none) (q10 : gp_R s 25 9 = none) (q11 : ∀ k, k < 8 → gp_R s 4 k = some 25) (q12 : gp_R s 51 6 = some 55) (q13 : gp_R s 51 7 = some 56) (q14 : gp_us s = 606895) (q15 : gp_sz s = 117) (k : ∀ (t : gH), xM z t → (gp_I t 1 2 = 0) → (gp_I t 1 6 = 0) → (gp_I t 1 7 = 1) → ((-2147483648) ≤ gp_I t 2 2 ∧ gp_I t 2 2 ≤ 2147483647) → (gp_I t 51 8 = 0) → (gp_I t 57 1 = 0) → (gp_I t 57 3 = 0) → (gp_I t 6 4 = 0) → (gp_R t 25 6 = none) → (gp_R t 25 7 = none) → (gp_R t 25 8 = none) → (gp_R t 25 9 = none) → (∀ k, k < 8 → gp_R t 4 k = some 25) → (gp_R t 51 6 = some 55) → (gp_R t 51 7 = some 56) → (gp_us t = 606895) → (gp_sz t = 117) → K (some (gp_i (-1000000002))) t) : gs_C L (d + 1) 2824 8 [gp_r (some 1), gp_i p0, gp_i 1, gp_i p2, gp_i p3] s K := by
  refine s_2824_e _ _ _ _ ?_
  refine zx2856_2 _ hs (by omega) (by omega) (by omega) (by omega) (by omega) (by omega) (by omega) q7 q8 q9 q10 q11 q12 q13 (⟨_, rfl, ?_⟩)
  refine ⟨fun h_1 => ?_, fun h_1 => ?_⟩
  · refine zx2857_3 hs (by omega) (by omega) (by omega) (by omega) (by omega) (by omega) q7 q8 q9 q10 q11 q12 q13 (⟨_, rfl, ?_⟩)
    refine ⟨fun h_2 => ?_, fun h_2 => ?_⟩
    · refine zx2856_2 _ hs (by omega) (by omega) (by omega) (by omega) (by omega) (by omega) (by omega) q7 q8 q9 q10 q11 q12 q13 (⟨_, rfl, ?_⟩)
      refine ⟨fun h_3 => ?_, fun h_3 => ?_⟩
      · refine ⟨by omega, ?_⟩
        try rw [show gp_R (gp_mk L s) 4 p0.toNat = some 25 from (q11 _ (by omega))]
        refine ⟨25, rfl, ?_⟩
        refine ⟨rfl, ?_⟩
        refine zx2306_0 hs q7 q8 q9 q10 (⟨_, rfl, ?_⟩)
        refine ⟨rfl, ?_⟩
        refine zx2307_1 hs q7 q8 q9 q10 (⟨_, rfl, ?_⟩)
        refine ⟨fun h_4 => ?_, fun h_4 => ?_⟩
        · refine s_2824_62 _ _ _ _ _ _ ?_
          refine zx2855_7 hs (by omega) (by omega) (by omega) (by omega) (by omega) (by omega) (by omega) q7 q8 q9 q10 q11 q12 q13 q14 q15 (fun s_6 hs_7 q_8 q_9 q_10 q_11 q_12 q_13 q_14 q_15 q_16 q_17 q_18 q_19 q_20 q_21 q_22 q_23 q_24 => ⟨_, rfl, ?_⟩)
          exact k s_6 hs_7 (by omega) (by omega) (by omega) (by omega) (by omega) (by omega) (by omega) (by omega) q_16 q_17 q_18 q_19 q_20 q_21 q_22 q_23 q_24
        · exfalso; omega
      · exfalso; omega
    · exfalso; omega
  · exfalso; omega
set_option maxRecDepth 100000 in
/-- GatheredPoints.option [(0, 7), (1, 1), (0, 2147483647), (0, 7)] -/
theorem zx2824_11 {z : gH} {L d : Nat} {K : Option gV → gH → Prop} {s : gH} (p0 : Int) (p2 : Int) (p3 : Int) (hs : xM z s) (h_p0 : 0 ≤ p0 ∧ p0 ≤ 7) (h_p2 : 0 ≤ p2 ∧ p2 ≤ 2147483647) (h_p3 : 0 ≤ p3 ∧ p3 ≤ 7) (q0 : gp_I s 1 2 = 0) (q1 : gp_I s 1 6 = 0) (q2 : gp_I s 1 7 = 1) (q3 : gp_I s 51 8 = 0) (q4 : gp_I s 57 1 = 0) (q5 : gp_I s 57 3 = 0) (q6 : gp_I s 6 4 = 0) (q7 : gp_R s 25 6 = none) (q8 : gp_R s 25 7 = none) (q9 : gp_R s 25 8 = none) (q10 : gp_R s 25 9 = none) (q11 : ∀ k, k < 8 → gp_R s 4 k = some 25) (q12 : gp_R s 51 6 = some 55) (q13 : gp_R s 51 7 = some 56) (q14 : gp_us s = 606895) (q15 : gp_sz s = 117) (k : ∀ (t : gH), xM z t → (gp_I t 1 2 = 0) → (gp_I t 1 6 = 0) → (gp_I t 1 7 = 1) → ((-2147483648) ≤ gp_I t 2 2 ∧ gp_I t 2 2 ≤ 2147483647) → (gp_I t 51 8 = 0) → (gp_I t 57 1 = 0) → (gp_I t 57 3 = 0) → (gp_I t 6 4 = 0) → (gp_R t 25 6 = none) → (gp_R t 25 7 = none) → (gp_R t 25 8 = none) → (gp_R t 25 9 = none) → (∀ k, k < 8 → gp_R t 4 k = some 25) → (gp_R t 51 6 = some 55) → (gp_R t 51 7 = some 56) → (gp_us t = 606895) → (gp_sz t = 117) → K (some (gp_i (-1000000002))) t) : gs_C L (d + 1) 2824 8 [gp_r (some 1), gp_i p0, gp_i 1, gp_i p2, gp_i p3] s K := by
  refine s_2824_e _ _ _ _ ?_
  refine zx2856_2 _ hs (by omega) (by omega) (by omega) (by omega) (by omega) (by omega) (by omega) q7 q8 q9 q10 q11 q12 q13 (⟨_, rfl, ?_⟩)
  refine ⟨fun h_1 => ?_, fun h_1 => ?_⟩
  · refine zx2857_3 hs (by omega) (by omega) (by omega) (by omega) (by omega) (by omega) q7 q8 q9 q10 q11 q12 q13 (⟨_, rfl, ?_⟩)
    refine ⟨fun h_2 => ?_, fun h_2 => ?_⟩
    · refine zx2856_2 _ hs (by omega) (by omega) (by omega) (by omega) (by omega) (by omega) (by omega) q7 q8 q9 q10 q11 q12 q13 (⟨_, rfl, ?_⟩)
      refine ⟨fun h_3 => ?_, fun h_3 => ?_⟩
      · refine ⟨by omega, ?_⟩
        try rw [show gp_R (gp_mk L s) 4 p0.toNat = some 25 from (q11 _ (by omega))]
        refine ⟨25, rfl, ?_⟩
        refine ⟨rfl, ?_⟩
        refine zx2306_0 hs q7 q8 q9 q10 (⟨_, rfl, ?_⟩)
        refine ⟨rfl, ?_⟩
        refine zx2307_1 hs q7 q8 q9 q10 (⟨_, rfl, ?_⟩)
        refine ⟨fun h_4 => ?_, fun h_4 => ?_⟩
        · exfalso; omega
        · refine zx3585_1 hs q7 q8 q9 q10 (⟨_, rfl, ?_⟩)
          refine ⟨fun h_5 => ?_, fun h_5 => ?_⟩
          · exfalso; omega
          · refine s_2824_62 _ _ _ _ _ _ ?_
            refine zx2855_7 hs (by omega) (by omega) (by omega) (by omega) (by omega) (by omega) (by omega) q7 q8 q9 q10 q11 q12 q13 q14 q15 (fun s_7 hs_8 q_9 q_10 q_11 q_12 q_13 q_14 q_15 q_16 q_17 q_18 q_19 q_20 q_21 q_22 q_23 q_24 q_25 => ⟨_, rfl, ?_⟩)
            exact k s_7 hs_8 (by omega) (by omega) (by omega) (by omega) (by omega) (by omega) (by omega) (by omega) q_17 q_18 q_19 q_20 q_21 q_22 q_23 q_24 q_25
      · exfalso; omega
    · exfalso; omega
  · exfalso; omega
set_option maxRecDepth 100000 in
/-- GatheredPoints.answer [(-2147483648, -1), (-2147483648, 2147483647), (-2147483648, 2147483647), (-2147483648, 2147483647)] -/
theorem zx2830_0 {z : gH} {L d : Nat} {K : Option gV → gH → Prop} {s : gH} (p0 : Int) (p1 : Int) (p2 : Int) (p3 : Int) (hs : xM z s) (h_p0 : (-2147483648) ≤ p0 ∧ p0 ≤ (-1)) (h_p1 : (-2147483648) ≤ p1 ∧ p1 ≤ 2147483647) (h_p2 : (-2147483648) ≤ p2 ∧ p2 ≤ 2147483647) (h_p3 : (-2147483648) ≤ p3 ∧ p3 ≤ 2147483647) (q0 : gp_I s 1 2 = 0) (q1 : gp_I s 1 6 = 0) (q2 : gp_I s 1 7 = 1) (q3 : gp_I s 51 8 = 0) (q4 : gp_I s 57 1 = 0) (q5 : gp_I s 57 3 = 0) (q6 : gp_R s 25 6 = none) (q7 : gp_R s 25 7 = none) (q8 : gp_R s 25 8 = none) (q9 : gp_R s 25 9 = none) (q10 : ∀ k, k < 8 → gp_R s 4 k = some 25) (q11 : gp_R s 51 6 = some 55) (q12 : gp_R s 51 7 = some 56) (q13 : gp_us s = 606895) (q14 : gp_sz s = 117) (k : ∀ (t : gH), xM z t → (gp_I t 1 2 = 0) → (gp_I t 1 6 = 0) → (gp_I t 1 7 = 1) → ((-2147483648) ≤ gp_I t 2 1 ∧ gp_I t 2 1 ≤ 2147483647) → (gp_I t 51 8 = 0) → (gp_I t 57 1 = 0) → (gp_I t 57 3 = 0) → (gp_R t 25 6 = none) → (gp_R t 25 7 = none) → (gp_R t 25 8 = none) → (gp_R t 25 9 = none) → (∀ k, k < 8 → gp_R t 4 k = some 25) → (gp_R t 51 6 = some 55) → (gp_R t 51 7 = some 56) → (gp_us t = 606895) → (gp_sz t = 117) → K (some (gp_i (-1000000001))) t) : gs_C L (d + 1) 2830 11 [gp_r (some 1), gp_i p0, gp_i p1, gp_i p2, gp_i p3] s K := by
  refine s_2830_e _ _ _ _ ?_
  refine zx2856_0 _ hs (by omega) (by omega) (by omega) (by omega) (by omega) (by omega) (by omega) q6 q7 q8 q9 q10 q11 q12 (⟨_, rfl, ?_⟩)
  refine ⟨fun h_1 => ?_, fun h_1 => ?_⟩
  · exfalso; omega
  · refine s_2830_21 _ _ _ _ _ _ _ _ _ _ ?_
    refine zx2855_4 hs (by omega) (by omega) (by omega) (by omega) (by omega) (by omega) q6 q7 q8 q9 q10 q11 q12 q13 q14 (fun s_2 hs_3 q_4 q_5 q_6 q_7 q_8 q_9 q_10 q_11 q_12 q_13 q_14 q_15 q_16 q_17 q_18 q_19 => ⟨_, rfl, ?_⟩)
    exact k s_2 hs_3 (by omega) (by omega) (by omega) (by omega) (by omega) (by omega) (by omega) q_11 q_12 q_13 q_14 q_15 q_16 q_17 q_18 q_19
set_option maxRecDepth 100000 in
/-- GatheredPoints.answer [(8, 2147483647), (-2147483648, 2147483647), (-2147483648, 2147483647), (-2147483648, 2147483647)] -/
theorem zx2830_1 {z : gH} {L d : Nat} {K : Option gV → gH → Prop} {s : gH} (p0 : Int) (p1 : Int) (p2 : Int) (p3 : Int) (hs : xM z s) (h_p0 : 8 ≤ p0 ∧ p0 ≤ 2147483647) (h_p1 : (-2147483648) ≤ p1 ∧ p1 ≤ 2147483647) (h_p2 : (-2147483648) ≤ p2 ∧ p2 ≤ 2147483647) (h_p3 : (-2147483648) ≤ p3 ∧ p3 ≤ 2147483647) (q0 : gp_I s 1 2 = 0) (q1 : gp_I s 1 6 = 0) (q2 : gp_I s 1 7 = 1) (q3 : gp_I s 51 8 = 0) (q4 : gp_I s 57 1 = 0) (q5 : gp_I s 57 3 = 0) (q6 : gp_R s 25 6 = none) (q7 : gp_R s 25 7 = none) (q8 : gp_R s 25 8 = none) (q9 : gp_R s 25 9 = none) (q10 : ∀ k, k < 8 → gp_R s 4 k = some 25) (q11 : gp_R s 51 6 = some 55) (q12 : gp_R s 51 7 = some 56) (q13 : gp_us s = 606895) (q14 : gp_sz s = 117) (k : ∀ (t : gH), xM z t → (gp_I t 1 2 = 0) → (gp_I t 1 6 = 0) → (gp_I t 1 7 = 1) → ((-2147483648) ≤ gp_I t 2 1 ∧ gp_I t 2 1 ≤ 2147483647) → (gp_I t 51 8 = 0) → (gp_I t 57 1 = 0) → (gp_I t 57 3 = 0) → (gp_R t 25 6 = none) → (gp_R t 25 7 = none) → (gp_R t 25 8 = none) → (gp_R t 25 9 = none) → (∀ k, k < 8 → gp_R t 4 k = some 25) → (gp_R t 51 6 = some 55) → (gp_R t 51 7 = some 56) → (gp_us t = 606895) → (gp_sz t = 117) → K (some (gp_i (-1000000001))) t) : gs_C L (d + 1) 2830 11 [gp_r (some 1), gp_i p0, gp_i p1, gp_i p2, gp_i p3] s K := by
  refine s_2830_e _ _ _ _ ?_
  refine zx2856_1 _ hs (by omega) (by omega) (by omega) (by omega) (by omega) (by omega) (by omega) q6 q7 q8 q9 q10 q11 q12 (⟨_, rfl, ?_⟩)
  refine ⟨fun h_1 => ?_, fun h_1 => ?_⟩
  · exfalso; omega
  · refine s_2830_21 _ _ _ _ _ _ _ _ _ _ ?_
    refine zx2855_4 hs (by omega) (by omega) (by omega) (by omega) (by omega) (by omega) q6 q7 q8 q9 q10 q11 q12 q13 q14 (fun s_2 hs_3 q_4 q_5 q_6 q_7 q_8 q_9 q_10 q_11 q_12 q_13 q_14 q_15 q_16 q_17 q_18 q_19 => ⟨_, rfl, ?_⟩)
    exact k s_2 hs_3 (by omega) (by omega) (by omega) (by omega) (by omega) (by omega) (by omega) q_11 q_12 q_13 q_14 q_15 q_16 q_17 q_18 q_19
set_option maxRecDepth 100000 in
/-- GatheredPoints.answer [(0, 7), (-2147483648, -1), (-2147483648, 2147483647), (-2147483648, 2147483647)] -/
theorem zx2830_2 {z : gH} {L d : Nat} {K : Option gV → gH → Prop} {s : gH} (p0 : Int) (p1 : Int) (p2 : Int) (p3 : Int) (hs : xM z s) (h_p0 : 0 ≤ p0 ∧ p0 ≤ 7) (h_p1 : (-2147483648) ≤ p1 ∧ p1 ≤ (-1)) (h_p2 : (-2147483648) ≤ p2 ∧ p2 ≤ 2147483647) (h_p3 : (-2147483648) ≤ p3 ∧ p3 ≤ 2147483647) (q0 : gp_I s 1 2 = 0) (q1 : gp_I s 1 6 = 0) (q2 : gp_I s 1 7 = 1) (q3 : gp_I s 51 8 = 0) (q4 : gp_I s 57 1 = 0) (q5 : gp_I s 57 3 = 0) (q6 : gp_R s 25 6 = none) (q7 : gp_R s 25 7 = none) (q8 : gp_R s 25 8 = none) (q9 : gp_R s 25 9 = none) (q10 : ∀ k, k < 8 → gp_R s 4 k = some 25) (q11 : gp_R s 51 6 = some 55) (q12 : gp_R s 51 7 = some 56) (q13 : gp_us s = 606895) (q14 : gp_sz s = 117) (k : ∀ (t : gH), xM z t → (gp_I t 1 2 = 0) → (gp_I t 1 6 = 0) → (gp_I t 1 7 = 1) → ((-2147483648) ≤ gp_I t 2 1 ∧ gp_I t 2 1 ≤ 2147483647) → (gp_I t 51 8 = 0) → (gp_I t 57 1 = 0) → (gp_I t 57 3 = 0) → (gp_R t 25 6 = none) → (gp_R t 25 7 = none) → (gp_R t 25 8 = none) → (gp_R t 25 9 = none) → (∀ k, k < 8 → gp_R t 4 k = some 25) → (gp_R t 51 6 = some 55) → (gp_R t 51 7 = some 56) → (gp_us t = 606895) → (gp_sz t = 117) → K (some (gp_i (-1000000001))) t) : gs_C L (d + 1) 2830 11 [gp_r (some 1), gp_i p0, gp_i p1, gp_i p2, gp_i p3] s K := by
  refine s_2830_e _ _ _ _ ?_
  refine zx2856_2 _ hs (by omega) (by omega) (by omega) (by omega) (by omega) (by omega) (by omega) q6 q7 q8 q9 q10 q11 q12 (⟨_, rfl, ?_⟩)
  refine ⟨fun h_1 => ?_, fun h_1 => ?_⟩
  · refine zx2856_0 _ hs (by omega) (by omega) (by omega) (by omega) (by omega) (by omega) (by omega) q6 q7 q8 q9 q10 q11 q12 (⟨_, rfl, ?_⟩)
    refine ⟨fun h_2 => ?_, fun h_2 => ?_⟩
    · exfalso; omega
    · refine s_2830_21 _ _ _ _ _ _ _ _ _ _ ?_
      refine zx2855_4 hs (by omega) (by omega) (by omega) (by omega) (by omega) (by omega) q6 q7 q8 q9 q10 q11 q12 q13 q14 (fun s_3 hs_4 q_5 q_6 q_7 q_8 q_9 q_10 q_11 q_12 q_13 q_14 q_15 q_16 q_17 q_18 q_19 q_20 => ⟨_, rfl, ?_⟩)
      exact k s_3 hs_4 (by omega) (by omega) (by omega) (by omega) (by omega) (by omega) (by omega) q_12 q_13 q_14 q_15 q_16 q_17 q_18 q_19 q_20
  · exfalso; omega
set_option maxRecDepth 100000 in
/-- GatheredPoints.answer [(0, 7), (8, 2147483647), (-2147483648, 2147483647), (-2147483648, 2147483647)] -/
theorem zx2830_3 {z : gH} {L d : Nat} {K : Option gV → gH → Prop} {s : gH} (p0 : Int) (p1 : Int) (p2 : Int) (p3 : Int) (hs : xM z s) (h_p0 : 0 ≤ p0 ∧ p0 ≤ 7) (h_p1 : 8 ≤ p1 ∧ p1 ≤ 2147483647) (h_p2 : (-2147483648) ≤ p2 ∧ p2 ≤ 2147483647) (h_p3 : (-2147483648) ≤ p3 ∧ p3 ≤ 2147483647) (q0 : gp_I s 1 2 = 0) (q1 : gp_I s 1 6 = 0) (q2 : gp_I s 1 7 = 1) (q3 : gp_I s 51 8 = 0) (q4 : gp_I s 57 1 = 0) (q5 : gp_I s 57 3 = 0) (q6 : gp_R s 25 6 = none) (q7 : gp_R s 25 7 = none) (q8 : gp_R s 25 8 = none) (q9 : gp_R s 25 9 = none) (q10 : ∀ k, k < 8 → gp_R s 4 k = some 25) (q11 : gp_R s 51 6 = some 55) (q12 : gp_R s 51 7 = some 56) (q13 : gp_us s = 606895) (q14 : gp_sz s = 117) (k : ∀ (t : gH), xM z t → (gp_I t 1 2 = 0) → (gp_I t 1 6 = 0) → (gp_I t 1 7 = 1) → ((-2147483648) ≤ gp_I t 2 1 ∧ gp_I t 2 1 ≤ 2147483647) → (gp_I t 51 8 = 0) → (gp_I t 57 1 = 0) → (gp_I t 57 3 = 0) → (gp_R t 25 6 = none) → (gp_R t 25 7 = none) → (gp_R t 25 8 = none) → (gp_R t 25 9 = none) → (∀ k, k < 8 → gp_R t 4 k = some 25) → (gp_R t 51 6 = some 55) → (gp_R t 51 7 = some 56) → (gp_us t = 606895) → (gp_sz t = 117) → K (some (gp_i (-1000000001))) t) : gs_C L (d + 1) 2830 11 [gp_r (some 1), gp_i p0, gp_i p1, gp_i p2, gp_i p3] s K := by
  refine s_2830_e _ _ _ _ ?_
  refine zx2856_2 _ hs (by omega) (by omega) (by omega) (by omega) (by omega) (by omega) (by omega) q6 q7 q8 q9 q10 q11 q12 (⟨_, rfl, ?_⟩)
  refine ⟨fun h_1 => ?_, fun h_1 => ?_⟩
  · refine zx2856_1 _ hs (by omega) (by omega) (by omega) (by omega) (by omega) (by omega) (by omega) q6 q7 q8 q9 q10 q11 q12 (⟨_, rfl, ?_⟩)
    refine ⟨fun h_2 => ?_, fun h_2 => ?_⟩
    · exfalso; omega
    · refine s_2830_21 _ _ _ _ _ _ _ _ _ _ ?_
      refine zx2855_4 hs (by omega) (by omega) (by omega) (by omega) (by omega) (by omega) q6 q7 q8 q9 q10 q11 q12 q13 q14 (fun s_3 hs_4 q_5 q_6 q_7 q_8 q_9 q_10 q_11 q_12 q_13 q_14 q_15 q_16 q_17 q_18 q_19 q_20 => ⟨_, rfl, ?_⟩)
      exact k s_3 hs_4 (by omega) (by omega) (by omega) (by omega) (by omega) (by omega) (by omega) q_12 q_13 q_14 q_15 q_16 q_17 q_18 q_19 q_20
  · exfalso; omega
set_option maxRecDepth 100000 in
/-- GatheredPoints.answer [(0, 7), (0, 7), (-2147483648, -1), (-2147483648, 2147483647)] -/
theorem zx2830_4 {z : gH} {L d : Nat} {K : Option gV → gH → Prop} {s : gH} (p0 : Int) (p1 : Int) (p2 : Int) (p3 : Int) (hs : xM z s) (h_p0 : 0 ≤ p0 ∧ p0 ≤ 7) (h_p1 : 0 ≤ p1 ∧ p1 ≤ 7) (h_p2 : (-2147483648) ≤ p2 ∧ p2 ≤ (-1)) (h_p3 : (-2147483648) ≤ p3 ∧ p3 ≤ 2147483647) (q0 : gp_I s 1 2 = 0) (q1 : gp_I s 1 6 = 0) (q2 : gp_I s 1 7 = 1) (q3 : gp_I s 51 8 = 0) (q4 : gp_I s 57 1 = 0) (q5 : gp_I s 57 3 = 0) (q6 : gp_R s 25 6 = none) (q7 : gp_R s 25 7 = none) (q8 : gp_R s 25 8 = none) (q9 : gp_R s 25 9 = none) (q10 : ∀ k, k < 8 → gp_R s 4 k = some 25) (q11 : gp_R s 51 6 = some 55) (q12 : gp_R s 51 7 = some 56) (q13 : gp_us s = 606895) (q14 : gp_sz s = 117) (k : ∀ (t : gH), xM z t → (gp_I t 1 2 = 0) → (gp_I t 1 6 = 0) → (gp_I t 1 7 = 1) → ((-2147483648) ≤ gp_I t 2 1 ∧ gp_I t 2 1 ≤ 2147483647) → (gp_I t 51 8 = 0) → (gp_I t 57 1 = 0) → (gp_I t 57 3 = 0) → (gp_R t 25 6 = none) → (gp_R t 25 7 = none) → (gp_R t 25 8 = none) → (gp_R t 25 9 = none) → (∀ k, k < 8 → gp_R t 4 k = some 25) → (gp_R t 51 6 = some 55) → (gp_R t 51 7 = some 56) → (gp_us t = 606895) → (gp_sz t = 117) → K (some (gp_i (-1000000001))) t) : gs_C L (d + 1) 2830 11 [gp_r (some 1), gp_i p0, gp_i p1, gp_i p2, gp_i p3] s K := by
  refine s_2830_e _ _ _ _ ?_
  refine zx2856_2 _ hs (by omega) (by omega) (by omega) (by omega) (by omega) (by omega) (by omega) q6 q7 q8 q9 q10 q11 q12 (⟨_, rfl, ?_⟩)
  refine ⟨fun h_1 => ?_, fun h_1 => ?_⟩
  · refine zx2856_2 _ hs (by omega) (by omega) (by omega) (by omega) (by omega) (by omega) (by omega) q6 q7 q8 q9 q10 q11 q12 (⟨_, rfl, ?_⟩)
    refine ⟨fun h_2 => ?_, fun h_2 => ?_⟩
    · refine zx2857_0 _ hs (by omega) (by omega) (by omega) (by omega) (by omega) (by omega) (by omega) q6 q7 q8 q9 q10 q11 q12 (⟨_, rfl, ?_⟩)
      refine ⟨fun h_3 => ?_, fun h_3 => ?_⟩
      · exfalso; omega
      · refine s_2830_21 _ _ _ _ _ _ _ _ _ _ ?_
        refine zx2855_4 hs (by omega) (by omega) (by omega) (by omega) (by omega) (by omega) q6 q7 q8 q9 q10 q11 q12 q13 q14 (fun s_4 hs_5 q_6 q_7 q_8 q_9 q_10 q_11 q_12 q_13 q_14 q_15 q_16 q_17 q_18 q_19 q_20 q_21 => ⟨_, rfl, ?_⟩)
        exact k s_4 hs_5 (by omega) (by omega) (by omega) (by omega) (by omega) (by omega) (by omega) q_13 q_14 q_15 q_16 q_17 q_18 q_19 q_20 q_21
    · exfalso; omega
  · exfalso; omega
set_option maxRecDepth 100000 in
/-- GatheredPoints.answer [(0, 7), (0, 7), (2, 2147483647), (-2147483648, 2147483647)] -/
theorem zx2830_5 {z : gH} {L d : Nat} {K : Option gV → gH → Prop} {s : gH} (p0 : Int) (p1 : Int) (p2 : Int) (p3 : Int) (hs : xM z s) (h_p0 : 0 ≤ p0 ∧ p0 ≤ 7) (h_p1 : 0 ≤ p1 ∧ p1 ≤ 7) (h_p2 : 2 ≤ p2 ∧ p2 ≤ 2147483647) (h_p3 : (-2147483648) ≤ p3 ∧ p3 ≤ 2147483647) (q0 : gp_I s 1 2 = 0) (q1 : gp_I s 1 6 = 0) (q2 : gp_I s 1 7 = 1) (q3 : gp_I s 51 8 = 0) (q4 : gp_I s 57 1 = 0) (q5 : gp_I s 57 3 = 0) (q6 : gp_R s 25 6 = none) (q7 : gp_R s 25 7 = none) (q8 : gp_R s 25 8 = none) (q9 : gp_R s 25 9 = none) (q10 : ∀ k, k < 8 → gp_R s 4 k = some 25) (q11 : gp_R s 51 6 = some 55) (q12 : gp_R s 51 7 = some 56) (q13 : gp_us s = 606895) (q14 : gp_sz s = 117) (k : ∀ (t : gH), xM z t → (gp_I t 1 2 = 0) → (gp_I t 1 6 = 0) → (gp_I t 1 7 = 1) → ((-2147483648) ≤ gp_I t 2 1 ∧ gp_I t 2 1 ≤ 2147483647) → (gp_I t 51 8 = 0) → (gp_I t 57 1 = 0) → (gp_I t 57 3 = 0) → (gp_R t 25 6 = none) → (gp_R t 25 7 = none) → (gp_R t 25 8 = none) → (gp_R t 25 9 = none) → (∀ k, k < 8 → gp_R t 4 k = some 25) → (gp_R t 51 6 = some 55) → (gp_R t 51 7 = some 56) → (gp_us t = 606895) → (gp_sz t = 117) → K (some (gp_i (-1000000001))) t) : gs_C L (d + 1) 2830 11 [gp_r (some 1), gp_i p0, gp_i p1, gp_i p2, gp_i p3] s K := by
  refine s_2830_e _ _ _ _ ?_
  refine zx2856_2 _ hs (by omega) (by omega) (by omega) (by omega) (by omega) (by omega) (by omega) q6 q7 q8 q9 q10 q11 q12 (⟨_, rfl, ?_⟩)
  refine ⟨fun h_1 => ?_, fun h_1 => ?_⟩
  · refine zx2856_2 _ hs (by omega) (by omega) (by omega) (by omega) (by omega) (by omega) (by omega) q6 q7 q8 q9 q10 q11 q12 (⟨_, rfl, ?_⟩)
    refine ⟨fun h_2 => ?_, fun h_2 => ?_⟩
    · refine zx2857_1 _ hs (by omega) (by omega) (by omega) (by omega) (by omega) (by omega) (by omega) q6 q7 q8 q9 q10 q11 q12 (⟨_, rfl, ?_⟩)
      refine ⟨fun h_3 => ?_, fun h_3 => ?_⟩
      · exfalso; omega
      · refine s_2830_21 _ _ _ _ _ _ _ _ _ _ ?_
        refine zx2855_4 hs (by omega) (by omega) (by omega) (by omega) (by omega) (by omega) q6 q7 q8 q9 q10 q11 q12 q13 q14 (fun s_4 hs_5 q_6 q_7 q_8 q_9 q_10 q_11 q_12 q_13 q_14 q_15 q_16 q_17 q_18 q_19 q_20 q_21 => ⟨_, rfl, ?_⟩)
        exact k s_4 hs_5 (by omega) (by omega) (by omega) (by omega) (by omega) (by omega) (by omega) q_13 q_14 q_15 q_16 q_17 q_18 q_19 q_20 q_21
    · exfalso; omega
  · exfalso; omega
set_option maxRecDepth 100000 in
/-- Table.options [25, (0, 0), (0, 0)] -/
theorem zx2307_2 {z : gH} {L d : Nat} {K : Option gV → gH → Prop} {s : gH}  (hs : xM z s)  (q0 : gp_I s 117 0 = 0) (q1 : gp_I s 118 0 = 0) (q2 : gp_I s 119 0 = 0) (q3 : gp_I s 120 0 = 0) (q4 : gp_R s 25 6 = some 117) (q5 : gp_R s 25 7 = some 118) (q6 : gp_R s 25 8 = some 119) (q7 : gp_R s 25 9 = some 120) (q8 : gp_sh s 117 = (100, 1)) (q9 : gp_sh s 118 = (100, 1)) (q10 : gp_sh s 119 = (100, 1)) (q11 : gp_sh s 120 = (100, 1)) (k : K (some (gp_l (0#64))) s) : gs_C L d 2307 3 [gp_r (some 25), gp_i 0, gp_i 0] s K := by
  refine s_2307_e _ _ _ ?_
  refine ⟨fun h_1 => ?_, fun h_1 => ?_⟩
  · refine ⟨25, rfl, ?_⟩
    refine ⟨rfl, ?_⟩
    try rw [show gp_R (gp_mk L s) 25 1 = some 26 from rfl]
    refine ⟨26, rfl, ?_⟩
    refine ⟨⟨rfl, by show 0 ≤ 0 ∧ 0 < 1; omega⟩, ?_⟩
    try rw [xr26 hs ((0 : Int).toNat)]
    refine s_2307_19 _ _ _ _ ?_
    exact k
  · exfalso; omega
set_option maxRecDepth 100000 in
/-- GatheredPoints.refused [(2, 2)] -/
theorem zx2855_8 {z : gH} {L d : Nat} {K : Option gV → gH → Prop} {s : gH}  (hs : xM z s)  (q0 : gp_I s 1 2 = 0) (q1 : gp_I s 1 6 = 0) (q2 : gp_I s 1 7 = 1) (q3 : gp_I s 117 0 = 0) (q4 : gp_I s 118 0 = 0) (q5 : gp_I s 119 0 = 0) (q6 : gp_I s 120 0 = 0) (q7 : gp_I s 51 8 = 0) (q8 : gp_I s 57 1 = 0) (q9 : gp_I s 57 3 = 0) (q10 : gp_L s 39 0 = 1#64) (q11 : gp_L s 40 0 = 1#64) (q12 : gp_R s 25 6 = some 117) (q13 : gp_R s 25 7 = some 118) (q14 : gp_R s 25 8 = some 119) (q15 : gp_R s 25 9 = some 120) (q16 : ∀ k, k < 8 → gp_R s 4 k = some 25) (q17 : gp_R s 51 6 = some 55) (q18 : gp_R s 51 7 = some 56) (q19 : gp_sh s 117 = (100, 1)) (q20 : gp_sh s 118 = (100, 1)) (q21 : gp_sh s 119 = (100, 1)) (q22 : gp_sh s 120 = (100, 1)) (q23 : gp_us s = 606899) (q24 : gp_sz s = 121) (k : ∀ (t : gH), xM z t → (gp_I t 1 2 = 0) → (gp_I t 1 6 = 0) → (gp_I t 1 7 = 1) → (gp_I t 117 0 = 0) → (gp_I t 118 0 = 0) → (gp_I t 119 0 = 0) → (gp_I t 120 0 = 0) → ((-2147483648) ≤ gp_I t 2 2 ∧ gp_I t 2 2 ≤ 2147483647) → (gp_I t 51 8 = 0) → (gp_I t 57 1 = 0) → (gp_I t 57 3 = 0) → (gp_L t 39 0 = 1#64) → (gp_L t 40 0 = 1#64) → (gp_R t 25 6 = some 117) → (gp_R t 25 7 = some 118) → (gp_R t 25 8 = some 119) → (gp_R t 25 9 = some 120) → (∀ k, k < 8 → gp_R t 4 k = some 25) → (gp_R t 51 6 = some 55) → (gp_R t 51 7 = some 56) → (gp_sh t 117 = (100, 1)) → (gp_sh t 118 = (100, 1)) → (gp_sh t 119 = (100, 1)) → (gp_sh t 120 = (100, 1)) → (gp_us t = 606899) → (gp_sz t = 121) → K (some (gp_i (-1000000002))) t) : gs_C L d 2855 2 [gp_r (some 1), gp_i 2] s K := by
  refine s_2855_e _ ?_
  refine ⟨by omega, ?_⟩
  have w_1 := gz_w ((gp_I s 2 (2 : Int).toNat) + 1)
  refine ⟨by omega, ?_⟩
  intro s_2 e_3
  have hs_4 : xM z s_2 := by rw [e_3]; exact xw2 hs _ _
  have q_5 : gp_I s_2 1 2 = 0 := by rw [e_3]; exact q0
  have q_6 : gp_I s_2 1 6 = 0 := by rw [e_3]; exact q1
  have q_7 : gp_I s_2 1 7 = 1 := by rw [e_3]; exact q2
  have q_8 : gp_I s_2 117 0 = 0 := by rw [e_3]; exact q3
  have q_9 : gp_I s_2 118 0 = 0 := by rw [e_3]; exact q4
  have q_10 : gp_I s_2 119 0 = 0 := by rw [e_3]; exact q5
  have q_11 : gp_I s_2 120 0 = 0 := by rw [e_3]; exact q6
  have q_12 : gp_I s_2 51 8 = 0 := by rw [e_3]; exact q7
  have q_13 : gp_I s_2 57 1 = 0 := by rw [e_3]; exact q8
  have q_14 : gp_I s_2 57 3 = 0 := by rw [e_3]; exact q9
  have q_15 : gp_L s_2 39 0 = 1#64 := by rw [e_3]; exact q10
  have q_16 : gp_L s_2 40 0 = 1#64 := by rw [e_3]; exact q11
  have q_17 : gp_R s_2 25 6 = some 117 := by rw [e_3]; exact q12
  have q_18 : gp_R s_2 25 7 = some 118 := by rw [e_3]; exact q13
  have q_19 : gp_R s_2 25 8 = some 119 := by rw [e_3]; exact q14
  have q_20 : gp_R s_2 25 9 = some 120 := by rw [e_3]; exact q15
  have q_21 : ∀ k, k < 8 → gp_R s_2 4 k = some 25 := by rw [e_3]; exact q16
  have q_22 : gp_R s_2 51 6 = some 55 := by rw [e_3]; exact q17
  have q_23 : gp_R s_2 51 7 = some 56 := by rw [e_3]; exact q18
  have q_24 : gp_sh s_2 117 = (100, 1) := by rw [e_3]; exact q19
  have q_25 : gp_sh s_2 118 = (100, 1) := by rw [e_3]; exact q20
  have q_26 : gp_sh s_2 119 = (100, 1) := by rw [e_3]; exact q21
  have q_27 : gp_sh s_2 120 = (100, 1) := by rw [e_3]; exact q22
  have q_28 : gp_us s_2 = 606899 := by rw [e_3]; exact q23
  have q_29 : gp_sz s_2 = 121 := by rw [e_3]; exact q24
  have q_30 : (-2147483648) ≤ gp_I s_2 2 2 ∧ gp_I s_2 2 2 ≤ 2147483647 := by have x_31 : gp_I s_2 2 2 = gp_wr ((gp_I s 2 (2 : Int).toNat) + 1) := (by rw [e_3]; rfl); omega
  have w_32 := gz_w ((-1000000000) - 2)
  have e_33 : gp_wr ((-1000000000) - 2) = (-1000000002) := by omega
  try rw [e_33]
  exact k s_2 hs_4 (by omega) (by omega) (by omega) (by omega) (by omega) (by omega) (by omega) (by omega) (by omega) (by omega) (by omega) q_15 q_16 q_17 q_18 q_19 q_20 q_21 q_22 q_23 q_24 q_25 q_26 q_27 q_28 q_29
set_option maxRecDepth 100000 in
/-- GatheredPoints.answer [(0, 7), (0, 7), (0, 0), (-2147483648, -1)] -/
theorem zx2830_6 {z : gH} {L d : Nat} {K : Option gV → gH → Prop} {s : gH} (p0 : Int) (p1 : Int) (p3 : Int) (hs : xM z s) (h_p0 : 0 ≤ p0 ∧ p0 ≤ 7) (h_p1 : 0 ≤ p1 ∧ p1 ≤ 7) (h_p3 : (-2147483648) ≤ p3 ∧ p3 ≤ (-1)) (q0 : gp_I s 1 2 = 0) (q1 : gp_I s 1 6 = 0) (q2 : gp_I s 1 7 = 1) (q3 : gp_I s 51 8 = 0) (q4 : gp_I s 57 1 = 0) (q5 : gp_I s 57 3 = 0) (q6 : gp_R s 25 6 = none) (q7 : gp_R s 25 7 = none) (q8 : gp_R s 25 8 = none) (q9 : gp_R s 25 9 = none) (q10 : ∀ k, k < 8 → gp_R s 4 k = some 25) (q11 : gp_R s 51 6 = some 55) (q12 : gp_R s 51 7 = some 56) (q13 : gp_us s = 606895) (q14 : gp_sz s = 117) (k : ∀ (t : gH), xM z t → (gp_I t 1 2 = 0) → (gp_I t 1 6 = 0) → (gp_I t 1 7 = 1) → (gp_I t 117 0 = 0) → (gp_I t 118 0 = 0) → (gp_I t 119 0 = 0) → (gp_I t 120 0 = 0) → ((-2147483648) ≤ gp_I t 2 2 ∧ gp_I t 2 2 ≤ 2147483647) → (gp_I t 51 8 = 0) → (gp_I t 57 1 = 0) → (gp_I t 57 3 = 0) → (gp_L t 39 0 = 1#64) → (gp_L t 40 0 = 1#64) → (gp_R t 25 6 = some 117) → (gp_R t 25 7 = some 118) → (gp_R t 25 8 = some 119) → (gp_R t 25 9 = some 120) → (∀ k, k < 8 → gp_R t 4 k = some 25) → (gp_R t 51 6 = some 55) → (gp_R t 51 7 = some 56) → (gp_sh t 117 = (100, 1)) → (gp_sh t 118 = (100, 1)) → (gp_sh t 119 = (100, 1)) → (gp_sh t 120 = (100, 1)) → (gp_us t = 606899) → (gp_sz t = 121) → K (some (gp_i (-1000000002))) t) : gs_C L (d + 6) 2830 11 [gp_r (some 1), gp_i p0, gp_i p1, gp_i 0, gp_i p3] s K := by
  refine s_2830_e _ _ _ _ ?_
  refine zx2856_2 _ hs (by omega) (by omega) (by omega) (by omega) (by omega) (by omega) (by omega) q6 q7 q8 q9 q10 q11 q12 (⟨_, rfl, ?_⟩)
  refine ⟨fun h_1 => ?_, fun h_1 => ?_⟩
  · refine zx2856_2 _ hs (by omega) (by omega) (by omega) (by omega) (by omega) (by omega) (by omega) q6 q7 q8 q9 q10 q11 q12 (⟨_, rfl, ?_⟩)
    refine ⟨fun h_2 => ?_, fun h_2 => ?_⟩
    · refine zx2857_2 hs (by omega) (by omega) (by omega) (by omega) (by omega) (by omega) q6 q7 q8 q9 q10 q11 q12 (⟨_, rfl, ?_⟩)
      refine ⟨fun h_3 => ?_, fun h_3 => ?_⟩
      · refine ⟨by omega, ?_⟩
        try rw [show gp_R (gp_mk L s) 4 p0.toNat = some 25 from (q10 _ (by omega))]
        refine ⟨by omega, ?_⟩
        try rw [show gp_R (gp_mk L s) 4 p1.toNat = some 25 from (q10 _ (by omega))]
        refine zx776_1 hs (by omega) (by omega) (by omega) (by omega) (by omega) (by omega) q6 q7 q8 q9 q10 q11 q12 q13 q14 (fun s_4 hs_5 q_6 q_7 q_8 q_9 q_10 q_11 q_12 q_13 q_14 q_15 q_16 q_17 q_18 q_19 q_20 => ⟨_, rfl, ?_⟩)
        refine ⟨fun h_21 => ?_, fun h_21 => ?_⟩
        · exfalso; omega
        · refine zx776_1 hs_5 (by omega) (by omega) (by omega) (by omega) (by omega) (by omega) q_12 q_13 q_14 q_15 q_16 q_17 q_18 q_19 q_20 (fun s_22 hs_23 q_24 q_25 q_26 q_27 q_28 q_29 q_30 q_31 q_32 q_33 q_34 q_35 q_36 q_37 q_38 => ⟨_, rfl, ?_⟩)
          refine ⟨fun h_39 => ?_, fun h_39 => ?_⟩
          · exfalso; omega
          · refine zx2829_0 hs_23 (by omega) (by omega) (by omega) (by omega) (by omega) (by omega) q_30 q_31 q_32 q_33 q_34 q_35 q_36 q_37 q_38 (fun s_40 hs_41 q_42 q_43 q_44 q_45 q_46 q_47 q_48 q_49 q_50 q_51 q_52 q_53 q_54 q_55 q_56 q_57 q_58 q_59 q_60 q_61 q_62 q_63 q_64 q_65 q_66 => ⟨_, rfl, ?_⟩)
            refine ⟨fun h_67 => ?_, fun h_67 => ?_⟩
            · exfalso; omega
            · refine ⟨fun h_68 => ?_, fun h_68 => ?_⟩
              · refine s_2830_101 _ _ _ _ _ _ _ _ _ _ _ ?_
                refine ⟨25, rfl, ?_⟩
                refine ⟨rfl, ?_⟩
                refine zx2306_1 hs_41 (by omega) (by omega) (by omega) (by omega) q_54 q_55 q_56 q_57 q_61 q_62 q_63 q_64 (⟨_, rfl, ?_⟩)
                refine ⟨rfl, ?_⟩
                refine zx2307_2 hs_41 (by omega) (by omega) (by omega) (by omega) q_54 q_55 q_56 q_57 q_61 q_62 q_63 q_64 (⟨_, rfl, ?_⟩)
                refine ⟨fun h_72 => ?_, fun h_72 => ?_⟩
                · refine s_2830_131 _ _ _ _ _ _ _ _ _ ?_
                  refine zx2855_8 hs_41 (by omega) (by omega) (by omega) (by omega) (by omega) (by omega) (by omega) (by omega) (by omega) (by omega) q_52 q_53 q_54 q_55 q_56 q_57 q_58 q_59 q_60 q_61 q_62 q_63 q_64 q_65 q_66 (fun s_76 hs_77 q_78 q_79 q_80 q_81 q_82 q_83 q_84 q_85 q_86 q_87 q_88 q_89 q_90 q_91 q_92 q_93 q_94 q_95 q_96 q_97 q_98 q_99 q_100 q_101 q_102 q_103 => ⟨_, rfl, ?_⟩)
                  exact k s_76 hs_77 (by omega) (by omega) (by omega) (by omega) (by omega) (by omega) (by omega) (by omega) (by omega) (by omega) (by omega) q_89 q_90 q_91 q_92 q_93 q_94 q_95 q_96 q_97 q_98 q_99 q_100 q_101 q_102 q_103
                · exfalso; omega
              · exfalso; omega
      · exfalso; omega
    · exfalso; omega
  · exfalso; omega
set_option maxRecDepth 100000 in
/-- java/lang/Long.bitCount [0] -/
theorem zx3585_2 {z : gH} {L d : Nat} {K : Option gV → gH → Prop} {s : gH}  (hs : xM z s)  (q0 : gp_I s 117 0 = 0) (q1 : gp_I s 118 0 = 0) (q2 : gp_I s 119 0 = 0) (q3 : gp_I s 120 0 = 0) (q4 : gp_R s 25 6 = some 117) (q5 : gp_R s 25 7 = some 118) (q6 : gp_R s 25 8 = some 119) (q7 : gp_R s 25 9 = some 120) (q8 : gp_sh s 117 = (100, 1)) (q9 : gp_sh s 118 = (100, 1)) (q10 : gp_sh s 119 = (100, 1)) (q11 : gp_sh s 120 = (100, 1)) (k : K (some (gp_i 0)) s) : gs_C L d 3585 2 [gp_l (0#64)] s K := by
  refine s_3585_e _ ?_
  have e_1 : (0#64) >>> 1 = 0#64 := by decide
  try rw [e_1]
  have e_2 : BitVec.ofInt 64 6148914691236517205 = 6148914691236517205#64 := by decide
  try rw [e_2]
  have e_3 : (0#64) &&& (6148914691236517205#64) = 0#64 := by decide
  try rw [e_3]
  have e_4 : (0#64) - (0#64) = 0#64 := by decide
  try rw [e_4]
  have e_5 : BitVec.ofInt 64 3689348814741910323 = 3689348814741910323#64 := by decide
  try rw [e_5]
  have e_6 : (0#64) &&& (3689348814741910323#64) = 0#64 := by decide
  try rw [e_6]
  have e_7 : (0#64) >>> 2 = 0#64 := by decide
  try rw [e_7]
  have e_8 : BitVec.ofInt 64 3689348814741910323 = 3689348814741910323#64 := by decide
  try rw [e_8]
  have e_9 : (0#64) &&& (3689348814741910323#64) = 0#64 := by decide
  try rw [e_9]
  have e_10 : (0#64) + (0#64) = 0#64 := by decide
  try rw [e_10]
  have e_11 : (0#64) >>> 4 = 0#64 := by decide
  try rw [e_11]
  have e_12 : (0#64) + (0#64) = 0#64 := by decide
  try rw [e_12]
  have e_13 : BitVec.ofInt 64 1085102592571150095 = 1085102592571150095#64 := by decide
  try rw [e_13]
  have e_14 : (0#64) &&& (1085102592571150095#64) = 0#64 := by decide
  try rw [e_14]
  have e_15 : (0#64) >>> 8 = 0#64 := by decide
  try rw [e_15]
  have e_16 : (0#64) + (0#64) = 0#64 := by decide
  try rw [e_16]
  have e_17 : (0#64) >>> 16 = 0#64 := by decide
  try rw [e_17]
  have e_18 : (0#64) + (0#64) = 0#64 := by decide
  try rw [e_18]
  have e_19 : (0#64) >>> 32 = 0#64 := by decide
  try rw [e_19]
  have e_20 : (0#64) + (0#64) = 0#64 := by decide
  try rw [e_20]
  have e_21 : gp_wr (0#64).toInt = 0 := by decide
  try rw [e_21]
  have e_22 : gp_and 0 127 = 0 := by decide
  try rw [e_22]
  exact k
set_option maxRecDepth 100000 in
/-- GatheredPoints.answer [(0, 7), (0, 7), (0, 0), (0, 2147483647)] -/
theorem zx2830_7 {z : gH} {L d : Nat} {K : Option gV → gH → Prop} {s : gH} (p0 : Int) (p1 : Int) (p3 : Int) (hs : xM z s) (h_p0 : 0 ≤ p0 ∧ p0 ≤ 7) (h_p1 : 0 ≤ p1 ∧ p1 ≤ 7) (h_p3 : 0 ≤ p3 ∧ p3 ≤ 2147483647) (q0 : gp_I s 1 2 = 0) (q1 : gp_I s 1 6 = 0) (q2 : gp_I s 1 7 = 1) (q3 : gp_I s 51 8 = 0) (q4 : gp_I s 57 1 = 0) (q5 : gp_I s 57 3 = 0) (q6 : gp_R s 25 6 = none) (q7 : gp_R s 25 7 = none) (q8 : gp_R s 25 8 = none) (q9 : gp_R s 25 9 = none) (q10 : ∀ k, k < 8 → gp_R s 4 k = some 25) (q11 : gp_R s 51 6 = some 55) (q12 : gp_R s 51 7 = some 56) (q13 : gp_us s = 606895) (q14 : gp_sz s = 117) (k : ∀ (t : gH), xM z t → (gp_I t 1 2 = 0) → (gp_I t 1 6 = 0) → (gp_I t 1 7 = 1) → (gp_I t 117 0 = 0) → (gp_I t 118 0 = 0) → (gp_I t 119 0 = 0) → (gp_I t 120 0 = 0) → ((-2147483648) ≤ gp_I t 2 2 ∧ gp_I t 2 2 ≤ 2147483647) → (gp_I t 51 8 = 0) → (gp_I t 57 1 = 0) → (gp_I t 57 3 = 0) → (gp_L t 39 0 = 1#64) → (gp_L t 40 0 = 1#64) → (gp_R t 25 6 = some 117) → (gp_R t 25 7 = some 118) → (gp_R t 25 8 = some 119) → (gp_R t 25 9 = some 120) → (∀ k, k < 8 → gp_R t 4 k = some 25) → (gp_R t 51 6 = some 55) → (gp_R t 51 7 = some 56) → (gp_sh t 117 = (100, 1)) → (gp_sh t 118 = (100, 1)) → (gp_sh t 119 = (100, 1)) → (gp_sh t 120 = (100, 1)) → (gp_us t = 606899) → (gp_sz t = 121) → K (some (gp_i (-1000000002))) t) : gs_C L (d + 6) 2830 11 [gp_r (some 1), gp_i p0, gp_i p1, gp_i 0, gp_i p3] s K := by
  refine s_2830_e _ _ _ _ ?_
  refine zx2856_2 _ hs (by omega) (by omega) (by omega) (by omega) (by omega) (by omega) (by omega) q6 q7 q8 q9 q10 q11 q12 (⟨_, rfl, ?_⟩)
  refine ⟨fun h_1 => ?_, fun h_1 => ?_⟩
  · refine zx2856_2 _ hs (by omega) (by omega) (by omega) (by omega) (by omega) (by omega) (by omega) q6 q7 q8 q9 q10 q11 q12 (⟨_, rfl, ?_⟩)
    refine ⟨fun h_2 => ?_, fun h_2 => ?_⟩
    · refine zx2857_2 hs (by omega) (by omega) (by omega) (by omega) (by omega) (by omega) q6 q7 q8 q9 q10 q11 q12 (⟨_, rfl, ?_⟩)
      refine ⟨fun h_3 => ?_, fun h_3 => ?_⟩
      · refine ⟨by omega, ?_⟩
        try rw [show gp_R (gp_mk L s) 4 p0.toNat = some 25 from (q10 _ (by omega))]
        refine ⟨by omega, ?_⟩
        try rw [show gp_R (gp_mk L s) 4 p1.toNat = some 25 from (q10 _ (by omega))]
        refine zx776_1 hs (by omega) (by omega) (by omega) (by omega) (by omega) (by omega) q6 q7 q8 q9 q10 q11 q12 q13 q14 (fun s_4 hs_5 q_6 q_7 q_8 q_9 q_10 q_11 q_12 q_13 q_14 q_15 q_16 q_17 q_18 q_19 q_20 => ⟨_, rfl, ?_⟩)
        refine ⟨fun h_21 => ?_, fun h_21 => ?_⟩
        · exfalso; omega
        · refine zx776_1 hs_5 (by omega) (by omega) (by omega) (by omega) (by omega) (by omega) q_12 q_13 q_14 q_15 q_16 q_17 q_18 q_19 q_20 (fun s_22 hs_23 q_24 q_25 q_26 q_27 q_28 q_29 q_30 q_31 q_32 q_33 q_34 q_35 q_36 q_37 q_38 => ⟨_, rfl, ?_⟩)
          refine ⟨fun h_39 => ?_, fun h_39 => ?_⟩
          · exfalso; omega
          · refine zx2829_0 hs_23 (by omega) (by omega) (by omega) (by omega) (by omega) (by omega) q_30 q_31 q_32 q_33 q_34 q_35 q_36 q_37 q_38 (fun s_40 hs_41 q_42 q_43 q_44 q_45 q_46 q_47 q_48 q_49 q_50 q_51 q_52 q_53 q_54 q_55 q_56 q_57 q_58 q_59 q_60 q_61 q_62 q_63 q_64 q_65 q_66 => ⟨_, rfl, ?_⟩)
            refine ⟨fun h_67 => ?_, fun h_67 => ?_⟩
            · exfalso; omega
            · refine ⟨fun h_68 => ?_, fun h_68 => ?_⟩
              · refine s_2830_101 _ _ _ _ _ _ _ _ _ _ _ ?_
                refine ⟨25, rfl, ?_⟩
                refine ⟨rfl, ?_⟩
                refine zx2306_1 hs_41 (by omega) (by omega) (by omega) (by omega) q_54 q_55 q_56 q_57 q_61 q_62 q_63 q_64 (⟨_, rfl, ?_⟩)
                refine ⟨rfl, ?_⟩
                refine zx2307_2 hs_41 (by omega) (by omega) (by omega) (by omega) q_54 q_55 q_56 q_57 q_61 q_62 q_63 q_64 (⟨_, rfl, ?_⟩)
                refine ⟨fun h_72 => ?_, fun h_72 => ?_⟩
                · exfalso; omega
                · refine zx3585_2 hs_41 (by omega) (by omega) (by omega) (by omega) q_54 q_55 q_56 q_57 q_61 q_62 q_63 q_64 (⟨_, rfl, ?_⟩)
                  refine ⟨fun h_73 => ?_, fun h_73 => ?_⟩
                  · exfalso; omega
                  · refine s_2830_131 _ _ _ _ _ _ _ _ _ ?_
                    refine zx2855_8 hs_41 (by omega) (by omega) (by omega) (by omega) (by omega) (by omega) (by omega) (by omega) (by omega) (by omega) q_52 q_53 q_54 q_55 q_56 q_57 q_58 q_59 q_60 q_61 q_62 q_63 q_64 q_65 q_66 (fun s_77 hs_78 q_79 q_80 q_81 q_82 q_83 q_84 q_85 q_86 q_87 q_88 q_89 q_90 q_91 q_92 q_93 q_94 q_95 q_96 q_97 q_98 q_99 q_100 q_101 q_102 q_103 q_104 => ⟨_, rfl, ?_⟩)
                    exact k s_77 hs_78 (by omega) (by omega) (by omega) (by omega) (by omega) (by omega) (by omega) (by omega) (by omega) (by omega) (by omega) q_90 q_91 q_92 q_93 q_94 q_95 q_96 q_97 q_98 q_99 q_100 q_101 q_102 q_103 q_104
              · exfalso; omega
      · exfalso; omega
    · exfalso; omega
  · exfalso; omega
set_option maxRecDepth 100000 in
/-- Table.options [25, (0, 0), (1, 1)] -/
theorem zx2307_3 {z : gH} {L d : Nat} {K : Option gV → gH → Prop} {s : gH}  (hs : xM z s)  (q0 : gp_I s 117 0 = 0) (q1 : gp_I s 118 0 = 0) (q2 : gp_I s 119 0 = 0) (q3 : gp_I s 120 0 = 0) (q4 : gp_R s 25 6 = some 117) (q5 : gp_R s 25 7 = some 118) (q6 : gp_R s 25 8 = some 119) (q7 : gp_R s 25 9 = some 120) (q8 : gp_sh s 117 = (100, 1)) (q9 : gp_sh s 118 = (100, 1)) (q10 : gp_sh s 119 = (100, 1)) (q11 : gp_sh s 120 = (100, 1)) (k : K (some (gp_l (0#64))) s) : gs_C L d 2307 3 [gp_r (some 25), gp_i 0, gp_i 1] s K := by
  refine s_2307_e _ _ _ ?_
  refine ⟨fun h_1 => ?_, fun h_1 => ?_⟩
  · exfalso; omega
  · refine ⟨25, rfl, ?_⟩
    refine ⟨rfl, ?_⟩
    try rw [show gp_R (gp_mk L s) 25 2 = some 27 from rfl]
    refine ⟨27, rfl, ?_⟩
    refine ⟨⟨rfl, by show 0 ≤ 0 ∧ 0 < 1; omega⟩, ?_⟩
    try rw [xr27 hs ((0 : Int).toNat)]
    refine s_2307_19 _ _ _ _ ?_
    exact k
set_option maxRecDepth 100000 in
/-- GatheredPoints.answer [(0, 7), (0, 7), (1, 1), (-2147483648, -1)] -/
theorem zx2830_8 {z : gH} {L d : Nat} {K : Option gV → gH → Prop} {s : gH} (p0 : Int) (p1 : Int) (p3 : Int) (hs : xM z s) (h_p0 : 0 ≤ p0 ∧ p0 ≤ 7) (h_p1 : 0 ≤ p1 ∧ p1 ≤ 7) (h_p3 : (-2147483648) ≤ p3 ∧ p3 ≤ (-1)) (q0 : gp_I s 1 2 = 0) (q1 : gp_I s 1 6 = 0) (q2 : gp_I s 1 7 = 1) (q3 : gp_I s 51 8 = 0) (q4 : gp_I s 57 1 = 0) (q5 : gp_I s 57 3 = 0) (q6 : gp_R s 25 6 = none) (q7 : gp_R s 25 7 = none) (q8 : gp_R s 25 8 = none) (q9 : gp_R s 25 9 = none) (q10 : ∀ k, k < 8 → gp_R s 4 k = some 25) (q11 : gp_R s 51 6 = some 55) (q12 : gp_R s 51 7 = some 56) (q13 : gp_us s = 606895) (q14 : gp_sz s = 117) (k : ∀ (t : gH), xM z t → (gp_I t 1 2 = 0) → (gp_I t 1 6 = 0) → (gp_I t 1 7 = 1) → (gp_I t 117 0 = 0) → (gp_I t 118 0 = 0) → (gp_I t 119 0 = 0) → (gp_I t 120 0 = 0) → ((-2147483648) ≤ gp_I t 2 2 ∧ gp_I t 2 2 ≤ 2147483647) → (gp_I t 51 8 = 0) → (gp_I t 57 1 = 0) → (gp_I t 57 3 = 0) → (gp_L t 39 0 = 1#64) → (gp_L t 40 0 = 1#64) → (gp_R t 25 6 = some 117) → (gp_R t 25 7 = some 118) → (gp_R t 25 8 = some 119) → (gp_R t 25 9 = some 120) → (∀ k, k < 8 → gp_R t 4 k = some 25) → (gp_R t 51 6 = some 55) → (gp_R t 51 7 = some 56) → (gp_sh t 117 = (100, 1)) → (gp_sh t 118 = (100, 1)) → (gp_sh t 119 = (100, 1)) → (gp_sh t 120 = (100, 1)) → (gp_us t = 606899) → (gp_sz t = 121) → K (some (gp_i (-1000000002))) t) : gs_C L (d + 6) 2830 11 [gp_r (some 1), gp_i p0, gp_i p1, gp_i 1, gp_i p3] s K := by
  refine s_2830_e _ _ _ _ ?_
  refine zx2856_2 _ hs (by omega) (by omega) (by omega) (by omega) (by omega) (by omega) (by omega) q6 q7 q8 q9 q10 q11 q12 (⟨_, rfl, ?_⟩)
  refine ⟨fun h_1 => ?_, fun h_1 => ?_⟩
  · refine zx2856_2 _ hs (by omega) (by omega) (by omega) (by omega) (by omega) (by omega) (by omega) q6 q7 q8 q9 q10 q11 q12 (⟨_, rfl, ?_⟩)
    refine ⟨fun h_2 => ?_, fun h_2 => ?_⟩
    · refine zx2857_3 hs (by omega) (by omega) (by omega) (by omega) (by omega) (by omega) q6 q7 q8 q9 q10 q11 q12 (⟨_, rfl, ?_⟩)
      refine ⟨fun h_3 => ?_, fun h_3 => ?_⟩
      · refine ⟨by omega, ?_⟩
        try rw [show gp_R (gp_mk L s) 4 p0.toNat = some 25 from (q10 _ (by omega))]
        refine ⟨by omega, ?_⟩
        try rw [show gp_R (gp_mk L s) 4 p1.toNat = some 25 from (q10 _ (by omega))]
        refine zx776_1 hs (by omega) (by omega) (by omega) (by omega) (by omega) (by omega) q6 q7 q8 q9 q10 q11 q12 q13 q14 (fun s_4 hs_5 q_6 q_7 q_8 q_9 q_10 q_11 q_12 q_13 q_14 q_15 q_16 q_17 q_18 q_19 q_20 => ⟨_, rfl, ?_⟩)
        refine ⟨fun h_21 => ?_, fun h_21 => ?_⟩
        · exfalso; omega
        · refine zx776_1 hs_5 (by omega) (by omega) (by omega) (by omega) (by omega) (by omega) q_12 q_13 q_14 q_15 q_16 q_17 q_18 q_19 q_20 (fun s_22 hs_23 q_24 q_25 q_26 q_27 q_28 q_29 q_30 q_31 q_32 q_33 q_34 q_35 q_36 q_37 q_38 => ⟨_, rfl, ?_⟩)
          refine ⟨fun h_39 => ?_, fun h_39 => ?_⟩
          · exfalso; omega
          · refine zx2829_0 hs_23 (by omega) (by omega) (by omega) (by omega) (by omega) (by omega) q_30 q_31 q_32 q_33 q_34 q_35 q_36 q_37 q_38 (fun s_40 hs_41 q_42 q_43 q_44 q_45 q_46 q_47 q_48 q_49 q_50 q_51 q_52 q_53 q_54 q_55 q_56 q_57 q_58 q_59 q_60 q_61 q_62 q_63 q_64 q_65 q_66 => ⟨_, rfl, ?_⟩)
            refine ⟨fun h_67 => ?_, fun h_67 => ?_⟩
            · exfalso; omega
            · refine ⟨fun h_68 => ?_, fun h_68 => ?_⟩
              · exfalso; omega
              · refine s_2830_101 _ _ _ _ _ _ _ _ _ _ _ ?_
                refine ⟨25, rfl, ?_⟩
                refine ⟨rfl, ?_⟩
                refine zx2306_1 hs_41 (by omega) (by omega) (by omega) (by omega) q_54 q_55 q_56 q_57 q_61 q_62 q_63 q_64 (⟨_, rfl, ?_⟩)
                refine ⟨rfl, ?_⟩
                refine zx2307_3 hs_41 (by omega) (by omega) (by omega) (by omega) q_54 q_55 q_56 q_57 q_61 q_62 q_63 q_64 (⟨_, rfl, ?_⟩)
                refine ⟨fun h_72 => ?_, fun h_72 => ?_⟩
                · refine s_2830_131 _ _ _ _ _ _ _ _ _ ?_
                  refine zx2855_8 hs_41 (by omega) (by omega) (by omega) (by omega) (by omega) (by omega) (by omega) (by omega) (by omega) (by omega) q_52 q_53 q_54 q_55 q_56 q_57 q_58 q_59 q_60 q_61 q_62 q_63 q_64 q_65 q_66 (fun s_76 hs_77 q_78 q_79 q_80 q_81 q_82 q_83 q_84 q_85 q_86 q_87 q_88 q_89 q_90 q_91 q_92 q_93 q_94 q_95 q_96 q_97 q_98 q_99 q_100 q_101 q_102 q_103 => ⟨_, rfl, ?_⟩)
                  exact k s_76 hs_77 (by omega) (by omega) (by omega) (by omega) (by omega) (by omega) (by omega) (by omega) (by omega) (by omega) (by omega) q_89 q_90 q_91 q_92 q_93 q_94 q_95 q_96 q_97 q_98 q_99 q_100 q_101 q_102 q_103
                · exfalso; omega
      · exfalso; omega
    · exfalso; omega
  · exfalso; omega
set_option maxRecDepth 100000 in
/-- GatheredPoints.answer [(0, 7), (0, 7), (1, 1), (0, 2147483647)] -/
theorem zx2830_9 {z : gH} {L d : Nat} {K : Option gV → gH → Prop} {s : gH} (p0 : Int) (p1 : Int) (p3 : Int) (hs : xM z s) (h_p0 : 0 ≤ p0 ∧ p0 ≤ 7) (h_p1 : 0 ≤ p1 ∧ p1 ≤ 7) (h_p3 : 0 ≤ p3 ∧ p3 ≤ 2147483647) (q0 : gp_I s 1 2 = 0) (q1 : gp_I s 1 6 = 0) (q2 : gp_I s 1 7 = 1) (q3 : gp_I s 51 8 = 0) (q4 : gp_I s 57 1 = 0) (q5 : gp_I s 57 3 = 0) (q6 : gp_R s 25 6 = none) (q7 : gp_R s 25 7 = none) (q8 : gp_R s 25 8 = none) (q9 : gp_R s 25 9 = none) (q10 : ∀ k, k < 8 → gp_R s 4 k = some 25) (q11 : gp_R s 51 6 = some 55) (q12 : gp_R s 51 7 = some 56) (q13 : gp_us s = 606895) (q14 : gp_sz s = 117) (k : ∀ (t : gH), xM z t → (gp_I t 1 2 = 0) → (gp_I t 1 6 = 0) → (gp_I t 1 7 = 1) → (gp_I t 117 0 = 0) → (gp_I t 118 0 = 0) → (gp_I t 119 0 = 0) → (gp_I t 120 0 = 0) → ((-2147483648) ≤ gp_I t 2 2 ∧ gp_I t 2 2 ≤ 2147483647) → (gp_I t 51 8 = 0) → (gp_I t 57 1 = 0) → (gp_I t 57 3 = 0) → (gp_L t 39 0 = 1#64) → (gp_L t 40 0 = 1#64) → (gp_R t 25 6 = some 117) → (gp_R t 25 7 = some 118) → (gp_R t 25 8 = some 119) → (gp_R t 25 9 = some 120) → (∀ k, k < 8 → gp_R t 4 k = some 25) → (gp_R t 51 6 = some 55) → (gp_R t 51 7 = some 56) → (gp_sh t 117 = (100, 1)) → (gp_sh t 118 = (100, 1)) → (gp_sh t 119 = (100, 1)) → (gp_sh t 120 = (100, 1)) → (gp_us t = 606899) → (gp_sz t = 121) → K (some (gp_i (-1000000002))) t) : gs_C L (d + 6) 2830 11 [gp_r (some 1), gp_i p0, gp_i p1, gp_i 1, gp_i p3] s K := by
  refine s_2830_e _ _ _ _ ?_
  refine zx2856_2 _ hs (by omega) (by omega) (by omega) (by omega) (by omega) (by omega) (by omega) q6 q7 q8 q9 q10 q11 q12 (⟨_, rfl, ?_⟩)
  refine ⟨fun h_1 => ?_, fun h_1 => ?_⟩
  · refine zx2856_2 _ hs (by omega) (by omega) (by omega) (by omega) (by omega) (by omega) (by omega) q6 q7 q8 q9 q10 q11 q12 (⟨_, rfl, ?_⟩)
    refine ⟨fun h_2 => ?_, fun h_2 => ?_⟩
    · refine zx2857_3 hs (by omega) (by omega) (by omega) (by omega) (by omega) (by omega) q6 q7 q8 q9 q10 q11 q12 (⟨_, rfl, ?_⟩)
      refine ⟨fun h_3 => ?_, fun h_3 => ?_⟩
      · refine ⟨by omega, ?_⟩
        try rw [show gp_R (gp_mk L s) 4 p0.toNat = some 25 from (q10 _ (by omega))]
        refine ⟨by omega, ?_⟩
        try rw [show gp_R (gp_mk L s) 4 p1.toNat = some 25 from (q10 _ (by omega))]
        refine zx776_1 hs (by omega) (by omega) (by omega) (by omega) (by omega) (by omega) q6 q7 q8 q9 q10 q11 q12 q13 q14 (fun s_4 hs_5 q_6 q_7 q_8 q_9 q_10 q_11 q_12 q_13 q_14 q_15 q_16 q_17 q_18 q_19 q_20 => ⟨_, rfl, ?_⟩)
        refine ⟨fun h_21 => ?_, fun h_21 => ?_⟩
        · exfalso; omega
        · refine zx776_1 hs_5 (by omega) (by omega) (by omega) (by omega) (by omega) (by omega) q_12 q_13 q_14 q_15 q_16 q_17 q_18 q_19 q_20 (fun s_22 hs_23 q_24 q_25 q_26 q_27 q_28 q_29 q_30 q_31 q_32 q_33 q_34 q_35 q_36 q_37 q_38 => ⟨_, rfl, ?_⟩)
          refine ⟨fun h_39 => ?_, fun h_39 => ?_⟩
          · exfalso; omega
          · refine zx2829_0 hs_23 (by omega) (by omega) (by omega) (by omega) (by omega) (by omega) q_30 q_31 q_32 q_33 q_34 q_35 q_36 q_37 q_38 (fun s_40 hs_41 q_42 q_43 q_44 q_45 q_46 q_47 q_48 q_49 q_50 q_51 q_52 q_53 q_54 q_55 q_56 q_57 q_58 q_59 q_60 q_61 q_62 q_63 q_64 q_65 q_66 => ⟨_, rfl, ?_⟩)
            refine ⟨fun h_67 => ?_, fun h_67 => ?_⟩
            · exfalso; omega
            · refine ⟨fun h_68 => ?_, fun h_68 => ?_⟩
              · exfalso; omega
              · refine s_2830_101 _ _ _ _ _ _ _ _ _ _ _ ?_
                refine ⟨25, rfl, ?_⟩
                refine ⟨rfl, ?_⟩
                refine zx2306_1 hs_41 (by omega) (by omega) (by omega) (by omega) q_54 q_55 q_56 q_57 q_61 q_62 q_63 q_64 (⟨_, rfl, ?_⟩)
                refine ⟨rfl, ?_⟩
                refine zx2307_3 hs_41 (by omega) (by omega) (by omega) (by omega) q_54 q_55 q_56 q_57 q_61 q_62 q_63 q_64 (⟨_, rfl, ?_⟩)
                refine ⟨fun h_72 => ?_, fun h_72 => ?_⟩
                · exfalso; omega
                · refine zx3585_2 hs_41 (by omega) (by omega) (by omega) (by omega) q_54 q_55 q_56 q_57 q_61 q_62 q_63 q_64 (⟨_, rfl, ?_⟩)
                  refine ⟨fun h_73 => ?_, fun h_73 => ?_⟩
                  · exfalso; omega
                  · refine s_2830_131 _ _ _ _ _ _ _ _ _ ?_
                    refine zx2855_8 hs_41 (by omega) (by omega) (by omega) (by omega) (by omega) (by omega) (by omega) (by omega) (by omega) (by omega) q_52 q_53 q_54 q_55 q_56 q_57 q_58 q_59 q_60 q_61 q_62 q_63 q_64 q_65 q_66 (fun s_77 hs_78 q_79 q_80 q_81 q_82 q_83 q_84 q_85 q_86 q_87 q_88 q_89 q_90 q_91 q_92 q_93 q_94 q_95 q_96 q_97 q_98 q_99 q_100 q_101 q_102 q_103 q_104 => ⟨_, rfl, ?_⟩)
                    exact k s_77 hs_78 (by omega) (by omega) (by omega) (by omega) (by omega) (by omega) (by omega) (by omega) (by omega) (by omega) (by omega) q_90 q_91 q_92 q_93 q_94 q_95 q_96 q_97 q_98 q_99 q_100 q_101 q_102 q_103 q_104
      · exfalso; omega
    · exfalso; omega
  · exfalso; omega
set_option maxRecDepth 100000 in
/-- GatheredPoints.gameOf [(-2147483648, -1), (-2147483648, 2147483647)] -/
theorem zx2825_0 {z : gH} {L d : Nat} {K : Option gV → gH → Prop} {s : gH} (p0 : Int) (p1 : Int) (hs : xM z s) (h_p0 : (-2147483648) ≤ p0 ∧ p0 ≤ (-1)) (h_p1 : (-2147483648) ≤ p1 ∧ p1 ≤ 2147483647) (q0 : gp_I s 1 2 = 0) (q1 : gp_I s 1 6 = 0) (q2 : gp_I s 1 7 = 1) (q3 : gp_I s 51 8 = 0) (q4 : gp_I s 57 1 = 0) (q5 : gp_I s 57 3 = 0) (q6 : gp_R s 25 6 = none) (q7 : gp_R s 25 7 = none) (q8 : gp_R s 25 8 = none) (q9 : gp_R s 25 9 = none) (q10 : ∀ k, k < 8 → gp_R s 4 k = some 25) (q11 : gp_R s 51 6 = some 55) (q12 : gp_R s 51 7 = some 56) (q13 : gp_us s = 606895) (q14 : gp_sz s = 117) (k : ∀ (t : gH), xM z t → (gp_I t 1 2 = 0) → (gp_I t 1 6 = 0) → (gp_I t 1 7 = 1) → ((-2147483648) ≤ gp_I t 2 1 ∧ gp_I t 2 1 ≤ 2147483647) → (gp_I t 51 8 = 0) → (gp_I t 57 1 = 0) → (gp_I t 57 3 = 0) → (gp_R t 25 6 = none) → (gp_R t 25 7 = none) → (gp_R t 25 8 = none) → (gp_R t 25 9 = none) → (∀ k, k < 8 → gp_R t 4 k = some 25) → (gp_R t 51 6 = some 55) → (gp_R t 51 7 = some 56) → (gp_us t = 606895) → (gp_sz t = 117) → K (some (gp_i (-1000000001))) t) : gs_C L (d + 1) 2825 5 [gp_r (some 1), gp_i p0, gp_i p1] s K := by
  refine s_2825_e _ _ ?_
  refine zx2856_0 _ hs (by omega) (by omega) (by omega) (by omega) (by omega) (by omega) (by omega) q6 q7 q8 q9 q10 q11 q12 (⟨_, rfl, ?_⟩)
  refine ⟨fun h_1 => ?_, fun h_1 => ?_⟩
  · exfalso; omega
  · refine s_2825_17 _ _ _ _ ?_
    refine zx2855_4 hs (by omega) (by omega) (by omega) (by omega) (by omega) (by omega) q6 q7 q8 q9 q10 q11 q12 q13 q14 (fun s_2 hs_3 q_4 q_5 q_6 q_7 q_8 q_9 q_10 q_11 q_12 q_13 q_14 q_15 q_16 q_17 q_18 q_19 => ⟨_, rfl, ?_⟩)
    exact k s_2 hs_3 (by omega) (by omega) (by omega) (by omega) (by omega) (by omega) (by omega) q_11 q_12 q_13 q_14 q_15 q_16 q_17 q_18 q_19
set_option maxRecDepth 100000 in
/-- GatheredPoints.gameOf [(8, 2147483647), (-2147483648, 2147483647)] -/
theorem zx2825_1 {z : gH} {L d : Nat} {K : Option gV → gH → Prop} {s : gH} (p0 : Int) (p1 : Int) (hs : xM z s) (h_p0 : 8 ≤ p0 ∧ p0 ≤ 2147483647) (h_p1 : (-2147483648) ≤ p1 ∧ p1 ≤ 2147483647) (q0 : gp_I s 1 2 = 0) (q1 : gp_I s 1 6 = 0) (q2 : gp_I s 1 7 = 1) (q3 : gp_I s 51 8 = 0) (q4 : gp_I s 57 1 = 0) (q5 : gp_I s 57 3 = 0) (q6 : gp_R s 25 6 = none) (q7 : gp_R s 25 7 = none) (q8 : gp_R s 25 8 = none) (q9 : gp_R s 25 9 = none) (q10 : ∀ k, k < 8 → gp_R s 4 k = some 25) (q11 : gp_R s 51 6 = some 55) (q12 : gp_R s 51 7 = some 56) (q13 : gp_us s = 606895) (q14 : gp_sz s = 117) (k : ∀ (t : gH), xM z t → (gp_I t 1 2 = 0) → (gp_I t 1 6 = 0) → (gp_I t 1 7 = 1) → ((-2147483648) ≤ gp_I t 2 1 ∧ gp_I t 2 1 ≤ 2147483647) → (gp_I t 51 8 = 0) → (gp_I t 57 1 = 0) → (gp_I t 57 3 = 0) → (gp_R t 25 6 = none) → (gp_R t 25 7 = none) → (gp_R t 25 8 = none) → (gp_R t 25 9 = none) → (∀ k, k < 8 → gp_R t 4 k = some 25) → (gp_R t 51 6 = some 55) → (gp_R t 51 7 = some 56) → (gp_us t = 606895) → (gp_sz t = 117) → K (some (gp_i (-1000000001))) t) : gs_C L (d + 1) 2825 5 [gp_r (some 1), gp_i p0, gp_i p1] s K := by
  refine s_2825_e _ _ ?_
  refine zx2856_1 _ hs (by omega) (by omega) (by omega) (by omega) (by omega) (by omega) (by omega) q6 q7 q8 q9 q10 q11 q12 (⟨_, rfl, ?_⟩)
  refine ⟨fun h_1 => ?_, fun h_1 => ?_⟩
  · exfalso; omega
  · refine s_2825_17 _ _ _ _ ?_
    refine zx2855_4 hs (by omega) (by omega) (by omega) (by omega) (by omega) (by omega) q6 q7 q8 q9 q10 q11 q12 q13 q14 (fun s_2 hs_3 q_4 q_5 q_6 q_7 q_8 q_9 q_10 q_11 q_12 q_13 q_14 q_15 q_16 q_17 q_18 q_19 => ⟨_, rfl, ?_⟩)
    exact k s_2 hs_3 (by omega) (by omega) (by omega) (by omega) (by omega) (by omega) (by omega) q_11 q_12 q_13 q_14 q_15 q_16 q_17 q_18 q_19
set_option maxRecDepth 100000 in
/-- GatheredPoints.gameOf [(0, 7), (-2147483648, -1)] -/
theorem zx2825_2 {z : gH} {L d : Nat} {K : Option gV → gH → Prop} {s : gH} (p0 : Int) (p1 : Int) (hs : xM z s) (h_p0 : 0 ≤ p0 ∧ p0 ≤ 7) (h_p1 : (-2147483648) ≤ p1 ∧ p1 ≤ (-1)) (q0 : gp_I s 1 2 = 0) (q1 : gp_I s 1 6 = 0) (q2 : gp_I s 1 7 = 1) (q3 : gp_I s 51 8 = 0) (q4 : gp_I s 57 1 = 0) (q5 : gp_I s 57 3 = 0) (q6 : gp_R s 25 6 = none) (q7 : gp_R s 25 7 = none) (q8 : gp_R s 25 8 = none) (q9 : gp_R s 25 9 = none) (q10 : ∀ k, k < 8 → gp_R s 4 k = some 25) (q11 : gp_R s 51 6 = some 55) (q12 : gp_R s 51 7 = some 56) (q13 : gp_us s = 606895) (q14 : gp_sz s = 117) (k : ∀ (t : gH), xM z t → (gp_I t 1 2 = 0) → (gp_I t 1 6 = 0) → (gp_I t 1 7 = 1) → ((-2147483648) ≤ gp_I t 2 1 ∧ gp_I t 2 1 ≤ 2147483647) → (gp_I t 51 8 = 0) → (gp_I t 57 1 = 0) → (gp_I t 57 3 = 0) → (gp_R t 25 6 = none) → (gp_R t 25 7 = none) → (gp_R t 25 8 = none) → (gp_R t 25 9 = none) → (∀ k, k < 8 → gp_R t 4 k = some 25) → (gp_R t 51 6 = some 55) → (gp_R t 51 7 = some 56) → (gp_us t = 606895) → (gp_sz t = 117) → K (some (gp_i (-1000000001))) t) : gs_C L (d + 1) 2825 5 [gp_r (some 1), gp_i p0, gp_i p1] s K := by
  refine s_2825_e _ _ ?_
  refine zx2856_2 _ hs (by omega) (by omega) (by omega) (by omega) (by omega) (by omega) (by omega) q6 q7 q8 q9 q10 q11 q12 (⟨_, rfl, ?_⟩)
  refine ⟨fun h_1 => ?_, fun h_1 => ?_⟩
  · refine ⟨fun h_2 => ?_, fun h_2 => ?_⟩
    · refine s_2825_17 _ _ _ _ ?_
      refine zx2855_4 hs (by omega) (by omega) (by omega) (by omega) (by omega) (by omega) q6 q7 q8 q9 q10 q11 q12 q13 q14 (fun s_3 hs_4 q_5 q_6 q_7 q_8 q_9 q_10 q_11 q_12 q_13 q_14 q_15 q_16 q_17 q_18 q_19 q_20 => ⟨_, rfl, ?_⟩)
      exact k s_3 hs_4 (by omega) (by omega) (by omega) (by omega) (by omega) (by omega) (by omega) q_12 q_13 q_14 q_15 q_16 q_17 q_18 q_19 q_20
    · exfalso; omega
  · exfalso; omega
set_option maxRecDepth 100000 in
/-- GatheredPoints.gameOf [(0, 7), (13, 2147483647)] -/
theorem zx2825_3 {z : gH} {L d : Nat} {K : Option gV → gH → Prop} {s : gH} (p0 : Int) (p1 : Int) (hs : xM z s) (h_p0 : 0 ≤ p0 ∧ p0 ≤ 7) (h_p1 : 13 ≤ p1 ∧ p1 ≤ 2147483647) (q0 : gp_I s 1 2 = 0) (q1 : gp_I s 1 6 = 0) (q2 : gp_I s 1 7 = 1) (q3 : gp_I s 51 8 = 0) (q4 : gp_I s 57 1 = 0) (q5 : gp_I s 57 3 = 0) (q6 : gp_R s 25 6 = none) (q7 : gp_R s 25 7 = none) (q8 : gp_R s 25 8 = none) (q9 : gp_R s 25 9 = none) (q10 : ∀ k, k < 8 → gp_R s 4 k = some 25) (q11 : gp_R s 51 6 = some 55) (q12 : gp_R s 51 7 = some 56) (q13 : gp_us s = 606895) (q14 : gp_sz s = 117) (k : ∀ (t : gH), xM z t → (gp_I t 1 2 = 0) → (gp_I t 1 6 = 0) → (gp_I t 1 7 = 1) → ((-2147483648) ≤ gp_I t 2 1 ∧ gp_I t 2 1 ≤ 2147483647) → (gp_I t 51 8 = 0) → (gp_I t 57 1 = 0) → (gp_I t 57 3 = 0) → (gp_R t 25 6 = none) → (gp_R t 25 7 = none) → (gp_R t 25 8 = none) → (gp_R t 25 9 = none) → (∀ k, k < 8 → gp_R t 4 k = some 25) → (gp_R t 51 6 = some 55) → (gp_R t 51 7 = some 56) → (gp_us t = 606895) → (gp_sz t = 117) → K (some (gp_i (-1000000001))) t) : gs_C L (d + 1) 2825 5 [gp_r (some 1), gp_i p0, gp_i p1] s K := by
  refine s_2825_e _ _ ?_
  refine zx2856_2 _ hs (by omega) (by omega) (by omega) (by omega) (by omega) (by omega) (by omega) q6 q7 q8 q9 q10 q11 q12 (⟨_, rfl, ?_⟩)
  refine ⟨fun h_1 => ?_, fun h_1 => ?_⟩
  · refine ⟨fun h_2 => ?_, fun h_2 => ?_⟩
    · exfalso; omega
    · refine ⟨fun h_3 => ?_, fun h_3 => ?_⟩
      · refine s_2825_17 _ _ _ _ ?_
        refine zx2855_4 hs (by omega) (by omega) (by omega) (by omega) (by omega) (by omega) q6 q7 q8 q9 q10 q11 q12 q13 q14 (fun s_4 hs_5 q_6 q_7 q_8 q_9 q_10 q_11 q_12 q_13 q_14 q_15 q_16 q_17 q_18 q_19 q_20 q_21 => ⟨_, rfl, ?_⟩)
        exact k s_4 hs_5 (by omega) (by omega) (by omega) (by omega) (by omega) (by omega) (by omega) q_13 q_14 q_15 q_16 q_17 q_18 q_19 q_20 q_21
      · exfalso; omega
  · exfalso; omega
set_option maxRecDepth 100000 in
/-- GatheredPoints.gameOf [(0, 7), (0, 0)] -/
theorem zx2825_4 {z : gH} {L d : Nat} {K : Option gV → gH → Prop} {s : gH} (p0 : Int) (hs : xM z s) (h_p0 : 0 ≤ p0 ∧ p0 ≤ 7) (q0 : gp_I s 1 2 = 0) (q1 : gp_I s 1 6 = 0) (q2 : gp_I s 1 7 = 1) (q3 : gp_I s 51 8 = 0) (q4 : gp_I s 57 1 = 0) (q5 : gp_I s 57 3 = 0) (q6 : gp_R s 25 6 = none) (q7 : gp_R s 25 7 = none) (q8 : gp_R s 25 8 = none) (q9 : gp_R s 25 9 = none) (q10 : ∀ k, k < 8 → gp_R s 4 k = some 25) (q11 : gp_R s 51 6 = some 55) (q12 : gp_R s 51 7 = some 56) (q13 : gp_us s = 606895) (q14 : gp_sz s = 117) (k : K (some (gp_i 1)) s) : gs_C L (d + 1) 2825 5 [gp_r (some 1), gp_i p0, gp_i 0] s K := by
  refine s_2825_e _ _ ?_
  refine zx2856_2 _ hs (by omega) (by omega) (by omega) (by omega) (by omega) (by omega) (by omega) q6 q7 q8 q9 q10 q11 q12 (⟨_, rfl, ?_⟩)
  refine ⟨fun h_1 => ?_, fun h_1 => ?_⟩
  · refine ⟨fun h_2 => ?_, fun h_2 => ?_⟩
    · exfalso; omega
    · refine ⟨fun h_3 => ?_, fun h_3 => ?_⟩
      · exfalso; omega
      · refine ⟨by omega, ?_⟩
        try rw [show gp_R (gp_mk L s) 4 p0.toNat = some 25 from (q10 _ (by omega))]
        refine ⟨25, rfl, ?_⟩
        refine ⟨rfl, ?_⟩
        refine zx2306_0 hs q6 q7 q8 q9 (⟨_, rfl, ?_⟩)
        refine ⟨fun h_4 => ?_, fun h_4 => ?_, fun h_4 => ?_, fun h_4 => ?_, fun h_4 => ?_, fun h_4 => ?_, fun h_4 => ?_, fun h_4 => ?_, fun h_4 => ?_, fun h_4 => ?_, fun h_4 => ?_, fun h_4 => ?_, fun h_4 => ?_, fun h_4 => ?_⟩
        · refine ⟨rfl, ?_⟩
          have f_5 := xr25_0 hs 0
          have e_6 : gp_I s 25 0 = 1 := by omega
          try rw [e_6]
          exact k
        · exfalso; omega
        · exfalso; omega
        · exfalso; omega
        · exfalso; omega
        · exfalso; omega
        · exfalso; omega
        · exfalso; omega
        · exfalso; omega
        · exfalso; omega
        · exfalso; omega
        · exfalso; omega
        · exfalso; omega
        · exfalso; omega
  · exfalso; omega
set_option maxRecDepth 100000 in
/-- GatheredPoints.gameOf [(0, 7), (1, 1)] -/
theorem zx2825_5 {z : gH} {L d : Nat} {K : Option gV → gH → Prop} {s : gH} (p0 : Int) (hs : xM z s) (h_p0 : 0 ≤ p0 ∧ p0 ≤ 7) (q0 : gp_I s 1 2 = 0) (q1 : gp_I s 1 6 = 0) (q2 : gp_I s 1 7 = 1) (q3 : gp_I s 51 8 = 0) (q4 : gp_I s 57 1 = 0) (q5 : gp_I s 57 3 = 0) (q6 : gp_R s 25 6 = none) (q7 : gp_R s 25 7 = none) (q8 : gp_R s 25 8 = none) (q9 : gp_R s 25 9 = none) (q10 : ∀ k, k < 8 → gp_R s 4 k = some 25) (q11 : gp_R s 51 6 = some 55) (q12 : gp_R s 51 7 = some 56) (q13 : gp_us s = 606895) (q14 : gp_sz s = 117) (k : K (some (gp_i 0)) s) : gs_C L (d + 1) 2825 5 [gp_r (some 1), gp_i p0, gp_i 1] s K := by
  refine s_2825_e _ _ ?_
  refine zx2856_2 _ hs (by omega) (by omega) (by omega) (by omega) (by omega) (by omega) (by omega) q6 q7 q8 q9 q10 q11 q12 (⟨_, rfl, ?_⟩)
  refine ⟨fun h_1 => ?_, fun h_1 => ?_⟩
  · refine ⟨fun h_2 => ?_, fun h_2 => ?_⟩
    · exfalso; omega
    · refine ⟨fun h_3 => ?_, fun h_3 => ?_⟩
      · exfalso; omega
      · refine ⟨by omega, ?_⟩
        try rw [show gp_R (gp_mk L s) 4 p0.toNat = some 25 from (q10 _ (by omega))]
        refine ⟨25, rfl, ?_⟩
        refine ⟨rfl, ?_⟩
        refine zx2306_0 hs q6 q7 q8 q9 (⟨_, rfl, ?_⟩)
        refine ⟨fun h_4 => ?_, fun h_4 => ?_, fun h_4 => ?_, fun h_4 => ?_, fun h_4 => ?_, fun h_4 => ?_, fun h_4 => ?_, fun h_4 => ?_, fun h_4 => ?_, fun h_4 => ?_, fun h_4 => ?_, fun h_4 => ?_, fun h_4 => ?_, fun h_4 => ?_⟩
        · exfalso; omega
        · refine ⟨rfl, ?_⟩
          try rw [show gp_R (gp_mk L s) 25 5 = some 30 from rfl]
          refine ⟨30, rfl, ?_⟩
          refine ⟨⟨rfl, by show 0 ≤ 0 ∧ 0 < 1; omega⟩, ?_⟩
          have f_5 := xr30 hs ((0 : Int).toNat)
          have e_6 : gp_I s 30 (0 : Int).toNat = 0 := by omega
          try rw [e_6]
          exact k
        · exfalso; omega
        · exfalso; omega
        · exfalso; omega
        · exfalso; omega
        · exfalso; omega
        · exfalso; omega
        · exfalso; omega
        · exfalso; omega
        · exfalso; omega
        · exfalso; omega
        · exfalso; omega
        · exfalso; omega
  · exfalso; omega
set_option maxRecDepth 100000 in
/-- GatheredPoints.gameOf [(0, 7), (2, 2)] -/
theorem zx2825_6 {z : gH} {L d : Nat} {K : Option gV → gH → Prop} {s : gH} (p0 : Int) (hs : xM z s) (h_p0 : 0 ≤ p0 ∧ p0 ≤ 7) (q0 : gp_I s 1 2 = 0) (q1 : gp_I s 1 6 = 0) (q2 : gp_I s 1 7 = 1) (q3 : gp_I s 51 8 = 0) (q4 : gp_I s 57 1 = 0) (q5 : gp_I s 57 3 = 0) (q6 : gp_R s 25 6 = none) (q7 : gp_R s 25 7 = none) (q8 : gp_R s 25 8 = none) (q9 : gp_R s 25 9 = none) (q10 : ∀ k, k < 8 → gp_R s 4 k = some 25) (q11 : gp_R s 51 6 = some 55) (q12 : gp_R s 51 7 = some 56) (q13 : gp_us s = 606895) (q14 : gp_sz s = 117) (k : K (some (gp_i 0)) s) : gs_C L (d + 1) 2825 5 [gp_r (some 1), gp_i p0, gp_i 2] s K := by
  refine s_2825_e _ _ ?_
  refine zx2856_2 _ hs (by omega) (by omega) (by omega) (by omega) (by omega) (by omega) (by omega) q6 q7 q8 q9 q10 q11 q12 (⟨_, rfl, ?_⟩)
  refine ⟨fun h_1 => ?_, fun h_1 => ?_⟩
  · refine ⟨fun h_2 => ?_, fun h_2 => ?_⟩
    · exfalso; omega
    · refine ⟨fun h_3 => ?_, fun h_3 => ?_⟩
      · exfalso; omega
      · refine ⟨by omega, ?_⟩
        try rw [show gp_R (gp_mk L s) 4 p0.toNat = some 25 from (q10 _ (by omega))]
        refine ⟨25, rfl, ?_⟩
        refine ⟨rfl, ?_⟩
        refine zx2306_0 hs q6 q7 q8 q9 (⟨_, rfl, ?_⟩)
        refine ⟨fun h_4 => ?_, fun h_4 => ?_, fun h_4 => ?_, fun h_4 => ?_, fun h_4 => ?_, fun h_4 => ?_, fun h_4 => ?_, fun h_4 => ?_, fun h_4 => ?_, fun h_4 => ?_, fun h_4 => ?_, fun h_4 => ?_, fun h_4 => ?_, fun h_4 => ?_⟩
        · exfalso; omega
        · exfalso; omega
        · refine ⟨rfl, ?_⟩
          try rw [show gp_R (gp_mk L s) 25 1 = some 26 from rfl]
          refine ⟨26, rfl, ?_⟩
          refine ⟨⟨rfl, by show 0 ≤ 0 ∧ 0 < 1; omega⟩, ?_⟩
          try rw [xr26 hs ((0 : Int).toNat)]
          refine zx3585_1 hs q6 q7 q8 q9 (⟨_, rfl, ?_⟩)
          exact k
        · exfalso; omega
        · exfalso; omega
        · exfalso; omega
        · exfalso; omega
        · exfalso; omega
        · exfalso; omega
        · exfalso; omega
        · exfalso; omega
        · exfalso; omega
        · exfalso; omega
        · exfalso; omega
  · exfalso; omega
set_option maxRecDepth 100000 in
/-- GatheredPoints.gameOf [(0, 7), (3, 3)] -/
theorem zx2825_7 {z : gH} {L d : Nat} {K : Option gV → gH → Prop} {s : gH} (p0 : Int) (hs : xM z s) (h_p0 : 0 ≤ p0 ∧ p0 ≤ 7) (q0 : gp_I s 1 2 = 0) (q1 : gp_I s 1 6 = 0) (q2 : gp_I s 1 7 = 1) (q3 : gp_I s 51 8 = 0) (q4 : gp_I s 57 1 = 0) (q5 : gp_I s 57 3 = 0) (q6 : gp_R s 25 6 = none) (q7 : gp_R s 25 7 = none) (q8 : gp_R s 25 8 = none) (q9 : gp_R s 25 9 = none) (q10 : ∀ k, k < 8 → gp_R s 4 k = some 25) (q11 : gp_R s 51 6 = some 55) (q12 : gp_R s 51 7 = some 56) (q13 : gp_us s = 606895) (q14 : gp_sz s = 117) (k : K (some (gp_i 0)) s) : gs_C L (d + 1) 2825 5 [gp_r (some 1), gp_i p0, gp_i 3] s K := by
  refine s_2825_e _ _ ?_
  refine zx2856_2 _ hs (by omega) (by omega) (by omega) (by omega) (by omega) (by omega) (by omega) q6 q7 q8 q9 q10 q11 q12 (⟨_, rfl, ?_⟩)
  refine ⟨fun h_1 => ?_, fun h_1 => ?_⟩
  · refine ⟨fun h_2 => ?_, fun h_2 => ?_⟩
    · exfalso; omega
    · refine ⟨fun h_3 => ?_, fun h_3 => ?_⟩
      · exfalso; omega
      · refine ⟨by omega, ?_⟩
        try rw [show gp_R (gp_mk L s) 4 p0.toNat = some 25 from (q10 _ (by omega))]
        refine ⟨25, rfl, ?_⟩
        refine ⟨rfl, ?_⟩
        refine zx2306_0 hs q6 q7 q8 q9 (⟨_, rfl, ?_⟩)
        refine ⟨fun h_4 => ?_, fun h_4 => ?_, fun h_4 => ?_, fun h_4 => ?_, fun h_4 => ?_, fun h_4 => ?_, fun h_4 => ?_, fun h_4 => ?_, fun h_4 => ?_, fun h_4 => ?_, fun h_4 => ?_, fun h_4 => ?_, fun h_4 => ?_, fun h_4 => ?_⟩
        · exfalso; omega
        · exfalso; omega
        · exfalso; omega
        · refine ⟨rfl, ?_⟩
          try rw [show gp_R (gp_mk L s) 25 2 = some 27 from rfl]
          refine ⟨27, rfl, ?_⟩
          refine ⟨⟨rfl, by show 0 ≤ 0 ∧ 0 < 1; omega⟩, ?_⟩
          try rw [xr27 hs ((0 : Int).toNat)]
          refine zx3585_1 hs q6 q7 q8 q9 (⟨_, rfl, ?_⟩)
          exact k
        · exfalso; omega
        · exfalso; omega
        · exfalso; omega
        · exfalso; omega
        · exfalso; omega
        · exfalso; omega
        · exfalso; omega
        · exfalso; omega
        · exfalso; omega
        · exfalso; omega
  · exfalso; omega
set_option maxRecDepth 100000 in
/-- GatheredPoints.gameOf [(0, 7), (4, 4)] -/
theorem zx2825_8 {z : gH} {L d : Nat} {K : Option gV → gH → Prop} {s : gH} (p0 : Int) (hs : xM z s) (h_p0 : 0 ≤ p0 ∧ p0 ≤ 7) (q0 : gp_I s 1 2 = 0) (q1 : gp_I s 1 6 = 0) (q2 : gp_I s 1 7 = 1) (q3 : gp_I s 51 8 = 0) (q4 : gp_I s 57 1 = 0) (q5 : gp_I s 57 3 = 0) (q6 : gp_R s 25 6 = none) (q7 : gp_R s 25 7 = none) (q8 : gp_R s 25 8 = none) (q9 : gp_R s 25 9 = none) (q10 : ∀ k, k < 8 → gp_R s 4 k = some 25) (q11 : gp_R s 51 6 = some 55) (q12 : gp_R s 51 7 = some 56) (q13 : gp_us s = 606895) (q14 : gp_sz s = 117) (k : K (some (gp_i 0)) s) : gs_C L (d + 1) 2825 5 [gp_r (some 1), gp_i p0, gp_i 4] s K := by
  refine s_2825_e _ _ ?_
  refine zx2856_2 _ hs (by omega) (by omega) (by omega) (by omega) (by omega) (by omega) (by omega) q6 q7 q8 q9 q10 q11 q12 (⟨_, rfl, ?_⟩)
  refine ⟨fun h_1 => ?_, fun h_1 => ?_⟩
  · refine ⟨fun h_2 => ?_, fun h_2 => ?_⟩
    · exfalso; omega
    · refine ⟨fun h_3 => ?_, fun h_3 => ?_⟩
      · exfalso; omega
      · refine ⟨by omega, ?_⟩
        try rw [show gp_R (gp_mk L s) 4 p0.toNat = some 25 from (q10 _ (by omega))]
        refine ⟨25, rfl, ?_⟩
        refine ⟨rfl, ?_⟩
        refine zx2306_0 hs q6 q7 q8 q9 (⟨_, rfl, ?_⟩)
        refine ⟨fun h_4 => ?_, fun h_4 => ?_, fun h_4 => ?_, fun h_4 => ?_, fun h_4 => ?_, fun h_4 => ?_, fun h_4 => ?_, fun h_4 => ?_, fun h_4 => ?_, fun h_4 => ?_, fun h_4 => ?_, fun h_4 => ?_, fun h_4 => ?_, fun h_4 => ?_⟩
        · exfalso; omega
        · exfalso; omega
        · exfalso; omega
        · exfalso; omega
        · refine ⟨rfl, ?_⟩
          try rw [show gp_R (gp_mk L s) 25 1 = some 26 from rfl]
          refine ⟨26, rfl, ?_⟩
          refine ⟨⟨rfl, by show 0 ≤ 0 ∧ 0 < 1; omega⟩, ?_⟩
          try rw [xr26 hs ((0 : Int).toNat)]
          have e_5 : gp_cmp (0#64) (0#64) = 0 := by decide
          try rw [e_5]
          refine ⟨fun h_6 => ?_, fun h_6 => ?_⟩
          · refine ⟨rfl, ?_⟩
            try rw [show gp_R (gp_mk L s) 25 3 = some 28 from rfl]
            refine ⟨28, rfl, ?_⟩
            refine ⟨⟨rfl, by show 0 ≤ 0 ∧ 0 < 1; omega⟩, ?_⟩
            have f_7 := xr28 hs ((0 : Int).toNat)
            have e_8 : gp_I s 28 (0 : Int).toNat = 0 := by omega
            try rw [e_8]
            refine s_2825_166 _ _ _ _ _ ?_
            exact k
          · exfalso; omega
        · exfalso; omega
        · exfalso; omega
        · exfalso; omega
        · exfalso; omega
        · exfalso; omega
        · exfalso; omega
        · exfalso; omega
        · exfalso; omega
        · exfalso; omega
  · exfalso; omega
set_option maxRecDepth 100000 in
/-- GatheredPoints.gameOf [(0, 7), (5, 5)] -/
theorem zx2825_9 {z : gH} {L d : Nat} {K : Option gV → gH → Prop} {s : gH} (p0 : Int) (hs : xM z s) (h_p0 : 0 ≤ p0 ∧ p0 ≤ 7) (q0 : gp_I s 1 2 = 0) (q1 : gp_I s 1 6 = 0) (q2 : gp_I s 1 7 = 1) (q3 : gp_I s 51 8 = 0) (q4 : gp_I s 57 1 = 0) (q5 : gp_I s 57 3 = 0) (q6 : gp_R s 25 6 = none) (q7 : gp_R s 25 7 = none) (q8 : gp_R s 25 8 = none) (q9 : gp_R s 25 9 = none) (q10 : ∀ k, k < 8 → gp_R s 4 k = some 25) (q11 : gp_R s 51 6 = some 55) (q12 : gp_R s 51 7 = some 56) (q13 : gp_us s = 606895) (q14 : gp_sz s = 117) (k : K (some (gp_i 0)) s) : gs_C L (d + 1) 2825 5 [gp_r (some 1), gp_i p0, gp_i 5] s K := by
  refine s_2825_e _ _ ?_
  refine zx2856_2 _ hs (by omega) (by omega) (by omega) (by omega) (by omega) (by omega) (by omega) q6 q7 q8 q9 q10 q11 q12 (⟨_, rfl, ?_⟩)
  refine ⟨fun h_1 => ?_, fun h_1 => ?_⟩
  · refine ⟨fun h_2 => ?_, fun h_2 => ?_⟩
    · exfalso; omega
    · refine ⟨fun h_3 => ?_, fun h_3 => ?_⟩
      · exfalso; omega
      · refine ⟨by omega, ?_⟩
        try rw [show gp_R (gp_mk L s) 4 p0.toNat = some 25 from (q10 _ (by omega))]
        refine ⟨25, rfl, ?_⟩
        refine ⟨rfl, ?_⟩
        refine zx2306_0 hs q6 q7 q8 q9 (⟨_, rfl, ?_⟩)
        refine ⟨fun h_4 => ?_, fun h_4 => ?_, fun h_4 => ?_, fun h_4 => ?_, fun h_4 => ?_, fun h_4 => ?_, fun h_4 => ?_, fun h_4 => ?_, fun h_4 => ?_, fun h_4 => ?_, fun h_4 => ?_, fun h_4 => ?_, fun h_4 => ?_, fun h_4 => ?_⟩
        · exfalso; omega
        · exfalso; omega
        · exfalso; omega
        · exfalso; omega
        · exfalso; omega
        · refine ⟨rfl, ?_⟩
          try rw [show gp_R (gp_mk L s) 25 2 = some 27 from rfl]
          refine ⟨27, rfl, ?_⟩
          refine ⟨⟨rfl, by show 0 ≤ 0 ∧ 0 < 1; omega⟩, ?_⟩
          try rw [xr27 hs ((0 : Int).toNat)]
          have e_5 : gp_cmp (0#64) (0#64) = 0 := by decide
          try rw [e_5]
          refine ⟨fun h_6 => ?_, fun h_6 => ?_⟩
          · refine ⟨rfl, ?_⟩
            try rw [show gp_R (gp_mk L s) 25 4 = some 29 from rfl]
            refine ⟨29, rfl, ?_⟩
            refine ⟨⟨rfl, by show 0 ≤ 0 ∧ 0 < 1; omega⟩, ?_⟩
            have f_7 := xr29 hs ((0 : Int).toNat)
            have e_8 : gp_I s 29 (0 : Int).toNat = 0 := by omega
            try rw [e_8]
            refine s_2825_194 _ _ _ _ _ ?_
            exact k
          · exfalso; omega
        · exfalso; omega
        · exfalso; omega
        · exfalso; omega
        · exfalso; omega
        · exfalso; omega
        · exfalso; omega
        · exfalso; omega
        · exfalso; omega
  · exfalso; omega
set_option maxRecDepth 100000 in
/-- Measures.addWaits [25, (0, 0), (0, 0)] -/
theorem zx772_2 {z : gH} {L d : Nat} {K : Option gV → gH → Prop} {s : gH}  (hs : xM z s)  (q0 : gp_I s 1 2 = 0) (q1 : gp_I s 1 6 = 0) (q2 : gp_I s 1 7 = 1) (q3 : gp_I s 51 8 = 0) (q4 : gp_I s 57 1 = 0) (q5 : gp_I s 57 3 = 0) (q6 : gp_R s 25 6 = none) (q7 : gp_R s 25 7 = none) (q8 : gp_R s 25 8 = none) (q9 : gp_R s 25 9 = none) (q10 : ∀ k, k < 8 → gp_R s 4 k = some 25) (q11 : gp_R s 51 6 = some 55) (q12 : gp_R s 51 7 = some 56) (q13 : gp_us s = 606895) (q14 : gp_sz s = 117) (k : ∀ (t : gH), xM z t → (gp_I t 1 2 = 0) → (gp_I t 1 6 = 0) → (gp_I t 1 7 = 1) → (gp_I t 51 8 = 0) → (gp_I t 57 1 = 0) → (gp_I t 57 3 = 0) → (gp_R t 25 6 = none) → (gp_R t 25 7 = none) → (gp_R t 25 8 = none) → (gp_R t 25 9 = none) → (∀ k, k < 8 → gp_R t 4 k = some 25) → (gp_R t 51 6 = some 55) → (gp_R t 51 7 = some 56) → (gp_us t = 606895) → (gp_sz t = 117) → K none t) : gs_C L (d + 2) 772 7 [gp_r (some 31), gp_r (some 25), gp_i 0, gp_i 0] s K := by
  refine s_772_e _ _ _ ?_
  have w_1 := gz_w (0 * 61)
  have e_2 : gp_wr (0 * 61) = 0 := by omega
  try rw [e_2]
  refine s_772_9 _ _ _ _ _ _ ?_
  refine ⟨fun h_4 => ?_, fun h_4 => ?_⟩
  · exfalso; omega
  · refine ⟨25, rfl, ?_⟩
    refine ⟨rfl, ?_⟩
    try rw [show gp_R (gp_mk L s) 25 1 = some 26 from rfl]
    refine ⟨26, rfl, ?_⟩
    refine ⟨⟨rfl, by show 0 ≤ 0 ∧ 0 < 1; omega⟩, ?_⟩
    try rw [xr26 hs ((0 : Int).toNat)]
    refine zx774_0 hs (by omega) (by omega) (by omega) (by omega) (by omega) (by omega) q6 q7 q8 q9 q10 q11 q12 (⟨_, rfl, ?_⟩)
    refine ⟨fun h_5 => ?_, fun h_5 => ?_⟩
    · exfalso; omega
    · refine ⟨rfl, ?_⟩
      try rw [show gp_R (gp_mk L s) 25 1 = some 26 from rfl]
      refine ⟨26, rfl, ?_⟩
      refine ⟨⟨rfl, by show 0 ≤ 0 ∧ 0 < 1; omega⟩, ?_⟩
      try rw [xr26 hs ((0 : Int).toNat)]
      have e_6 : gp_cmp (0#64) (0#64) = 0 := by decide
      try rw [e_6]
      refine ⟨fun h_7 => ?_, fun h_7 => ?_⟩
      · refine ⟨rfl, ?_⟩
        try rw [show gp_R (gp_mk L s) 25 3 = some 28 from rfl]
        refine ⟨28, rfl, ?_⟩
        refine ⟨⟨rfl, by show 0 ≤ 0 ∧ 0 < 1; omega⟩, ?_⟩
        have f_8 := xr28 hs ((0 : Int).toNat)
        have e_9 : gp_I s 28 (0 : Int).toNat = 0 := by omega
        try rw [e_9]
        refine s_772_78 _ _ _ _ _ _ ?_
        have w_11 := gz_w (0 + 0)
        have e_12 : gp_wr (0 + 0) = 0 := by omega
        try rw [e_12]
        refine ⟨by omega, ?_⟩
        intro s_13 e_14
        have hs_15 : xM z s_13 := by rw [e_14]; exact xw32 hs _ _ (by omega)
        have q_16 : gp_I s_13 1 2 = 0 := by rw [e_14]; exact q0
        have q_17 : gp_I s_13 1 6 = 0 := by rw [e_14]; exact q1
        have q_18 : gp_I s_13 1 7 = 1 := by rw [e_14]; exact q2
        have q_19 : gp_I s_13 51 8 = 0 := by rw [e_14]; exact q3
        have q_20 : gp_I s_13 57 1 = 0 := by rw [e_14]; exact q4
        have q_21 : gp_I s_13 57 3 = 0 := by rw [e_14]; exact q5
        have q_22 : gp_R s_13 25 6 = none := by rw [e_14]; exact q6
        have q_23 : gp_R s_13 25 7 = none := by rw [e_14]; exact q7
        have q_24 : gp_R s_13 25 8 = none := by rw [e_14]; exact q8
        have q_25 : gp_R s_13 25 9 = none := by rw [e_14]; exact q9
        have q_26 : ∀ k, k < 8 → gp_R s_13 4 k = some 25 := by rw [e_14]; exact q10
        have q_27 : gp_R s_13 51 6 = some 55 := by rw [e_14]; exact q11
        have q_28 : gp_R s_13 51 7 = some 56 := by rw [e_14]; exact q12
        have q_29 : gp_us s_13 = 606895 := by rw [e_14]; exact q13
        have q_30 : gp_sz s_13 = 117 := by rw [e_14]; exact q14
        have w_31 := gz_w (0 + 0)
        have e_32 : gp_wr (0 + 0) = 0 := by omega
        try rw [e_32]
        refine ⟨25, rfl, ?_⟩
        refine ⟨rfl, ?_⟩
        try rw [show gp_R (gp_mk L s_13) 25 2 = some 27 from rfl]
        refine ⟨27, rfl, ?_⟩
        refine ⟨⟨rfl, by show 0 ≤ 0 ∧ 0 < 1; omega⟩, ?_⟩
        try rw [xr27 hs_15 ((0 : Int).toNat)]
        have e_33 : gp_cmp (0#64) (0#64) = 0 := by decide
        try rw [e_33]
        refine ⟨fun h_34 => ?_, fun h_34 => ?_⟩
        · refine ⟨rfl, ?_⟩
          try rw [show gp_R (gp_mk L s_13) 25 4 = some 29 from rfl]
          refine ⟨29, rfl, ?_⟩
          refine ⟨⟨rfl, by show 0 ≤ 0 ∧ 0 < 1; omega⟩, ?_⟩
          have f_35 := xr29 hs_15 ((0 : Int).toNat)
          have e_36 : gp_I s_13 29 (0 : Int).toNat = 0 := by omega
          try rw [e_36]
          refine s_772_134 _ _ _ _ _ _ _ _ ?_
          refine ⟨by omega, ?_⟩
          intro s_38 e_39
          have hs_40 : xM z s_38 := by rw [e_39]; exact xw33 hs_15 _ _ (by omega)
          have q_41 : gp_I s_38 1 2 = 0 := by rw [e_39]; exact q_16
          have q_42 : gp_I s_38 1 6 = 0 := by rw [e_39]; exact q_17
          have q_43 : gp_I s_38 1 7 = 1 := by rw [e_39]; exact q_18
          have q_44 : gp_I s_38 51 8 = 0 := by rw [e_39]; exact q_19
          have q_45 : gp_I s_38 57 1 = 0 := by rw [e_39]; exact q_20
          have q_46 : gp_I s_38 57 3 = 0 := by rw [e_39]; exact q_21
          have q_47 : gp_R s_38 25 6 = none := by rw [e_39]; exact q_22
          have q_48 : gp_R s_38 25 7 = none := by rw [e_39]; exact q_23
          have q_49 : gp_R s_38 25 8 = none := by rw [e_39]; exact q_24
          have q_50 : gp_R s_38 25 9 = none := by rw [e_39]; exact q_25
          have q_51 : ∀ k, k < 8 → gp_R s_38 4 k = some 25 := by rw [e_39]; exact q_26
          have q_52 : gp_R s_38 51 6 = some 55 := by rw [e_39]; exact q_27
          have q_53 : gp_R s_38 51 7 = some 56 := by rw [e_39]; exact q_28
          have q_54 : gp_us s_38 = 606895 := by rw [e_39]; exact q_29
          have q_55 : gp_sz s_38 = 117 := by rw [e_39]; exact q_30
          have w_56 := gz_w (0 + 1)
          have e_57 : gp_wr (0 + 1) = 1 := by omega
          try rw [e_57]
          refine s_772_9 _ _ _ _ _ _ ?_
          refine ⟨fun h_59 => ?_, fun h_59 => ?_⟩
          · exact k s_38 hs_40 (by omega) (by omega) (by omega) (by omega) (by omega) (by omega) q_47 q_48 q_49 q_50 q_51 q_52 q_53 q_54 q_55
          · exfalso; omega
        · exfalso; omega
      · exfalso; omega
set_option maxRecDepth 100000 in
/-- Measures.worth [25, (0, 0)] -/
theorem zx769_0 {z : gH} {L d : Nat} {K : Option gV → gH → Prop} {s : gH}  (hs : xM z s)  (q0 : gp_I s 1 2 = 0) (q1 : gp_I s 1 6 = 0) (q2 : gp_I s 1 7 = 1) (q3 : gp_I s 51 8 = 0) (q4 : gp_I s 57 1 = 0) (q5 : gp_I s 57 3 = 0) (q6 : gp_R s 25 6 = none) (q7 : gp_R s 25 7 = none) (q8 : gp_R s 25 8 = none) (q9 : gp_R s 25 9 = none) (q10 : ∀ k, k < 8 → gp_R s 4 k = some 25) (q11 : gp_R s 51 6 = some 55) (q12 : gp_R s 51 7 = some 56) (q13 : gp_us s = 606895) (q14 : gp_sz s = 117) (k : ∀ (t : gH), xM z t → (gp_I t 1 2 = 0) → (gp_I t 1 6 = 0) → (gp_I t 1 7 = 1) → (gp_I t 51 8 = 0) → (gp_I t 57 1 = 0) → (gp_I t 57 3 = 0) → (gp_R t 25 6 = none) → (gp_R t 25 7 = none) → (gp_R t 25 8 = none) → (gp_R t 25 9 = none) → (∀ k, k < 8 → gp_R t 4 k = some 25) → (gp_R t 51 6 = some 55) → (gp_R t 51 7 = some 56) → (gp_us t = 606895) → (gp_sz t = 117) → K (some (gp_i 0)) t) : gs_C L (d + 3) 769 4 [gp_r (some 31), gp_r (some 25), gp_i 0] s K := by
  refine s_769_e _ _ ?_
  refine s_769_2 _ _ _ ?_
  refine ⟨25, rfl, ?_⟩
  refine ⟨rfl, ?_⟩
  have f_2 := xr25_0 hs 0
  have e_3 : gp_I s 25 0 = 1 := by omega
  try rw [e_3]
  refine ⟨fun h_4 => ?_, fun h_4 => ?_⟩
  · refine zx772_2 hs (by omega) (by omega) (by omega) (by omega) (by omega) (by omega) q6 q7 q8 q9 q10 q11 q12 q13 q14 (fun s_5 hs_6 q_7 q_8 q_9 q_10 q_11 q_12 q_13 q_14 q_15 q_16 q_17 q_18 q_19 q_20 q_21 => ⟨rfl, ?_⟩)
    have w_22 := gz_w (0 + 1)
    have e_23 : gp_wr (0 + 1) = 1 := by omega
    try rw [e_23]
    refine s_769_2 _ _ _ ?_
    refine ⟨25, rfl, ?_⟩
    refine ⟨rfl, ?_⟩
    have f_25 := xr25_0 hs_6 0
    have e_26 : gp_I s_5 25 0 = 1 := by omega
    try rw [e_26]
    refine ⟨fun h_27 => ?_, fun h_27 => ?_⟩
    · exfalso; omega
    · refine ⟨rfl, ?_⟩
      refine zx2306_0 hs_6 q_13 q_14 q_15 q_16 (⟨_, rfl, ?_⟩)
      have w_28 := gz_w (0 * 61)
      have e_29 : gp_wr (0 * 61) = 0 := by omega
      try rw [e_29]
      refine ⟨fun h_30 => ?_, fun h_30 => ?_⟩
      · refine ⟨by omega, ?_⟩
        have f_31 := xr32 hs_6 ((0 : Int).toNat)
        have e_32 : gp_I s_5 32 (0 : Int).toNat = 0 := by omega
        try rw [e_32]
        refine s_769_50 _ _ _ _ ?_
        exact k s_5 hs_6 (by omega) (by omega) (by omega) (by omega) (by omega) (by omega) q_13 q_14 q_15 q_16 q_17 q_18 q_19 q_20 q_21
      · exfalso; omega
  · exfalso; omega
set_option maxRecDepth 100000 in
/-- GatheredPoints.gameOf [(0, 7), (6, 6)] -/
theorem zx2825_10 {z : gH} {L d : Nat} {K : Option gV → gH → Prop} {s : gH} (p0 : Int) (hs : xM z s) (h_p0 : 0 ≤ p0 ∧ p0 ≤ 7) (q0 : gp_I s 1 2 = 0) (q1 : gp_I s 1 6 = 0) (q2 : gp_I s 1 7 = 1) (q3 : gp_I s 51 8 = 0) (q4 : gp_I s 57 1 = 0) (q5 : gp_I s 57 3 = 0) (q6 : gp_R s 25 6 = none) (q7 : gp_R s 25 7 = none) (q8 : gp_R s 25 8 = none) (q9 : gp_R s 25 9 = none) (q10 : ∀ k, k < 8 → gp_R s 4 k = some 25) (q11 : gp_R s 51 6 = some 55) (q12 : gp_R s 51 7 = some 56) (q13 : gp_us s = 606895) (q14 : gp_sz s = 117) (k : ∀ (t : gH), xM z t → (gp_I t 1 2 = 0) → (gp_I t 1 6 = 0) → (gp_I t 1 7 = 1) → (gp_I t 51 8 = 0) → (gp_I t 57 1 = 0) → (gp_I t 57 3 = 0) → (gp_R t 25 6 = none) → (gp_R t 25 7 = none) → (gp_R t 25 8 = none) → (gp_R t 25 9 = none) → (∀ k, k < 8 → gp_R t 4 k = some 25) → (gp_R t 51 6 = some 55) → (gp_R t 51 7 = some 56) → (gp_us t = 606895) → (gp_sz t = 117) → K (some (gp_i 0)) t) : gs_C L (d + 4) 2825 5 [gp_r (some 1), gp_i p0, gp_i 6] s K := by
  refine s_2825_e _ _ ?_
  refine zx2856_2 _ hs (by omega) (by omega) (by omega) (by omega) (by omega) (by omega) (by omega) q6 q7 q8 q9 q10 q11 q12 (⟨_, rfl, ?_⟩)
  refine ⟨fun h_1 => ?_, fun h_1 => ?_⟩
  · refine ⟨fun h_2 => ?_, fun h_2 => ?_⟩
    · exfalso; omega
    · refine ⟨fun h_3 => ?_, fun h_3 => ?_⟩
      · exfalso; omega
      · refine ⟨by omega, ?_⟩
        try rw [show gp_R (gp_mk L s) 4 p0.toNat = some 25 from (q10 _ (by omega))]
        refine ⟨25, rfl, ?_⟩
        refine ⟨rfl, ?_⟩
        refine zx2306_0 hs q6 q7 q8 q9 (⟨_, rfl, ?_⟩)
        refine ⟨fun h_4 => ?_, fun h_4 => ?_, fun h_4 => ?_, fun h_4 => ?_, fun h_4 => ?_, fun h_4 => ?_, fun h_4 => ?_, fun h_4 => ?_, fun h_4 => ?_, fun h_4 => ?_, fun h_4 => ?_, fun h_4 => ?_, fun h_4 => ?_, fun h_4 => ?_⟩
        · exfalso; omega
        · exfalso; omega
        · exfalso; omega
        · exfalso; omega
        · exfalso; omega
        · exfalso; omega
        · refine zx769_0 hs (by omega) (by omega) (by omega) (by omega) (by omega) (by omega) q6 q7 q8 q9 q10 q11 q12 q13 q14 (fun s_5 hs_6 q_7 q_8 q_9 q_10 q_11 q_12 q_13 q_14 q_15 q_16 q_17 q_18 q_19 q_20 q_21 => ⟨_, rfl, ?_⟩)
          exact k s_5 hs_6 (by omega) (by omega) (by omega) (by omega) (by omega) (by omega) q_13 q_14 q_15 q_16 q_17 q_18 q_19 q_20 q_21
        · exfalso; omega
        · exfalso; omega
        · exfalso; omega
        · exfalso; omega
        · exfalso; omega
        · exfalso; omega
        · exfalso; omega
  · exfalso; omega
set_option maxRecDepth 100000 in
/-- Measures.worth [25, (1, 1)] -/
theorem zx769_1 {z : gH} {L d : Nat} {K : Option gV → gH → Prop} {s : gH}  (hs : xM z s)  (q0 : gp_I s 1 2 = 0) (q1 : gp_I s 1 6 = 0) (q2 : gp_I s 1 7 = 1) (q3 : gp_I s 51 8 = 0) (q4 : gp_I s 57 1 = 0) (q5 : gp_I s 57 3 = 0) (q6 : gp_R s 25 6 = none) (q7 : gp_R s 25 7 = none) (q8 : gp_R s 25 8 = none) (q9 : gp_R s 25 9 = none) (q10 : ∀ k, k < 8 → gp_R s 4 k = some 25) (q11 : gp_R s 51 6 = some 55) (q12 : gp_R s 51 7 = some 56) (q13 : gp_us s = 606895) (q14 : gp_sz s = 117) (k : ∀ (t : gH), xM z t → (gp_I t 1 2 = 0) → (gp_I t 1 6 = 0) → (gp_I t 1 7 = 1) → (gp_I t 51 8 = 0) → (gp_I t 57 1 = 0) → (gp_I t 57 3 = 0) → (gp_R t 25 6 = none) → (gp_R t 25 7 = none) → (gp_R t 25 8 = none) → (gp_R t 25 9 = none) → (∀ k, k < 8 → gp_R t 4 k = some 25) → (gp_R t 51 6 = some 55) → (gp_R t 51 7 = some 56) → (gp_us t = 606895) → (gp_sz t = 117) → K (some (gp_i 0)) t) : gs_C L (d + 3) 769 4 [gp_r (some 31), gp_r (some 25), gp_i 1] s K := by
  refine s_769_e _ _ ?_
  refine s_769_2 _ _ _ ?_
  refine ⟨25, rfl, ?_⟩
  refine ⟨rfl, ?_⟩
  have f_2 := xr25_0 hs 0
  have e_3 : gp_I s 25 0 = 1 := by omega
  try rw [e_3]
  refine ⟨fun h_4 => ?_, fun h_4 => ?_⟩
  · refine zx772_2 hs (by omega) (by omega) (by omega) (by omega) (by omega) (by omega) q6 q7 q8 q9 q10 q11 q12 q13 q14 (fun s_5 hs_6 q_7 q_8 q_9 q_10 q_11 q_12 q_13 q_14 q_15 q_16 q_17 q_18 q_19 q_20 q_21 => ⟨rfl, ?_⟩)
    have w_22 := gz_w (0 + 1)
    have e_23 : gp_wr (0 + 1) = 1 := by omega
    try rw [e_23]
    refine s_769_2 _ _ _ ?_
    refine ⟨25, rfl, ?_⟩
    refine ⟨rfl, ?_⟩
    have f_25 := xr25_0 hs_6 0
    have e_26 : gp_I s_5 25 0 = 1 := by omega
    try rw [e_26]
    refine ⟨fun h_27 => ?_, fun h_27 => ?_⟩
    · exfalso; omega
    · refine ⟨rfl, ?_⟩
      refine zx2306_0 hs_6 q_13 q_14 q_15 q_16 (⟨_, rfl, ?_⟩)
      have w_28 := gz_w (0 * 61)
      have e_29 : gp_wr (0 * 61) = 0 := by omega
      try rw [e_29]
      refine ⟨fun h_30 => ?_, fun h_30 => ?_⟩
      · exfalso; omega
      · refine ⟨by omega, ?_⟩
        have f_31 := xr33 hs_6 ((0 : Int).toNat)
        have e_32 : gp_I s_5 33 (0 : Int).toNat = 0 := by omega
        try rw [e_32]
        refine s_769_50 _ _ _ _ ?_
        exact k s_5 hs_6 (by omega) (by omega) (by omega) (by omega) (by omega) (by omega) q_13 q_14 q_15 q_16 q_17 q_18 q_19 q_20 q_21
  · exfalso; omega
set_option maxRecDepth 100000 in
/-- GatheredPoints.gameOf [(0, 7), (7, 7)] -/
theorem zx2825_11 {z : gH} {L d : Nat} {K : Option gV → gH → Prop} {s : gH} (p0 : Int) (hs : xM z s) (h_p0 : 0 ≤ p0 ∧ p0 ≤ 7) (q0 : gp_I s 1 2 = 0) (q1 : gp_I s 1 6 = 0) (q2 : gp_I s 1 7 = 1) (q3 : gp_I s 51 8 = 0) (q4 : gp_I s 57 1 = 0) (q5 : gp_I s 57 3 = 0) (q6 : gp_R s 25 6 = none) (q7 : gp_R s 25 7 = none) (q8 : gp_R s 25 8 = none) (q9 : gp_R s 25 9 = none) (q10 : ∀ k, k < 8 → gp_R s 4 k = some 25) (q11 : gp_R s 51 6 = some 55) (q12 : gp_R s 51 7 = some 56) (q13 : gp_us s = 606895) (q14 : gp_sz s = 117) (k : ∀ (t : gH), xM z t → (gp_I t 1 2 = 0) → (gp_I t 1 6 = 0) → (gp_I t 1 7 = 1) → (gp_I t 51 8 = 0) → (gp_I t 57 1 = 0) → (gp_I t 57 3 = 0) → (gp_R t 25 6 = none) → (gp_R t 25 7 = none) → (gp_R t 25 8 = none) → (gp_R t 25 9 = none) → (∀ k, k < 8 → gp_R t 4 k = some 25) → (gp_R t 51 6 = some 55) → (gp_R t 51 7 = some 56) → (gp_us t = 606895) → (gp_sz t = 117) → K (some (gp_i 0)) t) : gs_C L (d + 4) 2825 5 [gp_r (some 1), gp_i p0, gp_i 7] s K := by
  refine s_2825_e _ _ ?_
  refine zx2856_2 _ hs (by omega) (by omega) (by omega) (by omega) (by omega) (by omega) (by omega) q6 q7 q8 q9 q10 q11 q12 (⟨_, rfl, ?_⟩)
  refine ⟨fun h_1 => ?_, fun h_1 => ?_⟩
  · refine ⟨fun h_2 => ?_, fun h_2 => ?_⟩
    · exfalso; omega
    · refine ⟨fun h_3 => ?_, fun h_3 => ?_⟩
      · exfalso; omega
      · refine ⟨by omega, ?_⟩
        try rw [show gp_R (gp_mk L s) 4 p0.toNat = some 25 from (q10 _ (by omega))]
        refine ⟨25, rfl, ?_⟩
        refine ⟨rfl, ?_⟩
        refine zx2306_0 hs q6 q7 q8 q9 (⟨_, rfl, ?_⟩)
        refine ⟨fun h_4 => ?_, fun h_4 => ?_, fun h_4 => ?_, fun h_4 => ?_, fun h_4 => ?_, fun h_4 => ?_, fun h_4 => ?_, fun h_4 => ?_, fun h_4 => ?_, fun h_4 => ?_, fun h_4 => ?_, fun h_4 => ?_, fun h_4 => ?_, fun h_4 => ?_⟩
        · exfalso; omega
        · exfalso; omega
        · exfalso; omega
        · exfalso; omega
        · exfalso; omega
        · exfalso; omega
        · exfalso; omega
        · refine zx769_1 hs (by omega) (by omega) (by omega) (by omega) (by omega) (by omega) q6 q7 q8 q9 q10 q11 q12 q13 q14 (fun s_5 hs_6 q_7 q_8 q_9 q_10 q_11 q_12 q_13 q_14 q_15 q_16 q_17 q_18 q_19 q_20 q_21 => ⟨_, rfl, ?_⟩)
          exact k s_5 hs_6 (by omega) (by omega) (by omega) (by omega) (by omega) (by omega) q_13 q_14 q_15 q_16 q_17 q_18 q_19 q_20 q_21
        · exfalso; omega
        · exfalso; omega
        · exfalso; omega
        · exfalso; omega
        · exfalso; omega
        · exfalso; omega
  · exfalso; omega
set_option maxRecDepth 100000 in
/-- GatheredPoints.waited [25, (8, 8)] -/
theorem zx2826_0 {z : gH} {L d : Nat} {K : Option gV → gH → Prop} {s : gH}  (hs : xM z s)  (q0 : gp_I s 1 2 = 0) (q1 : gp_I s 1 6 = 0) (q2 : gp_I s 1 7 = 1) (q3 : gp_I s 51 8 = 0) (q4 : gp_I s 57 1 = 0) (q5 : gp_I s 57 3 = 0) (q6 : gp_R s 25 6 = none) (q7 : gp_R s 25 7 = none) (q8 : gp_R s 25 8 = none) (q9 : gp_R s 25 9 = none) (q10 : ∀ k, k < 8 → gp_R s 4 k = some 25) (q11 : gp_R s 51 6 = some 55) (q12 : gp_R s 51 7 = some 56) (q13 : gp_us s = 606895) (q14 : gp_sz s = 117) (k : ∀ (t : gH), xM z t → (gp_I t 1 2 = 0) → (gp_I t 1 6 = 0) → (gp_I t 1 7 = 1) → (gp_I t 117 0 = 0) → (gp_I t 118 0 = 0) → (gp_I t 119 0 = 0) → (gp_I t 120 0 = 0) → (gp_I t 51 8 = 0) → (gp_I t 57 1 = 0) → (gp_I t 57 3 = 0) → (gp_R t 25 6 = some 117) → (gp_R t 25 7 = some 118) → (gp_R t 25 8 = some 119) → (gp_R t 25 9 = some 120) → (∀ k, k < 8 → gp_R t 4 k = some 25) → (gp_R t 51 6 = some 55) → (gp_R t 51 7 = some 56) → (gp_sh t 117 = (100, 1)) → (gp_sh t 118 = (100, 1)) → (gp_sh t 119 = (100, 1)) → (gp_sh t 120 = (100, 1)) → (gp_us t = 606899) → (gp_sz t = 121) → K (some (gp_i 0)) t) : gs_C L (d + 5) 2826 4 [gp_r (some 1), gp_r (some 25), gp_i 8] s K := by
  refine s_2826_e _ _ ?_
  refine zx770_0 hs (by omega) (by omega) (by omega) (by omega) (by omega) (by omega) q6 q7 q8 q9 q10 q11 q12 q13 q14 (fun s_1 hs_2 q_3 q_4 q_5 q_6 q_7 q_8 q_9 q_10 q_11 q_12 q_13 q_14 q_15 q_16 q_17 q_18 q_19 q_20 q_21 q_22 q_23 q_24 q_25 => ⟨rfl, ?_⟩)
  refine ⟨25, rfl, ?_⟩
  refine ⟨rfl, ?_⟩
  refine zx2306_1 hs_2 (by omega) (by omega) (by omega) (by omega) q_13 q_14 q_15 q_16 q_20 q_21 q_22 q_23 (⟨_, rfl, ?_⟩)
  refine ⟨fun h_26 => ?_, fun h_26 => ?_, fun h_26 => ?_, fun h_26 => ?_⟩
  · refine ⟨rfl, ?_⟩
    try rw [show gp_R (gp_mk L s_1) 25 6 = some 117 from q_13]
    refine ⟨117, rfl, ?_⟩
    refine ⟨⟨by show (gp_sh s_1 117).1 = 100; rw [q_20], by omega, by show 0 < ((gp_sh s_1 117).2 : Int); rw [q_20]; show 0 < 1; omega⟩, ?_⟩
    try rw [show gp_I s_1 117 (0 : Int).toNat = 0 from q_6]
    exact k s_1 hs_2 (by omega) (by omega) (by omega) (by omega) (by omega) (by omega) (by omega) (by omega) (by omega) (by omega) q_13 q_14 q_15 q_16 q_17 q_18 q_19 q_20 q_21 q_22 q_23 q_24 q_25
  · exfalso; omega
  · exfalso; omega
  · exfalso; omega
set_option maxRecDepth 100000 in
/-- GatheredPoints.gameOf [(0, 7), (8, 8)] -/
theorem zx2825_12 {z : gH} {L d : Nat} {K : Option gV → gH → Prop} {s : gH} (p0 : Int) (hs : xM z s) (h_p0 : 0 ≤ p0 ∧ p0 ≤ 7) (q0 : gp_I s 1 2 = 0) (q1 : gp_I s 1 6 = 0) (q2 : gp_I s 1 7 = 1) (q3 : gp_I s 51 8 = 0) (q4 : gp_I s 57 1 = 0) (q5 : gp_I s 57 3 = 0) (q6 : gp_R s 25 6 = none) (q7 : gp_R s 25 7 = none) (q8 : gp_R s 25 8 = none) (q9 : gp_R s 25 9 = none) (q10 : ∀ k, k < 8 → gp_R s 4 k = some 25) (q11 : gp_R s 51 6 = some 55) (q12 : gp_R s 51 7 = some 56) (q13 : gp_us s = 606895) (q14 : gp_sz s = 117) (k : ∀ (t : gH), xM z t → (gp_I t 1 2 = 0) → (gp_I t 1 6 = 0) → (gp_I t 1 7 = 1) → (gp_I t 117 0 = 0) → (gp_I t 118 0 = 0) → (gp_I t 119 0 = 0) → (gp_I t 120 0 = 0) → (gp_I t 51 8 = 0) → (gp_I t 57 1 = 0) → (gp_I t 57 3 = 0) → (gp_R t 25 6 = some 117) → (gp_R t 25 7 = some 118) → (gp_R t 25 8 = some 119) → (gp_R t 25 9 = some 120) → (∀ k, k < 8 → gp_R t 4 k = some 25) → (gp_R t 51 6 = some 55) → (gp_R t 51 7 = some 56) → (gp_sh t 117 = (100, 1)) → (gp_sh t 118 = (100, 1)) → (gp_sh t 119 = (100, 1)) → (gp_sh t 120 = (100, 1)) → (gp_us t = 606899) → (gp_sz t = 121) → K (some (gp_i 0)) t) : gs_C L (d + 6) 2825 5 [gp_r (some 1), gp_i p0, gp_i 8] s K := by
  refine s_2825_e _ _ ?_
  refine zx2856_2 _ hs (by omega) (by omega) (by omega) (by omega) (by omega) (by omega) (by omega) q6 q7 q8 q9 q10 q11 q12 (⟨_, rfl, ?_⟩)
  refine ⟨fun h_1 => ?_, fun h_1 => ?_⟩
  · refine ⟨fun h_2 => ?_, fun h_2 => ?_⟩
    · exfalso; omega
    · refine ⟨fun h_3 => ?_, fun h_3 => ?_⟩
      · exfalso; omega
      · refine ⟨by omega, ?_⟩
        try rw [show gp_R (gp_mk L s) 4 p0.toNat = some 25 from (q10 _ (by omega))]
        refine ⟨25, rfl, ?_⟩
        refine ⟨rfl, ?_⟩
        refine zx2306_0 hs q6 q7 q8 q9 (⟨_, rfl, ?_⟩)
        refine ⟨fun h_4 => ?_, fun h_4 => ?_, fun h_4 => ?_, fun h_4 => ?_, fun h_4 => ?_, fun h_4 => ?_, fun h_4 => ?_, fun h_4 => ?_, fun h_4 => ?_, fun h_4 => ?_, fun h_4 => ?_, fun h_4 => ?_, fun h_4 => ?_, fun h_4 => ?_⟩
        · exfalso; omega
        · exfalso; omega
        · exfalso; omega
        · exfalso; omega
        · exfalso; omega
        · exfalso; omega
        · exfalso; omega
        · exfalso; omega
        · refine zx2826_0 hs (by omega) (by omega) (by omega) (by omega) (by omega) (by omega) q6 q7 q8 q9 q10 q11 q12 q13 q14 (fun s_5 hs_6 q_7 q_8 q_9 q_10 q_11 q_12 q_13 q_14 q_15 q_16 q_17 q_18 q_19 q_20 q_21 q_22 q_23 q_24 q_25 q_26 q_27 q_28 q_29 => ⟨_, rfl, ?_⟩)
          exact k s_5 hs_6 (by omega) (by omega) (by omega) (by omega) (by omega) (by omega) (by omega) (by omega) (by omega) (by omega) q_17 q_18 q_19 q_20 q_21 q_22 q_23 q_24 q_25 q_26 q_27 q_28 q_29
        · exfalso; omega
        · exfalso; omega
        · exfalso; omega
        · exfalso; omega
        · exfalso; omega
  · exfalso; omega
set_option maxRecDepth 100000 in
/-- GatheredPoints.waited [25, (9, 9)] -/
theorem zx2826_1 {z : gH} {L d : Nat} {K : Option gV → gH → Prop} {s : gH}  (hs : xM z s)  (q0 : gp_I s 1 2 = 0) (q1 : gp_I s 1 6 = 0) (q2 : gp_I s 1 7 = 1) (q3 : gp_I s 51 8 = 0) (q4 : gp_I s 57 1 = 0) (q5 : gp_I s 57 3 = 0) (q6 : gp_R s 25 6 = none) (q7 : gp_R s 25 7 = none) (q8 : gp_R s 25 8 = none) (q9 : gp_R s 25 9 = none) (q10 : ∀ k, k < 8 → gp_R s 4 k = some 25) (q11 : gp_R s 51 6 = some 55) (q12 : gp_R s 51 7 = some 56) (q13 : gp_us s = 606895) (q14 : gp_sz s = 117) (k : ∀ (t : gH), xM z t → (gp_I t 1 2 = 0) → (gp_I t 1 6 = 0) → (gp_I t 1 7 = 1) → (gp_I t 117 0 = 0) → (gp_I t 118 0 = 0) → (gp_I t 119 0 = 0) → (gp_I t 120 0 = 0) → (gp_I t 51 8 = 0) → (gp_I t 57 1 = 0) → (gp_I t 57 3 = 0) → (gp_R t 25 6 = some 117) → (gp_R t 25 7 = some 118) → (gp_R t 25 8 = some 119) → (gp_R t 25 9 = some 120) → (∀ k, k < 8 → gp_R t 4 k = some 25) → (gp_R t 51 6 = some 55) → (gp_R t 51 7 = some 56) → (gp_sh t 117 = (100, 1)) → (gp_sh t 118 = (100, 1)) → (gp_sh t 119 = (100, 1)) → (gp_sh t 120 = (100, 1)) → (gp_us t = 606899) → (gp_sz t = 121) → K (some (gp_i 0)) t) : gs_C L (d + 5) 2826 4 [gp_r (some 1), gp_r (some 25), gp_i 9] s K := by
  refine s_2826_e _ _ ?_
  refine zx770_0 hs (by omega) (by omega) (by omega) (by omega) (by omega) (by omega) q6 q7 q8 q9 q10 q11 q12 q13 q14 (fun s_1 hs_2 q_3 q_4 q_5 q_6 q_7 q_8 q_9 q_10 q_11 q_12 q_13 q_14 q_15 q_16 q_17 q_18 q_19 q_20 q_21 q_22 q_23 q_24 q_25 => ⟨rfl, ?_⟩)
  refine ⟨25, rfl, ?_⟩
  refine ⟨rfl, ?_⟩
  refine zx2306_1 hs_2 (by omega) (by omega) (by omega) (by omega) q_13 q_14 q_15 q_16 q_20 q_21 q_22 q_23 (⟨_, rfl, ?_⟩)
  refine ⟨fun h_26 => ?_, fun h_26 => ?_, fun h_26 => ?_, fun h_26 => ?_⟩
  · exfalso; omega
  · refine ⟨rfl, ?_⟩
    try rw [show gp_R (gp_mk L s_1) 25 7 = some 118 from q_14]
    refine ⟨118, rfl, ?_⟩
    refine ⟨⟨by show (gp_sh s_1 118).1 = 100; rw [q_21], by omega, by show 0 < ((gp_sh s_1 118).2 : Int); rw [q_21]; show 0 < 1; omega⟩, ?_⟩
    try rw [show gp_I s_1 118 (0 : Int).toNat = 0 from q_7]
    exact k s_1 hs_2 (by omega) (by omega) (by omega) (by omega) (by omega) (by omega) (by omega) (by omega) (by omega) (by omega) q_13 q_14 q_15 q_16 q_17 q_18 q_19 q_20 q_21 q_22 q_23 q_24 q_25
  · exfalso; omega
  · exfalso; omega
set_option maxRecDepth 100000 in
/-- GatheredPoints.gameOf [(0, 7), (9, 9)] -/
theorem zx2825_13 {z : gH} {L d : Nat} {K : Option gV → gH → Prop} {s : gH} (p0 : Int) (hs : xM z s) (h_p0 : 0 ≤ p0 ∧ p0 ≤ 7) (q0 : gp_I s 1 2 = 0) (q1 : gp_I s 1 6 = 0) (q2 : gp_I s 1 7 = 1) (q3 : gp_I s 51 8 = 0) (q4 : gp_I s 57 1 = 0) (q5 : gp_I s 57 3 = 0) (q6 : gp_R s 25 6 = none) (q7 : gp_R s 25 7 = none) (q8 : gp_R s 25 8 = none) (q9 : gp_R s 25 9 = none) (q10 : ∀ k, k < 8 → gp_R s 4 k = some 25) (q11 : gp_R s 51 6 = some 55) (q12 : gp_R s 51 7 = some 56) (q13 : gp_us s = 606895) (q14 : gp_sz s = 117) (k : ∀ (t : gH), xM z t → (gp_I t 1 2 = 0) → (gp_I t 1 6 = 0) → (gp_I t 1 7 = 1) → (gp_I t 117 0 = 0) → (gp_I t 118 0 = 0) → (gp_I t 119 0 = 0) → (gp_I t 120 0 = 0) → (gp_I t 51 8 = 0) → (gp_I t 57 1 = 0) → (gp_I t 57 3 = 0) → (gp_R t 25 6 = some 117) → (gp_R t 25 7 = some 118) → (gp_R t 25 8 = some 119) → (gp_R t 25 9 = some 120) → (∀ k, k < 8 → gp_R t 4 k = some 25) → (gp_R t 51 6 = some 55) → (gp_R t 51 7 = some 56) → (gp_sh t 117 = (100, 1)) → (gp_sh t 118 = (100, 1)) → (gp_sh t 119 = (100, 1)) → (gp_sh t 120 = (100, 1)) → (gp_us t = 606899) → (gp_sz t = 121) → K (some (gp_i 0)) t) : gs_C L (d + 6) 2825 5 [gp_r (some 1), gp_i p0, gp_i 9] s K := by
  refine s_2825_e _ _ ?_
  refine zx2856_2 _ hs (by omega) (by omega) (by omega) (by omega) (by omega) (by omega) (by omega) q6 q7 q8 q9 q10 q11 q12 (⟨_, rfl, ?_⟩)
  refine ⟨fun h_1 => ?_, fun h_1 => ?_⟩
  · refine ⟨fun h_2 => ?_, fun h_2 => ?_⟩
    · exfalso; omega
    · refine ⟨fun h_3 => ?_, fun h_3 => ?_⟩
      · exfalso; omega
      · refine ⟨by omega, ?_⟩
        try rw [show gp_R (gp_mk L s) 4 p0.toNat = some 25 from (q10 _ (by omega))]
        refine ⟨25, rfl, ?_⟩
        refine ⟨rfl, ?_⟩
        refine zx2306_0 hs q6 q7 q8 q9 (⟨_, rfl, ?_⟩)
        refine ⟨fun h_4 => ?_, fun h_4 => ?_, fun h_4 => ?_, fun h_4 => ?_, fun h_4 => ?_, fun h_4 => ?_, fun h_4 => ?_, fun h_4 => ?_, fun h_4 => ?_, fun h_4 => ?_, fun h_4 => ?_, fun h_4 => ?_, fun h_4 => ?_, fun h_4 => ?_⟩
        · exfalso; omega
        · exfalso; omega
        · exfalso; omega
        · exfalso; omega
        · exfalso; omega
        · exfalso; omega
        · exfalso; omega
        · exfalso; omega
        · exfalso; omega
        · refine zx2826_1 hs (by omega) (by omega) (by omega) (by omega) (by omega) (by omega) q6 q7 q8 q9 q10 q11 q12 q13 q14 (fun s_5 hs_6 q_7 q_8 q_9 q_10 q_11 q_12 q_13 q_14 q_15 q_16 q_17 q_18 q_19 q_20 q_21 q_22 q_23 q_24 q_25 q_26 q_27 q_28 q_29 => ⟨_, rfl, ?_⟩)
          exact k s_5 hs_6 (by omega) (by omega) (by omega) (by omega) (by omega) (by omega) (by omega) (by omega) (by omega) (by omega) q_17 q_18 q_19 q_20 q_21 q_22 q_23 q_24 q_25 q_26 q_27 q_28 q_29
        · exfalso; omega
        · exfalso; omega
        · exfalso; omega
        · exfalso; omega
  · exfalso; omega
set_option maxRecDepth 100000 in
/-- GatheredPoints.waited [25, (10, 10)] -/
theorem zx2826_2 {z : gH} {L d : Nat} {K : Option gV → gH → Prop} {s : gH}  (hs : xM z s)  (q0 : gp_I s 1 2 = 0) (q1 : gp_I s 1 6 = 0) (q2 : gp_I s 1 7 = 1) (q3 : gp_I s 51 8 = 0) (q4 : gp_I s 57 1 = 0) (q5 : gp_I s 57 3 = 0) (q6 : gp_R s 25 6 = none) (q7 : gp_R s 25 7 = none) (q8 : gp_R s 25 8 = none) (q9 : gp_R s 25 9 = none) (q10 : ∀ k, k < 8 → gp_R s 4 k = some 25) (q11 : gp_R s 51 6 = some 55) (q12 : gp_R s 51 7 = some 56) (q13 : gp_us s = 606895) (q14 : gp_sz s = 117) (k : ∀ (t : gH), xM z t → (gp_I t 1 2 = 0) → (gp_I t 1 6 = 0) → (gp_I t 1 7 = 1) → (gp_I t 117 0 = 0) → (gp_I t 118 0 = 0) → (gp_I t 119 0 = 0) → (gp_I t 120 0 = 0) → (gp_I t 51 8 = 0) → (gp_I t 57 1 = 0) → (gp_I t 57 3 = 0) → (gp_R t 25 6 = some 117) → (gp_R t 25 7 = some 118) → (gp_R t 25 8 = some 119) → (gp_R t 25 9 = some 120) → (∀ k, k < 8 → gp_R t 4 k = some 25) → (gp_R t 51 6 = some 55) → (gp_R t 51 7 = some 56) → (gp_sh t 117 = (100, 1)) → (gp_sh t 118 = (100, 1)) → (gp_sh t 119 = (100, 1)) → (gp_sh t 120 = (100, 1)) → (gp_us t = 606899) → (gp_sz t = 121) → K (some (gp_i 0)) t) : gs_C L (d + 5) 2826 4 [gp_r (some 1), gp_r (some 25), gp_i 10] s K := by
  refine s_2826_e _ _ ?_
  refine zx770_0 hs (by omega) (by omega) (by omega) (by omega) (by omega) (by omega) q6 q7 q8 q9 q10 q11 q12 q13 q14 (fun s_1 hs_2 q_3 q_4 q_5 q_6 q_7 q_8 q_9 q_10 q_11 q_12 q_13 q_14 q_15 q_16 q_17 q_18 q_19 q_20 q_21 q_22 q_23 q_24 q_25 => ⟨rfl, ?_⟩)
  refine ⟨25, rfl, ?_⟩
  refine ⟨rfl, ?_⟩
  refine zx2306_1 hs_2 (by omega) (by omega) (by omega) (by omega) q_13 q_14 q_15 q_16 q_20 q_21 q_22 q_23 (⟨_, rfl, ?_⟩)
  refine ⟨fun h_26 => ?_, fun h_26 => ?_, fun h_26 => ?_, fun h_26 => ?_⟩
  · exfalso; omega
  · exfalso; omega
  · refine ⟨rfl, ?_⟩
    try rw [show gp_R (gp_mk L s_1) 25 8 = some 119 from q_15]
    refine ⟨119, rfl, ?_⟩
    refine ⟨⟨by show (gp_sh s_1 119).1 = 100; rw [q_22], by omega, by show 0 < ((gp_sh s_1 119).2 : Int); rw [q_22]; show 0 < 1; omega⟩, ?_⟩
    try rw [show gp_I s_1 119 (0 : Int).toNat = 0 from q_8]
    exact k s_1 hs_2 (by omega) (by omega) (by omega) (by omega) (by omega) (by omega) (by omega) (by omega) (by omega) (by omega) q_13 q_14 q_15 q_16 q_17 q_18 q_19 q_20 q_21 q_22 q_23 q_24 q_25
  · exfalso; omega
set_option maxRecDepth 100000 in
/-- GatheredPoints.gameOf [(0, 7), (10, 10)] -/
theorem zx2825_14 {z : gH} {L d : Nat} {K : Option gV → gH → Prop} {s : gH} (p0 : Int) (hs : xM z s) (h_p0 : 0 ≤ p0 ∧ p0 ≤ 7) (q0 : gp_I s 1 2 = 0) (q1 : gp_I s 1 6 = 0) (q2 : gp_I s 1 7 = 1) (q3 : gp_I s 51 8 = 0) (q4 : gp_I s 57 1 = 0) (q5 : gp_I s 57 3 = 0) (q6 : gp_R s 25 6 = none) (q7 : gp_R s 25 7 = none) (q8 : gp_R s 25 8 = none) (q9 : gp_R s 25 9 = none) (q10 : ∀ k, k < 8 → gp_R s 4 k = some 25) (q11 : gp_R s 51 6 = some 55) (q12 : gp_R s 51 7 = some 56) (q13 : gp_us s = 606895) (q14 : gp_sz s = 117) (k : ∀ (t : gH), xM z t → (gp_I t 1 2 = 0) → (gp_I t 1 6 = 0) → (gp_I t 1 7 = 1) → (gp_I t 117 0 = 0) → (gp_I t 118 0 = 0) → (gp_I t 119 0 = 0) → (gp_I t 120 0 = 0) → (gp_I t 51 8 = 0) → (gp_I t 57 1 = 0) → (gp_I t 57 3 = 0) → (gp_R t 25 6 = some 117) → (gp_R t 25 7 = some 118) → (gp_R t 25 8 = some 119) → (gp_R t 25 9 = some 120) → (∀ k, k < 8 → gp_R t 4 k = some 25) → (gp_R t 51 6 = some 55) → (gp_R t 51 7 = some 56) → (gp_sh t 117 = (100, 1)) → (gp_sh t 118 = (100, 1)) → (gp_sh t 119 = (100, 1)) → (gp_sh t 120 = (100, 1)) → (gp_us t = 606899) → (gp_sz t = 121) → K (some (gp_i 0)) t) : gs_C L (d + 6) 2825 5 [gp_r (some 1), gp_i p0, gp_i 10] s K := by
  refine s_2825_e _ _ ?_
  refine zx2856_2 _ hs (by omega) (by omega) (by omega) (by omega) (by omega) (by omega) (by omega) q6 q7 q8 q9 q10 q11 q12 (⟨_, rfl, ?_⟩)
  refine ⟨fun h_1 => ?_, fun h_1 => ?_⟩
  · refine ⟨fun h_2 => ?_, fun h_2 => ?_⟩
    · exfalso; omega
    · refine ⟨fun h_3 => ?_, fun h_3 => ?_⟩
      · exfalso; omega
      · refine ⟨by omega, ?_⟩
        try rw [show gp_R (gp_mk L s) 4 p0.toNat = some 25 from (q10 _ (by omega))]
        refine ⟨25, rfl, ?_⟩
        refine ⟨rfl, ?_⟩
        refine zx2306_0 hs q6 q7 q8 q9 (⟨_, rfl, ?_⟩)
        refine ⟨fun h_4 => ?_, fun h_4 => ?_, fun h_4 => ?_, fun h_4 => ?_, fun h_4 => ?_, fun h_4 => ?_, fun h_4 => ?_, fun h_4 => ?_, fun h_4 => ?_, fun h_4 => ?_, fun h_4 => ?_, fun h_4 => ?_, fun h_4 => ?_, fun h_4 => ?_⟩
        · exfalso; omega
        · exfalso; omega
        · exfalso; omega
        · exfalso; omega
        · exfalso; omega
        · exfalso; omega
        · exfalso; omega
        · exfalso; omega
        · exfalso; omega
        · exfalso; omega
        · refine zx2826_2 hs (by omega) (by omega) (by omega) (by omega) (by omega) (by omega) q6 q7 q8 q9 q10 q11 q12 q13 q14 (fun s_5 hs_6 q_7 q_8 q_9 q_10 q_11 q_12 q_13 q_14 q_15 q_16 q_17 q_18 q_19 q_20 q_21 q_22 q_23 q_24 q_25 q_26 q_27 q_28 q_29 => ⟨_, rfl, ?_⟩)
          exact k s_5 hs_6 (by omega) (by omega) (by omega) (by omega) (by omega) (by omega) (by omega) (by omega) (by omega) (by omega) q_17 q_18 q_19 q_20 q_21 q_22 q_23 q_24 q_25 q_26 q_27 q_28 q_29
        · exfalso; omega
        · exfalso; omega
        · exfalso; omega
  · exfalso; omega
set_option maxRecDepth 100000 in
/-- GatheredPoints.waited [25, (11, 11)] -/
theorem zx2826_3 {z : gH} {L d : Nat} {K : Option gV → gH → Prop} {s : gH}  (hs : xM z s)  (q0 : gp_I s 1 2 = 0) (q1 : gp_I s 1 6 = 0) (q2 : gp_I s 1 7 = 1) (q3 : gp_I s 51 8 = 0) (q4 : gp_I s 57 1 = 0) (q5 : gp_I s 57 3 = 0) (q6 : gp_R s 25 6 = none) (q7 : gp_R s 25 7 = none) (q8 : gp_R s 25 8 = none) (q9 : gp_R s 25 9 = none) (q10 : ∀ k, k < 8 → gp_R s 4 k = some 25) (q11 : gp_R s 51 6 = some 55) (q12 : gp_R s 51 7 = some 56) (q13 : gp_us s = 606895) (q14 : gp_sz s = 117) (k : ∀ (t : gH), xM z t → (gp_I t 1 2 = 0) → (gp_I t 1 6 = 0) → (gp_I t 1 7 = 1) → (gp_I t 117 0 = 0) → (gp_I t 118 0 = 0) → (gp_I t 119 0 = 0) → (gp_I t 120 0 = 0) → (gp_I t 51 8 = 0) → (gp_I t 57 1 = 0) → (gp_I t 57 3 = 0) → (gp_R t 25 6 = some 117) → (gp_R t 25 7 = some 118) → (gp_R t 25 8 = some 119) → (gp_R t 25 9 = some 120) → (∀ k, k < 8 → gp_R t 4 k = some 25) → (gp_R t 51 6 = some 55) → (gp_R t 51 7 = some 56) → (gp_sh t 117 = (100, 1)) → (gp_sh t 118 = (100, 1)) → (gp_sh t 119 = (100, 1)) → (gp_sh t 120 = (100, 1)) → (gp_us t = 606899) → (gp_sz t = 121) → K (some (gp_i 0)) t) : gs_C L (d + 5) 2826 4 [gp_r (some 1), gp_r (some 25), gp_i 11] s K := by
  refine s_2826_e _ _ ?_
  refine zx770_0 hs (by omega) (by omega) (by omega) (by omega) (by omega) (by omega) q6 q7 q8 q9 q10 q11 q12 q13 q14 (fun s_1 hs_2 q_3 q_4 q_5 q_6 q_7 q_8 q_9 q_10 q_11 q_12 q_13 q_14 q_15 q_16 q_17 q_18 q_19 q_20 q_21 q_22 q_23 q_24 q_25 => ⟨rfl, ?_⟩)
  refine ⟨25, rfl, ?_⟩
  refine ⟨rfl, ?_⟩
  refine zx2306_1 hs_2 (by omega) (by omega) (by omega) (by omega) q_13 q_14 q_15 q_16 q_20 q_21 q_22 q_23 (⟨_, rfl, ?_⟩)
  refine ⟨fun h_26 => ?_, fun h_26 => ?_, fun h_26 => ?_, fun h_26 => ?_⟩
  · exfalso; omega
  · exfalso; omega
  · exfalso; omega
  · refine ⟨rfl, ?_⟩
    try rw [show gp_R (gp_mk L s_1) 25 9 = some 120 from q_16]
    refine ⟨120, rfl, ?_⟩
    refine ⟨⟨by show (gp_sh s_1 120).1 = 100; rw [q_23], by omega, by show 0 < ((gp_sh s_1 120).2 : Int); rw [q_23]; show 0 < 1; omega⟩, ?_⟩
    try rw [show gp_I s_1 120 (0 : Int).toNat = 0 from q_9]
    exact k s_1 hs_2 (by omega) (by omega) (by omega) (by omega) (by omega) (by omega) (by omega) (by omega) (by omega) (by omega) q_13 q_14 q_15 q_16 q_17 q_18 q_19 q_20 q_21 q_22 q_23 q_24 q_25
set_option maxRecDepth 100000 in
/-- GatheredPoints.gameOf [(0, 7), (11, 11)] -/
theorem zx2825_15 {z : gH} {L d : Nat} {K : Option gV → gH → Prop} {s : gH} (p0 : Int) (hs : xM z s) (h_p0 : 0 ≤ p0 ∧ p0 ≤ 7) (q0 : gp_I s 1 2 = 0) (q1 : gp_I s 1 6 = 0) (q2 : gp_I s 1 7 = 1) (q3 : gp_I s 51 8 = 0) (q4 : gp_I s 57 1 = 0) (q5 : gp_I s 57 3 = 0) (q6 : gp_R s 25 6 = none) (q7 : gp_R s 25 7 = none) (q8 : gp_R s 25 8 = none) (q9 : gp_R s 25 9 = none) (q10 : ∀ k, k < 8 → gp_R s 4 k = some 25) (q11 : gp_R s 51 6 = some 55) (q12 : gp_R s 51 7 = some 56) (q13 : gp_us s = 606895) (q14 : gp_sz s = 117) (k : ∀ (t : gH), xM z t → (gp_I t 1 2 = 0) → (gp_I t 1 6 = 0) → (gp_I t 1 7 = 1) → (gp_I t 117 0 = 0) → (gp_I t 118 0 = 0) → (gp_I t 119 0 = 0) → (gp_I t 120 0 = 0) → (gp_I t 51 8 = 0) → (gp_I t 57 1 = 0) → (gp_I t 57 3 = 0) → (gp_R t 25 6 = some 117) → (gp_R t 25 7 = some 118) → (gp_R t 25 8 = some 119) → (gp_R t 25 9 = some 120) → (∀ k, k < 8 → gp_R t 4 k = some 25) → (gp_R t 51 6 = some 55) → (gp_R t 51 7 = some 56) → (gp_sh t 117 = (100, 1)) → (gp_sh t 118 = (100, 1)) → (gp_sh t 119 = (100, 1)) → (gp_sh t 120 = (100, 1)) → (gp_us t = 606899) → (gp_sz t = 121) → K (some (gp_i 0)) t) : gs_C L (d + 6) 2825 5 [gp_r (some 1), gp_i p0, gp_i 11] s K := by
  refine s_2825_e _ _ ?_
  refine zx2856_2 _ hs (by omega) (by omega) (by omega) (by omega) (by omega) (by omega) (by omega) q6 q7 q8 q9 q10 q11 q12 (⟨_, rfl, ?_⟩)
  refine ⟨fun h_1 => ?_, fun h_1 => ?_⟩
  · refine ⟨fun h_2 => ?_, fun h_2 => ?_⟩
    · exfalso; omega
    · refine ⟨fun h_3 => ?_, fun h_3 => ?_⟩
      · exfalso; omega
      · refine ⟨by omega, ?_⟩
        try rw [show gp_R (gp_mk L s) 4 p0.toNat = some 25 from (q10 _ (by omega))]
        refine ⟨25, rfl, ?_⟩
        refine ⟨rfl, ?_⟩
        refine zx2306_0 hs q6 q7 q8 q9 (⟨_, rfl, ?_⟩)
        refine ⟨fun h_4 => ?_, fun h_4 => ?_, fun h_4 => ?_, fun h_4 => ?_, fun h_4 => ?_, fun h_4 => ?_, fun h_4 => ?_, fun h_4 => ?_, fun h_4 => ?_, fun h_4 => ?_, fun h_4 => ?_, fun h_4 => ?_, fun h_4 => ?_, fun h_4 => ?_⟩
        · exfalso; omega
        · exfalso; omega
        · exfalso; omega
        · exfalso; omega
        · exfalso; omega
        · exfalso; omega
        · exfalso; omega
        · exfalso; omega
        · exfalso; omega
        · exfalso; omega
        · exfalso; omega
        · refine zx2826_3 hs (by omega) (by omega) (by omega) (by omega) (by omega) (by omega) q6 q7 q8 q9 q10 q11 q12 q13 q14 (fun s_5 hs_6 q_7 q_8 q_9 q_10 q_11 q_12 q_13 q_14 q_15 q_16 q_17 q_18 q_19 q_20 q_21 q_22 q_23 q_24 q_25 q_26 q_27 q_28 q_29 => ⟨_, rfl, ?_⟩)
          exact k s_5 hs_6 (by omega) (by omega) (by omega) (by omega) (by omega) (by omega) (by omega) (by omega) (by omega) (by omega) q_17 q_18 q_19 q_20 q_21 q_22 q_23 q_24 q_25 q_26 q_27 q_28 q_29
        · exfalso; omega
        · exfalso; omega
  · exfalso; omega
set_option maxRecDepth 100000 in
/-- GatheredPoints.gameOf [(0, 7), (12, 12)] -/
theorem zx2825_16 {z : gH} {L d : Nat} {K : Option gV → gH → Prop} {s : gH} (p0 : Int) (hs : xM z s) (h_p0 : 0 ≤ p0 ∧ p0 ≤ 7) (q0 : gp_I s 1 2 = 0) (q1 : gp_I s 1 6 = 0) (q2 : gp_I s 1 7 = 1) (q3 : gp_I s 51 8 = 0) (q4 : gp_I s 57 1 = 0) (q5 : gp_I s 57 3 = 0) (q6 : gp_R s 25 6 = none) (q7 : gp_R s 25 7 = none) (q8 : gp_R s 25 8 = none) (q9 : gp_R s 25 9 = none) (q10 : ∀ k, k < 8 → gp_R s 4 k = some 25) (q11 : gp_R s 51 6 = some 55) (q12 : gp_R s 51 7 = some 56) (q13 : gp_us s = 606895) (q14 : gp_sz s = 117) (k : ∀ (t : gH), xM z t → (gp_I t 1 2 = 0) → (gp_I t 1 6 = 0) → (gp_I t 1 7 = 1) → (gp_I t 51 8 = 0) → (gp_I t 57 1 = 0) → (gp_I t 57 3 = 0) → (gp_R t 25 6 = none) → (gp_R t 25 7 = none) → (gp_R t 25 8 = none) → (gp_R t 25 9 = none) → (∀ k, k < 8 → gp_R t 4 k = some 25) → (gp_R t 51 6 = some 55) → (gp_R t 51 7 = some 56) → (gp_us t = 606895) → (gp_sz t = 117) → K (some (gp_i 1)) t) : gs_C L (d + 3) 2825 5 [gp_r (some 1), gp_i p0, gp_i 12] s K := by
  refine s_2825_e _ _ ?_
  refine zx2856_2 _ hs (by omega) (by omega) (by omega) (by omega) (by omega) (by omega) (by omega) q6 q7 q8 q9 q10 q11 q12 (⟨_, rfl, ?_⟩)
  refine ⟨fun h_1 => ?_, fun h_1 => ?_⟩
  · refine ⟨fun h_2 => ?_, fun h_2 => ?_⟩
    · exfalso; omega
    · refine ⟨fun h_3 => ?_, fun h_3 => ?_⟩
      · exfalso; omega
      · refine ⟨by omega, ?_⟩
        try rw [show gp_R (gp_mk L s) 4 p0.toNat = some 25 from (q10 _ (by omega))]
        refine ⟨25, rfl, ?_⟩
        refine ⟨rfl, ?_⟩
        refine zx2306_0 hs q6 q7 q8 q9 (⟨_, rfl, ?_⟩)
        refine ⟨fun h_4 => ?_, fun h_4 => ?_, fun h_4 => ?_, fun h_4 => ?_, fun h_4 => ?_, fun h_4 => ?_, fun h_4 => ?_, fun h_4 => ?_, fun h_4 => ?_, fun h_4 => ?_, fun h_4 => ?_, fun h_4 => ?_, fun h_4 => ?_, fun h_4 => ?_⟩
        · exfalso; omega
        · exfalso; omega
        · exfalso; omega
        · exfalso; omega
        · exfalso; omega
        · exfalso; omega
        · exfalso; omega
        · exfalso; omega
        · exfalso; omega
        · exfalso; omega
        · exfalso; omega
        · exfalso; omega
        · refine zx776_1 hs (by omega) (by omega) (by omega) (by omega) (by omega) (by omega) q6 q7 q8 q9 q10 q11 q12 q13 q14 (fun s_5 hs_6 q_7 q_8 q_9 q_10 q_11 q_12 q_13 q_14 q_15 q_16 q_17 q_18 q_19 q_20 q_21 => ⟨_, rfl, ?_⟩)
          refine ⟨fun h_22 => ?_, fun h_22 => ?_⟩
          · exfalso; omega
          · refine s_2825_231 _ _ _ _ _ ?_
            exact k s_5 hs_6 (by omega) (by omega) (by omega) (by omega) (by omega) (by omega) q_13 q_14 q_15 q_16 q_17 q_18 q_19 q_20 q_21
        · exfalso; omega
  · exfalso; omega
set_option maxRecDepth 100000 in
/-- GatheredPoints.refused [(2, 2)] -/
theorem zx2855_9 {z : gH} {L d : Nat} {K : Option gV → gH → Prop} {s : gH}  (hs : xM z s)  (q0 : gp_I s 1 2 = 0) (q1 : gp_I s 1 6 = 0) (q2 : gp_I s 1 7 = 1) (q3 : gp_I s 51 8 = 0) (q4 : gp_I s 57 1 = 0) (q5 : gp_I s 57 3 = 0) (q6 : gp_I s 60 8 = 0) (q7 : gp_R s 25 6 = none) (q8 : gp_R s 25 7 = none) (q9 : gp_R s 25 8 = none) (q10 : gp_R s 25 9 = none) (q11 : ∀ k, k < 8 → gp_R s 4 k = some 25) (q12 : gp_R s 51 6 = some 55) (q13 : gp_R s 51 7 = some 56) (q14 : ∀ k, k < 3 → gp_R s 52 k = some 25) (q15 : gp_R s 60 6 = some 64) (q16 : gp_R s 60 7 = some 65) (q17 : ∀ k, k < 3 → gp_R s 61 k = some 25) (q18 : gp_us s = 606895) (q19 : gp_sz s = 117) (k : ∀ (t : gH), xM z t → (gp_I t 1 2 = 0) → (gp_I t 1 6 = 0) → (gp_I t 1 7 = 1) → ((-2147483648) ≤ gp_I t 2 2 ∧ gp_I t 2 2 ≤ 2147483647) → (gp_I t 51 8 = 0) → (gp_I t 57 1 = 0) → (gp_I t 57 3 = 0) → (gp_I t 60 8 = 0) → (gp_R t 25 6 = none) → (gp_R t 25 7 = none) → (gp_R t 25 8 = none) → (gp_R t 25 9 = none) → (∀ k, k < 8 → gp_R t 4 k = some 25) → (gp_R t 51 6 = some 55) → (gp_R t 51 7 = some 56) → (∀ k, k < 3 → gp_R t 52 k = some 25) → (gp_R t 60 6 = some 64) → (gp_R t 60 7 = some 65) → (∀ k, k < 3 → gp_R t 61 k = some 25) → (gp_us t = 606895) → (gp_sz t = 117) → K (some (gp_i (-1000000002))) t) : gs_C L d 2855 2 [gp_r (some 1), gp_i 2] s K := by
  refine s_2855_e _ ?_
  refine ⟨by omega, ?_⟩
  have w_1 := gz_w ((gp_I s 2 (2 : Int).toNat) + 1)
  refine ⟨by omega, ?_⟩
  intro s_2 e_3
  have hs_4 : xM z s_2 := by rw [e_3]; exact xw2 hs _ _
  have q_5 : gp_I s_2 1 2 = 0 := by rw [e_3]; exact q0
  have q_6 : gp_I s_2 1 6 = 0 := by rw [e_3]; exact q1
  have q_7 : gp_I s_2 1 7 = 1 := by rw [e_3]; exact q2
  have q_8 : gp_I s_2 51 8 = 0 := by rw [e_3]; exact q3
  have q_9 : gp_I s_2 57 1 = 0 := by rw [e_3]; exact q4
  have q_10 : gp_I s_2 57 3 = 0 := by rw [e_3]; exact q5
  have q_11 : gp_I s_2 60 8 = 0 := by rw [e_3]; exact q6
  have q_12 : gp_R s_2 25 6 = none := by rw [e_3]; exact q7
  have q_13 : gp_R s_2 25 7 = none := by rw [e_3]; exact q8
  have q_14 : gp_R s_2 25 8 = none := by rw [e_3]; exact q9
  have q_15 : gp_R s_2 25 9 = none := by rw [e_3]; exact q10
  have q_16 : ∀ k, k < 8 → gp_R s_2 4 k = some 25 := by rw [e_3]; exact q11
  have q_17 : gp_R s_2 51 6 = some 55 := by rw [e_3]; exact q12
  have q_18 : gp_R s_2 51 7 = some 56 := by rw [e_3]; exact q13
  have q_19 : ∀ k, k < 3 → gp_R s_2 52 k = some 25 := by rw [e_3]; exact q14
  have q_20 : gp_R s_2 60 6 = some 64 := by rw [e_3]; exact q15
  have q_21 : gp_R s_2 60 7 = some 65 := by rw [e_3]; exact q16
  have q_22 : ∀ k, k < 3 → gp_R s_2 61 k = some 25 := by rw [e_3]; exact q17
  have q_23 : gp_us s_2 = 606895 := by rw [e_3]; exact q18
  have q_24 : gp_sz s_2 = 117 := by rw [e_3]; exact q19
  have q_25 : (-2147483648) ≤ gp_I s_2 2 2 ∧ gp_I s_2 2 2 ≤ 2147483647 := by have x_26 : gp_I s_2 2 2 = gp_wr ((gp_I s 2 (2 : Int).toNat) + 1) := (by rw [e_3]; rfl); omega
  have w_27 := gz_w ((-1000000000) - 2)
  have e_28 : gp_wr ((-1000000000) - 2) = (-1000000002) := by omega
  try rw [e_28]
  exact k s_2 hs_4 (by omega) (by omega) (by omega) (by omega) (by omega) (by omega) (by omega) (by omega) q_12 q_13 q_14 q_15 q_16 q_17 q_18 q_19 q_20 q_21 q_22 q_23 q_24
