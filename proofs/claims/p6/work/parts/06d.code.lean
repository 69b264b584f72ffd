theorem gp_k3107_0 : ∀ j, j < 119 → gp_okE 3107 prog_14_method_36_code (gp_c3107 (0 + j)) (0 + j) = true := by decide +kernel
theorem gp_k3107 {pc : Nat} {e : Instr × Nat} (h : gp_c3107 pc = some e) : gp_Pc 3107 pc e := by
  have hl : pc < 119 := by
    unfold gp_c3107 at h
    exact Nat.blt_eq.mp (gp_cond_none h).1
  have q := gp_k3107_0 (pc - 0) (by omega)
  rw [show 0 + (pc - 0) = pc by omega] at q
  exact gp_okE_of rfl q h
theorem gp_k3108_0 : ∀ j, j < 119 → gp_okE 3108 prog_14_method_37_code (gp_c3108 (0 + j)) (0 + j) = true := by decide +kernel
theorem gp_k3108 {pc : Nat} {e : Instr × Nat} (h : gp_c3108 pc = some e) : gp_Pc 3108 pc e := by
  have hl : pc < 119 := by
    unfold gp_c3108 at h
    exact Nat.blt_eq.mp (gp_cond_none h).1
  have q := gp_k3108_0 (pc - 0) (by omega)
  rw [show 0 + (pc - 0) = pc by omega] at q
  exact gp_okE_of rfl q h
theorem gp_k3109_0 : ∀ j, j < 134 → gp_okE 3109 prog_14_method_38_code (gp_c3109 (0 + j)) (0 + j) = true := by decide +kernel
theorem gp_k3109 {pc : Nat} {e : Instr × Nat} (h : gp_c3109 pc = some e) : gp_Pc 3109 pc e := by
  have hl : pc < 134 := by
    unfold gp_c3109 at h
    exact Nat.blt_eq.mp (gp_cond_none h).1
  have q := gp_k3109_0 (pc - 0) (by omega)
  rw [show 0 + (pc - 0) = pc by omega] at q
  exact gp_okE_of rfl q h
theorem gp_k3110_0 : ∀ j, j < 48 → gp_okE 3110 prog_14_method_39_code (gp_c3110 (0 + j)) (0 + j) = true := by decide +kernel
theorem gp_k3110 {pc : Nat} {e : Instr × Nat} (h : gp_c3110 pc = some e) : gp_Pc 3110 pc e := by
  have hl : pc < 48 := by
    unfold gp_c3110 at h
    exact Nat.blt_eq.mp (gp_cond_none h).1
  have q := gp_k3110_0 (pc - 0) (by omega)
  rw [show 0 + (pc - 0) = pc by omega] at q
  exact gp_okE_of rfl q h
theorem gp_k3111_0 : ∀ j, j < 56 → gp_okE 3111 prog_14_method_40_code (gp_c3111 (0 + j)) (0 + j) = true := by decide +kernel
theorem gp_k3111 {pc : Nat} {e : Instr × Nat} (h : gp_c3111 pc = some e) : gp_Pc 3111 pc e := by
  have hl : pc < 56 := by
    unfold gp_c3111 at h
    exact Nat.blt_eq.mp (gp_cond_none h).1
  have q := gp_k3111_0 (pc - 0) (by omega)
  rw [show 0 + (pc - 0) = pc by omega] at q
  exact gp_okE_of rfl q h
theorem gp_k3112_0 : ∀ j, j < 12 → gp_okE 3112 prog_14_method_41_code (gp_c3112 (0 + j)) (0 + j) = true := by decide +kernel
theorem gp_k3112 {pc : Nat} {e : Instr × Nat} (h : gp_c3112 pc = some e) : gp_Pc 3112 pc e := by
  have hl : pc < 12 := by
    unfold gp_c3112 at h
    exact Nat.blt_eq.mp (gp_cond_none h).1
  have q := gp_k3112_0 (pc - 0) (by omega)
  rw [show 0 + (pc - 0) = pc by omega] at q
  exact gp_okE_of rfl q h
theorem gp_k3113_0 : ∀ j, j < 150 → gp_okE 3113 prog_14_method_42_code (gp_c3113 (0 + j)) (0 + j) = true := by decide +kernel
theorem gp_k3113_1 : ∀ j, j < 14 → gp_okE 3113 prog_14_method_42_code (gp_c3113 (150 + j)) (150 + j) = true := by decide +kernel
theorem gp_k3113 {pc : Nat} {e : Instr × Nat} (h : gp_c3113 pc = some e) : gp_Pc 3113 pc e := by
  have hl : pc < 164 := by
    unfold gp_c3113 at h
    exact Nat.blt_eq.mp (gp_cond_none h).1
  by_cases h0 : pc < 150
  · have q := gp_k3113_0 (pc - 0) (by omega)
    rw [show 0 + (pc - 0) = pc by omega] at q
    exact gp_okE_of rfl q h
  have q := gp_k3113_1 (pc - 150) (by omega)
  rw [show 150 + (pc - 150) = pc by omega] at q
  exact gp_okE_of rfl q h
theorem gp_k3114_0 : ∀ j, j < 132 → gp_okE 3114 prog_14_method_43_code (gp_c3114 (0 + j)) (0 + j) = true := by decide +kernel
theorem gp_k3114 {pc : Nat} {e : Instr × Nat} (h : gp_c3114 pc = some e) : gp_Pc 3114 pc e := by
  have hl : pc < 132 := by
    unfold gp_c3114 at h
    exact Nat.blt_eq.mp (gp_cond_none h).1
  have q := gp_k3114_0 (pc - 0) (by omega)
  rw [show 0 + (pc - 0) = pc by omega] at q
  exact gp_okE_of rfl q h
theorem gp_k3115_0 : ∀ j, j < 132 → gp_okE 3115 prog_14_method_44_code (gp_c3115 (0 + j)) (0 + j) = true := by decide +kernel
theorem gp_k3115 {pc : Nat} {e : Instr × Nat} (h : gp_c3115 pc = some e) : gp_Pc 3115 pc e := by
  have hl : pc < 132 := by
    unfold gp_c3115 at h
    exact Nat.blt_eq.mp (gp_cond_none h).1
  have q := gp_k3115_0 (pc - 0) (by omega)
  rw [show 0 + (pc - 0) = pc by omega] at q
  exact gp_okE_of rfl q h
theorem gp_k3116_0 : ∀ j, j < 113 → gp_okE 3116 prog_14_method_45_code (gp_c3116 (0 + j)) (0 + j) = true := by decide +kernel
theorem gp_k3116 {pc : Nat} {e : Instr × Nat} (h : gp_c3116 pc = some e) : gp_Pc 3116 pc e := by
  have hl : pc < 113 := by
    unfold gp_c3116 at h
    exact Nat.blt_eq.mp (gp_cond_none h).1
  have q := gp_k3116_0 (pc - 0) (by omega)
  rw [show 0 + (pc - 0) = pc by omega] at q
  exact gp_okE_of rfl q h
theorem gp_k3117_0 : ∀ j, j < 113 → gp_okE 3117 prog_14_method_46_code (gp_c3117 (0 + j)) (0 + j) = true := by decide +kernel
theorem gp_k3117 {pc : Nat} {e : Instr × Nat} (h : gp_c3117 pc = some e) : gp_Pc 3117 pc e := by
  have hl : pc < 113 := by
    unfold gp_c3117 at h
    exact Nat.blt_eq.mp (gp_cond_none h).1
  have q := gp_k3117_0 (pc - 0) (by omega)
  rw [show 0 + (pc - 0) = pc by omega] at q
  exact gp_okE_of rfl q h
theorem gp_k3118_0 : ∀ j, j < 150 → gp_okE 3118 prog_14_method_47_code (gp_c3118 (0 + j)) (0 + j) = true := by decide +kernel
theorem gp_k3118_1 : ∀ j, j < 150 → gp_okE 3118 prog_14_method_47_code (gp_c3118 (150 + j)) (150 + j) = true := by decide +kernel
theorem gp_k3118_2 : ∀ j, j < 16 → gp_okE 3118 prog_14_method_47_code (gp_c3118 (300 + j)) (300 + j) = true := by decide +kernel
theorem gp_k3118 {pc : Nat} {e : Instr × Nat} (h : gp_c3118 pc = some e) : gp_Pc 3118 pc e := by
  have hl : pc < 316 := by
    unfold gp_c3118 at h
    exact Nat.blt_eq.mp (gp_cond_none h).1
  by_cases h0 : pc < 150
  · have q := gp_k3118_0 (pc - 0) (by omega)
    rw [show 0 + (pc - 0) = pc by omega] at q
    exact gp_okE_of rfl q h
  by_cases h1 : pc < 300
  · have q := gp_k3118_1 (pc - 150) (by omega)
    rw [show 150 + (pc - 150) = pc by omega] at q
    exact gp_okE_of rfl q h
  have q := gp_k3118_2 (pc - 300) (by omega)
  rw [show 300 + (pc - 300) = pc by omega] at q
  exact gp_okE_of rfl q h
theorem gp_k3119_0 : ∀ j, j < 32 → gp_okE 3119 prog_14_method_48_code (gp_c3119 (0 + j)) (0 + j) = true := by decide +kernel
theorem gp_k3119 {pc : Nat} {e : Instr × Nat} (h : gp_c3119 pc = some e) : gp_Pc 3119 pc e := by
  have hl : pc < 32 := by
    unfold gp_c3119 at h
    exact Nat.blt_eq.mp (gp_cond_none h).1
  have q := gp_k3119_0 (pc - 0) (by omega)
  rw [show 0 + (pc - 0) = pc by omega] at q
  exact gp_okE_of rfl q h
theorem gp_k3120_0 : ∀ j, j < 47 → gp_okE 3120 prog_14_method_49_code (gp_c3120 (0 + j)) (0 + j) = true := by decide +kernel
theorem gp_k3120 {pc : Nat} {e : Instr × Nat} (h : gp_c3120 pc = some e) : gp_Pc 3120 pc e := by
  have hl : pc < 47 := by
    unfold gp_c3120 at h
    exact Nat.blt_eq.mp (gp_cond_none h).1
  have q := gp_k3120_0 (pc - 0) (by omega)
  rw [show 0 + (pc - 0) = pc by omega] at q
  exact gp_okE_of rfl q h
theorem gp_k3121_0 : ∀ j, j < 150 → gp_okE 3121 prog_14_method_50_code (gp_c3121 (0 + j)) (0 + j) = true := by decide +kernel
theorem gp_k3121_1 : ∀ j, j < 21 → gp_okE 3121 prog_14_method_50_code (gp_c3121 (150 + j)) (150 + j) = true := by decide +kernel
theorem gp_k3121 {pc : Nat} {e : Instr × Nat} (h : gp_c3121 pc = some e) : gp_Pc 3121 pc e := by
  have hl : pc < 171 := by
    unfold gp_c3121 at h
    exact Nat.blt_eq.mp (gp_cond_none h).1
  by_cases h0 : pc < 150
  · have q := gp_k3121_0 (pc - 0) (by omega)
    rw [show 0 + (pc - 0) = pc by omega] at q
    exact gp_okE_of rfl q h
  have q := gp_k3121_1 (pc - 150) (by omega)
  rw [show 150 + (pc - 150) = pc by omega] at q
  exact gp_okE_of rfl q h
theorem gp_k3122_0 : ∀ j, j < 45 → gp_okE 3122 prog_14_method_51_code (gp_c3122 (0 + j)) (0 + j) = true := by decide +kernel
theorem gp_k3122 {pc : Nat} {e : Instr × Nat} (h : gp_c3122 pc = some e) : gp_Pc 3122 pc e := by
  have hl : pc < 45 := by
    unfold gp_c3122 at h
    exact Nat.blt_eq.mp (gp_cond_none h).1
  have q := gp_k3122_0 (pc - 0) (by omega)
  rw [show 0 + (pc - 0) = pc by omega] at q
  exact gp_okE_of rfl q h
theorem gp_k3123_0 : ∀ j, j < 14 → gp_okE 3123 prog_14_method_52_code (gp_c3123 (0 + j)) (0 + j) = true := by decide +kernel
theorem gp_k3123 {pc : Nat} {e : Instr × Nat} (h : gp_c3123 pc = some e) : gp_Pc 3123 pc e := by
  have hl : pc < 14 := by
    unfold gp_c3123 at h
    exact Nat.blt_eq.mp (gp_cond_none h).1
  have q := gp_k3123_0 (pc - 0) (by omega)
  rw [show 0 + (pc - 0) = pc by omega] at q
  exact gp_okE_of rfl q h
theorem gp_k3124_0 : ∀ j, j < 86 → gp_okE 3124 prog_14_method_53_code (gp_c3124 (0 + j)) (0 + j) = true := by decide +kernel
theorem gp_k3124 {pc : Nat} {e : Instr × Nat} (h : gp_c3124 pc = some e) : gp_Pc 3124 pc e := by
  have hl : pc < 86 := by
    unfold gp_c3124 at h
    exact Nat.blt_eq.mp (gp_cond_none h).1
  have q := gp_k3124_0 (pc - 0) (by omega)
  rw [show 0 + (pc - 0) = pc by omega] at q
  exact gp_okE_of rfl q h
theorem gp_k3125_0 : ∀ j, j < 25 → gp_okE 3125 prog_14_method_54_code (gp_c3125 (0 + j)) (0 + j) = true := by decide +kernel
theorem gp_k3125 {pc : Nat} {e : Instr × Nat} (h : gp_c3125 pc = some e) : gp_Pc 3125 pc e := by
  have hl : pc < 25 := by
    unfold gp_c3125 at h
    exact Nat.blt_eq.mp (gp_cond_none h).1
  have q := gp_k3125_0 (pc - 0) (by omega)
  rw [show 0 + (pc - 0) = pc by omega] at q
  exact gp_okE_of rfl q h
theorem gp_k3126_0 : ∀ j, j < 24 → gp_okE 3126 prog_14_method_55_code (gp_c3126 (0 + j)) (0 + j) = true := by decide +kernel
theorem gp_k3126 {pc : Nat} {e : Instr × Nat} (h : gp_c3126 pc = some e) : gp_Pc 3126 pc e := by
  have hl : pc < 24 := by
    unfold gp_c3126 at h
    exact Nat.blt_eq.mp (gp_cond_none h).1
  have q := gp_k3126_0 (pc - 0) (by omega)
  rw [show 0 + (pc - 0) = pc by omega] at q
  exact gp_okE_of rfl q h
theorem gp_k3127_0 : ∀ j, j < 20 → gp_okE 3127 prog_14_method_56_code (gp_c3127 (0 + j)) (0 + j) = true := by decide +kernel
theorem gp_k3127 {pc : Nat} {e : Instr × Nat} (h : gp_c3127 pc = some e) : gp_Pc 3127 pc e := by
  have hl : pc < 20 := by
    unfold gp_c3127 at h
    exact Nat.blt_eq.mp (gp_cond_none h).1
  have q := gp_k3127_0 (pc - 0) (by omega)
  rw [show 0 + (pc - 0) = pc by omega] at q
  exact gp_okE_of rfl q h
theorem gp_k3128_0 : ∀ j, j < 23 → gp_okE 3128 prog_14_method_57_code (gp_c3128 (0 + j)) (0 + j) = true := by decide +kernel
theorem gp_k3128 {pc : Nat} {e : Instr × Nat} (h : gp_c3128 pc = some e) : gp_Pc 3128 pc e := by
  have hl : pc < 23 := by
    unfold gp_c3128 at h
    exact Nat.blt_eq.mp (gp_cond_none h).1
  have q := gp_k3128_0 (pc - 0) (by omega)
  rw [show 0 + (pc - 0) = pc by omega] at q
  exact gp_okE_of rfl q h
theorem gp_k3129_0 : ∀ j, j < 41 → gp_okE 3129 prog_14_method_58_code (gp_c3129 (0 + j)) (0 + j) = true := by decide +kernel
theorem gp_k3129 {pc : Nat} {e : Instr × Nat} (h : gp_c3129 pc = some e) : gp_Pc 3129 pc e := by
  have hl : pc < 41 := by
    unfold gp_c3129 at h
    exact Nat.blt_eq.mp (gp_cond_none h).1
  have q := gp_k3129_0 (pc - 0) (by omega)
  rw [show 0 + (pc - 0) = pc by omega] at q
  exact gp_okE_of rfl q h
theorem gp_k3130_0 : ∀ j, j < 20 → gp_okE 3130 prog_14_method_59_code (gp_c3130 (0 + j)) (0 + j) = true := by decide +kernel
theorem gp_k3130 {pc : Nat} {e : Instr × Nat} (h : gp_c3130 pc = some e) : gp_Pc 3130 pc e := by
  have hl : pc < 20 := by
    unfold gp_c3130 at h
    exact Nat.blt_eq.mp (gp_cond_none h).1
  have q := gp_k3130_0 (pc - 0) (by omega)
  rw [show 0 + (pc - 0) = pc by omega] at q
  exact gp_okE_of rfl q h
theorem gp_k3131_0 : ∀ j, j < 64 → gp_okE 3131 prog_14_method_60_code (gp_c3131 (0 + j)) (0 + j) = true := by decide +kernel
theorem gp_k3131 {pc : Nat} {e : Instr × Nat} (h : gp_c3131 pc = some e) : gp_Pc 3131 pc e := by
  have hl : pc < 64 := by
    unfold gp_c3131 at h
    exact Nat.blt_eq.mp (gp_cond_none h).1
  have q := gp_k3131_0 (pc - 0) (by omega)
  rw [show 0 + (pc - 0) = pc by omega] at q
  exact gp_okE_of rfl q h
theorem gp_k3132_0 : ∀ j, j < 24 → gp_okE 3132 prog_14_method_61_code (gp_c3132 (0 + j)) (0 + j) = true := by decide +kernel
theorem gp_k3132 {pc : Nat} {e : Instr × Nat} (h : gp_c3132 pc = some e) : gp_Pc 3132 pc e := by
  have hl : pc < 24 := by
    unfold gp_c3132 at h
    exact Nat.blt_eq.mp (gp_cond_none h).1
  have q := gp_k3132_0 (pc - 0) (by omega)
  rw [show 0 + (pc - 0) = pc by omega] at q
  exact gp_okE_of rfl q h
theorem gp_k3133_0 : ∀ j, j < 23 → gp_okE 3133 prog_14_method_62_code (gp_c3133 (0 + j)) (0 + j) = true := by decide +kernel
theorem gp_k3133 {pc : Nat} {e : Instr × Nat} (h : gp_c3133 pc = some e) : gp_Pc 3133 pc e := by
  have hl : pc < 23 := by
    unfold gp_c3133 at h
    exact Nat.blt_eq.mp (gp_cond_none h).1
  have q := gp_k3133_0 (pc - 0) (by omega)
  rw [show 0 + (pc - 0) = pc by omega] at q
  exact gp_okE_of rfl q h
theorem gp_k3134_0 : ∀ j, j < 150 → gp_okE 3134 prog_14_method_63_code (gp_c3134 (0 + j)) (0 + j) = true := by decide +kernel
theorem gp_k3134_1 : ∀ j, j < 68 → gp_okE 3134 prog_14_method_63_code (gp_c3134 (150 + j)) (150 + j) = true := by decide +kernel
theorem gp_k3134 {pc : Nat} {e : Instr × Nat} (h : gp_c3134 pc = some e) : gp_Pc 3134 pc e := by
  have hl : pc < 218 := by
    unfold gp_c3134 at h
    exact Nat.blt_eq.mp (gp_cond_none h).1
  by_cases h0 : pc < 150
  · have q := gp_k3134_0 (pc - 0) (by omega)
    rw [show 0 + (pc - 0) = pc by omega] at q
    exact gp_okE_of rfl q h
  have q := gp_k3134_1 (pc - 150) (by omega)
  rw [show 150 + (pc - 150) = pc by omega] at q
  exact gp_okE_of rfl q h
theorem gp_k3135_0 : ∀ j, j < 68 → gp_okE 3135 prog_14_method_64_code (gp_c3135 (0 + j)) (0 + j) = true := by decide +kernel
theorem gp_k3135 {pc : Nat} {e : Instr × Nat} (h : gp_c3135 pc = some e) : gp_Pc 3135 pc e := by
  have hl : pc < 68 := by
    unfold gp_c3135 at h
    exact Nat.blt_eq.mp (gp_cond_none h).1
  have q := gp_k3135_0 (pc - 0) (by omega)
  rw [show 0 + (pc - 0) = pc by omega] at q
  exact gp_okE_of rfl q h
theorem gp_k3136_0 : ∀ j, j < 150 → gp_okE 3136 prog_14_method_65_code (gp_c3136 (0 + j)) (0 + j) = true := by decide +kernel
theorem gp_k3136_1 : ∀ j, j < 23 → gp_okE 3136 prog_14_method_65_code (gp_c3136 (150 + j)) (150 + j) = true := by decide +kernel
theorem gp_k3136 {pc : Nat} {e : Instr × Nat} (h : gp_c3136 pc = some e) : gp_Pc 3136 pc e := by
  have hl : pc < 173 := by
    unfold gp_c3136 at h
    exact Nat.blt_eq.mp (gp_cond_none h).1
  by_cases h0 : pc < 150
  · have q := gp_k3136_0 (pc - 0) (by omega)
    rw [show 0 + (pc - 0) = pc by omega] at q
    exact gp_okE_of rfl q h
  have q := gp_k3136_1 (pc - 150) (by omega)
  rw [show 150 + (pc - 150) = pc by omega] at q
  exact gp_okE_of rfl q h
theorem gp_k3137_0 : ∀ j, j < 75 → gp_okE 3137 prog_14_method_66_code (gp_c3137 (0 + j)) (0 + j) = true := by decide +kernel
theorem gp_k3137 {pc : Nat} {e : Instr × Nat} (h : gp_c3137 pc = some e) : gp_Pc 3137 pc e := by
  have hl : pc < 75 := by
    unfold gp_c3137 at h
    exact Nat.blt_eq.mp (gp_cond_none h).1
  have q := gp_k3137_0 (pc - 0) (by omega)
  rw [show 0 + (pc - 0) = pc by omega] at q
  exact gp_okE_of rfl q h
theorem gp_k3138_0 : ∀ j, j < 57 → gp_okE 3138 prog_14_method_67_code (gp_c3138 (0 + j)) (0 + j) = true := by decide +kernel
theorem gp_k3138 {pc : Nat} {e : Instr × Nat} (h : gp_c3138 pc = some e) : gp_Pc 3138 pc e := by
  have hl : pc < 57 := by
    unfold gp_c3138 at h
    exact Nat.blt_eq.mp (gp_cond_none h).1
  have q := gp_k3138_0 (pc - 0) (by omega)
  rw [show 0 + (pc - 0) = pc by omega] at q
  exact gp_okE_of rfl q h
theorem gp_k3139_0 : ∀ j, j < 81 → gp_okE 3139 prog_14_method_68_code (gp_c3139 (0 + j)) (0 + j) = true := by decide +kernel
theorem gp_k3139 {pc : Nat} {e : Instr × Nat} (h : gp_c3139 pc = some e) : gp_Pc 3139 pc e := by
  have hl : pc < 81 := by
    unfold gp_c3139 at h
    exact Nat.blt_eq.mp (gp_cond_none h).1
  have q := gp_k3139_0 (pc - 0) (by omega)
  rw [show 0 + (pc - 0) = pc by omega] at q
  exact gp_okE_of rfl q h
theorem gp_k3140_0 : ∀ j, j < 11 → gp_okE 3140 prog_14_method_69_code (gp_c3140 (0 + j)) (0 + j) = true := by decide +kernel
theorem gp_k3140 {pc : Nat} {e : Instr × Nat} (h : gp_c3140 pc = some e) : gp_Pc 3140 pc e := by
  have hl : pc < 11 := by
    unfold gp_c3140 at h
    exact Nat.blt_eq.mp (gp_cond_none h).1
  have q := gp_k3140_0 (pc - 0) (by omega)
  rw [show 0 + (pc - 0) = pc by omega] at q
  exact gp_okE_of rfl q h
theorem gp_k3141_0 : ∀ j, j < 21 → gp_okE 3141 prog_14_method_70_code (gp_c3141 (0 + j)) (0 + j) = true := by decide +kernel
theorem gp_k3141 {pc : Nat} {e : Instr × Nat} (h : gp_c3141 pc = some e) : gp_Pc 3141 pc e := by
  have hl : pc < 21 := by
    unfold gp_c3141 at h
    exact Nat.blt_eq.mp (gp_cond_none h).1
  have q := gp_k3141_0 (pc - 0) (by omega)
  rw [show 0 + (pc - 0) = pc by omega] at q
  exact gp_okE_of rfl q h
theorem gp_k3142_0 : ∀ j, j < 150 → gp_okE 3142 prog_14_method_71_code (gp_c3142 (0 + j)) (0 + j) = true := by decide +kernel
theorem gp_k3142_1 : ∀ j, j < 150 → gp_okE 3142 prog_14_method_71_code (gp_c3142 (150 + j)) (150 + j) = true := by decide +kernel
theorem gp_k3142_2 : ∀ j, j < 1 → gp_okE 3142 prog_14_method_71_code (gp_c3142 (300 + j)) (300 + j) = true := by decide +kernel
theorem gp_k3142 {pc : Nat} {e : Instr × Nat} (h : gp_c3142 pc = some e) : gp_Pc 3142 pc e := by
  have hl : pc < 301 := by
    unfold gp_c3142 at h
    exact Nat.blt_eq.mp (gp_cond_none h).1
  by_cases h0 : pc < 150
  · have q := gp_k3142_0 (pc - 0) (by omega)
    rw [show 0 + (pc - 0) = pc by omega] at q
    exact gp_okE_of rfl q h
  by_cases h1 : pc < 300
  · have q := gp_k3142_1 (pc - 150) (by omega)
    rw [show 150 + (pc - 150) = pc by omega] at q
    exact gp_okE_of rfl q h
  have q := gp_k3142_2 (pc - 300) (by omega)
  rw [show 300 + (pc - 300) = pc by omega] at q
  exact gp_okE_of rfl q h
theorem gp_k3143_0 : ∀ j, j < 150 → gp_okE 3143 prog_14_method_72_code (gp_c3143 (0 + j)) (0 + j) = true := by decide +kernel
theorem gp_k3143_1 : ∀ j, j < 44 → gp_okE 3143 prog_14_method_72_code (gp_c3143 (150 + j)) (150 + j) = true := by decide +kernel
theorem gp_k3143 {pc : Nat} {e : Instr × Nat} (h : gp_c3143 pc = some e) : gp_Pc 3143 pc e := by
  have hl : pc < 194 := by
    unfold gp_c3143 at h
    exact Nat.blt_eq.mp (gp_cond_none h).1
  by_cases h0 : pc < 150
  · have q := gp_k3143_0 (pc - 0) (by omega)
    rw [show 0 + (pc - 0) = pc by omega] at q
    exact gp_okE_of rfl q h
  have q := gp_k3143_1 (pc - 150) (by omega)
  rw [show 150 + (pc - 150) = pc by omega] at q
  exact gp_okE_of rfl q h
theorem gp_k3144_0 : ∀ j, j < 150 → gp_okE 3144 prog_14_method_73_code (gp_c3144 (0 + j)) (0 + j) = true := by decide +kernel
theorem gp_k3144_1 : ∀ j, j < 11 → gp_okE 3144 prog_14_method_73_code (gp_c3144 (150 + j)) (150 + j) = true := by decide +kernel
theorem gp_k3144 {pc : Nat} {e : Instr × Nat} (h : gp_c3144 pc = some e) : gp_Pc 3144 pc e := by
  have hl : pc < 161 := by
    unfold gp_c3144 at h
    exact Nat.blt_eq.mp (gp_cond_none h).1
  by_cases h0 : pc < 150
  · have q := gp_k3144_0 (pc - 0) (by omega)
    rw [show 0 + (pc - 0) = pc by omega] at q
    exact gp_okE_of rfl q h
  have q := gp_k3144_1 (pc - 150) (by omega)
  rw [show 150 + (pc - 150) = pc by omega] at q
  exact gp_okE_of rfl q h
theorem gp_k3145_0 : ∀ j, j < 36 → gp_okE 3145 prog_14_method_74_code (gp_c3145 (0 + j)) (0 + j) = true := by decide +kernel
theorem gp_k3145 {pc : Nat} {e : Instr × Nat} (h : gp_c3145 pc = some e) : gp_Pc 3145 pc e := by
  have hl : pc < 36 := by
    unfold gp_c3145 at h
    exact Nat.blt_eq.mp (gp_cond_none h).1
  have q := gp_k3145_0 (pc - 0) (by omega)
  rw [show 0 + (pc - 0) = pc by omega] at q
  exact gp_okE_of rfl q h
theorem gp_k3146_0 : ∀ j, j < 55 → gp_okE 3146 prog_14_method_75_code (gp_c3146 (0 + j)) (0 + j) = true := by decide +kernel
theorem gp_k3146 {pc : Nat} {e : Instr × Nat} (h : gp_c3146 pc = some e) : gp_Pc 3146 pc e := by
  have hl : pc < 55 := by
    unfold gp_c3146 at h
    exact Nat.blt_eq.mp (gp_cond_none h).1
  have q := gp_k3146_0 (pc - 0) (by omega)
  rw [show 0 + (pc - 0) = pc by omega] at q
  exact gp_okE_of rfl q h
theorem gp_k3147_0 : ∀ j, j < 31 → gp_okE 3147 prog_14_method_76_code (gp_c3147 (0 + j)) (0 + j) = true := by decide +kernel
theorem gp_k3147 {pc : Nat} {e : Instr × Nat} (h : gp_c3147 pc = some e) : gp_Pc 3147 pc e := by
  have hl : pc < 31 := by
    unfold gp_c3147 at h
    exact Nat.blt_eq.mp (gp_cond_none h).1
  have q := gp_k3147_0 (pc - 0) (by omega)
  rw [show 0 + (pc - 0) = pc by omega] at q
  exact gp_okE_of rfl q h
theorem gp_k3148_0 : ∀ j, j < 28 → gp_okE 3148 prog_14_method_77_code (gp_c3148 (0 + j)) (0 + j) = true := by decide +kernel
theorem gp_k3148 {pc : Nat} {e : Instr × Nat} (h : gp_c3148 pc = some e) : gp_Pc 3148 pc e := by
  have hl : pc < 28 := by
    unfold gp_c3148 at h
    exact Nat.blt_eq.mp (gp_cond_none h).1
  have q := gp_k3148_0 (pc - 0) (by omega)
  rw [show 0 + (pc - 0) = pc by omega] at q
  exact gp_okE_of rfl q h
theorem gp_k3149_0 : ∀ j, j < 76 → gp_okE 3149 prog_14_method_78_code (gp_c3149 (0 + j)) (0 + j) = true := by decide +kernel
theorem gp_k3149 {pc : Nat} {e : Instr × Nat} (h : gp_c3149 pc = some e) : gp_Pc 3149 pc e := by
  have hl : pc < 76 := by
    unfold gp_c3149 at h
    exact Nat.blt_eq.mp (gp_cond_none h).1
  have q := gp_k3149_0 (pc - 0) (by omega)
  rw [show 0 + (pc - 0) = pc by omega] at q
  exact gp_okE_of rfl q h
theorem gp_k3150_0 : ∀ j, j < 150 → gp_okE 3150 prog_14_method_79_code (gp_c3150 (0 + j)) (0 + j) = true := by decide +kernel
theorem gp_k3150_1 : ∀ j, j < 100 → gp_okE 3150 prog_14_method_79_code (gp_c3150 (150 + j)) (150 + j) = true := by decide +kernel
theorem gp_k3150 {pc : Nat} {e : Instr × Nat} (h : gp_c3150 pc = some e) : gp_Pc 3150 pc e := by
  have hl : pc < 250 := by
    unfold gp_c3150 at h
    exact Nat.blt_eq.mp (gp_cond_none h).1
  by_cases h0 : pc < 150
  · have q := gp_k3150_0 (pc - 0) (by omega)
    rw [show 0 + (pc - 0) = pc by omega] at q
    exact gp_okE_of rfl q h
  have q := gp_k3150_1 (pc - 150) (by omega)
  rw [show 150 + (pc - 150) = pc by omega] at q
  exact gp_okE_of rfl q h
theorem gp_k3151_0 : ∀ j, j < 41 → gp_okE 3151 prog_14_method_80_code (gp_c3151 (0 + j)) (0 + j) = true := by decide +kernel
theorem gp_k3151 {pc : Nat} {e : Instr × Nat} (h : gp_c3151 pc = some e) : gp_Pc 3151 pc e := by
  have hl : pc < 41 := by
    unfold gp_c3151 at h
    exact Nat.blt_eq.mp (gp_cond_none h).1
  have q := gp_k3151_0 (pc - 0) (by omega)
  rw [show 0 + (pc - 0) = pc by omega] at q
  exact gp_okE_of rfl q h
theorem gp_k3152_0 : ∀ j, j < 102 → gp_okE 3152 prog_14_method_81_code (gp_c3152 (0 + j)) (0 + j) = true := by decide +kernel
theorem gp_k3152 {pc : Nat} {e : Instr × Nat} (h : gp_c3152 pc = some e) : gp_Pc 3152 pc e := by
  have hl : pc < 102 := by
    unfold gp_c3152 at h
    exact Nat.blt_eq.mp (gp_cond_none h).1
  have q := gp_k3152_0 (pc - 0) (by omega)
  rw [show 0 + (pc - 0) = pc by omega] at q
  exact gp_okE_of rfl q h
theorem gp_k3153_0 : ∀ j, j < 150 → gp_okE 3153 prog_14_method_82_code (gp_c3153 (0 + j)) (0 + j) = true := by decide +kernel
theorem gp_k3153_1 : ∀ j, j < 27 → gp_okE 3153 prog_14_method_82_code (gp_c3153 (150 + j)) (150 + j) = true := by decide +kernel
theorem gp_k3153 {pc : Nat} {e : Instr × Nat} (h : gp_c3153 pc = some e) : gp_Pc 3153 pc e := by
  have hl : pc < 177 := by
    unfold gp_c3153 at h
    exact Nat.blt_eq.mp (gp_cond_none h).1
  by_cases h0 : pc < 150
  · have q := gp_k3153_0 (pc - 0) (by omega)
    rw [show 0 + (pc - 0) = pc by omega] at q
    exact gp_okE_of rfl q h
  have q := gp_k3153_1 (pc - 150) (by omega)
  rw [show 150 + (pc - 150) = pc by omega] at q
  exact gp_okE_of rfl q h
theorem gp_k3154_0 : ∀ j, j < 45 → gp_okE 3154 prog_14_method_83_code (gp_c3154 (0 + j)) (0 + j) = true := by decide +kernel
theorem gp_k3154 {pc : Nat} {e : Instr × Nat} (h : gp_c3154 pc = some e) : gp_Pc 3154 pc e := by
  have hl : pc < 45 := by
    unfold gp_c3154 at h
    exact Nat.blt_eq.mp (gp_cond_none h).1
  have q := gp_k3154_0 (pc - 0) (by omega)
  rw [show 0 + (pc - 0) = pc by omega] at q
  exact gp_okE_of rfl q h
theorem gp_k3155_0 : ∀ j, j < 27 → gp_okE 3155 prog_14_method_84_code (gp_c3155 (0 + j)) (0 + j) = true := by decide +kernel
theorem gp_k3155 {pc : Nat} {e : Instr × Nat} (h : gp_c3155 pc = some e) : gp_Pc 3155 pc e := by
  have hl : pc < 27 := by
    unfold gp_c3155 at h
    exact Nat.blt_eq.mp (gp_cond_none h).1
  have q := gp_k3155_0 (pc - 0) (by omega)
  rw [show 0 + (pc - 0) = pc by omega] at q
  exact gp_okE_of rfl q h
theorem gp_k3156_0 : ∀ j, j < 116 → gp_okE 3156 prog_14_method_85_code (gp_c3156 (0 + j)) (0 + j) = true := by decide +kernel
theorem gp_k3156 {pc : Nat} {e : Instr × Nat} (h : gp_c3156 pc = some e) : gp_Pc 3156 pc e := by
  have hl : pc < 116 := by
    unfold gp_c3156 at h
    exact Nat.blt_eq.mp (gp_cond_none h).1
  have q := gp_k3156_0 (pc - 0) (by omega)
  rw [show 0 + (pc - 0) = pc by omega] at q
  exact gp_okE_of rfl q h
theorem gp_k3157_0 : ∀ j, j < 13 → gp_okE 3157 prog_14_method_86_code (gp_c3157 (0 + j)) (0 + j) = true := by decide +kernel
theorem gp_k3157 {pc : Nat} {e : Instr × Nat} (h : gp_c3157 pc = some e) : gp_Pc 3157 pc e := by
  have hl : pc < 13 := by
    unfold gp_c3157 at h
    exact Nat.blt_eq.mp (gp_cond_none h).1
  have q := gp_k3157_0 (pc - 0) (by omega)
  rw [show 0 + (pc - 0) = pc by omega] at q
  exact gp_okE_of rfl q h
theorem gp_k3158_0 : ∀ j, j < 150 → gp_okE 3158 prog_14_method_87_code (gp_c3158 (0 + j)) (0 + j) = true := by decide +kernel
theorem gp_k3158_1 : ∀ j, j < 150 → gp_okE 3158 prog_14_method_87_code (gp_c3158 (150 + j)) (150 + j) = true := by decide +kernel
theorem gp_k3158_2 : ∀ j, j < 8 → gp_okE 3158 prog_14_method_87_code (gp_c3158 (300 + j)) (300 + j) = true := by decide +kernel
theorem gp_k3158 {pc : Nat} {e : Instr × Nat} (h : gp_c3158 pc = some e) : gp_Pc 3158 pc e := by
  have hl : pc < 308 := by
    unfold gp_c3158 at h
    exact Nat.blt_eq.mp (gp_cond_none h).1
  by_cases h0 : pc < 150
  · have q := gp_k3158_0 (pc - 0) (by omega)
    rw [show 0 + (pc - 0) = pc by omega] at q
    exact gp_okE_of rfl q h
  by_cases h1 : pc < 300
  · have q := gp_k3158_1 (pc - 150) (by omega)
    rw [show 150 + (pc - 150) = pc by omega] at q
    exact gp_okE_of rfl q h
  have q := gp_k3158_2 (pc - 300) (by omega)
  rw [show 300 + (pc - 300) = pc by omega] at q
  exact gp_okE_of rfl q h
