theorem gp_k3159_0 : ∀ j, j < 63 → gp_okE 3159 prog_14_method_88_code (gp_c3159 (0 + j)) (0 + j) = true := by decide +kernel
theorem gp_k3159 {pc : Nat} {e : Instr × Nat} (h : gp_c3159 pc = some e) : gp_Pc 3159 pc e := by
  have hl : pc < 63 := by
    unfold gp_c3159 at h
    exact Nat.blt_eq.mp (gp_cond_none h).1
  have q := gp_k3159_0 (pc - 0) (by omega)
  rw [show 0 + (pc - 0) = pc by omega] at q
  exact gp_okE_of rfl q h
theorem gp_k3160_0 : ∀ j, j < 66 → gp_okE 3160 prog_14_method_89_code (gp_c3160 (0 + j)) (0 + j) = true := by decide +kernel
theorem gp_k3160 {pc : Nat} {e : Instr × Nat} (h : gp_c3160 pc = some e) : gp_Pc 3160 pc e := by
  have hl : pc < 66 := by
    unfold gp_c3160 at h
    exact Nat.blt_eq.mp (gp_cond_none h).1
  have q := gp_k3160_0 (pc - 0) (by omega)
  rw [show 0 + (pc - 0) = pc by omega] at q
  exact gp_okE_of rfl q h
theorem gp_k3161_0 : ∀ j, j < 150 → gp_okE 3161 prog_14_method_90_code (gp_c3161 (0 + j)) (0 + j) = true := by decide +kernel
theorem gp_k3161_1 : ∀ j, j < 69 → gp_okE 3161 prog_14_method_90_code (gp_c3161 (150 + j)) (150 + j) = true := by decide +kernel
theorem gp_k3161 {pc : Nat} {e : Instr × Nat} (h : gp_c3161 pc = some e) : gp_Pc 3161 pc e := by
  have hl : pc < 219 := by
    unfold gp_c3161 at h
    exact Nat.blt_eq.mp (gp_cond_none h).1
  by_cases h0 : pc < 150
  · have q := gp_k3161_0 (pc - 0) (by omega)
    rw [show 0 + (pc - 0) = pc by omega] at q
    exact gp_okE_of rfl q h
  have q := gp_k3161_1 (pc - 150) (by omega)
  rw [show 150 + (pc - 150) = pc by omega] at q
  exact gp_okE_of rfl q h
theorem gp_k3162_0 : ∀ j, j < 35 → gp_okE 3162 prog_14_method_91_code (gp_c3162 (0 + j)) (0 + j) = true := by decide +kernel
theorem gp_k3162 {pc : Nat} {e : Instr × Nat} (h : gp_c3162 pc = some e) : gp_Pc 3162 pc e := by
  have hl : pc < 35 := by
    unfold gp_c3162 at h
    exact Nat.blt_eq.mp (gp_cond_none h).1
  have q := gp_k3162_0 (pc - 0) (by omega)
  rw [show 0 + (pc - 0) = pc by omega] at q
  exact gp_okE_of rfl q h
theorem gp_k3163_0 : ∀ j, j < 65 → gp_okE 3163 prog_14_method_92_code (gp_c3163 (0 + j)) (0 + j) = true := by decide +kernel
theorem gp_k3163 {pc : Nat} {e : Instr × Nat} (h : gp_c3163 pc = some e) : gp_Pc 3163 pc e := by
  have hl : pc < 65 := by
    unfold gp_c3163 at h
    exact Nat.blt_eq.mp (gp_cond_none h).1
  have q := gp_k3163_0 (pc - 0) (by omega)
  rw [show 0 + (pc - 0) = pc by omega] at q
  exact gp_okE_of rfl q h
theorem gp_k3164_0 : ∀ j, j < 47 → gp_okE 3164 prog_14_method_93_code (gp_c3164 (0 + j)) (0 + j) = true := by decide +kernel
theorem gp_k3164 {pc : Nat} {e : Instr × Nat} (h : gp_c3164 pc = some e) : gp_Pc 3164 pc e := by
  have hl : pc < 47 := by
    unfold gp_c3164 at h
    exact Nat.blt_eq.mp (gp_cond_none h).1
  have q := gp_k3164_0 (pc - 0) (by omega)
  rw [show 0 + (pc - 0) = pc by omega] at q
  exact gp_okE_of rfl q h
theorem gp_k3165_0 : ∀ j, j < 19 → gp_okE 3165 prog_14_method_94_code (gp_c3165 (0 + j)) (0 + j) = true := by decide +kernel
theorem gp_k3165 {pc : Nat} {e : Instr × Nat} (h : gp_c3165 pc = some e) : gp_Pc 3165 pc e := by
  have hl : pc < 19 := by
    unfold gp_c3165 at h
    exact Nat.blt_eq.mp (gp_cond_none h).1
  have q := gp_k3165_0 (pc - 0) (by omega)
  rw [show 0 + (pc - 0) = pc by omega] at q
  exact gp_okE_of rfl q h
theorem gp_k3166_0 : ∀ j, j < 31 → gp_okE 3166 prog_14_method_95_code (gp_c3166 (0 + j)) (0 + j) = true := by decide +kernel
theorem gp_k3166 {pc : Nat} {e : Instr × Nat} (h : gp_c3166 pc = some e) : gp_Pc 3166 pc e := by
  have hl : pc < 31 := by
    unfold gp_c3166 at h
    exact Nat.blt_eq.mp (gp_cond_none h).1
  have q := gp_k3166_0 (pc - 0) (by omega)
  rw [show 0 + (pc - 0) = pc by omega] at q
  exact gp_okE_of rfl q h
theorem gp_k3167_0 : ∀ j, j < 13 → gp_okE 3167 prog_14_method_96_code (gp_c3167 (0 + j)) (0 + j) = true := by decide +kernel
theorem gp_k3167 {pc : Nat} {e : Instr × Nat} (h : gp_c3167 pc = some e) : gp_Pc 3167 pc e := by
  have hl : pc < 13 := by
    unfold gp_c3167 at h
    exact Nat.blt_eq.mp (gp_cond_none h).1
  have q := gp_k3167_0 (pc - 0) (by omega)
  rw [show 0 + (pc - 0) = pc by omega] at q
  exact gp_okE_of rfl q h
theorem gp_k3168_0 : ∀ j, j < 122 → gp_okE 3168 prog_14_method_97_code (gp_c3168 (0 + j)) (0 + j) = true := by decide +kernel
theorem gp_k3168 {pc : Nat} {e : Instr × Nat} (h : gp_c3168 pc = some e) : gp_Pc 3168 pc e := by
  have hl : pc < 122 := by
    unfold gp_c3168 at h
    exact Nat.blt_eq.mp (gp_cond_none h).1
  have q := gp_k3168_0 (pc - 0) (by omega)
  rw [show 0 + (pc - 0) = pc by omega] at q
  exact gp_okE_of rfl q h
theorem gp_k3169_0 : ∀ j, j < 71 → gp_okE 3169 prog_14_method_98_code (gp_c3169 (0 + j)) (0 + j) = true := by decide +kernel
theorem gp_k3169 {pc : Nat} {e : Instr × Nat} (h : gp_c3169 pc = some e) : gp_Pc 3169 pc e := by
  have hl : pc < 71 := by
    unfold gp_c3169 at h
    exact Nat.blt_eq.mp (gp_cond_none h).1
  have q := gp_k3169_0 (pc - 0) (by omega)
  rw [show 0 + (pc - 0) = pc by omega] at q
  exact gp_okE_of rfl q h
theorem gp_k3170_0 : ∀ j, j < 30 → gp_okE 3170 prog_14_method_99_code (gp_c3170 (0 + j)) (0 + j) = true := by decide +kernel
theorem gp_k3170 {pc : Nat} {e : Instr × Nat} (h : gp_c3170 pc = some e) : gp_Pc 3170 pc e := by
  have hl : pc < 30 := by
    unfold gp_c3170 at h
    exact Nat.blt_eq.mp (gp_cond_none h).1
  have q := gp_k3170_0 (pc - 0) (by omega)
  rw [show 0 + (pc - 0) = pc by omega] at q
  exact gp_okE_of rfl q h
theorem gp_k3171_0 : ∀ j, j < 81 → gp_okE 3171 prog_14_method_100_code (gp_c3171 (0 + j)) (0 + j) = true := by decide +kernel
theorem gp_k3171 {pc : Nat} {e : Instr × Nat} (h : gp_c3171 pc = some e) : gp_Pc 3171 pc e := by
  have hl : pc < 81 := by
    unfold gp_c3171 at h
    exact Nat.blt_eq.mp (gp_cond_none h).1
  have q := gp_k3171_0 (pc - 0) (by omega)
  rw [show 0 + (pc - 0) = pc by omega] at q
  exact gp_okE_of rfl q h
theorem gp_k3172_0 : ∀ j, j < 86 → gp_okE 3172 prog_14_method_101_code (gp_c3172 (0 + j)) (0 + j) = true := by decide +kernel
theorem gp_k3172 {pc : Nat} {e : Instr × Nat} (h : gp_c3172 pc = some e) : gp_Pc 3172 pc e := by
  have hl : pc < 86 := by
    unfold gp_c3172 at h
    exact Nat.blt_eq.mp (gp_cond_none h).1
  have q := gp_k3172_0 (pc - 0) (by omega)
  rw [show 0 + (pc - 0) = pc by omega] at q
  exact gp_okE_of rfl q h
theorem gp_k3173_0 : ∀ j, j < 123 → gp_okE 3173 prog_14_method_102_code (gp_c3173 (0 + j)) (0 + j) = true := by decide +kernel
theorem gp_k3173 {pc : Nat} {e : Instr × Nat} (h : gp_c3173 pc = some e) : gp_Pc 3173 pc e := by
  have hl : pc < 123 := by
    unfold gp_c3173 at h
    exact Nat.blt_eq.mp (gp_cond_none h).1
  have q := gp_k3173_0 (pc - 0) (by omega)
  rw [show 0 + (pc - 0) = pc by omega] at q
  exact gp_okE_of rfl q h
theorem gp_k3174_0 : ∀ j, j < 68 → gp_okE 3174 prog_14_method_103_code (gp_c3174 (0 + j)) (0 + j) = true := by decide +kernel
theorem gp_k3174 {pc : Nat} {e : Instr × Nat} (h : gp_c3174 pc = some e) : gp_Pc 3174 pc e := by
  have hl : pc < 68 := by
    unfold gp_c3174 at h
    exact Nat.blt_eq.mp (gp_cond_none h).1
  have q := gp_k3174_0 (pc - 0) (by omega)
  rw [show 0 + (pc - 0) = pc by omega] at q
  exact gp_okE_of rfl q h
theorem gp_k3175_0 : ∀ j, j < 150 → gp_okE 3175 prog_14_method_104_code (gp_c3175 (0 + j)) (0 + j) = true := by decide +kernel
theorem gp_k3175_1 : ∀ j, j < 41 → gp_okE 3175 prog_14_method_104_code (gp_c3175 (150 + j)) (150 + j) = true := by decide +kernel
theorem gp_k3175 {pc : Nat} {e : Instr × Nat} (h : gp_c3175 pc = some e) : gp_Pc 3175 pc e := by
  have hl : pc < 191 := by
    unfold gp_c3175 at h
    exact Nat.blt_eq.mp (gp_cond_none h).1
  by_cases h0 : pc < 150
  · have q := gp_k3175_0 (pc - 0) (by omega)
    rw [show 0 + (pc - 0) = pc by omega] at q
    exact gp_okE_of rfl q h
  have q := gp_k3175_1 (pc - 150) (by omega)
  rw [show 150 + (pc - 150) = pc by omega] at q
  exact gp_okE_of rfl q h
theorem gp_k3176_0 : ∀ j, j < 51 → gp_okE 3176 prog_14_method_105_code (gp_c3176 (0 + j)) (0 + j) = true := by decide +kernel
theorem gp_k3176 {pc : Nat} {e : Instr × Nat} (h : gp_c3176 pc = some e) : gp_Pc 3176 pc e := by
  have hl : pc < 51 := by
    unfold gp_c3176 at h
    exact Nat.blt_eq.mp (gp_cond_none h).1
  have q := gp_k3176_0 (pc - 0) (by omega)
  rw [show 0 + (pc - 0) = pc by omega] at q
  exact gp_okE_of rfl q h
theorem gp_k3177_0 : ∀ j, j < 65 → gp_okE 3177 prog_14_method_106_code (gp_c3177 (0 + j)) (0 + j) = true := by decide +kernel
theorem gp_k3177 {pc : Nat} {e : Instr × Nat} (h : gp_c3177 pc = some e) : gp_Pc 3177 pc e := by
  have hl : pc < 65 := by
    unfold gp_c3177 at h
    exact Nat.blt_eq.mp (gp_cond_none h).1
  have q := gp_k3177_0 (pc - 0) (by omega)
  rw [show 0 + (pc - 0) = pc by omega] at q
  exact gp_okE_of rfl q h
theorem gp_k3178_0 : ∀ j, j < 118 → gp_okE 3178 prog_14_method_107_code (gp_c3178 (0 + j)) (0 + j) = true := by decide +kernel
theorem gp_k3178 {pc : Nat} {e : Instr × Nat} (h : gp_c3178 pc = some e) : gp_Pc 3178 pc e := by
  have hl : pc < 118 := by
    unfold gp_c3178 at h
    exact Nat.blt_eq.mp (gp_cond_none h).1
  have q := gp_k3178_0 (pc - 0) (by omega)
  rw [show 0 + (pc - 0) = pc by omega] at q
  exact gp_okE_of rfl q h
theorem gp_k3179_0 : ∀ j, j < 48 → gp_okE 3179 prog_14_method_108_code (gp_c3179 (0 + j)) (0 + j) = true := by decide +kernel
theorem gp_k3179 {pc : Nat} {e : Instr × Nat} (h : gp_c3179 pc = some e) : gp_Pc 3179 pc e := by
  have hl : pc < 48 := by
    unfold gp_c3179 at h
    exact Nat.blt_eq.mp (gp_cond_none h).1
  have q := gp_k3179_0 (pc - 0) (by omega)
  rw [show 0 + (pc - 0) = pc by omega] at q
  exact gp_okE_of rfl q h
theorem gp_k3180_0 : ∀ j, j < 66 → gp_okE 3180 prog_14_method_109_code (gp_c3180 (0 + j)) (0 + j) = true := by decide +kernel
theorem gp_k3180 {pc : Nat} {e : Instr × Nat} (h : gp_c3180 pc = some e) : gp_Pc 3180 pc e := by
  have hl : pc < 66 := by
    unfold gp_c3180 at h
    exact Nat.blt_eq.mp (gp_cond_none h).1
  have q := gp_k3180_0 (pc - 0) (by omega)
  rw [show 0 + (pc - 0) = pc by omega] at q
  exact gp_okE_of rfl q h
theorem gp_k3181_0 : ∀ j, j < 31 → gp_okE 3181 prog_14_method_110_code (gp_c3181 (0 + j)) (0 + j) = true := by decide +kernel
theorem gp_k3181 {pc : Nat} {e : Instr × Nat} (h : gp_c3181 pc = some e) : gp_Pc 3181 pc e := by
  have hl : pc < 31 := by
    unfold gp_c3181 at h
    exact Nat.blt_eq.mp (gp_cond_none h).1
  have q := gp_k3181_0 (pc - 0) (by omega)
  rw [show 0 + (pc - 0) = pc by omega] at q
  exact gp_okE_of rfl q h
theorem gp_k3182_0 : ∀ j, j < 150 → gp_okE 3182 prog_14_method_111_code (gp_c3182 (0 + j)) (0 + j) = true := by decide +kernel
theorem gp_k3182_1 : ∀ j, j < 40 → gp_okE 3182 prog_14_method_111_code (gp_c3182 (150 + j)) (150 + j) = true := by decide +kernel
theorem gp_k3182 {pc : Nat} {e : Instr × Nat} (h : gp_c3182 pc = some e) : gp_Pc 3182 pc e := by
  have hl : pc < 190 := by
    unfold gp_c3182 at h
    exact Nat.blt_eq.mp (gp_cond_none h).1
  by_cases h0 : pc < 150
  · have q := gp_k3182_0 (pc - 0) (by omega)
    rw [show 0 + (pc - 0) = pc by omega] at q
    exact gp_okE_of rfl q h
  have q := gp_k3182_1 (pc - 150) (by omega)
  rw [show 150 + (pc - 150) = pc by omega] at q
  exact gp_okE_of rfl q h
theorem gp_k3183_0 : ∀ j, j < 111 → gp_okE 3183 prog_14_method_112_code (gp_c3183 (0 + j)) (0 + j) = true := by decide +kernel
theorem gp_k3183 {pc : Nat} {e : Instr × Nat} (h : gp_c3183 pc = some e) : gp_Pc 3183 pc e := by
  have hl : pc < 111 := by
    unfold gp_c3183 at h
    exact Nat.blt_eq.mp (gp_cond_none h).1
  have q := gp_k3183_0 (pc - 0) (by omega)
  rw [show 0 + (pc - 0) = pc by omega] at q
  exact gp_okE_of rfl q h
theorem gp_k3184_0 : ∀ j, j < 12 → gp_okE 3184 prog_14_method_113_code (gp_c3184 (0 + j)) (0 + j) = true := by decide +kernel
theorem gp_k3184 {pc : Nat} {e : Instr × Nat} (h : gp_c3184 pc = some e) : gp_Pc 3184 pc e := by
  have hl : pc < 12 := by
    unfold gp_c3184 at h
    exact Nat.blt_eq.mp (gp_cond_none h).1
  have q := gp_k3184_0 (pc - 0) (by omega)
  rw [show 0 + (pc - 0) = pc by omega] at q
  exact gp_okE_of rfl q h
theorem gp_k3185_0 : ∀ j, j < 27 → gp_okE 3185 prog_14_method_114_code (gp_c3185 (0 + j)) (0 + j) = true := by decide +kernel
theorem gp_k3185 {pc : Nat} {e : Instr × Nat} (h : gp_c3185 pc = some e) : gp_Pc 3185 pc e := by
  have hl : pc < 27 := by
    unfold gp_c3185 at h
    exact Nat.blt_eq.mp (gp_cond_none h).1
  have q := gp_k3185_0 (pc - 0) (by omega)
  rw [show 0 + (pc - 0) = pc by omega] at q
  exact gp_okE_of rfl q h
theorem gp_k3186_0 : ∀ j, j < 46 → gp_okE 3186 prog_14_method_115_code (gp_c3186 (0 + j)) (0 + j) = true := by decide +kernel
theorem gp_k3186 {pc : Nat} {e : Instr × Nat} (h : gp_c3186 pc = some e) : gp_Pc 3186 pc e := by
  have hl : pc < 46 := by
    unfold gp_c3186 at h
    exact Nat.blt_eq.mp (gp_cond_none h).1
  have q := gp_k3186_0 (pc - 0) (by omega)
  rw [show 0 + (pc - 0) = pc by omega] at q
  exact gp_okE_of rfl q h
theorem gp_k3187_0 : ∀ j, j < 49 → gp_okE 3187 prog_14_method_116_code (gp_c3187 (0 + j)) (0 + j) = true := by decide +kernel
theorem gp_k3187 {pc : Nat} {e : Instr × Nat} (h : gp_c3187 pc = some e) : gp_Pc 3187 pc e := by
  have hl : pc < 49 := by
    unfold gp_c3187 at h
    exact Nat.blt_eq.mp (gp_cond_none h).1
  have q := gp_k3187_0 (pc - 0) (by omega)
  rw [show 0 + (pc - 0) = pc by omega] at q
  exact gp_okE_of rfl q h
theorem gp_k3188_0 : ∀ j, j < 105 → gp_okE 3188 prog_14_method_117_code (gp_c3188 (0 + j)) (0 + j) = true := by decide +kernel
theorem gp_k3188 {pc : Nat} {e : Instr × Nat} (h : gp_c3188 pc = some e) : gp_Pc 3188 pc e := by
  have hl : pc < 105 := by
    unfold gp_c3188 at h
    exact Nat.blt_eq.mp (gp_cond_none h).1
  have q := gp_k3188_0 (pc - 0) (by omega)
  rw [show 0 + (pc - 0) = pc by omega] at q
  exact gp_okE_of rfl q h
theorem gp_k3189_0 : ∀ j, j < 27 → gp_okE 3189 prog_14_method_118_code (gp_c3189 (0 + j)) (0 + j) = true := by decide +kernel
theorem gp_k3189 {pc : Nat} {e : Instr × Nat} (h : gp_c3189 pc = some e) : gp_Pc 3189 pc e := by
  have hl : pc < 27 := by
    unfold gp_c3189 at h
    exact Nat.blt_eq.mp (gp_cond_none h).1
  have q := gp_k3189_0 (pc - 0) (by omega)
  rw [show 0 + (pc - 0) = pc by omega] at q
  exact gp_okE_of rfl q h
theorem gp_k3328_0 : ∀ j, j < 20 → gp_okE 3328 prog_15_method_40_code (gp_c3328 (0 + j)) (0 + j) = true := by decide +kernel
theorem gp_k3328 {pc : Nat} {e : Instr × Nat} (h : gp_c3328 pc = some e) : gp_Pc 3328 pc e := by
  have hl : pc < 20 := by
    unfold gp_c3328 at h
    exact Nat.blt_eq.mp (gp_cond_none h).1
  have q := gp_k3328_0 (pc - 0) (by omega)
  rw [show 0 + (pc - 0) = pc by omega] at q
  exact gp_okE_of rfl q h
theorem gp_k3329_0 : ∀ j, j < 80 → gp_okE 3329 prog_15_method_48_code (gp_c3329 (0 + j)) (0 + j) = true := by decide +kernel
theorem gp_k3329 {pc : Nat} {e : Instr × Nat} (h : gp_c3329 pc = some e) : gp_Pc 3329 pc e := by
  have hl : pc < 80 := by
    unfold gp_c3329 at h
    exact Nat.blt_eq.mp (gp_cond_none h).1
  have q := gp_k3329_0 (pc - 0) (by omega)
  rw [show 0 + (pc - 0) = pc by omega] at q
  exact gp_okE_of rfl q h
theorem gp_k3330_0 : ∀ j, j < 53 → gp_okE 3330 prog_15_method_49_code (gp_c3330 (0 + j)) (0 + j) = true := by decide +kernel
theorem gp_k3330 {pc : Nat} {e : Instr × Nat} (h : gp_c3330 pc = some e) : gp_Pc 3330 pc e := by
  have hl : pc < 53 := by
    unfold gp_c3330 at h
    exact Nat.blt_eq.mp (gp_cond_none h).1
  have q := gp_k3330_0 (pc - 0) (by omega)
  rw [show 0 + (pc - 0) = pc by omega] at q
  exact gp_okE_of rfl q h
theorem gp_k3584_0 : ∀ j, j < 26 → gp_okE 3584 prog_16_method_49_code (gp_c3584 (0 + j)) (0 + j) = true := by decide +kernel
theorem gp_k3584 {pc : Nat} {e : Instr × Nat} (h : gp_c3584 pc = some e) : gp_Pc 3584 pc e := by
  have hl : pc < 26 := by
    unfold gp_c3584 at h
    exact Nat.blt_eq.mp (gp_cond_none h).1
  have q := gp_k3584_0 (pc - 0) (by omega)
  rw [show 0 + (pc - 0) = pc by omega] at q
  exact gp_okE_of rfl q h
theorem gp_k3585_0 : ∀ j, j < 61 → gp_okE 3585 prog_16_method_50_code (gp_c3585 (0 + j)) (0 + j) = true := by decide +kernel
theorem gp_k3585 {pc : Nat} {e : Instr × Nat} (h : gp_c3585 pc = some e) : gp_Pc 3585 pc e := by
  have hl : pc < 61 := by
    unfold gp_c3585 at h
    exact Nat.blt_eq.mp (gp_cond_none h).1
  have q := gp_k3585_0 (pc - 0) (by omega)
  rw [show 0 + (pc - 0) = pc by omega] at q
  exact gp_okE_of rfl q h
theorem gp_k3840_0 : ∀ j, j < 11 → gp_okE 3840 prog_17_method_59_code (gp_c3840 (0 + j)) (0 + j) = true := by decide +kernel
theorem gp_k3840 {pc : Nat} {e : Instr × Nat} (h : gp_c3840 pc = some e) : gp_Pc 3840 pc e := by
  have hl : pc < 11 := by
    unfold gp_c3840 at h
    exact Nat.blt_eq.mp (gp_cond_none h).1
  have q := gp_k3840_0 (pc - 0) (by omega)
  rw [show 0 + (pc - 0) = pc by omega] at q
  exact gp_okE_of rfl q h
theorem gp_k3841_0 : ∀ j, j < 11 → gp_okE 3841 prog_17_method_65_code (gp_c3841 (0 + j)) (0 + j) = true := by decide +kernel
theorem gp_k3841 {pc : Nat} {e : Instr × Nat} (h : gp_c3841 pc = some e) : gp_Pc 3841 pc e := by
  have hl : pc < 11 := by
    unfold gp_c3841 at h
    exact Nat.blt_eq.mp (gp_cond_none h).1
  have q := gp_k3841_0 (pc - 0) (by omega)
  rw [show 0 + (pc - 0) = pc by omega] at q
  exact gp_okE_of rfl q h
theorem gp_k3842_0 : ∀ j, j < 11 → gp_okE 3842 prog_17_method_69_code (gp_c3842 (0 + j)) (0 + j) = true := by decide +kernel
theorem gp_k3842 {pc : Nat} {e : Instr × Nat} (h : gp_c3842 pc = some e) : gp_Pc 3842 pc e := by
  have hl : pc < 11 := by
    unfold gp_c3842 at h
    exact Nat.blt_eq.mp (gp_cond_none h).1
  have q := gp_k3842_0 (pc - 0) (by omega)
  rw [show 0 + (pc - 0) = pc by omega] at q
  exact gp_okE_of rfl q h
theorem gp_k4352_0 : ∀ j, j < 150 → gp_okE 4352 code (gp_c4352 (0 + j)) (0 + j) = true := by decide +kernel
theorem gp_k4352_1 : ∀ j, j < 150 → gp_okE 4352 code (gp_c4352 (150 + j)) (150 + j) = true := by decide +kernel
theorem gp_k4352_2 : ∀ j, j < 150 → gp_okE 4352 code (gp_c4352 (300 + j)) (300 + j) = true := by decide +kernel
theorem gp_k4352_3 : ∀ j, j < 150 → gp_okE 4352 code (gp_c4352 (450 + j)) (450 + j) = true := by decide +kernel
theorem gp_k4352_4 : ∀ j, j < 150 → gp_okE 4352 code (gp_c4352 (600 + j)) (600 + j) = true := by decide +kernel
theorem gp_k4352_5 : ∀ j, j < 150 → gp_okE 4352 code (gp_c4352 (750 + j)) (750 + j) = true := by decide +kernel
theorem gp_k4352_6 : ∀ j, j < 150 → gp_okE 4352 code (gp_c4352 (900 + j)) (900 + j) = true := by decide +kernel
theorem gp_k4352_7 : ∀ j, j < 150 → gp_okE 4352 code (gp_c4352 (1050 + j)) (1050 + j) = true := by decide +kernel
theorem gp_k4352_8 : ∀ j, j < 57 → gp_okE 4352 code (gp_c4352 (1200 + j)) (1200 + j) = true := by decide +kernel
theorem gp_k4352 {pc : Nat} {e : Instr × Nat} (h : gp_c4352 pc = some e) : gp_Pc 4352 pc e := by
  have hl : pc < 1257 := by
    unfold gp_c4352 at h
    exact Nat.blt_eq.mp (gp_cond_none h).1
  by_cases h0 : pc < 150
  · have q := gp_k4352_0 (pc - 0) (by omega)
    rw [show 0 + (pc - 0) = pc by omega] at q
    exact gp_okE_of rfl q h
  by_cases h1 : pc < 300
  · have q := gp_k4352_1 (pc - 150) (by omega)
    rw [show 150 + (pc - 150) = pc by omega] at q
    exact gp_okE_of rfl q h
  by_cases h2 : pc < 450
  · have q := gp_k4352_2 (pc - 300) (by omega)
    rw [show 300 + (pc - 300) = pc by omega] at q
    exact gp_okE_of rfl q h
  by_cases h3 : pc < 600
  · have q := gp_k4352_3 (pc - 450) (by omega)
    rw [show 450 + (pc - 450) = pc by omega] at q
    exact gp_okE_of rfl q h
  by_cases h4 : pc < 750
  · have q := gp_k4352_4 (pc - 600) (by omega)
    rw [show 600 + (pc - 600) = pc by omega] at q
    exact gp_okE_of rfl q h
  by_cases h5 : pc < 900
  · have q := gp_k4352_5 (pc - 750) (by omega)
    rw [show 750 + (pc - 750) = pc by omega] at q
    exact gp_okE_of rfl q h
  by_cases h6 : pc < 1050
  · have q := gp_k4352_6 (pc - 900) (by omega)
    rw [show 900 + (pc - 900) = pc by omega] at q
    exact gp_okE_of rfl q h
  by_cases h7 : pc < 1200
  · have q := gp_k4352_7 (pc - 1050) (by omega)
    rw [show 1050 + (pc - 1050) = pc by omega] at q
    exact gp_okE_of rfl q h
  have q := gp_k4352_8 (pc - 1200) (by omega)
  rw [show 1200 + (pc - 1200) = pc by omega] at q
  exact gp_okE_of rfl q h
theorem gp_tlc {y pc k : Nat} {o : Option (Instr × Nat)} {e : Instr × Nat} (hk : o = some e → gp_Pc k pc e) (h : cond (Nat.beq y k) o none = some e) : gp_Pc y pc e := by
  cases q : Nat.beq y k with
  | true =>
    rw [q] at h
    rw [Nat.eq_of_beq_eq_true q]
    exact hk h
  | false => rw [q] at h; cases h
set_option maxRecDepth 20000 in
/-- each instruction of the small machine is what the class file has -/
theorem gp_okCode {y pc : Nat} {e : Instr × Nat} (h : gp_code y pc = some e) : gp_Pc y pc e := by
  revert h
  unfold gp_code
  exact gp_tn (P := fun e => gp_Pc y pc e) (gp_tn (P := fun e => gp_Pc y pc e) (gp_tn (P := fun e => gp_Pc y pc e) (gp_tn (P := fun e => gp_Pc y pc e) (gp_tn (P := fun e => gp_Pc y pc e) (gp_tn (P := fun e => gp_Pc y pc e) (gp_tn (P := fun e => gp_Pc y pc e) (gp_tn (P := fun e => gp_Pc y pc e) (gp_tlc (k := 0) (fun h => gp_k0 h)) (gp_tlc (k := 1) (fun h => gp_k1 h))) (gp_tn (P := fun e => gp_Pc y pc e) (gp_tlc (k := 2) (fun h => gp_k2 h)) (gp_tlc (k := 3) (fun h => gp_k3 h)))) (gp_tn (P := fun e => gp_Pc y pc e) (gp_tn (P := fun e => gp_Pc y pc e) (gp_tlc (k := 4) (fun h => gp_k4 h)) (gp_tlc (k := 5) (fun h => gp_k5 h))) (gp_tn (P := fun e => gp_Pc y pc e) (gp_tlc (k := 6) (fun h => gp_k6 h)) (gp_tlc (k := 7) (fun h => gp_k7 h))))) (gp_tn (P := fun e => gp_Pc y pc e) (gp_tn (P := fun e => gp_Pc y pc e) (gp_tn (P := fun e => gp_Pc y pc e) (gp_tlc (k := 256) (fun h => gp_k256 h)) (gp_tlc (k := 257) (fun h => gp_k257 h))) (gp_tn (P := fun e => gp_Pc y pc e) (gp_tlc (k := 258) (fun h => gp_k258 h)) (gp_tlc (k := 259) (fun h => gp_k259 h)))) (gp_tn (P := fun e => gp_Pc y pc e) (gp_tn (P := fun e => gp_Pc y pc e) (gp_tlc (k := 260) (fun h => gp_k260 h)) (gp_tlc (k := 261) (fun h => gp_k261 h))) (gp_tn (P := fun e => gp_Pc y pc e) (gp_tlc (k := 262) (fun h => gp_k262 h)) (gp_tn (P := fun e => gp_Pc y pc e) (gp_tlc (k := 263) (fun h => gp_k263 h)) (gp_tlc (k := 264) (fun h => gp_k264 h))))))) (gp_tn (P := fun e => gp_Pc y pc e) (gp_tn (P := fun e => gp_Pc y pc e) (gp_tn (P := fun e => gp_Pc y pc e) (gp_tn (P := fun e => gp_Pc y pc e) (gp_tlc (k := 265) (fun h => gp_k265 h)) (gp_tlc (k := 266) (fun h => gp_k266 h))) (gp_tn (P := fun e => gp_Pc y pc e) (gp_tlc (k := 512) (fun h => gp_k512 h)) (gp_tlc (k := 513) (fun h => gp_k513 h)))) (gp_tn (P := fun e => gp_Pc y pc e) (gp_tn (P := fun e => gp_Pc y pc e) (gp_tlc (k := 514) (fun h => gp_k514 h)) (gp_tlc (k := 515) (fun h => gp_k515 h))) (gp_tn (P := fun e => gp_Pc y pc e) (gp_tlc (k := 516) (fun h => gp_k516 h)) (gp_tlc (k := 517) (fun h => gp_k517 h))))) (gp_tn (P := fun e => gp_Pc y pc e) (gp_tn (P := fun e => gp_Pc y pc e) (gp_tn (P := fun e => gp_Pc y pc e) (gp_tlc (k := 768) (fun h => gp_k768 h)) (gp_tlc (k := 769) (fun h => gp_k769 h))) (gp_tn (P := fun e => gp_Pc y pc e) (gp_tlc (k := 770) (fun h => gp_k770 h)) (gp_tlc (k := 771) (fun h => gp_k771 h)))) (gp_tn (P := fun e => gp_Pc y pc e) (gp_tn (P := fun e => gp_Pc y pc e) (gp_tlc (k := 772) (fun h => gp_k772 h)) (gp_tlc (k := 773) (fun h => gp_k773 h))) (gp_tn (P := fun e => gp_Pc y pc e) (gp_tlc (k := 774) (fun h => gp_k774 h)) (gp_tn (P := fun e => gp_Pc y pc e) (gp_tlc (k := 775) (fun h => gp_k775 h)) (gp_tlc (k := 776) (fun h => gp_k776 h)))))))) (gp_tn (P := fun e => gp_Pc y pc e) (gp_tn (P := fun e => gp_Pc y pc e) (gp_tn (P := fun e => gp_Pc y pc e) (gp_tn (P := fun e => gp_Pc y pc e) (gp_tn (P := fun e => gp_Pc y pc e) (gp_tlc (k := 777) (fun h => gp_k777 h)) (gp_tlc (k := 1024) (fun h => gp_k1024 h))) (gp_tn (P := fun e => gp_Pc y pc e) (gp_tlc (k := 1025) (fun h => gp_k1025 h)) (gp_tlc (k := 1026) (fun h => gp_k1026 h)))) (gp_tn (P := fun e => gp_Pc y pc e) (gp_tn (P := fun e => gp_Pc y pc e) (gp_tlc (k := 1027) (fun h => gp_k1027 h)) (gp_tlc (k := 1028) (fun h => gp_k1028 h))) (gp_tn (P := fun e => gp_Pc y pc e) (gp_tlc (k := 1029) (fun h => gp_k1029 h)) (gp_tlc (k := 1030) (fun h => gp_k1030 h))))) (gp_tn (P := fun e => gp_Pc y pc e) (gp_tn (P := fun e => gp_Pc y pc e) (gp_tn (P := fun e => gp_Pc y pc e) (gp_tlc (k := 1031) (fun h => gp_k1031 h)) (gp_tlc (k := 1032) (fun h => gp_k1032 h))) (gp_tn (P := fun e => gp_Pc y pc e) (gp_tlc (k := 1280) (fun h => gp_k1280 h)) (gp_tlc (k := 1281) (fun h => gp_k1281 h)))) (gp_tn (P := fun e => gp_Pc y pc e) (gp_tn (P := fun e => gp_Pc y pc e) (gp_tlc (k := 1282) (fun h => gp_k1282 h)) (gp_tlc (k := 1283) (fun h => gp_k1283 h))) (gp_tn (P := fun e => gp_Pc y pc e) (gp_tlc (k := 1284) (fun h => gp_k1284 h)) (gp_tn (P := fun e => gp_Pc y pc e) (gp_tlc (k := 1285) (fun h => gp_k1285 h)) (gp_tlc (k := 1286) (fun h => gp_k1286 h))))))) (gp_tn (P := fun e => gp_Pc y pc e) (gp_tn (P := fun e => gp_Pc y pc e) (gp_tn (P := fun e => gp_Pc y pc e) (gp_tn (P := fun e => gp_Pc y pc e) (gp_tlc (k := 1287) (fun h => gp_k1287 h)) (gp_tlc (k := 1288) (fun h => gp_k1288 h))) (gp_tn (P := fun e => gp_Pc y pc e) (gp_tlc (k := 1289) (fun h => gp_k1289 h)) (gp_tlc (k := 1290) (fun h => gp_k1290 h)))) (gp_tn (P := fun e => gp_Pc y pc e) (gp_tn (P := fun e => gp_Pc y pc e) (gp_tlc (k := 1291) (fun h => gp_k1291 h)) (gp_tlc (k := 1292) (fun h => gp_k1292 h))) (gp_tn (P := fun e => gp_Pc y pc e) (gp_tlc (k := 1293) (fun h => gp_k1293 h)) (gp_tn (P := fun e => gp_Pc y pc e) (gp_tlc (k := 1294) (fun h => gp_k1294 h)) (gp_tlc (k := 1536) (fun h => gp_k1536 h)))))) (gp_tn (P := fun e => gp_Pc y pc e) (gp_tn (P := fun e => gp_Pc y pc e) (gp_tn (P := fun e => gp_Pc y pc e) (gp_tlc (k := 1537) (fun h => gp_k1537 h)) (gp_tlc (k := 1538) (fun h => gp_k1538 h))) (gp_tn (P := fun e => gp_Pc y pc e) (gp_tlc (k := 1539) (fun h => gp_k1539 h)) (gp_tlc (k := 1540) (fun h => gp_k1540 h)))) (gp_tn (P := fun e => gp_Pc y pc e) (gp_tn (P := fun e => gp_Pc y pc e) (gp_tlc (k := 1541) (fun h => gp_k1541 h)) (gp_tlc (k := 1542) (fun h => gp_k1542 h))) (gp_tn (P := fun e => gp_Pc y pc e) (gp_tlc (k := 1543) (fun h => gp_k1543 h)) (gp_tn (P := fun e => gp_Pc y pc e) (gp_tlc (k := 1792) (fun h => gp_k1792 h)) (gp_tlc (k := 1793) (fun h => gp_k1793 h))))))))) (gp_tn (P := fun e => gp_Pc y pc e) (gp_tn (P := fun e => gp_Pc y pc e) (gp_tn (P := fun e => gp_Pc y pc e) (gp_tn (P := fun e => gp_Pc y pc e) (gp_tn (P := fun e => gp_Pc y pc e) (gp_tn (P := fun e => gp_Pc y pc e) (gp_tlc (k := 1794) (fun h => gp_k1794 h)) (gp_tlc (k := 1795) (fun h => gp_k1795 h))) (gp_tn (P := fun e => gp_Pc y pc e) (gp_tlc (k := 1796) (fun h => gp_k1796 h)) (gp_tlc (k := 1797) (fun h => gp_k1797 h)))) (gp_tn (P := fun e => gp_Pc y pc e) (gp_tn (P := fun e => gp_Pc y pc e) (gp_tlc (k := 1798) (fun h => gp_k1798 h)) (gp_tlc (k := 2048) (fun h => gp_k2048 h))) (gp_tn (P := fun e => gp_Pc y pc e) (gp_tlc (k := 2049) (fun h => gp_k2049 h)) (gp_tlc (k := 2050) (fun h => gp_k2050 h))))) (gp_tn (P := fun e => gp_Pc y pc e) (gp_tn (P := fun e => gp_Pc y pc e) (gp_tn (P := fun e => gp_Pc y pc e) (gp_tlc (k := 2051) (fun h => gp_k2051 h)) (gp_tlc (k := 2052) (fun h => gp_k2052 h))) (gp_tn (P := fun e => gp_Pc y pc e) (gp_tlc (k := 2053) (fun h => gp_k2053 h)) (gp_tlc (k := 2054) (fun h => gp_k2054 h)))) (gp_tn (P := fun e => gp_Pc y pc e) (gp_tn (P := fun e => gp_Pc y pc e) (gp_tlc (k := 2055) (fun h => gp_k2055 h)) (gp_tlc (k := 2056) (fun h => gp_k2056 h))) (gp_tn (P := fun e => gp_Pc y pc e) (gp_tlc (k := 2057) (fun h => gp_k2057 h)) (gp_tn (P := fun e => gp_Pc y pc e) (gp_tlc (k := 2058) (fun h => gp_k2058 h)) (gp_tlc (k := 2059) (fun h => gp_k2059 h))))))) (gp_tn (P := fun e => gp_Pc y pc e) (gp_tn (P := fun e => gp_Pc y pc e) (gp_tn (P := fun e => gp_Pc y pc e) (gp_tn (P := fun e => gp_Pc y pc e) (gp_tlc (k := 2060) (fun h => gp_k2060 h)) (gp_tlc (k := 2061) (fun h => gp_k2061 h))) (gp_tn (P := fun e => gp_Pc y pc e) (gp_tlc (k := 2062) (fun h => gp_k2062 h)) (gp_tlc (k := 2063) (fun h => gp_k2063 h)))) (gp_tn (P := fun e => gp_Pc y pc e) (gp_tn (P := fun e => gp_Pc y pc e) (gp_tlc (k := 2304) (fun h => gp_k2304 h)) (gp_tlc (k := 2305) (fun h => gp_k2305 h))) (gp_tn (P := fun e => gp_Pc y pc e) (gp_tlc (k := 2306) (fun h => gp_k2306 h)) (gp_tlc (k := 2307) (fun h => gp_k2307 h))))) (gp_tn (P := fun e => gp_Pc y pc e) (gp_tn (P := fun e => gp_Pc y pc e) (gp_tn (P := fun e => gp_Pc y pc e) (gp_tlc (k := 2308) (fun h => gp_k2308 h)) (gp_tlc (k := 2309) (fun h => gp_k2309 h))) (gp_tn (P := fun e => gp_Pc y pc e) (gp_tlc (k := 2310) (fun h => gp_k2310 h)) (gp_tlc (k := 2560) (fun h => gp_k2560 h)))) (gp_tn (P := fun e => gp_Pc y pc e) (gp_tn (P := fun e => gp_Pc y pc e) (gp_tlc (k := 2561) (fun h => gp_k2561 h)) (gp_tlc (k := 2562) (fun h => gp_k2562 h))) (gp_tn (P := fun e => gp_Pc y pc e) (gp_tlc (k := 2563) (fun h => gp_k2563 h)) (gp_tn (P := fun e => gp_Pc y pc e) (gp_tlc (k := 2564) (fun h => gp_k2564 h)) (gp_tlc (k := 2816) (fun h => gp_k2816 h)))))))) (gp_tn (P := fun e => gp_Pc y pc e) (gp_tn (P := fun e => gp_Pc y pc e) (gp_tn (P := fun e => gp_Pc y pc e) (gp_tn (P := fun e => gp_Pc y pc e) (gp_tn (P := fun e => gp_Pc y pc e) (gp_tlc (k := 2817) (fun h => gp_k2817 h)) (gp_tlc (k := 2818) (fun h => gp_k2818 h))) (gp_tn (P := fun e => gp_Pc y pc e) (gp_tlc (k := 2819) (fun h => gp_k2819 h)) (gp_tlc (k := 2820) (fun h => gp_k2820 h)))) (gp_tn (P := fun e => gp_Pc y pc e) (gp_tn (P := fun e => gp_Pc y pc e) (gp_tlc (k := 2821) (fun h => gp_k2821 h)) (gp_tlc (k := 2822) (fun h => gp_k2822 h))) (gp_tn (P := fun e => gp_Pc y pc e) (gp_tlc (k := 2823) (fun h => gp_k2823 h)) (gp_tlc (k := 2824) (fun h => gp_k2824 h))))) (gp_tn (P := fun e => gp_Pc y pc e) (gp_tn (P := fun e => gp_Pc y pc e) (gp_tn (P := fun e => gp_Pc y pc e) (gp_tlc (k := 2825) (fun h => gp_k2825 h)) (gp_tlc (k := 2826) (fun h => gp_k2826 h))) (gp_tn (P := fun e => gp_Pc y pc e) (gp_tlc (k := 2827) (fun h => gp_k2827 h)) (gp_tlc (k := 2828) (fun h => gp_k2828 h)))) (gp_tn (P := fun e => gp_Pc y pc e) (gp_tn (P := fun e => gp_Pc y pc e) (gp_tlc (k := 2829) (fun h => gp_k2829 h)) (gp_tlc (k := 2830) (fun h => gp_k2830 h))) (gp_tn (P := fun e => gp_Pc y pc e) (gp_tlc (k := 2831) (fun h => gp_k2831 h)) (gp_tn (P := fun e => gp_Pc y pc e) (gp_tlc (k := 2832) (fun h => gp_k2832 h)) (gp_tlc (k := 2833) (fun h => gp_k2833 h))))))) (gp_tn (P := fun e => gp_Pc y pc e) (gp_tn (P := fun e => gp_Pc y pc e) (gp_tn (P := fun e => gp_Pc y pc e) (gp_tn (P := fun e => gp_Pc y pc e) (gp_tlc (k := 2834) (fun h => gp_k2834 h)) (gp_tlc (k := 2835) (fun h => gp_k2835 h))) (gp_tn (P := fun e => gp_Pc y pc e) (gp_tlc (k := 2836) (fun h => gp_k2836 h)) (gp_tlc (k := 2837) (fun h => gp_k2837 h)))) (gp_tn (P := fun e => gp_Pc y pc e) (gp_tn (P := fun e => gp_Pc y pc e) (gp_tlc (k := 2838) (fun h => gp_k2838 h)) (gp_tlc (k := 2839) (fun h => gp_k2839 h))) (gp_tn (P := fun e => gp_Pc y pc e) (gp_tlc (k := 2840) (fun h => gp_k2840 h)) (gp_tn (P := fun e => gp_Pc y pc e) (gp_tlc (k := 2841) (fun h => gp_k2841 h)) (gp_tlc (k := 2842) (fun h => gp_k2842 h)))))) (gp_tn (P := fun e => gp_Pc y pc e) (gp_tn (P := fun e => gp_Pc y pc e) (gp_tn (P := fun e => gp_Pc y pc e) (gp_tlc (k := 2843) (fun h => gp_k2843 h)) (gp_tlc (k := 2844) (fun h => gp_k2844 h))) (gp_tn (P := fun e => gp_Pc y pc e) (gp_tlc (k := 2845) (fun h => gp_k2845 h)) (gp_tlc (k := 2846) (fun h => gp_k2846 h)))) (gp_tn (P := fun e => gp_Pc y pc e) (gp_tn (P := fun e => gp_Pc y pc e) (gp_tlc (k := 2847) (fun h => gp_k2847 h)) (gp_tlc (k := 2848) (fun h => gp_k2848 h))) (gp_tn (P := fun e => gp_Pc y pc e) (gp_tlc (k := 2849) (fun h => gp_k2849 h)) (gp_tn (P := fun e => gp_Pc y pc e) (gp_tlc (k := 2850) (fun h => gp_k2850 h)) (gp_tlc (k := 2851) (fun h => gp_k2851 h)))))))))) (gp_tn (P := fun e => gp_Pc y pc e) (gp_tn (P := fun e => gp_Pc y pc e) (gp_tn (P := fun e => gp_Pc y pc e) (gp_tn (P := fun e => gp_Pc y pc e) (gp_tn (P := fun e => gp_Pc y pc e) (gp_tn (P := fun e => gp_Pc y pc e) (gp_tn (P := fun e => gp_Pc y pc e) (gp_tlc (k := 2852) (fun h => gp_k2852 h)) (gp_tlc (k := 2853) (fun h => gp_k2853 h))) (gp_tn (P := fun e => gp_Pc y pc e) (gp_tlc (k := 2854) (fun h => gp_k2854 h)) (gp_tlc (k := 2855) (fun h => gp_k2855 h)))) (gp_tn (P := fun e => gp_Pc y pc e) (gp_tn (P := fun e => gp_Pc y pc e) (gp_tlc (k := 2856) (fun h => gp_k2856 h)) (gp_tlc (k := 2857) (fun h => gp_k2857 h))) (gp_tn (P := fun e => gp_Pc y pc e) (gp_tlc (k := 2858) (fun h => gp_k2858 h)) (gp_tlc (k := 2859) (fun h => gp_k2859 h))))) (gp_tn (P := fun e => gp_Pc y pc e) (gp_tn (P := fun e => gp_Pc y pc e) (gp_tn (P := fun e => gp_Pc y pc e) (gp_tlc (k := 2860) (fun h => gp_k2860 h)) (gp_tlc (k := 2861) (fun h => gp_k2861 h))) (gp_tn (P := fun e => gp_Pc y pc e) (gp_tlc (k := 2862) (fun h => gp_k2862 h)) (gp_tlc (k := 2863) (fun h => gp_k2863 h)))) (gp_tn (P := fun e => gp_Pc y pc e) (gp_tn (P := fun e => gp_Pc y pc e) (gp_tlc (k := 3072) (fun h => gp_k3072 h)) (gp_tlc (k := 3073) (fun h => gp_k3073 h))) (gp_tn (P := fun e => gp_Pc y pc e) (gp_tlc (k := 3074) (fun h => gp_k3074 h)) (gp_tn (P := fun e => gp_Pc y pc e) (gp_tlc (k := 3075) (fun h => gp_k3075 h)) (gp_tlc (k := 3076) (fun h => gp_k3076 h))))))) (gp_tn (P := fun e => gp_Pc y pc e) (gp_tn (P := fun e => gp_Pc y pc e) (gp_tn (P := fun e => gp_Pc y pc e) (gp_tn (P := fun e => gp_Pc y pc e) (gp_tlc (k := 3077) (fun h => gp_k3077 h)) (gp_tlc (k := 3078) (fun h => gp_k3078 h))) (gp_tn (P := fun e => gp_Pc y pc e) (gp_tlc (k := 3079) (fun h => gp_k3079 h)) (gp_tlc (k := 3080) (fun h => gp_k3080 h)))) (gp_tn (P := fun e => gp_Pc y pc e) (gp_tn (P := fun e => gp_Pc y pc e) (gp_tlc (k := 3081) (fun h => gp_k3081 h)) (gp_tlc (k := 3082) (fun h => gp_k3082 h))) (gp_tn (P := fun e => gp_Pc y pc e) (gp_tlc (k := 3083) (fun h => gp_k3083 h)) (gp_tlc (k := 3084) (fun h => gp_k3084 h))))) (gp_tn (P := fun e => gp_Pc y pc e) (gp_tn (P := fun e => gp_Pc y pc e) (gp_tn (P := fun e => gp_Pc y pc e) (gp_tlc (k := 3085) (fun h => gp_k3085 h)) (gp_tlc (k := 3086) (fun h => gp_k3086 h))) (gp_tn (P := fun e => gp_Pc y pc e) (gp_tlc (k := 3087) (fun h => gp_k3087 h)) (gp_tlc (k := 3088) (fun h => gp_k3088 h)))) (gp_tn (P := fun e => gp_Pc y pc e) (gp_tn (P := fun e => gp_Pc y pc e) (gp_tlc (k := 3089) (fun h => gp_k3089 h)) (gp_tlc (k := 3090) (fun h => gp_k3090 h))) (gp_tn (P := fun e => gp_Pc y pc e) (gp_tlc (k := 3091) (fun h => gp_k3091 h)) (gp_tn (P := fun e => gp_Pc y pc e) (gp_tlc (k := 3092) (fun h => gp_k3092 h)) (gp_tlc (k := 3093) (fun h => gp_k3093 h)))))))) (gp_tn (P := fun e => gp_Pc y pc e) (gp_tn (P := fun e => gp_Pc y pc e) (gp_tn (P := fun e => gp_Pc y pc e) (gp_tn (P := fun e => gp_Pc y pc e) (gp_tn (P := fun e => gp_Pc y pc e) (gp_tlc (k := 3094) (fun h => gp_k3094 h)) (gp_tlc (k := 3095) (fun h => gp_k3095 h))) (gp_tn (P := fun e => gp_Pc y pc e) (gp_tlc (k := 3096) (fun h => gp_k3096 h)) (gp_tlc (k := 3097) (fun h => gp_k3097 h)))) (gp_tn (P := fun e => gp_Pc y pc e) (gp_tn (P := fun e => gp_Pc y pc e) (gp_tlc (k := 3098) (fun h => gp_k3098 h)) (gp_tlc (k := 3099) (fun h => gp_k3099 h))) (gp_tn (P := fun e => gp_Pc y pc e) (gp_tlc (k := 3100) (fun h => gp_k3100 h)) (gp_tlc (k := 3101) (fun h => gp_k3101 h))))) (gp_tn (P := fun e => gp_Pc y pc e) (gp_tn (P := fun e => gp_Pc y pc e) (gp_tn (P := fun e => gp_Pc y pc e) (gp_tlc (k := 3102) (fun h => gp_k3102 h)) (gp_tlc (k := 3103) (fun h => gp_k3103 h))) (gp_tn (P := fun e => gp_Pc y pc e) (gp_tlc (k := 3104) (fun h => gp_k3104 h)) (gp_tlc (k := 3105) (fun h => gp_k3105 h)))) (gp_tn (P := fun e => gp_Pc y pc e) (gp_tn (P := fun e => gp_Pc y pc e) (gp_tlc (k := 3106) (fun h => gp_k3106 h)) (gp_tlc (k := 3107) (fun h => gp_k3107 h))) (gp_tn (P := fun e => gp_Pc y pc e) (gp_tlc (k := 3108) (fun h => gp_k3108 h)) (gp_tn (P := fun e => gp_Pc y pc e) (gp_tlc (k := 3109) (fun h => gp_k3109 h)) (gp_tlc (k := 3110) (fun h => gp_k3110 h))))))) (gp_tn (P := fun e => gp_Pc y pc e) (gp_tn (P := fun e => gp_Pc y pc e) (gp_tn (P := fun e => gp_Pc y pc e) (gp_tn (P := fun e => gp_Pc y pc e) (gp_tlc (k := 3111) (fun h => gp_k3111 h)) (gp_tlc (k := 3112) (fun h => gp_k3112 h))) (gp_tn (P := fun e => gp_Pc y pc e) (gp_tlc (k := 3113) (fun h => gp_k3113 h)) (gp_tlc (k := 3114) (fun h => gp_k3114 h)))) (gp_tn (P := fun e => gp_Pc y pc e) (gp_tn (P := fun e => gp_Pc y pc e) (gp_tlc (k := 3115) (fun h => gp_k3115 h)) (gp_tlc (k := 3116) (fun h => gp_k3116 h))) (gp_tn (P := fun e => gp_Pc y pc e) (gp_tlc (k := 3117) (fun h => gp_k3117 h)) (gp_tn (P := fun e => gp_Pc y pc e) (gp_tlc (k := 3118) (fun h => gp_k3118 h)) (gp_tlc (k := 3119) (fun h => gp_k3119 h)))))) (gp_tn (P := fun e => gp_Pc y pc e) (gp_tn (P := fun e => gp_Pc y pc e) (gp_tn (P := fun e => gp_Pc y pc e) (gp_tlc (k := 3120) (fun h => gp_k3120 h)) (gp_tlc (k := 3121) (fun h => gp_k3121 h))) (gp_tn (P := fun e => gp_Pc y pc e) (gp_tlc (k := 3122) (fun h => gp_k3122 h)) (gp_tlc (k := 3123) (fun h => gp_k3123 h)))) (gp_tn (P := fun e => gp_Pc y pc e) (gp_tn (P := fun e => gp_Pc y pc e) (gp_tlc (k := 3124) (fun h => gp_k3124 h)) (gp_tlc (k := 3125) (fun h => gp_k3125 h))) (gp_tn (P := fun e => gp_Pc y pc e) (gp_tlc (k := 3126) (fun h => gp_k3126 h)) (gp_tn (P := fun e => gp_Pc y pc e) (gp_tlc (k := 3127) (fun h => gp_k3127 h)) (gp_tlc (k := 3128) (fun h => gp_k3128 h))))))))) (gp_tn (P := fun e => gp_Pc y pc e) (gp_tn (P := fun e => gp_Pc y pc e) (gp_tn (P := fun e => gp_Pc y pc e) (gp_tn (P := fun e => gp_Pc y pc e) (gp_tn (P := fun e => gp_Pc y pc e) (gp_tn (P := fun e => gp_Pc y pc e) (gp_tlc (k := 3129) (fun h => gp_k3129 h)) (gp_tlc (k := 3130) (fun h => gp_k3130 h))) (gp_tn (P := fun e => gp_Pc y pc e) (gp_tlc (k := 3131) (fun h => gp_k3131 h)) (gp_tlc (k := 3132) (fun h => gp_k3132 h)))) (gp_tn (P := fun e => gp_Pc y pc e) (gp_tn (P := fun e => gp_Pc y pc e) (gp_tlc (k := 3133) (fun h => gp_k3133 h)) (gp_tlc (k := 3134) (fun h => gp_k3134 h))) (gp_tn (P := fun e => gp_Pc y pc e) (gp_tlc (k := 3135) (fun h => gp_k3135 h)) (gp_tlc (k := 3136) (fun h => gp_k3136 h))))) (gp_tn (P := fun e => gp_Pc y pc e) (gp_tn (P := fun e => gp_Pc y pc e) (gp_tn (P := fun e => gp_Pc y pc e) (gp_tlc (k := 3137) (fun h => gp_k3137 h)) (gp_tlc (k := 3138) (fun h => gp_k3138 h))) (gp_tn (P := fun e => gp_Pc y pc e) (gp_tlc (k := 3139) (fun h => gp_k3139 h)) (gp_tlc (k := 3140) (fun h => gp_k3140 h)))) (gp_tn (P := fun e => gp_Pc y pc e) (gp_tn (P := fun e => gp_Pc y pc e) (gp_tlc (k := 3141) (fun h => gp_k3141 h)) (gp_tlc (k := 3142) (fun h => gp_k3142 h))) (gp_tn (P := fun e => gp_Pc y pc e) (gp_tlc (k := 3143) (fun h => gp_k3143 h)) (gp_tn (P := fun e => gp_Pc y pc e) (gp_tlc (k := 3144) (fun h => gp_k3144 h)) (gp_tlc (k := 3145) (fun h => gp_k3145 h))))))) (gp_tn (P := fun e => gp_Pc y pc e) (gp_tn (P := fun e => gp_Pc y pc e) (gp_tn (P := fun e => gp_Pc y pc e) (gp_tn (P := fun e => gp_Pc y pc e) (gp_tlc (k := 3146) (fun h => gp_k3146 h)) (gp_tlc (k := 3147) (fun h => gp_k3147 h))) (gp_tn (P := fun e => gp_Pc y pc e) (gp_tlc (k := 3148) (fun h => gp_k3148 h)) (gp_tlc (k := 3149) (fun h => gp_k3149 h)))) (gp_tn (P := fun e => gp_Pc y pc e) (gp_tn (P := fun e => gp_Pc y pc e) (gp_tlc (k := 3150) (fun h => gp_k3150 h)) (gp_tlc (k := 3151) (fun h => gp_k3151 h))) (gp_tn (P := fun e => gp_Pc y pc e) (gp_tlc (k := 3152) (fun h => gp_k3152 h)) (gp_tn (P := fun e => gp_Pc y pc e) (gp_tlc (k := 3153) (fun h => gp_k3153 h)) (gp_tlc (k := 3154) (fun h => gp_k3154 h)))))) (gp_tn (P := fun e => gp_Pc y pc e) (gp_tn (P := fun e => gp_Pc y pc e) (gp_tn (P := fun e => gp_Pc y pc e) (gp_tlc (k := 3155) (fun h => gp_k3155 h)) (gp_tlc (k := 3156) (fun h => gp_k3156 h))) (gp_tn (P := fun e => gp_Pc y pc e) (gp_tlc (k := 3157) (fun h => gp_k3157 h)) (gp_tlc (k := 3158) (fun h => gp_k3158 h)))) (gp_tn (P := fun e => gp_Pc y pc e) (gp_tn (P := fun e => gp_Pc y pc e) (gp_tlc (k := 3159) (fun h => gp_k3159 h)) (gp_tlc (k := 3160) (fun h => gp_k3160 h))) (gp_tn (P := fun e => gp_Pc y pc e) (gp_tlc (k := 3161) (fun h => gp_k3161 h)) (gp_tn (P := fun e => gp_Pc y pc e) (gp_tlc (k := 3162) (fun h => gp_k3162 h)) (gp_tlc (k := 3163) (fun h => gp_k3163 h)))))))) (gp_tn (P := fun e => gp_Pc y pc e) (gp_tn (P := fun e => gp_Pc y pc e) (gp_tn (P := fun e => gp_Pc y pc e) (gp_tn (P := fun e => gp_Pc y pc e) (gp_tn (P := fun e => gp_Pc y pc e) (gp_tlc (k := 3164) (fun h => gp_k3164 h)) (gp_tlc (k := 3165) (fun h => gp_k3165 h))) (gp_tn (P := fun e => gp_Pc y pc e) (gp_tlc (k := 3166) (fun h => gp_k3166 h)) (gp_tlc (k := 3167) (fun h => gp_k3167 h)))) (gp_tn (P := fun e => gp_Pc y pc e) (gp_tn (P := fun e => gp_Pc y pc e) (gp_tlc (k := 3168) (fun h => gp_k3168 h)) (gp_tlc (k := 3169) (fun h => gp_k3169 h))) (gp_tn (P := fun e => gp_Pc y pc e) (gp_tlc (k := 3170) (fun h => gp_k3170 h)) (gp_tlc (k := 3171) (fun h => gp_k3171 h))))) (gp_tn (P := fun e => gp_Pc y pc e) (gp_tn (P := fun e => gp_Pc y pc e) (gp_tn (P := fun e => gp_Pc y pc e) (gp_tlc (k := 3172) (fun h => gp_k3172 h)) (gp_tlc (k := 3173) (fun h => gp_k3173 h))) (gp_tn (P := fun e => gp_Pc y pc e) (gp_tlc (k := 3174) (fun h => gp_k3174 h)) (gp_tlc (k := 3175) (fun h => gp_k3175 h)))) (gp_tn (P := fun e => gp_Pc y pc e) (gp_tn (P := fun e => gp_Pc y pc e) (gp_tlc (k := 3176) (fun h => gp_k3176 h)) (gp_tlc (k := 3177) (fun h => gp_k3177 h))) (gp_tn (P := fun e => gp_Pc y pc e) (gp_tlc (k := 3178) (fun h => gp_k3178 h)) (gp_tn (P := fun e => gp_Pc y pc e) (gp_tlc (k := 3179) (fun h => gp_k3179 h)) (gp_tlc (k := 3180) (fun h => gp_k3180 h))))))) (gp_tn (P := fun e => gp_Pc y pc e) (gp_tn (P := fun e => gp_Pc y pc e) (gp_tn (P := fun e => gp_Pc y pc e) (gp_tn (P := fun e => gp_Pc y pc e) (gp_tlc (k := 3181) (fun h => gp_k3181 h)) (gp_tlc (k := 3182) (fun h => gp_k3182 h))) (gp_tn (P := fun e => gp_Pc y pc e) (gp_tlc (k := 3183) (fun h => gp_k3183 h)) (gp_tlc (k := 3184) (fun h => gp_k3184 h)))) (gp_tn (P := fun e => gp_Pc y pc e) (gp_tn (P := fun e => gp_Pc y pc e) (gp_tlc (k := 3185) (fun h => gp_k3185 h)) (gp_tlc (k := 3186) (fun h => gp_k3186 h))) (gp_tn (P := fun e => gp_Pc y pc e) (gp_tlc (k := 3187) (fun h => gp_k3187 h)) (gp_tn (P := fun e => gp_Pc y pc e) (gp_tlc (k := 3188) (fun h => gp_k3188 h)) (gp_tlc (k := 3189) (fun h => gp_k3189 h)))))) (gp_tn (P := fun e => gp_Pc y pc e) (gp_tn (P := fun e => gp_Pc y pc e) (gp_tn (P := fun e => gp_Pc y pc e) (gp_tlc (k := 3328) (fun h => gp_k3328 h)) (gp_tlc (k := 3329) (fun h => gp_k3329 h))) (gp_tn (P := fun e => gp_Pc y pc e) (gp_tlc (k := 3330) (fun h => gp_k3330 h)) (gp_tlc (k := 3584) (fun h => gp_k3584 h)))) (gp_tn (P := fun e => gp_Pc y pc e) (gp_tn (P := fun e => gp_Pc y pc e) (gp_tlc (k := 3585) (fun h => gp_k3585 h)) (gp_tlc (k := 3840) (fun h => gp_k3840 h))) (gp_tn (P := fun e => gp_Pc y pc e) (gp_tlc (k := 3841) (fun h => gp_k3841 h)) (gp_tn (P := fun e => gp_Pc y pc e) (gp_tlc (k := 3842) (fun h => gp_k3842 h)) (gp_tlc (k := 4352) (fun h => gp_k4352 h))))))))))
