theorem gp_k1538_0 : ∀ j, j < 129 → gp_okE 1538 prog_8_method_3_code (gp_c1538 (0 + j)) (0 + j) = true := by decide +kernel
theorem gp_k1538 {pc : Nat} {e : Instr × Nat} (h : gp_c1538 pc = some e) : gp_Pc 1538 pc e := by
  have hl : pc < 129 := by
    unfold gp_c1538 at h
    exact Nat.blt_eq.mp (gp_cond_none h).1
  have q := gp_k1538_0 (pc - 0) (by omega)
  rw [show 0 + (pc - 0) = pc by omega] at q
  exact gp_okE_of rfl q h
theorem gp_k1539_0 : ∀ j, j < 129 → gp_okE 1539 prog_8_method_4_code (gp_c1539 (0 + j)) (0 + j) = true := by decide +kernel
theorem gp_k1539 {pc : Nat} {e : Instr × Nat} (h : gp_c1539 pc = some e) : gp_Pc 1539 pc e := by
  have hl : pc < 129 := by
    unfold gp_c1539 at h
    exact Nat.blt_eq.mp (gp_cond_none h).1
  have q := gp_k1539_0 (pc - 0) (by omega)
  rw [show 0 + (pc - 0) = pc by omega] at q
  exact gp_okE_of rfl q h
theorem gp_k1540_0 : ∀ j, j < 49 → gp_okE 1540 prog_8_method_5_code (gp_c1540 (0 + j)) (0 + j) = true := by decide +kernel
theorem gp_k1540 {pc : Nat} {e : Instr × Nat} (h : gp_c1540 pc = some e) : gp_Pc 1540 pc e := by
  have hl : pc < 49 := by
    unfold gp_c1540 at h
    exact Nat.blt_eq.mp (gp_cond_none h).1
  have q := gp_k1540_0 (pc - 0) (by omega)
  rw [show 0 + (pc - 0) = pc by omega] at q
  exact gp_okE_of rfl q h
theorem gp_k1541_0 : ∀ j, j < 53 → gp_okE 1541 prog_8_method_6_code (gp_c1541 (0 + j)) (0 + j) = true := by decide +kernel
theorem gp_k1541 {pc : Nat} {e : Instr × Nat} (h : gp_c1541 pc = some e) : gp_Pc 1541 pc e := by
  have hl : pc < 53 := by
    unfold gp_c1541 at h
    exact Nat.blt_eq.mp (gp_cond_none h).1
  have q := gp_k1541_0 (pc - 0) (by omega)
  rw [show 0 + (pc - 0) = pc by omega] at q
  exact gp_okE_of rfl q h
theorem gp_k1542_0 : ∀ j, j < 53 → gp_okE 1542 prog_8_method_7_code (gp_c1542 (0 + j)) (0 + j) = true := by decide +kernel
theorem gp_k1542 {pc : Nat} {e : Instr × Nat} (h : gp_c1542 pc = some e) : gp_Pc 1542 pc e := by
  have hl : pc < 53 := by
    unfold gp_c1542 at h
    exact Nat.blt_eq.mp (gp_cond_none h).1
  have q := gp_k1542_0 (pc - 0) (by omega)
  rw [show 0 + (pc - 0) = pc by omega] at q
  exact gp_okE_of rfl q h
theorem gp_k1543_0 : ∀ j, j < 120 → gp_okE 1543 prog_8_method_8_code (gp_c1543 (0 + j)) (0 + j) = true := by decide +kernel
theorem gp_k1543 {pc : Nat} {e : Instr × Nat} (h : gp_c1543 pc = some e) : gp_Pc 1543 pc e := by
  have hl : pc < 120 := by
    unfold gp_c1543 at h
    exact Nat.blt_eq.mp (gp_cond_none h).1
  have q := gp_k1543_0 (pc - 0) (by omega)
  rw [show 0 + (pc - 0) = pc by omega] at q
  exact gp_okE_of rfl q h
theorem gp_k1792_0 : ∀ j, j < 30 → gp_okE 1792 prog_9_method_1_code (gp_c1792 (0 + j)) (0 + j) = true := by decide +kernel
theorem gp_k1792 {pc : Nat} {e : Instr × Nat} (h : gp_c1792 pc = some e) : gp_Pc 1792 pc e := by
  have hl : pc < 30 := by
    unfold gp_c1792 at h
    exact Nat.blt_eq.mp (gp_cond_none h).1
  have q := gp_k1792_0 (pc - 0) (by omega)
  rw [show 0 + (pc - 0) = pc by omega] at q
  exact gp_okE_of rfl q h
theorem gp_k1793_0 : ∀ j, j < 15 → gp_okE 1793 prog_9_method_2_code (gp_c1793 (0 + j)) (0 + j) = true := by decide +kernel
theorem gp_k1793 {pc : Nat} {e : Instr × Nat} (h : gp_c1793 pc = some e) : gp_Pc 1793 pc e := by
  have hl : pc < 15 := by
    unfold gp_c1793 at h
    exact Nat.blt_eq.mp (gp_cond_none h).1
  have q := gp_k1793_0 (pc - 0) (by omega)
  rw [show 0 + (pc - 0) = pc by omega] at q
  exact gp_okE_of rfl q h
theorem gp_k1794_0 : ∀ j, j < 15 → gp_okE 1794 prog_9_method_3_code (gp_c1794 (0 + j)) (0 + j) = true := by decide +kernel
theorem gp_k1794 {pc : Nat} {e : Instr × Nat} (h : gp_c1794 pc = some e) : gp_Pc 1794 pc e := by
  have hl : pc < 15 := by
    unfold gp_c1794 at h
    exact Nat.blt_eq.mp (gp_cond_none h).1
  have q := gp_k1794_0 (pc - 0) (by omega)
  rw [show 0 + (pc - 0) = pc by omega] at q
  exact gp_okE_of rfl q h
theorem gp_k1795_0 : ∀ j, j < 41 → gp_okE 1795 prog_9_method_4_code (gp_c1795 (0 + j)) (0 + j) = true := by decide +kernel
theorem gp_k1795 {pc : Nat} {e : Instr × Nat} (h : gp_c1795 pc = some e) : gp_Pc 1795 pc e := by
  have hl : pc < 41 := by
    unfold gp_c1795 at h
    exact Nat.blt_eq.mp (gp_cond_none h).1
  have q := gp_k1795_0 (pc - 0) (by omega)
  rw [show 0 + (pc - 0) = pc by omega] at q
  exact gp_okE_of rfl q h
theorem gp_k1796_0 : ∀ j, j < 42 → gp_okE 1796 prog_9_method_5_code (gp_c1796 (0 + j)) (0 + j) = true := by decide +kernel
theorem gp_k1796 {pc : Nat} {e : Instr × Nat} (h : gp_c1796 pc = some e) : gp_Pc 1796 pc e := by
  have hl : pc < 42 := by
    unfold gp_c1796 at h
    exact Nat.blt_eq.mp (gp_cond_none h).1
  have q := gp_k1796_0 (pc - 0) (by omega)
  rw [show 0 + (pc - 0) = pc by omega] at q
  exact gp_okE_of rfl q h
theorem gp_k1797_0 : ∀ j, j < 36 → gp_okE 1797 prog_9_method_6_code (gp_c1797 (0 + j)) (0 + j) = true := by decide +kernel
theorem gp_k1797 {pc : Nat} {e : Instr × Nat} (h : gp_c1797 pc = some e) : gp_Pc 1797 pc e := by
  have hl : pc < 36 := by
    unfold gp_c1797 at h
    exact Nat.blt_eq.mp (gp_cond_none h).1
  have q := gp_k1797_0 (pc - 0) (by omega)
  rw [show 0 + (pc - 0) = pc by omega] at q
  exact gp_okE_of rfl q h
theorem gp_k1798_0 : ∀ j, j < 48 → gp_okE 1798 prog_9_method_7_code (gp_c1798 (0 + j)) (0 + j) = true := by decide +kernel
theorem gp_k1798 {pc : Nat} {e : Instr × Nat} (h : gp_c1798 pc = some e) : gp_Pc 1798 pc e := by
  have hl : pc < 48 := by
    unfold gp_c1798 at h
    exact Nat.blt_eq.mp (gp_cond_none h).1
  have q := gp_k1798_0 (pc - 0) (by omega)
  rw [show 0 + (pc - 0) = pc by omega] at q
  exact gp_okE_of rfl q h
theorem gp_k2048_0 : ∀ j, j < 66 → gp_okE 2048 prog_10_method_1_code (gp_c2048 (0 + j)) (0 + j) = true := by decide +kernel
theorem gp_k2048 {pc : Nat} {e : Instr × Nat} (h : gp_c2048 pc = some e) : gp_Pc 2048 pc e := by
  have hl : pc < 66 := by
    unfold gp_c2048 at h
    exact Nat.blt_eq.mp (gp_cond_none h).1
  have q := gp_k2048_0 (pc - 0) (by omega)
  rw [show 0 + (pc - 0) = pc by omega] at q
  exact gp_okE_of rfl q h
theorem gp_k2049_0 : ∀ j, j < 97 → gp_okE 2049 prog_10_method_2_code (gp_c2049 (0 + j)) (0 + j) = true := by decide +kernel
theorem gp_k2049 {pc : Nat} {e : Instr × Nat} (h : gp_c2049 pc = some e) : gp_Pc 2049 pc e := by
  have hl : pc < 97 := by
    unfold gp_c2049 at h
    exact Nat.blt_eq.mp (gp_cond_none h).1
  have q := gp_k2049_0 (pc - 0) (by omega)
  rw [show 0 + (pc - 0) = pc by omega] at q
  exact gp_okE_of rfl q h
theorem gp_k2050_0 : ∀ j, j < 44 → gp_okE 2050 prog_10_method_3_code (gp_c2050 (0 + j)) (0 + j) = true := by decide +kernel
theorem gp_k2050 {pc : Nat} {e : Instr × Nat} (h : gp_c2050 pc = some e) : gp_Pc 2050 pc e := by
  have hl : pc < 44 := by
    unfold gp_c2050 at h
    exact Nat.blt_eq.mp (gp_cond_none h).1
  have q := gp_k2050_0 (pc - 0) (by omega)
  rw [show 0 + (pc - 0) = pc by omega] at q
  exact gp_okE_of rfl q h
theorem gp_k2051_0 : ∀ j, j < 30 → gp_okE 2051 prog_10_method_4_code (gp_c2051 (0 + j)) (0 + j) = true := by decide +kernel
theorem gp_k2051 {pc : Nat} {e : Instr × Nat} (h : gp_c2051 pc = some e) : gp_Pc 2051 pc e := by
  have hl : pc < 30 := by
    unfold gp_c2051 at h
    exact Nat.blt_eq.mp (gp_cond_none h).1
  have q := gp_k2051_0 (pc - 0) (by omega)
  rw [show 0 + (pc - 0) = pc by omega] at q
  exact gp_okE_of rfl q h
theorem gp_k2052_0 : ∀ j, j < 18 → gp_okE 2052 prog_10_method_5_code (gp_c2052 (0 + j)) (0 + j) = true := by decide +kernel
theorem gp_k2052 {pc : Nat} {e : Instr × Nat} (h : gp_c2052 pc = some e) : gp_Pc 2052 pc e := by
  have hl : pc < 18 := by
    unfold gp_c2052 at h
    exact Nat.blt_eq.mp (gp_cond_none h).1
  have q := gp_k2052_0 (pc - 0) (by omega)
  rw [show 0 + (pc - 0) = pc by omega] at q
  exact gp_okE_of rfl q h
theorem gp_k2053_0 : ∀ j, j < 20 → gp_okE 2053 prog_10_method_6_code (gp_c2053 (0 + j)) (0 + j) = true := by decide +kernel
theorem gp_k2053 {pc : Nat} {e : Instr × Nat} (h : gp_c2053 pc = some e) : gp_Pc 2053 pc e := by
  have hl : pc < 20 := by
    unfold gp_c2053 at h
    exact Nat.blt_eq.mp (gp_cond_none h).1
  have q := gp_k2053_0 (pc - 0) (by omega)
  rw [show 0 + (pc - 0) = pc by omega] at q
  exact gp_okE_of rfl q h
theorem gp_k2054_0 : ∀ j, j < 29 → gp_okE 2054 prog_10_method_7_code (gp_c2054 (0 + j)) (0 + j) = true := by decide +kernel
theorem gp_k2054 {pc : Nat} {e : Instr × Nat} (h : gp_c2054 pc = some e) : gp_Pc 2054 pc e := by
  have hl : pc < 29 := by
    unfold gp_c2054 at h
    exact Nat.blt_eq.mp (gp_cond_none h).1
  have q := gp_k2054_0 (pc - 0) (by omega)
  rw [show 0 + (pc - 0) = pc by omega] at q
  exact gp_okE_of rfl q h
theorem gp_k2055_0 : ∀ j, j < 39 → gp_okE 2055 prog_10_method_8_code (gp_c2055 (0 + j)) (0 + j) = true := by decide +kernel
theorem gp_k2055 {pc : Nat} {e : Instr × Nat} (h : gp_c2055 pc = some e) : gp_Pc 2055 pc e := by
  have hl : pc < 39 := by
    unfold gp_c2055 at h
    exact Nat.blt_eq.mp (gp_cond_none h).1
  have q := gp_k2055_0 (pc - 0) (by omega)
  rw [show 0 + (pc - 0) = pc by omega] at q
  exact gp_okE_of rfl q h
theorem gp_k2056_0 : ∀ j, j < 30 → gp_okE 2056 prog_10_method_9_code (gp_c2056 (0 + j)) (0 + j) = true := by decide +kernel
theorem gp_k2056 {pc : Nat} {e : Instr × Nat} (h : gp_c2056 pc = some e) : gp_Pc 2056 pc e := by
  have hl : pc < 30 := by
    unfold gp_c2056 at h
    exact Nat.blt_eq.mp (gp_cond_none h).1
  have q := gp_k2056_0 (pc - 0) (by omega)
  rw [show 0 + (pc - 0) = pc by omega] at q
  exact gp_okE_of rfl q h
theorem gp_k2057_0 : ∀ j, j < 150 → gp_okE 2057 prog_10_method_10_code (gp_c2057 (0 + j)) (0 + j) = true := by decide +kernel
theorem gp_k2057_1 : ∀ j, j < 10 → gp_okE 2057 prog_10_method_10_code (gp_c2057 (150 + j)) (150 + j) = true := by decide +kernel
theorem gp_k2057 {pc : Nat} {e : Instr × Nat} (h : gp_c2057 pc = some e) : gp_Pc 2057 pc e := by
  have hl : pc < 160 := by
    unfold gp_c2057 at h
    exact Nat.blt_eq.mp (gp_cond_none h).1
  by_cases h0 : pc < 150
  · have q := gp_k2057_0 (pc - 0) (by omega)
    rw [show 0 + (pc - 0) = pc by omega] at q
    exact gp_okE_of rfl q h
  have q := gp_k2057_1 (pc - 150) (by omega)
  rw [show 150 + (pc - 150) = pc by omega] at q
  exact gp_okE_of rfl q h
theorem gp_k2058_0 : ∀ j, j < 71 → gp_okE 2058 prog_10_method_11_code (gp_c2058 (0 + j)) (0 + j) = true := by decide +kernel
theorem gp_k2058 {pc : Nat} {e : Instr × Nat} (h : gp_c2058 pc = some e) : gp_Pc 2058 pc e := by
  have hl : pc < 71 := by
    unfold gp_c2058 at h
    exact Nat.blt_eq.mp (gp_cond_none h).1
  have q := gp_k2058_0 (pc - 0) (by omega)
  rw [show 0 + (pc - 0) = pc by omega] at q
  exact gp_okE_of rfl q h
theorem gp_k2059_0 : ∀ j, j < 41 → gp_okE 2059 prog_10_method_12_code (gp_c2059 (0 + j)) (0 + j) = true := by decide +kernel
theorem gp_k2059 {pc : Nat} {e : Instr × Nat} (h : gp_c2059 pc = some e) : gp_Pc 2059 pc e := by
  have hl : pc < 41 := by
    unfold gp_c2059 at h
    exact Nat.blt_eq.mp (gp_cond_none h).1
  have q := gp_k2059_0 (pc - 0) (by omega)
  rw [show 0 + (pc - 0) = pc by omega] at q
  exact gp_okE_of rfl q h
theorem gp_k2060_0 : ∀ j, j < 132 → gp_okE 2060 prog_10_method_13_code (gp_c2060 (0 + j)) (0 + j) = true := by decide +kernel
theorem gp_k2060 {pc : Nat} {e : Instr × Nat} (h : gp_c2060 pc = some e) : gp_Pc 2060 pc e := by
  have hl : pc < 132 := by
    unfold gp_c2060 at h
    exact Nat.blt_eq.mp (gp_cond_none h).1
  have q := gp_k2060_0 (pc - 0) (by omega)
  rw [show 0 + (pc - 0) = pc by omega] at q
  exact gp_okE_of rfl q h
theorem gp_k2061_0 : ∀ j, j < 150 → gp_okE 2061 prog_10_method_14_code (gp_c2061 (0 + j)) (0 + j) = true := by decide +kernel
theorem gp_k2061_1 : ∀ j, j < 121 → gp_okE 2061 prog_10_method_14_code (gp_c2061 (150 + j)) (150 + j) = true := by decide +kernel
theorem gp_k2061 {pc : Nat} {e : Instr × Nat} (h : gp_c2061 pc = some e) : gp_Pc 2061 pc e := by
  have hl : pc < 271 := by
    unfold gp_c2061 at h
    exact Nat.blt_eq.mp (gp_cond_none h).1
  by_cases h0 : pc < 150
  · have q := gp_k2061_0 (pc - 0) (by omega)
    rw [show 0 + (pc - 0) = pc by omega] at q
    exact gp_okE_of rfl q h
  have q := gp_k2061_1 (pc - 150) (by omega)
  rw [show 150 + (pc - 150) = pc by omega] at q
  exact gp_okE_of rfl q h
theorem gp_k2062_0 : ∀ j, j < 84 → gp_okE 2062 prog_10_method_15_code (gp_c2062 (0 + j)) (0 + j) = true := by decide +kernel
theorem gp_k2062 {pc : Nat} {e : Instr × Nat} (h : gp_c2062 pc = some e) : gp_Pc 2062 pc e := by
  have hl : pc < 84 := by
    unfold gp_c2062 at h
    exact Nat.blt_eq.mp (gp_cond_none h).1
  have q := gp_k2062_0 (pc - 0) (by omega)
  rw [show 0 + (pc - 0) = pc by omega] at q
  exact gp_okE_of rfl q h
theorem gp_k2063_0 : ∀ j, j < 150 → gp_okE 2063 prog_10_method_16_code (gp_c2063 (0 + j)) (0 + j) = true := by decide +kernel
theorem gp_k2063_1 : ∀ j, j < 32 → gp_okE 2063 prog_10_method_16_code (gp_c2063 (150 + j)) (150 + j) = true := by decide +kernel
theorem gp_k2063 {pc : Nat} {e : Instr × Nat} (h : gp_c2063 pc = some e) : gp_Pc 2063 pc e := by
  have hl : pc < 182 := by
    unfold gp_c2063 at h
    exact Nat.blt_eq.mp (gp_cond_none h).1
  by_cases h0 : pc < 150
  · have q := gp_k2063_0 (pc - 0) (by omega)
    rw [show 0 + (pc - 0) = pc by omega] at q
    exact gp_okE_of rfl q h
  have q := gp_k2063_1 (pc - 150) (by omega)
  rw [show 150 + (pc - 150) = pc by omega] at q
  exact gp_okE_of rfl q h
theorem gp_k2304_0 : ∀ j, j < 45 → gp_okE 2304 prog_11_method_1_code (gp_c2304 (0 + j)) (0 + j) = true := by decide +kernel
theorem gp_k2304 {pc : Nat} {e : Instr × Nat} (h : gp_c2304 pc = some e) : gp_Pc 2304 pc e := by
  have hl : pc < 45 := by
    unfold gp_c2304 at h
    exact Nat.blt_eq.mp (gp_cond_none h).1
  have q := gp_k2304_0 (pc - 0) (by omega)
  rw [show 0 + (pc - 0) = pc by omega] at q
  exact gp_okE_of rfl q h
theorem gp_k2305_0 : ∀ j, j < 41 → gp_okE 2305 prog_11_method_2_code (gp_c2305 (0 + j)) (0 + j) = true := by decide +kernel
theorem gp_k2305 {pc : Nat} {e : Instr × Nat} (h : gp_c2305 pc = some e) : gp_Pc 2305 pc e := by
  have hl : pc < 41 := by
    unfold gp_c2305 at h
    exact Nat.blt_eq.mp (gp_cond_none h).1
  have q := gp_k2305_0 (pc - 0) (by omega)
  rw [show 0 + (pc - 0) = pc by omega] at q
  exact gp_okE_of rfl q h
theorem gp_k2306_0 : ∀ j, j < 7 → gp_okE 2306 prog_11_method_3_code (gp_c2306 (0 + j)) (0 + j) = true := by decide +kernel
theorem gp_k2306 {pc : Nat} {e : Instr × Nat} (h : gp_c2306 pc = some e) : gp_Pc 2306 pc e := by
  have hl : pc < 7 := by
    unfold gp_c2306 at h
    exact Nat.blt_eq.mp (gp_cond_none h).1
  have q := gp_k2306_0 (pc - 0) (by omega)
  rw [show 0 + (pc - 0) = pc by omega] at q
  exact gp_okE_of rfl q h
theorem gp_k2307_0 : ∀ j, j < 20 → gp_okE 2307 prog_11_method_4_code (gp_c2307 (0 + j)) (0 + j) = true := by decide +kernel
theorem gp_k2307 {pc : Nat} {e : Instr × Nat} (h : gp_c2307 pc = some e) : gp_Pc 2307 pc e := by
  have hl : pc < 20 := by
    unfold gp_c2307 at h
    exact Nat.blt_eq.mp (gp_cond_none h).1
  have q := gp_k2307_0 (pc - 0) (by omega)
  rw [show 0 + (pc - 0) = pc by omega] at q
  exact gp_okE_of rfl q h
theorem gp_k2308_0 : ∀ j, j < 20 → gp_okE 2308 prog_11_method_5_code (gp_c2308 (0 + j)) (0 + j) = true := by decide +kernel
theorem gp_k2308 {pc : Nat} {e : Instr × Nat} (h : gp_c2308 pc = some e) : gp_Pc 2308 pc e := by
  have hl : pc < 20 := by
    unfold gp_c2308 at h
    exact Nat.blt_eq.mp (gp_cond_none h).1
  have q := gp_k2308_0 (pc - 0) (by omega)
  rw [show 0 + (pc - 0) = pc by omega] at q
  exact gp_okE_of rfl q h
theorem gp_k2309_0 : ∀ j, j < 47 → gp_okE 2309 prog_11_method_6_code (gp_c2309 (0 + j)) (0 + j) = true := by decide +kernel
theorem gp_k2309 {pc : Nat} {e : Instr × Nat} (h : gp_c2309 pc = some e) : gp_Pc 2309 pc e := by
  have hl : pc < 47 := by
    unfold gp_c2309 at h
    exact Nat.blt_eq.mp (gp_cond_none h).1
  have q := gp_k2309_0 (pc - 0) (by omega)
  rw [show 0 + (pc - 0) = pc by omega] at q
  exact gp_okE_of rfl q h
theorem gp_k2310_0 : ∀ j, j < 48 → gp_okE 2310 prog_11_method_7_code (gp_c2310 (0 + j)) (0 + j) = true := by decide +kernel
theorem gp_k2310 {pc : Nat} {e : Instr × Nat} (h : gp_c2310 pc = some e) : gp_Pc 2310 pc e := by
  have hl : pc < 48 := by
    unfold gp_c2310 at h
    exact Nat.blt_eq.mp (gp_cond_none h).1
  have q := gp_k2310_0 (pc - 0) (by omega)
  rw [show 0 + (pc - 0) = pc by omega] at q
  exact gp_okE_of rfl q h
theorem gp_k2560_0 : ∀ j, j < 27 → gp_okE 2560 prog_12_method_1_code (gp_c2560 (0 + j)) (0 + j) = true := by decide +kernel
theorem gp_k2560 {pc : Nat} {e : Instr × Nat} (h : gp_c2560 pc = some e) : gp_Pc 2560 pc e := by
  have hl : pc < 27 := by
    unfold gp_c2560 at h
    exact Nat.blt_eq.mp (gp_cond_none h).1
  have q := gp_k2560_0 (pc - 0) (by omega)
  rw [show 0 + (pc - 0) = pc by omega] at q
  exact gp_okE_of rfl q h
theorem gp_k2561_0 : ∀ j, j < 76 → gp_okE 2561 prog_12_method_2_code (gp_c2561 (0 + j)) (0 + j) = true := by decide +kernel
theorem gp_k2561 {pc : Nat} {e : Instr × Nat} (h : gp_c2561 pc = some e) : gp_Pc 2561 pc e := by
  have hl : pc < 76 := by
    unfold gp_c2561 at h
    exact Nat.blt_eq.mp (gp_cond_none h).1
  have q := gp_k2561_0 (pc - 0) (by omega)
  rw [show 0 + (pc - 0) = pc by omega] at q
  exact gp_okE_of rfl q h
theorem gp_k2562_0 : ∀ j, j < 112 → gp_okE 2562 prog_12_method_3_code (gp_c2562 (0 + j)) (0 + j) = true := by decide +kernel
theorem gp_k2562 {pc : Nat} {e : Instr × Nat} (h : gp_c2562 pc = some e) : gp_Pc 2562 pc e := by
  have hl : pc < 112 := by
    unfold gp_c2562 at h
    exact Nat.blt_eq.mp (gp_cond_none h).1
  have q := gp_k2562_0 (pc - 0) (by omega)
  rw [show 0 + (pc - 0) = pc by omega] at q
  exact gp_okE_of rfl q h
theorem gp_k2563_0 : ∀ j, j < 150 → gp_okE 2563 prog_12_method_4_code (gp_c2563 (0 + j)) (0 + j) = true := by decide +kernel
theorem gp_k2563_1 : ∀ j, j < 115 → gp_okE 2563 prog_12_method_4_code (gp_c2563 (150 + j)) (150 + j) = true := by decide +kernel
theorem gp_k2563 {pc : Nat} {e : Instr × Nat} (h : gp_c2563 pc = some e) : gp_Pc 2563 pc e := by
  have hl : pc < 265 := by
    unfold gp_c2563 at h
    exact Nat.blt_eq.mp (gp_cond_none h).1
  by_cases h0 : pc < 150
  · have q := gp_k2563_0 (pc - 0) (by omega)
    rw [show 0 + (pc - 0) = pc by omega] at q
    exact gp_okE_of rfl q h
  have q := gp_k2563_1 (pc - 150) (by omega)
  rw [show 150 + (pc - 150) = pc by omega] at q
  exact gp_okE_of rfl q h
theorem gp_k2564_0 : ∀ j, j < 77 → gp_okE 2564 prog_12_method_5_code (gp_c2564 (0 + j)) (0 + j) = true := by decide +kernel
theorem gp_k2564 {pc : Nat} {e : Instr × Nat} (h : gp_c2564 pc = some e) : gp_Pc 2564 pc e := by
  have hl : pc < 77 := by
    unfold gp_c2564 at h
    exact Nat.blt_eq.mp (gp_cond_none h).1
  have q := gp_k2564_0 (pc - 0) (by omega)
  rw [show 0 + (pc - 0) = pc by omega] at q
  exact gp_okE_of rfl q h
theorem gp_k2816_0 : ∀ j, j < 150 → gp_okE 2816 prog_1_method_1_code (gp_c2816 (0 + j)) (0 + j) = true := by decide +kernel
theorem gp_k2816_1 : ∀ j, j < 67 → gp_okE 2816 prog_1_method_1_code (gp_c2816 (150 + j)) (150 + j) = true := by decide +kernel
theorem gp_k2816 {pc : Nat} {e : Instr × Nat} (h : gp_c2816 pc = some e) : gp_Pc 2816 pc e := by
  have hl : pc < 217 := by
    unfold gp_c2816 at h
    exact Nat.blt_eq.mp (gp_cond_none h).1
  by_cases h0 : pc < 150
  · have q := gp_k2816_0 (pc - 0) (by omega)
    rw [show 0 + (pc - 0) = pc by omega] at q
    exact gp_okE_of rfl q h
  have q := gp_k2816_1 (pc - 150) (by omega)
  rw [show 150 + (pc - 150) = pc by omega] at q
  exact gp_okE_of rfl q h
theorem gp_k2817_0 : ∀ j, j < 85 → gp_okE 2817 prog_1_method_2_code (gp_c2817 (0 + j)) (0 + j) = true := by decide +kernel
theorem gp_k2817 {pc : Nat} {e : Instr × Nat} (h : gp_c2817 pc = some e) : gp_Pc 2817 pc e := by
  have hl : pc < 85 := by
    unfold gp_c2817 at h
    exact Nat.blt_eq.mp (gp_cond_none h).1
  have q := gp_k2817_0 (pc - 0) (by omega)
  rw [show 0 + (pc - 0) = pc by omega] at q
  exact gp_okE_of rfl q h
theorem gp_k2818_0 : ∀ j, j < 84 → gp_okE 2818 prog_1_method_3_code (gp_c2818 (0 + j)) (0 + j) = true := by decide +kernel
theorem gp_k2818 {pc : Nat} {e : Instr × Nat} (h : gp_c2818 pc = some e) : gp_Pc 2818 pc e := by
  have hl : pc < 84 := by
    unfold gp_c2818 at h
    exact Nat.blt_eq.mp (gp_cond_none h).1
  have q := gp_k2818_0 (pc - 0) (by omega)
  rw [show 0 + (pc - 0) = pc by omega] at q
  exact gp_okE_of rfl q h
theorem gp_k2819_0 : ∀ j, j < 84 → gp_okE 2819 prog_1_method_4_code (gp_c2819 (0 + j)) (0 + j) = true := by decide +kernel
theorem gp_k2819 {pc : Nat} {e : Instr × Nat} (h : gp_c2819 pc = some e) : gp_Pc 2819 pc e := by
  have hl : pc < 84 := by
    unfold gp_c2819 at h
    exact Nat.blt_eq.mp (gp_cond_none h).1
  have q := gp_k2819_0 (pc - 0) (by omega)
  rw [show 0 + (pc - 0) = pc by omega] at q
  exact gp_okE_of rfl q h
theorem gp_k2820_0 : ∀ j, j < 102 → gp_okE 2820 prog_1_method_5_code (gp_c2820 (0 + j)) (0 + j) = true := by decide +kernel
theorem gp_k2820 {pc : Nat} {e : Instr × Nat} (h : gp_c2820 pc = some e) : gp_Pc 2820 pc e := by
  have hl : pc < 102 := by
    unfold gp_c2820 at h
    exact Nat.blt_eq.mp (gp_cond_none h).1
  have q := gp_k2820_0 (pc - 0) (by omega)
  rw [show 0 + (pc - 0) = pc by omega] at q
  exact gp_okE_of rfl q h
theorem gp_k2821_0 : ∀ j, j < 37 → gp_okE 2821 prog_1_method_6_code (gp_c2821 (0 + j)) (0 + j) = true := by decide +kernel
theorem gp_k2821 {pc : Nat} {e : Instr × Nat} (h : gp_c2821 pc = some e) : gp_Pc 2821 pc e := by
  have hl : pc < 37 := by
    unfold gp_c2821 at h
    exact Nat.blt_eq.mp (gp_cond_none h).1
  have q := gp_k2821_0 (pc - 0) (by omega)
  rw [show 0 + (pc - 0) = pc by omega] at q
  exact gp_okE_of rfl q h
theorem gp_k2822_0 : ∀ j, j < 82 → gp_okE 2822 prog_1_method_7_code (gp_c2822 (0 + j)) (0 + j) = true := by decide +kernel
theorem gp_k2822 {pc : Nat} {e : Instr × Nat} (h : gp_c2822 pc = some e) : gp_Pc 2822 pc e := by
  have hl : pc < 82 := by
    unfold gp_c2822 at h
    exact Nat.blt_eq.mp (gp_cond_none h).1
  have q := gp_k2822_0 (pc - 0) (by omega)
  rw [show 0 + (pc - 0) = pc by omega] at q
  exact gp_okE_of rfl q h
theorem gp_k2823_0 : ∀ j, j < 39 → gp_okE 2823 prog_1_method_8_code (gp_c2823 (0 + j)) (0 + j) = true := by decide +kernel
theorem gp_k2823 {pc : Nat} {e : Instr × Nat} (h : gp_c2823 pc = some e) : gp_Pc 2823 pc e := by
  have hl : pc < 39 := by
    unfold gp_c2823 at h
    exact Nat.blt_eq.mp (gp_cond_none h).1
  have q := gp_k2823_0 (pc - 0) (by omega)
  rw [show 0 + (pc - 0) = pc by omega] at q
  exact gp_okE_of rfl q h
theorem gp_k2824_0 : ∀ j, j < 90 → gp_okE 2824 prog_1_method_9_code (gp_c2824 (0 + j)) (0 + j) = true := by decide +kernel
theorem gp_k2824 {pc : Nat} {e : Instr × Nat} (h : gp_c2824 pc = some e) : gp_Pc 2824 pc e := by
  have hl : pc < 90 := by
    unfold gp_c2824 at h
    exact Nat.blt_eq.mp (gp_cond_none h).1
  have q := gp_k2824_0 (pc - 0) (by omega)
  rw [show 0 + (pc - 0) = pc by omega] at q
  exact gp_okE_of rfl q h
theorem gp_k2825_0 : ∀ j, j < 150 → gp_okE 2825 prog_1_method_10_code (gp_c2825 (0 + j)) (0 + j) = true := by decide +kernel
theorem gp_k2825_1 : ∀ j, j < 89 → gp_okE 2825 prog_1_method_10_code (gp_c2825 (150 + j)) (150 + j) = true := by decide +kernel
theorem gp_k2825 {pc : Nat} {e : Instr × Nat} (h : gp_c2825 pc = some e) : gp_Pc 2825 pc e := by
  have hl : pc < 239 := by
    unfold gp_c2825 at h
    exact Nat.blt_eq.mp (gp_cond_none h).1
  by_cases h0 : pc < 150
  · have q := gp_k2825_0 (pc - 0) (by omega)
    rw [show 0 + (pc - 0) = pc by omega] at q
    exact gp_okE_of rfl q h
  have q := gp_k2825_1 (pc - 150) (by omega)
  rw [show 150 + (pc - 150) = pc by omega] at q
  exact gp_okE_of rfl q h
theorem gp_k2826_0 : ∀ j, j < 68 → gp_okE 2826 prog_1_method_11_code (gp_c2826 (0 + j)) (0 + j) = true := by decide +kernel
theorem gp_k2826 {pc : Nat} {e : Instr × Nat} (h : gp_c2826 pc = some e) : gp_Pc 2826 pc e := by
  have hl : pc < 68 := by
    unfold gp_c2826 at h
    exact Nat.blt_eq.mp (gp_cond_none h).1
  have q := gp_k2826_0 (pc - 0) (by omega)
  rw [show 0 + (pc - 0) = pc by omega] at q
  exact gp_okE_of rfl q h
theorem gp_k2827_0 : ∀ j, j < 40 → gp_okE 2827 prog_1_method_12_code (gp_c2827 (0 + j)) (0 + j) = true := by decide +kernel
theorem gp_k2827 {pc : Nat} {e : Instr × Nat} (h : gp_c2827 pc = some e) : gp_Pc 2827 pc e := by
  have hl : pc < 40 := by
    unfold gp_c2827 at h
    exact Nat.blt_eq.mp (gp_cond_none h).1
  have q := gp_k2827_0 (pc - 0) (by omega)
  rw [show 0 + (pc - 0) = pc by omega] at q
  exact gp_okE_of rfl q h
theorem gp_k2828_0 : ∀ j, j < 110 → gp_okE 2828 prog_1_method_13_code (gp_c2828 (0 + j)) (0 + j) = true := by decide +kernel
theorem gp_k2828 {pc : Nat} {e : Instr × Nat} (h : gp_c2828 pc = some e) : gp_Pc 2828 pc e := by
  have hl : pc < 110 := by
    unfold gp_c2828 at h
    exact Nat.blt_eq.mp (gp_cond_none h).1
  have q := gp_k2828_0 (pc - 0) (by omega)
  rw [show 0 + (pc - 0) = pc by omega] at q
  exact gp_okE_of rfl q h
theorem gp_k2829_0 : ∀ j, j < 26 → gp_okE 2829 prog_1_method_14_code (gp_c2829 (0 + j)) (0 + j) = true := by decide +kernel
theorem gp_k2829 {pc : Nat} {e : Instr × Nat} (h : gp_c2829 pc = some e) : gp_Pc 2829 pc e := by
  have hl : pc < 26 := by
    unfold gp_c2829 at h
    exact Nat.blt_eq.mp (gp_cond_none h).1
  have q := gp_k2829_0 (pc - 0) (by omega)
  rw [show 0 + (pc - 0) = pc by omega] at q
  exact gp_okE_of rfl q h
theorem gp_k2830_0 : ∀ j, j < 150 → gp_okE 2830 prog_1_method_15_code (gp_c2830 (0 + j)) (0 + j) = true := by decide +kernel
theorem gp_k2830_1 : ∀ j, j < 30 → gp_okE 2830 prog_1_method_15_code (gp_c2830 (150 + j)) (150 + j) = true := by decide +kernel
theorem gp_k2830 {pc : Nat} {e : Instr × Nat} (h : gp_c2830 pc = some e) : gp_Pc 2830 pc e := by
  have hl : pc < 180 := by
    unfold gp_c2830 at h
    exact Nat.blt_eq.mp (gp_cond_none h).1
  by_cases h0 : pc < 150
  · have q := gp_k2830_0 (pc - 0) (by omega)
    rw [show 0 + (pc - 0) = pc by omega] at q
    exact gp_okE_of rfl q h
  have q := gp_k2830_1 (pc - 150) (by omega)
  rw [show 150 + (pc - 150) = pc by omega] at q
  exact gp_okE_of rfl q h
theorem gp_k2831_0 : ∀ j, j < 61 → gp_okE 2831 prog_1_method_16_code (gp_c2831 (0 + j)) (0 + j) = true := by decide +kernel
theorem gp_k2831 {pc : Nat} {e : Instr × Nat} (h : gp_c2831 pc = some e) : gp_Pc 2831 pc e := by
  have hl : pc < 61 := by
    unfold gp_c2831 at h
    exact Nat.blt_eq.mp (gp_cond_none h).1
  have q := gp_k2831_0 (pc - 0) (by omega)
  rw [show 0 + (pc - 0) = pc by omega] at q
  exact gp_okE_of rfl q h
theorem gp_k2832_0 : ∀ j, j < 41 → gp_okE 2832 prog_1_method_17_code (gp_c2832 (0 + j)) (0 + j) = true := by decide +kernel
theorem gp_k2832 {pc : Nat} {e : Instr × Nat} (h : gp_c2832 pc = some e) : gp_Pc 2832 pc e := by
  have hl : pc < 41 := by
    unfold gp_c2832 at h
    exact Nat.blt_eq.mp (gp_cond_none h).1
  have q := gp_k2832_0 (pc - 0) (by omega)
  rw [show 0 + (pc - 0) = pc by omega] at q
  exact gp_okE_of rfl q h
theorem gp_k2833_0 : ∀ j, j < 62 → gp_okE 2833 prog_1_method_18_code (gp_c2833 (0 + j)) (0 + j) = true := by decide +kernel
theorem gp_k2833 {pc : Nat} {e : Instr × Nat} (h : gp_c2833 pc = some e) : gp_Pc 2833 pc e := by
  have hl : pc < 62 := by
    unfold gp_c2833 at h
    exact Nat.blt_eq.mp (gp_cond_none h).1
  have q := gp_k2833_0 (pc - 0) (by omega)
  rw [show 0 + (pc - 0) = pc by omega] at q
  exact gp_okE_of rfl q h
theorem gp_k2834_0 : ∀ j, j < 49 → gp_okE 2834 prog_1_method_19_code (gp_c2834 (0 + j)) (0 + j) = true := by decide +kernel
theorem gp_k2834 {pc : Nat} {e : Instr × Nat} (h : gp_c2834 pc = some e) : gp_Pc 2834 pc e := by
  have hl : pc < 49 := by
    unfold gp_c2834 at h
    exact Nat.blt_eq.mp (gp_cond_none h).1
  have q := gp_k2834_0 (pc - 0) (by omega)
  rw [show 0 + (pc - 0) = pc by omega] at q
  exact gp_okE_of rfl q h
theorem gp_k2835_0 : ∀ j, j < 76 → gp_okE 2835 prog_1_method_20_code (gp_c2835 (0 + j)) (0 + j) = true := by decide +kernel
theorem gp_k2835 {pc : Nat} {e : Instr × Nat} (h : gp_c2835 pc = some e) : gp_Pc 2835 pc e := by
  have hl : pc < 76 := by
    unfold gp_c2835 at h
    exact Nat.blt_eq.mp (gp_cond_none h).1
  have q := gp_k2835_0 (pc - 0) (by omega)
  rw [show 0 + (pc - 0) = pc by omega] at q
  exact gp_okE_of rfl q h
theorem gp_k2836_0 : ∀ j, j < 82 → gp_okE 2836 prog_1_method_21_code (gp_c2836 (0 + j)) (0 + j) = true := by decide +kernel
theorem gp_k2836 {pc : Nat} {e : Instr × Nat} (h : gp_c2836 pc = some e) : gp_Pc 2836 pc e := by
  have hl : pc < 82 := by
    unfold gp_c2836 at h
    exact Nat.blt_eq.mp (gp_cond_none h).1
  have q := gp_k2836_0 (pc - 0) (by omega)
  rw [show 0 + (pc - 0) = pc by omega] at q
  exact gp_okE_of rfl q h
theorem gp_k2837_0 : ∀ j, j < 105 → gp_okE 2837 prog_1_method_22_code (gp_c2837 (0 + j)) (0 + j) = true := by decide +kernel
theorem gp_k2837 {pc : Nat} {e : Instr × Nat} (h : gp_c2837 pc = some e) : gp_Pc 2837 pc e := by
  have hl : pc < 105 := by
    unfold gp_c2837 at h
    exact Nat.blt_eq.mp (gp_cond_none h).1
  have q := gp_k2837_0 (pc - 0) (by omega)
  rw [show 0 + (pc - 0) = pc by omega] at q
  exact gp_okE_of rfl q h
