theorem gp_k2838_0 : ∀ j, j < 41 → gp_okE 2838 prog_1_method_23_code (gp_c2838 (0 + j)) (0 + j) = true := by decide +kernel
theorem gp_k2838 {pc : Nat} {e : Instr × Nat} (h : gp_c2838 pc = some e) : gp_Pc 2838 pc e := by
  have hl : pc < 41 := by
    unfold gp_c2838 at h
    exact Nat.blt_eq.mp (gp_cond_none h).1
  have q := gp_k2838_0 (pc - 0) (by omega)
  rw [show 0 + (pc - 0) = pc by omega] at q
  exact gp_okE_of rfl q h
theorem gp_k2839_0 : ∀ j, j < 150 → gp_okE 2839 prog_1_method_24_code (gp_c2839 (0 + j)) (0 + j) = true := by decide +kernel
theorem gp_k2839_1 : ∀ j, j < 15 → gp_okE 2839 prog_1_method_24_code (gp_c2839 (150 + j)) (150 + j) = true := by decide +kernel
theorem gp_k2839 {pc : Nat} {e : Instr × Nat} (h : gp_c2839 pc = some e) : gp_Pc 2839 pc e := by
  have hl : pc < 165 := by
    unfold gp_c2839 at h
    exact Nat.blt_eq.mp (gp_cond_none h).1
  by_cases h0 : pc < 150
  · have q := gp_k2839_0 (pc - 0) (by omega)
    rw [show 0 + (pc - 0) = pc by omega] at q
    exact gp_okE_of rfl q h
  have q := gp_k2839_1 (pc - 150) (by omega)
  rw [show 150 + (pc - 150) = pc by omega] at q
  exact gp_okE_of rfl q h
theorem gp_k2840_0 : ∀ j, j < 51 → gp_okE 2840 prog_1_method_25_code (gp_c2840 (0 + j)) (0 + j) = true := by decide +kernel
theorem gp_k2840 {pc : Nat} {e : Instr × Nat} (h : gp_c2840 pc = some e) : gp_Pc 2840 pc e := by
  have hl : pc < 51 := by
    unfold gp_c2840 at h
    exact Nat.blt_eq.mp (gp_cond_none h).1
  have q := gp_k2840_0 (pc - 0) (by omega)
  rw [show 0 + (pc - 0) = pc by omega] at q
  exact gp_okE_of rfl q h
theorem gp_k2841_0 : ∀ j, j < 93 → gp_okE 2841 prog_1_method_26_code (gp_c2841 (0 + j)) (0 + j) = true := by decide +kernel
theorem gp_k2841 {pc : Nat} {e : Instr × Nat} (h : gp_c2841 pc = some e) : gp_Pc 2841 pc e := by
  have hl : pc < 93 := by
    unfold gp_c2841 at h
    exact Nat.blt_eq.mp (gp_cond_none h).1
  have q := gp_k2841_0 (pc - 0) (by omega)
  rw [show 0 + (pc - 0) = pc by omega] at q
  exact gp_okE_of rfl q h
theorem gp_k2842_0 : ∀ j, j < 89 → gp_okE 2842 prog_1_method_27_code (gp_c2842 (0 + j)) (0 + j) = true := by decide +kernel
theorem gp_k2842 {pc : Nat} {e : Instr × Nat} (h : gp_c2842 pc = some e) : gp_Pc 2842 pc e := by
  have hl : pc < 89 := by
    unfold gp_c2842 at h
    exact Nat.blt_eq.mp (gp_cond_none h).1
  have q := gp_k2842_0 (pc - 0) (by omega)
  rw [show 0 + (pc - 0) = pc by omega] at q
  exact gp_okE_of rfl q h
theorem gp_k2843_0 : ∀ j, j < 69 → gp_okE 2843 prog_1_method_28_code (gp_c2843 (0 + j)) (0 + j) = true := by decide +kernel
theorem gp_k2843 {pc : Nat} {e : Instr × Nat} (h : gp_c2843 pc = some e) : gp_Pc 2843 pc e := by
  have hl : pc < 69 := by
    unfold gp_c2843 at h
    exact Nat.blt_eq.mp (gp_cond_none h).1
  have q := gp_k2843_0 (pc - 0) (by omega)
  rw [show 0 + (pc - 0) = pc by omega] at q
  exact gp_okE_of rfl q h
theorem gp_k2844_0 : ∀ j, j < 69 → gp_okE 2844 prog_1_method_29_code (gp_c2844 (0 + j)) (0 + j) = true := by decide +kernel
theorem gp_k2844 {pc : Nat} {e : Instr × Nat} (h : gp_c2844 pc = some e) : gp_Pc 2844 pc e := by
  have hl : pc < 69 := by
    unfold gp_c2844 at h
    exact Nat.blt_eq.mp (gp_cond_none h).1
  have q := gp_k2844_0 (pc - 0) (by omega)
  rw [show 0 + (pc - 0) = pc by omega] at q
  exact gp_okE_of rfl q h
theorem gp_k2845_0 : ∀ j, j < 147 → gp_okE 2845 prog_1_method_30_code (gp_c2845 (0 + j)) (0 + j) = true := by decide +kernel
theorem gp_k2845 {pc : Nat} {e : Instr × Nat} (h : gp_c2845 pc = some e) : gp_Pc 2845 pc e := by
  have hl : pc < 147 := by
    unfold gp_c2845 at h
    exact Nat.blt_eq.mp (gp_cond_none h).1
  have q := gp_k2845_0 (pc - 0) (by omega)
  rw [show 0 + (pc - 0) = pc by omega] at q
  exact gp_okE_of rfl q h
theorem gp_k2846_0 : ∀ j, j < 100 → gp_okE 2846 prog_1_method_31_code (gp_c2846 (0 + j)) (0 + j) = true := by decide +kernel
theorem gp_k2846 {pc : Nat} {e : Instr × Nat} (h : gp_c2846 pc = some e) : gp_Pc 2846 pc e := by
  have hl : pc < 100 := by
    unfold gp_c2846 at h
    exact Nat.blt_eq.mp (gp_cond_none h).1
  have q := gp_k2846_0 (pc - 0) (by omega)
  rw [show 0 + (pc - 0) = pc by omega] at q
  exact gp_okE_of rfl q h
theorem gp_k2847_0 : ∀ j, j < 12 → gp_okE 2847 prog_1_method_32_code (gp_c2847 (0 + j)) (0 + j) = true := by decide +kernel
theorem gp_k2847 {pc : Nat} {e : Instr × Nat} (h : gp_c2847 pc = some e) : gp_Pc 2847 pc e := by
  have hl : pc < 12 := by
    unfold gp_c2847 at h
    exact Nat.blt_eq.mp (gp_cond_none h).1
  have q := gp_k2847_0 (pc - 0) (by omega)
  rw [show 0 + (pc - 0) = pc by omega] at q
  exact gp_okE_of rfl q h
theorem gp_k2848_0 : ∀ j, j < 49 → gp_okE 2848 prog_1_method_33_code (gp_c2848 (0 + j)) (0 + j) = true := by decide +kernel
theorem gp_k2848 {pc : Nat} {e : Instr × Nat} (h : gp_c2848 pc = some e) : gp_Pc 2848 pc e := by
  have hl : pc < 49 := by
    unfold gp_c2848 at h
    exact Nat.blt_eq.mp (gp_cond_none h).1
  have q := gp_k2848_0 (pc - 0) (by omega)
  rw [show 0 + (pc - 0) = pc by omega] at q
  exact gp_okE_of rfl q h
theorem gp_k2849_0 : ∀ j, j < 52 → gp_okE 2849 prog_1_method_34_code (gp_c2849 (0 + j)) (0 + j) = true := by decide +kernel
theorem gp_k2849 {pc : Nat} {e : Instr × Nat} (h : gp_c2849 pc = some e) : gp_Pc 2849 pc e := by
  have hl : pc < 52 := by
    unfold gp_c2849 at h
    exact Nat.blt_eq.mp (gp_cond_none h).1
  have q := gp_k2849_0 (pc - 0) (by omega)
  rw [show 0 + (pc - 0) = pc by omega] at q
  exact gp_okE_of rfl q h
theorem gp_k2850_0 : ∀ j, j < 84 → gp_okE 2850 prog_1_method_35_code (gp_c2850 (0 + j)) (0 + j) = true := by decide +kernel
theorem gp_k2850 {pc : Nat} {e : Instr × Nat} (h : gp_c2850 pc = some e) : gp_Pc 2850 pc e := by
  have hl : pc < 84 := by
    unfold gp_c2850 at h
    exact Nat.blt_eq.mp (gp_cond_none h).1
  have q := gp_k2850_0 (pc - 0) (by omega)
  rw [show 0 + (pc - 0) = pc by omega] at q
  exact gp_okE_of rfl q h
theorem gp_k2851_0 : ∀ j, j < 24 → gp_okE 2851 prog_1_method_36_code (gp_c2851 (0 + j)) (0 + j) = true := by decide +kernel
theorem gp_k2851 {pc : Nat} {e : Instr × Nat} (h : gp_c2851 pc = some e) : gp_Pc 2851 pc e := by
  have hl : pc < 24 := by
    unfold gp_c2851 at h
    exact Nat.blt_eq.mp (gp_cond_none h).1
  have q := gp_k2851_0 (pc - 0) (by omega)
  rw [show 0 + (pc - 0) = pc by omega] at q
  exact gp_okE_of rfl q h
theorem gp_k2852_0 : ∀ j, j < 30 → gp_okE 2852 prog_1_method_37_code (gp_c2852 (0 + j)) (0 + j) = true := by decide +kernel
theorem gp_k2852 {pc : Nat} {e : Instr × Nat} (h : gp_c2852 pc = some e) : gp_Pc 2852 pc e := by
  have hl : pc < 30 := by
    unfold gp_c2852 at h
    exact Nat.blt_eq.mp (gp_cond_none h).1
  have q := gp_k2852_0 (pc - 0) (by omega)
  rw [show 0 + (pc - 0) = pc by omega] at q
  exact gp_okE_of rfl q h
theorem gp_k2853_0 : ∀ j, j < 37 → gp_okE 2853 prog_1_method_38_code (gp_c2853 (0 + j)) (0 + j) = true := by decide +kernel
theorem gp_k2853 {pc : Nat} {e : Instr × Nat} (h : gp_c2853 pc = some e) : gp_Pc 2853 pc e := by
  have hl : pc < 37 := by
    unfold gp_c2853 at h
    exact Nat.blt_eq.mp (gp_cond_none h).1
  have q := gp_k2853_0 (pc - 0) (by omega)
  rw [show 0 + (pc - 0) = pc by omega] at q
  exact gp_okE_of rfl q h
theorem gp_k2854_0 : ∀ j, j < 12 → gp_okE 2854 prog_1_method_39_code (gp_c2854 (0 + j)) (0 + j) = true := by decide +kernel
theorem gp_k2854 {pc : Nat} {e : Instr × Nat} (h : gp_c2854 pc = some e) : gp_Pc 2854 pc e := by
  have hl : pc < 12 := by
    unfold gp_c2854 at h
    exact Nat.blt_eq.mp (gp_cond_none h).1
  have q := gp_k2854_0 (pc - 0) (by omega)
  rw [show 0 + (pc - 0) = pc by omega] at q
  exact gp_okE_of rfl q h
theorem gp_k2855_0 : ∀ j, j < 16 → gp_okE 2855 prog_1_method_40_code (gp_c2855 (0 + j)) (0 + j) = true := by decide +kernel
theorem gp_k2855 {pc : Nat} {e : Instr × Nat} (h : gp_c2855 pc = some e) : gp_Pc 2855 pc e := by
  have hl : pc < 16 := by
    unfold gp_c2855 at h
    exact Nat.blt_eq.mp (gp_cond_none h).1
  have q := gp_k2855_0 (pc - 0) (by omega)
  rw [show 0 + (pc - 0) = pc by omega] at q
  exact gp_okE_of rfl q h
theorem gp_k2856_0 : ∀ j, j < 16 → gp_okE 2856 prog_1_method_41_code (gp_c2856 (0 + j)) (0 + j) = true := by decide +kernel
theorem gp_k2856 {pc : Nat} {e : Instr × Nat} (h : gp_c2856 pc = some e) : gp_Pc 2856 pc e := by
  have hl : pc < 16 := by
    unfold gp_c2856 at h
    exact Nat.blt_eq.mp (gp_cond_none h).1
  have q := gp_k2856_0 (pc - 0) (by omega)
  rw [show 0 + (pc - 0) = pc by omega] at q
  exact gp_okE_of rfl q h
theorem gp_k2857_0 : ∀ j, j < 15 → gp_okE 2857 prog_1_method_42_code (gp_c2857 (0 + j)) (0 + j) = true := by decide +kernel
theorem gp_k2857 {pc : Nat} {e : Instr × Nat} (h : gp_c2857 pc = some e) : gp_Pc 2857 pc e := by
  have hl : pc < 15 := by
    unfold gp_c2857 at h
    exact Nat.blt_eq.mp (gp_cond_none h).1
  have q := gp_k2857_0 (pc - 0) (by omega)
  rw [show 0 + (pc - 0) = pc by omega] at q
  exact gp_okE_of rfl q h
theorem gp_k2858_0 : ∀ j, j < 26 → gp_okE 2858 prog_1_method_43_code (gp_c2858 (0 + j)) (0 + j) = true := by decide +kernel
theorem gp_k2858 {pc : Nat} {e : Instr × Nat} (h : gp_c2858 pc = some e) : gp_Pc 2858 pc e := by
  have hl : pc < 26 := by
    unfold gp_c2858 at h
    exact Nat.blt_eq.mp (gp_cond_none h).1
  have q := gp_k2858_0 (pc - 0) (by omega)
  rw [show 0 + (pc - 0) = pc by omega] at q
  exact gp_okE_of rfl q h
theorem gp_k2859_0 : ∀ j, j < 10 → gp_okE 2859 prog_1_method_44_code (gp_c2859 (0 + j)) (0 + j) = true := by decide +kernel
theorem gp_k2859 {pc : Nat} {e : Instr × Nat} (h : gp_c2859 pc = some e) : gp_Pc 2859 pc e := by
  have hl : pc < 10 := by
    unfold gp_c2859 at h
    exact Nat.blt_eq.mp (gp_cond_none h).1
  have q := gp_k2859_0 (pc - 0) (by omega)
  rw [show 0 + (pc - 0) = pc by omega] at q
  exact gp_okE_of rfl q h
theorem gp_k2860_0 : ∀ j, j < 28 → gp_okE 2860 prog_1_method_45_code (gp_c2860 (0 + j)) (0 + j) = true := by decide +kernel
theorem gp_k2860 {pc : Nat} {e : Instr × Nat} (h : gp_c2860 pc = some e) : gp_Pc 2860 pc e := by
  have hl : pc < 28 := by
    unfold gp_c2860 at h
    exact Nat.blt_eq.mp (gp_cond_none h).1
  have q := gp_k2860_0 (pc - 0) (by omega)
  rw [show 0 + (pc - 0) = pc by omega] at q
  exact gp_okE_of rfl q h
theorem gp_k2861_0 : ∀ j, j < 11 → gp_okE 2861 prog_1_method_46_code (gp_c2861 (0 + j)) (0 + j) = true := by decide +kernel
theorem gp_k2861 {pc : Nat} {e : Instr × Nat} (h : gp_c2861 pc = some e) : gp_Pc 2861 pc e := by
  have hl : pc < 11 := by
    unfold gp_c2861 at h
    exact Nat.blt_eq.mp (gp_cond_none h).1
  have q := gp_k2861_0 (pc - 0) (by omega)
  rw [show 0 + (pc - 0) = pc by omega] at q
  exact gp_okE_of rfl q h
theorem gp_k2862_0 : ∀ j, j < 16 → gp_okE 2862 prog_1_method_47_code (gp_c2862 (0 + j)) (0 + j) = true := by decide +kernel
theorem gp_k2862 {pc : Nat} {e : Instr × Nat} (h : gp_c2862 pc = some e) : gp_Pc 2862 pc e := by
  have hl : pc < 16 := by
    unfold gp_c2862 at h
    exact Nat.blt_eq.mp (gp_cond_none h).1
  have q := gp_k2862_0 (pc - 0) (by omega)
  rw [show 0 + (pc - 0) = pc by omega] at q
  exact gp_okE_of rfl q h
theorem gp_k2863_0 : ∀ j, j < 38 → gp_okE 2863 prog_1_method_48_code (gp_c2863 (0 + j)) (0 + j) = true := by decide +kernel
theorem gp_k2863 {pc : Nat} {e : Instr × Nat} (h : gp_c2863 pc = some e) : gp_Pc 2863 pc e := by
  have hl : pc < 38 := by
    unfold gp_c2863 at h
    exact Nat.blt_eq.mp (gp_cond_none h).1
  have q := gp_k2863_0 (pc - 0) (by omega)
  rw [show 0 + (pc - 0) = pc by omega] at q
  exact gp_okE_of rfl q h
theorem gp_k3072_0 : ∀ j, j < 150 → gp_okE 3072 prog_14_method_1_code (gp_c3072 (0 + j)) (0 + j) = true := by decide +kernel
theorem gp_k3072_1 : ∀ j, j < 150 → gp_okE 3072 prog_14_method_1_code (gp_c3072 (150 + j)) (150 + j) = true := by decide +kernel
theorem gp_k3072_2 : ∀ j, j < 76 → gp_okE 3072 prog_14_method_1_code (gp_c3072 (300 + j)) (300 + j) = true := by decide +kernel
theorem gp_k3072 {pc : Nat} {e : Instr × Nat} (h : gp_c3072 pc = some e) : gp_Pc 3072 pc e := by
  have hl : pc < 376 := by
    unfold gp_c3072 at h
    exact Nat.blt_eq.mp (gp_cond_none h).1
  by_cases h0 : pc < 150
  · have q := gp_k3072_0 (pc - 0) (by omega)
    rw [show 0 + (pc - 0) = pc by omega] at q
    exact gp_okE_of rfl q h
  by_cases h1 : pc < 300
  · have q := gp_k3072_1 (pc - 150) (by omega)
    rw [show 150 + (pc - 150) = pc by omega] at q
    exact gp_okE_of rfl q h
  have q := gp_k3072_2 (pc - 300) (by omega)
  rw [show 300 + (pc - 300) = pc by omega] at q
  exact gp_okE_of rfl q h
theorem gp_k3073_0 : ∀ j, j < 19 → gp_okE 3073 prog_14_method_2_code (gp_c3073 (0 + j)) (0 + j) = true := by decide +kernel
theorem gp_k3073 {pc : Nat} {e : Instr × Nat} (h : gp_c3073 pc = some e) : gp_Pc 3073 pc e := by
  have hl : pc < 19 := by
    unfold gp_c3073 at h
    exact Nat.blt_eq.mp (gp_cond_none h).1
  have q := gp_k3073_0 (pc - 0) (by omega)
  rw [show 0 + (pc - 0) = pc by omega] at q
  exact gp_okE_of rfl q h
theorem gp_k3074_0 : ∀ j, j < 15 → gp_okE 3074 prog_14_method_3_code (gp_c3074 (0 + j)) (0 + j) = true := by decide +kernel
theorem gp_k3074 {pc : Nat} {e : Instr × Nat} (h : gp_c3074 pc = some e) : gp_Pc 3074 pc e := by
  have hl : pc < 15 := by
    unfold gp_c3074 at h
    exact Nat.blt_eq.mp (gp_cond_none h).1
  have q := gp_k3074_0 (pc - 0) (by omega)
  rw [show 0 + (pc - 0) = pc by omega] at q
  exact gp_okE_of rfl q h
theorem gp_k3075_0 : ∀ j, j < 16 → gp_okE 3075 prog_14_method_4_code (gp_c3075 (0 + j)) (0 + j) = true := by decide +kernel
theorem gp_k3075 {pc : Nat} {e : Instr × Nat} (h : gp_c3075 pc = some e) : gp_Pc 3075 pc e := by
  have hl : pc < 16 := by
    unfold gp_c3075 at h
    exact Nat.blt_eq.mp (gp_cond_none h).1
  have q := gp_k3075_0 (pc - 0) (by omega)
  rw [show 0 + (pc - 0) = pc by omega] at q
  exact gp_okE_of rfl q h
theorem gp_k3076_0 : ∀ j, j < 15 → gp_okE 3076 prog_14_method_5_code (gp_c3076 (0 + j)) (0 + j) = true := by decide +kernel
theorem gp_k3076 {pc : Nat} {e : Instr × Nat} (h : gp_c3076 pc = some e) : gp_Pc 3076 pc e := by
  have hl : pc < 15 := by
    unfold gp_c3076 at h
    exact Nat.blt_eq.mp (gp_cond_none h).1
  have q := gp_k3076_0 (pc - 0) (by omega)
  rw [show 0 + (pc - 0) = pc by omega] at q
  exact gp_okE_of rfl q h
theorem gp_k3077_0 : ∀ j, j < 15 → gp_okE 3077 prog_14_method_6_code (gp_c3077 (0 + j)) (0 + j) = true := by decide +kernel
theorem gp_k3077 {pc : Nat} {e : Instr × Nat} (h : gp_c3077 pc = some e) : gp_Pc 3077 pc e := by
  have hl : pc < 15 := by
    unfold gp_c3077 at h
    exact Nat.blt_eq.mp (gp_cond_none h).1
  have q := gp_k3077_0 (pc - 0) (by omega)
  rw [show 0 + (pc - 0) = pc by omega] at q
  exact gp_okE_of rfl q h
theorem gp_k3078_0 : ∀ j, j < 16 → gp_okE 3078 prog_14_method_7_code (gp_c3078 (0 + j)) (0 + j) = true := by decide +kernel
theorem gp_k3078 {pc : Nat} {e : Instr × Nat} (h : gp_c3078 pc = some e) : gp_Pc 3078 pc e := by
  have hl : pc < 16 := by
    unfold gp_c3078 at h
    exact Nat.blt_eq.mp (gp_cond_none h).1
  have q := gp_k3078_0 (pc - 0) (by omega)
  rw [show 0 + (pc - 0) = pc by omega] at q
  exact gp_okE_of rfl q h
theorem gp_k3079_0 : ∀ j, j < 34 → gp_okE 3079 prog_14_method_8_code (gp_c3079 (0 + j)) (0 + j) = true := by decide +kernel
theorem gp_k3079 {pc : Nat} {e : Instr × Nat} (h : gp_c3079 pc = some e) : gp_Pc 3079 pc e := by
  have hl : pc < 34 := by
    unfold gp_c3079 at h
    exact Nat.blt_eq.mp (gp_cond_none h).1
  have q := gp_k3079_0 (pc - 0) (by omega)
  rw [show 0 + (pc - 0) = pc by omega] at q
  exact gp_okE_of rfl q h
theorem gp_k3080_0 : ∀ j, j < 40 → gp_okE 3080 prog_14_method_9_code (gp_c3080 (0 + j)) (0 + j) = true := by decide +kernel
theorem gp_k3080 {pc : Nat} {e : Instr × Nat} (h : gp_c3080 pc = some e) : gp_Pc 3080 pc e := by
  have hl : pc < 40 := by
    unfold gp_c3080 at h
    exact Nat.blt_eq.mp (gp_cond_none h).1
  have q := gp_k3080_0 (pc - 0) (by omega)
  rw [show 0 + (pc - 0) = pc by omega] at q
  exact gp_okE_of rfl q h
theorem gp_k3081_0 : ∀ j, j < 9 → gp_okE 3081 prog_14_method_10_code (gp_c3081 (0 + j)) (0 + j) = true := by decide +kernel
theorem gp_k3081 {pc : Nat} {e : Instr × Nat} (h : gp_c3081 pc = some e) : gp_Pc 3081 pc e := by
  have hl : pc < 9 := by
    unfold gp_c3081 at h
    exact Nat.blt_eq.mp (gp_cond_none h).1
  have q := gp_k3081_0 (pc - 0) (by omega)
  rw [show 0 + (pc - 0) = pc by omega] at q
  exact gp_okE_of rfl q h
theorem gp_k3082_0 : ∀ j, j < 30 → gp_okE 3082 prog_14_method_11_code (gp_c3082 (0 + j)) (0 + j) = true := by decide +kernel
theorem gp_k3082 {pc : Nat} {e : Instr × Nat} (h : gp_c3082 pc = some e) : gp_Pc 3082 pc e := by
  have hl : pc < 30 := by
    unfold gp_c3082 at h
    exact Nat.blt_eq.mp (gp_cond_none h).1
  have q := gp_k3082_0 (pc - 0) (by omega)
  rw [show 0 + (pc - 0) = pc by omega] at q
  exact gp_okE_of rfl q h
theorem gp_k3083_0 : ∀ j, j < 30 → gp_okE 3083 prog_14_method_12_code (gp_c3083 (0 + j)) (0 + j) = true := by decide +kernel
theorem gp_k3083 {pc : Nat} {e : Instr × Nat} (h : gp_c3083 pc = some e) : gp_Pc 3083 pc e := by
  have hl : pc < 30 := by
    unfold gp_c3083 at h
    exact Nat.blt_eq.mp (gp_cond_none h).1
  have q := gp_k3083_0 (pc - 0) (by omega)
  rw [show 0 + (pc - 0) = pc by omega] at q
  exact gp_okE_of rfl q h
theorem gp_k3084_0 : ∀ j, j < 117 → gp_okE 3084 prog_14_method_13_code (gp_c3084 (0 + j)) (0 + j) = true := by decide +kernel
theorem gp_k3084 {pc : Nat} {e : Instr × Nat} (h : gp_c3084 pc = some e) : gp_Pc 3084 pc e := by
  have hl : pc < 117 := by
    unfold gp_c3084 at h
    exact Nat.blt_eq.mp (gp_cond_none h).1
  have q := gp_k3084_0 (pc - 0) (by omega)
  rw [show 0 + (pc - 0) = pc by omega] at q
  exact gp_okE_of rfl q h
theorem gp_k3085_0 : ∀ j, j < 18 → gp_okE 3085 prog_14_method_14_code (gp_c3085 (0 + j)) (0 + j) = true := by decide +kernel
theorem gp_k3085 {pc : Nat} {e : Instr × Nat} (h : gp_c3085 pc = some e) : gp_Pc 3085 pc e := by
  have hl : pc < 18 := by
    unfold gp_c3085 at h
    exact Nat.blt_eq.mp (gp_cond_none h).1
  have q := gp_k3085_0 (pc - 0) (by omega)
  rw [show 0 + (pc - 0) = pc by omega] at q
  exact gp_okE_of rfl q h
theorem gp_k3086_0 : ∀ j, j < 69 → gp_okE 3086 prog_14_method_15_code (gp_c3086 (0 + j)) (0 + j) = true := by decide +kernel
theorem gp_k3086 {pc : Nat} {e : Instr × Nat} (h : gp_c3086 pc = some e) : gp_Pc 3086 pc e := by
  have hl : pc < 69 := by
    unfold gp_c3086 at h
    exact Nat.blt_eq.mp (gp_cond_none h).1
  have q := gp_k3086_0 (pc - 0) (by omega)
  rw [show 0 + (pc - 0) = pc by omega] at q
  exact gp_okE_of rfl q h
theorem gp_k3087_0 : ∀ j, j < 81 → gp_okE 3087 prog_14_method_16_code (gp_c3087 (0 + j)) (0 + j) = true := by decide +kernel
theorem gp_k3087 {pc : Nat} {e : Instr × Nat} (h : gp_c3087 pc = some e) : gp_Pc 3087 pc e := by
  have hl : pc < 81 := by
    unfold gp_c3087 at h
    exact Nat.blt_eq.mp (gp_cond_none h).1
  have q := gp_k3087_0 (pc - 0) (by omega)
  rw [show 0 + (pc - 0) = pc by omega] at q
  exact gp_okE_of rfl q h
theorem gp_k3088_0 : ∀ j, j < 149 → gp_okE 3088 prog_14_method_17_code (gp_c3088 (0 + j)) (0 + j) = true := by decide +kernel
theorem gp_k3088 {pc : Nat} {e : Instr × Nat} (h : gp_c3088 pc = some e) : gp_Pc 3088 pc e := by
  have hl : pc < 149 := by
    unfold gp_c3088 at h
    exact Nat.blt_eq.mp (gp_cond_none h).1
  have q := gp_k3088_0 (pc - 0) (by omega)
  rw [show 0 + (pc - 0) = pc by omega] at q
  exact gp_okE_of rfl q h
theorem gp_k3089_0 : ∀ j, j < 23 → gp_okE 3089 prog_14_method_18_code (gp_c3089 (0 + j)) (0 + j) = true := by decide +kernel
theorem gp_k3089 {pc : Nat} {e : Instr × Nat} (h : gp_c3089 pc = some e) : gp_Pc 3089 pc e := by
  have hl : pc < 23 := by
    unfold gp_c3089 at h
    exact Nat.blt_eq.mp (gp_cond_none h).1
  have q := gp_k3089_0 (pc - 0) (by omega)
  rw [show 0 + (pc - 0) = pc by omega] at q
  exact gp_okE_of rfl q h
theorem gp_k3090_0 : ∀ j, j < 150 → gp_okE 3090 prog_14_method_19_code (gp_c3090 (0 + j)) (0 + j) = true := by decide +kernel
theorem gp_k3090_1 : ∀ j, j < 10 → gp_okE 3090 prog_14_method_19_code (gp_c3090 (150 + j)) (150 + j) = true := by decide +kernel
theorem gp_k3090 {pc : Nat} {e : Instr × Nat} (h : gp_c3090 pc = some e) : gp_Pc 3090 pc e := by
  have hl : pc < 160 := by
    unfold gp_c3090 at h
    exact Nat.blt_eq.mp (gp_cond_none h).1
  by_cases h0 : pc < 150
  · have q := gp_k3090_0 (pc - 0) (by omega)
    rw [show 0 + (pc - 0) = pc by omega] at q
    exact gp_okE_of rfl q h
  have q := gp_k3090_1 (pc - 150) (by omega)
  rw [show 150 + (pc - 150) = pc by omega] at q
  exact gp_okE_of rfl q h
theorem gp_k3091_0 : ∀ j, j < 126 → gp_okE 3091 prog_14_method_20_code (gp_c3091 (0 + j)) (0 + j) = true := by decide +kernel
theorem gp_k3091 {pc : Nat} {e : Instr × Nat} (h : gp_c3091 pc = some e) : gp_Pc 3091 pc e := by
  have hl : pc < 126 := by
    unfold gp_c3091 at h
    exact Nat.blt_eq.mp (gp_cond_none h).1
  have q := gp_k3091_0 (pc - 0) (by omega)
  rw [show 0 + (pc - 0) = pc by omega] at q
  exact gp_okE_of rfl q h
theorem gp_k3092_0 : ∀ j, j < 113 → gp_okE 3092 prog_14_method_21_code (gp_c3092 (0 + j)) (0 + j) = true := by decide +kernel
theorem gp_k3092 {pc : Nat} {e : Instr × Nat} (h : gp_c3092 pc = some e) : gp_Pc 3092 pc e := by
  have hl : pc < 113 := by
    unfold gp_c3092 at h
    exact Nat.blt_eq.mp (gp_cond_none h).1
  have q := gp_k3092_0 (pc - 0) (by omega)
  rw [show 0 + (pc - 0) = pc by omega] at q
  exact gp_okE_of rfl q h
theorem gp_k3093_0 : ∀ j, j < 150 → gp_okE 3093 prog_14_method_22_code (gp_c3093 (0 + j)) (0 + j) = true := by decide +kernel
theorem gp_k3093_1 : ∀ j, j < 88 → gp_okE 3093 prog_14_method_22_code (gp_c3093 (150 + j)) (150 + j) = true := by decide +kernel
theorem gp_k3093 {pc : Nat} {e : Instr × Nat} (h : gp_c3093 pc = some e) : gp_Pc 3093 pc e := by
  have hl : pc < 238 := by
    unfold gp_c3093 at h
    exact Nat.blt_eq.mp (gp_cond_none h).1
  by_cases h0 : pc < 150
  · have q := gp_k3093_0 (pc - 0) (by omega)
    rw [show 0 + (pc - 0) = pc by omega] at q
    exact gp_okE_of rfl q h
  have q := gp_k3093_1 (pc - 150) (by omega)
  rw [show 150 + (pc - 150) = pc by omega] at q
  exact gp_okE_of rfl q h
theorem gp_k3094_0 : ∀ j, j < 45 → gp_okE 3094 prog_14_method_23_code (gp_c3094 (0 + j)) (0 + j) = true := by decide +kernel
theorem gp_k3094 {pc : Nat} {e : Instr × Nat} (h : gp_c3094 pc = some e) : gp_Pc 3094 pc e := by
  have hl : pc < 45 := by
    unfold gp_c3094 at h
    exact Nat.blt_eq.mp (gp_cond_none h).1
  have q := gp_k3094_0 (pc - 0) (by omega)
  rw [show 0 + (pc - 0) = pc by omega] at q
  exact gp_okE_of rfl q h
theorem gp_k3095_0 : ∀ j, j < 112 → gp_okE 3095 prog_14_method_24_code (gp_c3095 (0 + j)) (0 + j) = true := by decide +kernel
theorem gp_k3095 {pc : Nat} {e : Instr × Nat} (h : gp_c3095 pc = some e) : gp_Pc 3095 pc e := by
  have hl : pc < 112 := by
    unfold gp_c3095 at h
    exact Nat.blt_eq.mp (gp_cond_none h).1
  have q := gp_k3095_0 (pc - 0) (by omega)
  rw [show 0 + (pc - 0) = pc by omega] at q
  exact gp_okE_of rfl q h
theorem gp_k3096_0 : ∀ j, j < 150 → gp_okE 3096 prog_14_method_25_code (gp_c3096 (0 + j)) (0 + j) = true := by decide +kernel
theorem gp_k3096_1 : ∀ j, j < 9 → gp_okE 3096 prog_14_method_25_code (gp_c3096 (150 + j)) (150 + j) = true := by decide +kernel
theorem gp_k3096 {pc : Nat} {e : Instr × Nat} (h : gp_c3096 pc = some e) : gp_Pc 3096 pc e := by
  have hl : pc < 159 := by
    unfold gp_c3096 at h
    exact Nat.blt_eq.mp (gp_cond_none h).1
  by_cases h0 : pc < 150
  · have q := gp_k3096_0 (pc - 0) (by omega)
    rw [show 0 + (pc - 0) = pc by omega] at q
    exact gp_okE_of rfl q h
  have q := gp_k3096_1 (pc - 150) (by omega)
  rw [show 150 + (pc - 150) = pc by omega] at q
  exact gp_okE_of rfl q h
theorem gp_k3097_0 : ∀ j, j < 99 → gp_okE 3097 prog_14_method_26_code (gp_c3097 (0 + j)) (0 + j) = true := by decide +kernel
theorem gp_k3097 {pc : Nat} {e : Instr × Nat} (h : gp_c3097 pc = some e) : gp_Pc 3097 pc e := by
  have hl : pc < 99 := by
    unfold gp_c3097 at h
    exact Nat.blt_eq.mp (gp_cond_none h).1
  have q := gp_k3097_0 (pc - 0) (by omega)
  rw [show 0 + (pc - 0) = pc by omega] at q
  exact gp_okE_of rfl q h
theorem gp_k3098_0 : ∀ j, j < 99 → gp_okE 3098 prog_14_method_27_code (gp_c3098 (0 + j)) (0 + j) = true := by decide +kernel
theorem gp_k3098 {pc : Nat} {e : Instr × Nat} (h : gp_c3098 pc = some e) : gp_Pc 3098 pc e := by
  have hl : pc < 99 := by
    unfold gp_c3098 at h
    exact Nat.blt_eq.mp (gp_cond_none h).1
  have q := gp_k3098_0 (pc - 0) (by omega)
  rw [show 0 + (pc - 0) = pc by omega] at q
  exact gp_okE_of rfl q h
theorem gp_k3099_0 : ∀ j, j < 55 → gp_okE 3099 prog_14_method_28_code (gp_c3099 (0 + j)) (0 + j) = true := by decide +kernel
theorem gp_k3099 {pc : Nat} {e : Instr × Nat} (h : gp_c3099 pc = some e) : gp_Pc 3099 pc e := by
  have hl : pc < 55 := by
    unfold gp_c3099 at h
    exact Nat.blt_eq.mp (gp_cond_none h).1
  have q := gp_k3099_0 (pc - 0) (by omega)
  rw [show 0 + (pc - 0) = pc by omega] at q
  exact gp_okE_of rfl q h
theorem gp_k3100_0 : ∀ j, j < 150 → gp_okE 3100 prog_14_method_29_code (gp_c3100 (0 + j)) (0 + j) = true := by decide +kernel
theorem gp_k3100_1 : ∀ j, j < 150 → gp_okE 3100 prog_14_method_29_code (gp_c3100 (150 + j)) (150 + j) = true := by decide +kernel
theorem gp_k3100_2 : ∀ j, j < 91 → gp_okE 3100 prog_14_method_29_code (gp_c3100 (300 + j)) (300 + j) = true := by decide +kernel
theorem gp_k3100 {pc : Nat} {e : Instr × Nat} (h : gp_c3100 pc = some e) : gp_Pc 3100 pc e := by
  have hl : pc < 391 := by
    unfold gp_c3100 at h
    exact Nat.blt_eq.mp (gp_cond_none h).1
  by_cases h0 : pc < 150
  · have q := gp_k3100_0 (pc - 0) (by omega)
    rw [show 0 + (pc - 0) = pc by omega] at q
    exact gp_okE_of rfl q h
  by_cases h1 : pc < 300
  · have q := gp_k3100_1 (pc - 150) (by omega)
    rw [show 150 + (pc - 150) = pc by omega] at q
    exact gp_okE_of rfl q h
  have q := gp_k3100_2 (pc - 300) (by omega)
  rw [show 300 + (pc - 300) = pc by omega] at q
  exact gp_okE_of rfl q h
theorem gp_k3101_0 : ∀ j, j < 25 → gp_okE 3101 prog_14_method_30_code (gp_c3101 (0 + j)) (0 + j) = true := by decide +kernel
theorem gp_k3101 {pc : Nat} {e : Instr × Nat} (h : gp_c3101 pc = some e) : gp_Pc 3101 pc e := by
  have hl : pc < 25 := by
    unfold gp_c3101 at h
    exact Nat.blt_eq.mp (gp_cond_none h).1
  have q := gp_k3101_0 (pc - 0) (by omega)
  rw [show 0 + (pc - 0) = pc by omega] at q
  exact gp_okE_of rfl q h
theorem gp_k3102_0 : ∀ j, j < 57 → gp_okE 3102 prog_14_method_31_code (gp_c3102 (0 + j)) (0 + j) = true := by decide +kernel
theorem gp_k3102 {pc : Nat} {e : Instr × Nat} (h : gp_c3102 pc = some e) : gp_Pc 3102 pc e := by
  have hl : pc < 57 := by
    unfold gp_c3102 at h
    exact Nat.blt_eq.mp (gp_cond_none h).1
  have q := gp_k3102_0 (pc - 0) (by omega)
  rw [show 0 + (pc - 0) = pc by omega] at q
  exact gp_okE_of rfl q h
theorem gp_k3103_0 : ∀ j, j < 150 → gp_okE 3103 prog_14_method_32_code (gp_c3103 (0 + j)) (0 + j) = true := by decide +kernel
theorem gp_k3103_1 : ∀ j, j < 66 → gp_okE 3103 prog_14_method_32_code (gp_c3103 (150 + j)) (150 + j) = true := by decide +kernel
theorem gp_k3103 {pc : Nat} {e : Instr × Nat} (h : gp_c3103 pc = some e) : gp_Pc 3103 pc e := by
  have hl : pc < 216 := by
    unfold gp_c3103 at h
    exact Nat.blt_eq.mp (gp_cond_none h).1
  by_cases h0 : pc < 150
  · have q := gp_k3103_0 (pc - 0) (by omega)
    rw [show 0 + (pc - 0) = pc by omega] at q
    exact gp_okE_of rfl q h
  have q := gp_k3103_1 (pc - 150) (by omega)
  rw [show 150 + (pc - 150) = pc by omega] at q
  exact gp_okE_of rfl q h
theorem gp_k3104_0 : ∀ j, j < 124 → gp_okE 3104 prog_14_method_33_code (gp_c3104 (0 + j)) (0 + j) = true := by decide +kernel
theorem gp_k3104 {pc : Nat} {e : Instr × Nat} (h : gp_c3104 pc = some e) : gp_Pc 3104 pc e := by
  have hl : pc < 124 := by
    unfold gp_c3104 at h
    exact Nat.blt_eq.mp (gp_cond_none h).1
  have q := gp_k3104_0 (pc - 0) (by omega)
  rw [show 0 + (pc - 0) = pc by omega] at q
  exact gp_okE_of rfl q h
theorem gp_k3105_0 : ∀ j, j < 80 → gp_okE 3105 prog_14_method_34_code (gp_c3105 (0 + j)) (0 + j) = true := by decide +kernel
theorem gp_k3105 {pc : Nat} {e : Instr × Nat} (h : gp_c3105 pc = some e) : gp_Pc 3105 pc e := by
  have hl : pc < 80 := by
    unfold gp_c3105 at h
    exact Nat.blt_eq.mp (gp_cond_none h).1
  have q := gp_k3105_0 (pc - 0) (by omega)
  rw [show 0 + (pc - 0) = pc by omega] at q
  exact gp_okE_of rfl q h
theorem gp_k3106_0 : ∀ j, j < 150 → gp_okE 3106 prog_14_method_35_code (gp_c3106 (0 + j)) (0 + j) = true := by decide +kernel
theorem gp_k3106_1 : ∀ j, j < 71 → gp_okE 3106 prog_14_method_35_code (gp_c3106 (150 + j)) (150 + j) = true := by decide +kernel
theorem gp_k3106 {pc : Nat} {e : Instr × Nat} (h : gp_c3106 pc = some e) : gp_Pc 3106 pc e := by
  have hl : pc < 221 := by
    unfold gp_c3106 at h
    exact Nat.blt_eq.mp (gp_cond_none h).1
  by_cases h0 : pc < 150
  · have q := gp_k3106_0 (pc - 0) (by omega)
    rw [show 0 + (pc - 0) = pc by omega] at q
    exact gp_okE_of rfl q h
  have q := gp_k3106_1 (pc - 150) (by omega)
  rw [show 150 + (pc - 150) = pc by omega] at q
  exact gp_okE_of rfl q h
