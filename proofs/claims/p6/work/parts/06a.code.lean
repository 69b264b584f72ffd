/-- how long an instruction is (0: any) -/
def gp_il (i : Instr) : Nat := match i with
  | .aload _ => 2
  | .iload _ => 2
  | .lload _ => 2
  | .astore _ => 2
  | .istore _ => 2
  | .lstore _ => 2
  | .bipush _ => 2
  | .ldc _ => 2
  | .newarray _ => 2
  | .iinc _ _ => 3
  | .sipush _ => 3
  | .ldc_w _ => 3
  | .ldc2_w _ => 3
  | .goto _ => 3
  | .ifCond _ _ => 3
  | .if_icmp _ _ => 3
  | .if_acmp _ _ => 3
  | .ifnonnull _ => 3
  | .getfield _ => 3
  | .putfield _ => 3
  | .new _ => 3
  | .anewarray _ => 3
  | .invokevirtual _ => 3
  | .invokestatic _ => 3
  | .invokespecial _ => 3
  | .multianewarray _ _ => 4
  | .tableswitch _ _ _ _ => 0
  | _ => 1
def gp_oki (y : Nat) (e : Instr × Nat) : Bool := (Nat.beq (gp_il e.1) 0 || Nat.beq e.2 (gp_il e.1)) && (match e.1 with
  | .putfield i => (match gp_lkF (y / 256) i with
    | some (_, q, f) => !(gp_T q f).2.2.2 || (Nat.beq q (y / 256) && decide ((gp_mn y).name = "<init>"))
    | none => true)
  | .iinc _ n => decide (-2147483648 ≤ n) && decide (n < 2147483648)
  | .ireturn => decide (gp_rt y = cond (gp_z y) (some .boolean) (some .int))
  | .lreturn => decide (gp_rt y = some .long)
  | .areturn => (match gp_rt y with
    | some (.object _) => true
    | _ => false)
  | .return_ => decide (gp_rt y = none)
  | .invokevirtual i => (match gp_lkM (y / 256) i with
    | some (_, _, _, q) => !Nat.beq q 0 && Nat.blt q 95
    | none => true)
  | .invokestatic i => (match gp_lkM (y / 256) i with
    | some (y', _, _, q) => Nat.ble 95 q || gp_st y'
    | none => true)
  | .invokespecial i => (match gp_lkM (y / 256) i with
    | some (y', _, _, q) => Nat.ble 95 q || !gp_st y'
    | none => true)
  | .multianewarray i _ => gp_has (.classLink (gp_cn (y / 256)) i "[[I") 375
  | _ => true)
def gp_deq (x : Except DecodeError (Instr × Nat)) (e : Instr × Nat) : Bool := match x with
  | .ok z => decide (z = e)
  | .error _ => false
def gp_okE (y : Nat) (cc : ByteArray) (o : Option (Instr × Nat)) (pc : Nat) : Bool := match o with
  | none => true
  | some e => gp_deq (decode cc pc) e && gp_oki y e
def gp_Pc (y pc : Nat) (e : Instr × Nat) : Prop := decode (gp_by y) pc = .ok e ∧ gp_oki y e = true
theorem gp_okE_of {y pc : Nat} {cc : ByteArray} {e : Instr × Nat} {o : Option (Instr × Nat)} (hc : gp_by y = cc) (h : gp_okE y cc o pc = true) (ho : o = some e) : gp_Pc y pc e := by
  subst ho
  unfold gp_okE at h
  rw [Bool.and_eq_true] at h
  refine ⟨?_, h.2⟩
  rw [hc]
  have h1 := h.1
  unfold gp_deq at h1
  split at h1
  · rename_i z hz
    rw [decide_eq_true_eq] at h1
    rw [hz, h1]
  · cases h1
theorem gp_k0_0 : ∀ j, j < 21 → gp_okE 0 prog_2_method_1_code (gp_c0 (0 + j)) (0 + j) = true := by decide +kernel
theorem gp_k0 {pc : Nat} {e : Instr × Nat} (h : gp_c0 pc = some e) : gp_Pc 0 pc e := by
  have hl : pc < 21 := by
    unfold gp_c0 at h
    exact Nat.blt_eq.mp (gp_cond_none h).1
  have q := gp_k0_0 (pc - 0) (by omega)
  rw [show 0 + (pc - 0) = pc by omega] at q
  exact gp_okE_of rfl q h
theorem gp_k1_0 : ∀ j, j < 116 → gp_okE 1 prog_2_method_2_code (gp_c1 (0 + j)) (0 + j) = true := by decide +kernel
theorem gp_k1 {pc : Nat} {e : Instr × Nat} (h : gp_c1 pc = some e) : gp_Pc 1 pc e := by
  have hl : pc < 116 := by
    unfold gp_c1 at h
    exact Nat.blt_eq.mp (gp_cond_none h).1
  have q := gp_k1_0 (pc - 0) (by omega)
  rw [show 0 + (pc - 0) = pc by omega] at q
  exact gp_okE_of rfl q h
theorem gp_k2_0 : ∀ j, j < 98 → gp_okE 2 prog_2_method_3_code (gp_c2 (0 + j)) (0 + j) = true := by decide +kernel
theorem gp_k2 {pc : Nat} {e : Instr × Nat} (h : gp_c2 pc = some e) : gp_Pc 2 pc e := by
  have hl : pc < 98 := by
    unfold gp_c2 at h
    exact Nat.blt_eq.mp (gp_cond_none h).1
  have q := gp_k2_0 (pc - 0) (by omega)
  rw [show 0 + (pc - 0) = pc by omega] at q
  exact gp_okE_of rfl q h
theorem gp_k3_0 : ∀ j, j < 25 → gp_okE 3 prog_2_method_4_code (gp_c3 (0 + j)) (0 + j) = true := by decide +kernel
theorem gp_k3 {pc : Nat} {e : Instr × Nat} (h : gp_c3 pc = some e) : gp_Pc 3 pc e := by
  have hl : pc < 25 := by
    unfold gp_c3 at h
    exact Nat.blt_eq.mp (gp_cond_none h).1
  have q := gp_k3_0 (pc - 0) (by omega)
  rw [show 0 + (pc - 0) = pc by omega] at q
  exact gp_okE_of rfl q h
theorem gp_k4_0 : ∀ j, j < 150 → gp_okE 4 prog_2_method_5_code (gp_c4 (0 + j)) (0 + j) = true := by decide +kernel
theorem gp_k4_1 : ∀ j, j < 37 → gp_okE 4 prog_2_method_5_code (gp_c4 (150 + j)) (150 + j) = true := by decide +kernel
theorem gp_k4 {pc : Nat} {e : Instr × Nat} (h : gp_c4 pc = some e) : gp_Pc 4 pc e := by
  have hl : pc < 187 := by
    unfold gp_c4 at h
    exact Nat.blt_eq.mp (gp_cond_none h).1
  by_cases h0 : pc < 150
  · have q := gp_k4_0 (pc - 0) (by omega)
    rw [show 0 + (pc - 0) = pc by omega] at q
    exact gp_okE_of rfl q h
  have q := gp_k4_1 (pc - 150) (by omega)
  rw [show 150 + (pc - 150) = pc by omega] at q
  exact gp_okE_of rfl q h
theorem gp_k5_0 : ∀ j, j < 34 → gp_okE 5 prog_2_method_6_code (gp_c5 (0 + j)) (0 + j) = true := by decide +kernel
theorem gp_k5 {pc : Nat} {e : Instr × Nat} (h : gp_c5 pc = some e) : gp_Pc 5 pc e := by
  have hl : pc < 34 := by
    unfold gp_c5 at h
    exact Nat.blt_eq.mp (gp_cond_none h).1
  have q := gp_k5_0 (pc - 0) (by omega)
  rw [show 0 + (pc - 0) = pc by omega] at q
  exact gp_okE_of rfl q h
theorem gp_k6_0 : ∀ j, j < 34 → gp_okE 6 prog_2_method_7_code (gp_c6 (0 + j)) (0 + j) = true := by decide +kernel
theorem gp_k6 {pc : Nat} {e : Instr × Nat} (h : gp_c6 pc = some e) : gp_Pc 6 pc e := by
  have hl : pc < 34 := by
    unfold gp_c6 at h
    exact Nat.blt_eq.mp (gp_cond_none h).1
  have q := gp_k6_0 (pc - 0) (by omega)
  rw [show 0 + (pc - 0) = pc by omega] at q
  exact gp_okE_of rfl q h
theorem gp_k7_0 : ∀ j, j < 36 → gp_okE 7 prog_2_method_8_code (gp_c7 (0 + j)) (0 + j) = true := by decide +kernel
theorem gp_k7 {pc : Nat} {e : Instr × Nat} (h : gp_c7 pc = some e) : gp_Pc 7 pc e := by
  have hl : pc < 36 := by
    unfold gp_c7 at h
    exact Nat.blt_eq.mp (gp_cond_none h).1
  have q := gp_k7_0 (pc - 0) (by omega)
  rw [show 0 + (pc - 0) = pc by omega] at q
  exact gp_okE_of rfl q h
theorem gp_k256_0 : ∀ j, j < 55 → gp_okE 256 prog_3_method_1_code (gp_c256 (0 + j)) (0 + j) = true := by decide +kernel
theorem gp_k256 {pc : Nat} {e : Instr × Nat} (h : gp_c256 pc = some e) : gp_Pc 256 pc e := by
  have hl : pc < 55 := by
    unfold gp_c256 at h
    exact Nat.blt_eq.mp (gp_cond_none h).1
  have q := gp_k256_0 (pc - 0) (by omega)
  rw [show 0 + (pc - 0) = pc by omega] at q
  exact gp_okE_of rfl q h
theorem gp_k257_0 : ∀ j, j < 25 → gp_okE 257 prog_3_method_2_code (gp_c257 (0 + j)) (0 + j) = true := by decide +kernel
theorem gp_k257 {pc : Nat} {e : Instr × Nat} (h : gp_c257 pc = some e) : gp_Pc 257 pc e := by
  have hl : pc < 25 := by
    unfold gp_c257 at h
    exact Nat.blt_eq.mp (gp_cond_none h).1
  have q := gp_k257_0 (pc - 0) (by omega)
  rw [show 0 + (pc - 0) = pc by omega] at q
  exact gp_okE_of rfl q h
theorem gp_k258_0 : ∀ j, j < 44 → gp_okE 258 prog_3_method_3_code (gp_c258 (0 + j)) (0 + j) = true := by decide +kernel
theorem gp_k258 {pc : Nat} {e : Instr × Nat} (h : gp_c258 pc = some e) : gp_Pc 258 pc e := by
  have hl : pc < 44 := by
    unfold gp_c258 at h
    exact Nat.blt_eq.mp (gp_cond_none h).1
  have q := gp_k258_0 (pc - 0) (by omega)
  rw [show 0 + (pc - 0) = pc by omega] at q
  exact gp_okE_of rfl q h
theorem gp_k259_0 : ∀ j, j < 88 → gp_okE 259 prog_3_method_4_code (gp_c259 (0 + j)) (0 + j) = true := by decide +kernel
theorem gp_k259 {pc : Nat} {e : Instr × Nat} (h : gp_c259 pc = some e) : gp_Pc 259 pc e := by
  have hl : pc < 88 := by
    unfold gp_c259 at h
    exact Nat.blt_eq.mp (gp_cond_none h).1
  have q := gp_k259_0 (pc - 0) (by omega)
  rw [show 0 + (pc - 0) = pc by omega] at q
  exact gp_okE_of rfl q h
theorem gp_k260_0 : ∀ j, j < 93 → gp_okE 260 prog_3_method_5_code (gp_c260 (0 + j)) (0 + j) = true := by decide +kernel
theorem gp_k260 {pc : Nat} {e : Instr × Nat} (h : gp_c260 pc = some e) : gp_Pc 260 pc e := by
  have hl : pc < 93 := by
    unfold gp_c260 at h
    exact Nat.blt_eq.mp (gp_cond_none h).1
  have q := gp_k260_0 (pc - 0) (by omega)
  rw [show 0 + (pc - 0) = pc by omega] at q
  exact gp_okE_of rfl q h
theorem gp_k261_0 : ∀ j, j < 34 → gp_okE 261 prog_3_method_6_code (gp_c261 (0 + j)) (0 + j) = true := by decide +kernel
theorem gp_k261 {pc : Nat} {e : Instr × Nat} (h : gp_c261 pc = some e) : gp_Pc 261 pc e := by
  have hl : pc < 34 := by
    unfold gp_c261 at h
    exact Nat.blt_eq.mp (gp_cond_none h).1
  have q := gp_k261_0 (pc - 0) (by omega)
  rw [show 0 + (pc - 0) = pc by omega] at q
  exact gp_okE_of rfl q h
theorem gp_k262_0 : ∀ j, j < 150 → gp_okE 262 prog_3_method_7_code (gp_c262 (0 + j)) (0 + j) = true := by decide +kernel
theorem gp_k262_1 : ∀ j, j < 21 → gp_okE 262 prog_3_method_7_code (gp_c262 (150 + j)) (150 + j) = true := by decide +kernel
theorem gp_k262 {pc : Nat} {e : Instr × Nat} (h : gp_c262 pc = some e) : gp_Pc 262 pc e := by
  have hl : pc < 171 := by
    unfold gp_c262 at h
    exact Nat.blt_eq.mp (gp_cond_none h).1
  by_cases h0 : pc < 150
  · have q := gp_k262_0 (pc - 0) (by omega)
    rw [show 0 + (pc - 0) = pc by omega] at q
    exact gp_okE_of rfl q h
  have q := gp_k262_1 (pc - 150) (by omega)
  rw [show 150 + (pc - 150) = pc by omega] at q
  exact gp_okE_of rfl q h
theorem gp_k263_0 : ∀ j, j < 96 → gp_okE 263 prog_3_method_8_code (gp_c263 (0 + j)) (0 + j) = true := by decide +kernel
theorem gp_k263 {pc : Nat} {e : Instr × Nat} (h : gp_c263 pc = some e) : gp_Pc 263 pc e := by
  have hl : pc < 96 := by
    unfold gp_c263 at h
    exact Nat.blt_eq.mp (gp_cond_none h).1
  have q := gp_k263_0 (pc - 0) (by omega)
  rw [show 0 + (pc - 0) = pc by omega] at q
  exact gp_okE_of rfl q h
theorem gp_k264_0 : ∀ j, j < 113 → gp_okE 264 prog_3_method_9_code (gp_c264 (0 + j)) (0 + j) = true := by decide +kernel
theorem gp_k264 {pc : Nat} {e : Instr × Nat} (h : gp_c264 pc = some e) : gp_Pc 264 pc e := by
  have hl : pc < 113 := by
    unfold gp_c264 at h
    exact Nat.blt_eq.mp (gp_cond_none h).1
  have q := gp_k264_0 (pc - 0) (by omega)
  rw [show 0 + (pc - 0) = pc by omega] at q
  exact gp_okE_of rfl q h
theorem gp_k265_0 : ∀ j, j < 71 → gp_okE 265 prog_3_method_10_code (gp_c265 (0 + j)) (0 + j) = true := by decide +kernel
theorem gp_k265 {pc : Nat} {e : Instr × Nat} (h : gp_c265 pc = some e) : gp_Pc 265 pc e := by
  have hl : pc < 71 := by
    unfold gp_c265 at h
    exact Nat.blt_eq.mp (gp_cond_none h).1
  have q := gp_k265_0 (pc - 0) (by omega)
  rw [show 0 + (pc - 0) = pc by omega] at q
  exact gp_okE_of rfl q h
theorem gp_k266_0 : ∀ j, j < 135 → gp_okE 266 prog_3_method_11_code (gp_c266 (0 + j)) (0 + j) = true := by decide +kernel
theorem gp_k266 {pc : Nat} {e : Instr × Nat} (h : gp_c266 pc = some e) : gp_Pc 266 pc e := by
  have hl : pc < 135 := by
    unfold gp_c266 at h
    exact Nat.blt_eq.mp (gp_cond_none h).1
  have q := gp_k266_0 (pc - 0) (by omega)
  rw [show 0 + (pc - 0) = pc by omega] at q
  exact gp_okE_of rfl q h
theorem gp_k512_0 : ∀ j, j < 35 → gp_okE 512 prog_4_method_1_code (gp_c512 (0 + j)) (0 + j) = true := by decide +kernel
theorem gp_k512 {pc : Nat} {e : Instr × Nat} (h : gp_c512 pc = some e) : gp_Pc 512 pc e := by
  have hl : pc < 35 := by
    unfold gp_c512 at h
    exact Nat.blt_eq.mp (gp_cond_none h).1
  have q := gp_k512_0 (pc - 0) (by omega)
  rw [show 0 + (pc - 0) = pc by omega] at q
  exact gp_okE_of rfl q h
theorem gp_k513_0 : ∀ j, j < 25 → gp_okE 513 prog_4_method_2_code (gp_c513 (0 + j)) (0 + j) = true := by decide +kernel
theorem gp_k513 {pc : Nat} {e : Instr × Nat} (h : gp_c513 pc = some e) : gp_Pc 513 pc e := by
  have hl : pc < 25 := by
    unfold gp_c513 at h
    exact Nat.blt_eq.mp (gp_cond_none h).1
  have q := gp_k513_0 (pc - 0) (by omega)
  rw [show 0 + (pc - 0) = pc by omega] at q
  exact gp_okE_of rfl q h
theorem gp_k514_0 : ∀ j, j < 20 → gp_okE 514 prog_4_method_3_code (gp_c514 (0 + j)) (0 + j) = true := by decide +kernel
theorem gp_k514 {pc : Nat} {e : Instr × Nat} (h : gp_c514 pc = some e) : gp_Pc 514 pc e := by
  have hl : pc < 20 := by
    unfold gp_c514 at h
    exact Nat.blt_eq.mp (gp_cond_none h).1
  have q := gp_k514_0 (pc - 0) (by omega)
  rw [show 0 + (pc - 0) = pc by omega] at q
  exact gp_okE_of rfl q h
theorem gp_k515_0 : ∀ j, j < 44 → gp_okE 515 prog_4_method_4_code (gp_c515 (0 + j)) (0 + j) = true := by decide +kernel
theorem gp_k515 {pc : Nat} {e : Instr × Nat} (h : gp_c515 pc = some e) : gp_Pc 515 pc e := by
  have hl : pc < 44 := by
    unfold gp_c515 at h
    exact Nat.blt_eq.mp (gp_cond_none h).1
  have q := gp_k515_0 (pc - 0) (by omega)
  rw [show 0 + (pc - 0) = pc by omega] at q
  exact gp_okE_of rfl q h
theorem gp_k516_0 : ∀ j, j < 110 → gp_okE 516 prog_4_method_5_code (gp_c516 (0 + j)) (0 + j) = true := by decide +kernel
theorem gp_k516 {pc : Nat} {e : Instr × Nat} (h : gp_c516 pc = some e) : gp_Pc 516 pc e := by
  have hl : pc < 110 := by
    unfold gp_c516 at h
    exact Nat.blt_eq.mp (gp_cond_none h).1
  have q := gp_k516_0 (pc - 0) (by omega)
  rw [show 0 + (pc - 0) = pc by omega] at q
  exact gp_okE_of rfl q h
theorem gp_k517_0 : ∀ j, j < 57 → gp_okE 517 prog_4_method_6_code (gp_c517 (0 + j)) (0 + j) = true := by decide +kernel
theorem gp_k517 {pc : Nat} {e : Instr × Nat} (h : gp_c517 pc = some e) : gp_Pc 517 pc e := by
  have hl : pc < 57 := by
    unfold gp_c517 at h
    exact Nat.blt_eq.mp (gp_cond_none h).1
  have q := gp_k517_0 (pc - 0) (by omega)
  rw [show 0 + (pc - 0) = pc by omega] at q
  exact gp_okE_of rfl q h
theorem gp_k768_0 : ∀ j, j < 57 → gp_okE 768 prog_5_method_1_code (gp_c768 (0 + j)) (0 + j) = true := by decide +kernel
theorem gp_k768 {pc : Nat} {e : Instr × Nat} (h : gp_c768 pc = some e) : gp_Pc 768 pc e := by
  have hl : pc < 57 := by
    unfold gp_c768 at h
    exact Nat.blt_eq.mp (gp_cond_none h).1
  have q := gp_k768_0 (pc - 0) (by omega)
  rw [show 0 + (pc - 0) = pc by omega] at q
  exact gp_okE_of rfl q h
theorem gp_k769_0 : ∀ j, j < 51 → gp_okE 769 prog_5_method_2_code (gp_c769 (0 + j)) (0 + j) = true := by decide +kernel
theorem gp_k769 {pc : Nat} {e : Instr × Nat} (h : gp_c769 pc = some e) : gp_Pc 769 pc e := by
  have hl : pc < 51 := by
    unfold gp_c769 at h
    exact Nat.blt_eq.mp (gp_cond_none h).1
  have q := gp_k769_0 (pc - 0) (by omega)
  rw [show 0 + (pc - 0) = pc by omega] at q
  exact gp_okE_of rfl q h
theorem gp_k770_0 : ∀ j, j < 47 → gp_okE 770 prog_5_method_3_code (gp_c770 (0 + j)) (0 + j) = true := by decide +kernel
theorem gp_k770 {pc : Nat} {e : Instr × Nat} (h : gp_c770 pc = some e) : gp_Pc 770 pc e := by
  have hl : pc < 47 := by
    unfold gp_c770 at h
    exact Nat.blt_eq.mp (gp_cond_none h).1
  have q := gp_k770_0 (pc - 0) (by omega)
  rw [show 0 + (pc - 0) = pc by omega] at q
  exact gp_okE_of rfl q h
theorem gp_k771_0 : ∀ j, j < 150 → gp_okE 771 prog_5_method_4_code (gp_c771 (0 + j)) (0 + j) = true := by decide +kernel
theorem gp_k771_1 : ∀ j, j < 19 → gp_okE 771 prog_5_method_4_code (gp_c771 (150 + j)) (150 + j) = true := by decide +kernel
theorem gp_k771 {pc : Nat} {e : Instr × Nat} (h : gp_c771 pc = some e) : gp_Pc 771 pc e := by
  have hl : pc < 169 := by
    unfold gp_c771 at h
    exact Nat.blt_eq.mp (gp_cond_none h).1
  by_cases h0 : pc < 150
  · have q := gp_k771_0 (pc - 0) (by omega)
    rw [show 0 + (pc - 0) = pc by omega] at q
    exact gp_okE_of rfl q h
  have q := gp_k771_1 (pc - 150) (by omega)
  rw [show 150 + (pc - 150) = pc by omega] at q
  exact gp_okE_of rfl q h
theorem gp_k772_0 : ∀ j, j < 142 → gp_okE 772 prog_5_method_5_code (gp_c772 (0 + j)) (0 + j) = true := by decide +kernel
theorem gp_k772 {pc : Nat} {e : Instr × Nat} (h : gp_c772 pc = some e) : gp_Pc 772 pc e := by
  have hl : pc < 142 := by
    unfold gp_c772 at h
    exact Nat.blt_eq.mp (gp_cond_none h).1
  have q := gp_k772_0 (pc - 0) (by omega)
  rw [show 0 + (pc - 0) = pc by omega] at q
  exact gp_okE_of rfl q h
theorem gp_k773_0 : ∀ j, j < 142 → gp_okE 773 prog_5_method_6_code (gp_c773 (0 + j)) (0 + j) = true := by decide +kernel
theorem gp_k773 {pc : Nat} {e : Instr × Nat} (h : gp_c773 pc = some e) : gp_Pc 773 pc e := by
  have hl : pc < 142 := by
    unfold gp_c773 at h
    exact Nat.blt_eq.mp (gp_cond_none h).1
  have q := gp_k773_0 (pc - 0) (by omega)
  rw [show 0 + (pc - 0) = pc by omega] at q
  exact gp_okE_of rfl q h
theorem gp_k774_0 : ∀ j, j < 48 → gp_okE 774 prog_5_method_7_code (gp_c774 (0 + j)) (0 + j) = true := by decide +kernel
theorem gp_k774 {pc : Nat} {e : Instr × Nat} (h : gp_c774 pc = some e) : gp_Pc 774 pc e := by
  have hl : pc < 48 := by
    unfold gp_c774 at h
    exact Nat.blt_eq.mp (gp_cond_none h).1
  have q := gp_k774_0 (pc - 0) (by omega)
  rw [show 0 + (pc - 0) = pc by omega] at q
  exact gp_okE_of rfl q h
theorem gp_k775_0 : ∀ j, j < 48 → gp_okE 775 prog_5_method_8_code (gp_c775 (0 + j)) (0 + j) = true := by decide +kernel
theorem gp_k775 {pc : Nat} {e : Instr × Nat} (h : gp_c775 pc = some e) : gp_Pc 775 pc e := by
  have hl : pc < 48 := by
    unfold gp_c775 at h
    exact Nat.blt_eq.mp (gp_cond_none h).1
  have q := gp_k775_0 (pc - 0) (by omega)
  rw [show 0 + (pc - 0) = pc by omega] at q
  exact gp_okE_of rfl q h
theorem gp_k776_0 : ∀ j, j < 78 → gp_okE 776 prog_5_method_9_code (gp_c776 (0 + j)) (0 + j) = true := by decide +kernel
theorem gp_k776 {pc : Nat} {e : Instr × Nat} (h : gp_c776 pc = some e) : gp_Pc 776 pc e := by
  have hl : pc < 78 := by
    unfold gp_c776 at h
    exact Nat.blt_eq.mp (gp_cond_none h).1
  have q := gp_k776_0 (pc - 0) (by omega)
  rw [show 0 + (pc - 0) = pc by omega] at q
  exact gp_okE_of rfl q h
theorem gp_k777_0 : ∀ j, j < 143 → gp_okE 777 prog_5_method_10_code (gp_c777 (0 + j)) (0 + j) = true := by decide +kernel
theorem gp_k777 {pc : Nat} {e : Instr × Nat} (h : gp_c777 pc = some e) : gp_Pc 777 pc e := by
  have hl : pc < 143 := by
    unfold gp_c777 at h
    exact Nat.blt_eq.mp (gp_cond_none h).1
  have q := gp_k777_0 (pc - 0) (by omega)
  rw [show 0 + (pc - 0) = pc by omega] at q
  exact gp_okE_of rfl q h
theorem gp_k1024_0 : ∀ j, j < 49 → gp_okE 1024 prog_6_method_1_code (gp_c1024 (0 + j)) (0 + j) = true := by decide +kernel
theorem gp_k1024 {pc : Nat} {e : Instr × Nat} (h : gp_c1024 pc = some e) : gp_Pc 1024 pc e := by
  have hl : pc < 49 := by
    unfold gp_c1024 at h
    exact Nat.blt_eq.mp (gp_cond_none h).1
  have q := gp_k1024_0 (pc - 0) (by omega)
  rw [show 0 + (pc - 0) = pc by omega] at q
  exact gp_okE_of rfl q h
theorem gp_k1025_0 : ∀ j, j < 6 → gp_okE 1025 prog_6_method_2_code (gp_c1025 (0 + j)) (0 + j) = true := by decide +kernel
theorem gp_k1025 {pc : Nat} {e : Instr × Nat} (h : gp_c1025 pc = some e) : gp_Pc 1025 pc e := by
  have hl : pc < 6 := by
    unfold gp_c1025 at h
    exact Nat.blt_eq.mp (gp_cond_none h).1
  have q := gp_k1025_0 (pc - 0) (by omega)
  rw [show 0 + (pc - 0) = pc by omega] at q
  exact gp_okE_of rfl q h
theorem gp_k1026_0 : ∀ j, j < 138 → gp_okE 1026 prog_6_method_3_code (gp_c1026 (0 + j)) (0 + j) = true := by decide +kernel
theorem gp_k1026 {pc : Nat} {e : Instr × Nat} (h : gp_c1026 pc = some e) : gp_Pc 1026 pc e := by
  have hl : pc < 138 := by
    unfold gp_c1026 at h
    exact Nat.blt_eq.mp (gp_cond_none h).1
  have q := gp_k1026_0 (pc - 0) (by omega)
  rw [show 0 + (pc - 0) = pc by omega] at q
  exact gp_okE_of rfl q h
theorem gp_k1027_0 : ∀ j, j < 150 → gp_okE 1027 prog_6_method_4_code (gp_c1027 (0 + j)) (0 + j) = true := by decide +kernel
theorem gp_k1027_1 : ∀ j, j < 64 → gp_okE 1027 prog_6_method_4_code (gp_c1027 (150 + j)) (150 + j) = true := by decide +kernel
theorem gp_k1027 {pc : Nat} {e : Instr × Nat} (h : gp_c1027 pc = some e) : gp_Pc 1027 pc e := by
  have hl : pc < 214 := by
    unfold gp_c1027 at h
    exact Nat.blt_eq.mp (gp_cond_none h).1
  by_cases h0 : pc < 150
  · have q := gp_k1027_0 (pc - 0) (by omega)
    rw [show 0 + (pc - 0) = pc by omega] at q
    exact gp_okE_of rfl q h
  have q := gp_k1027_1 (pc - 150) (by omega)
  rw [show 150 + (pc - 150) = pc by omega] at q
  exact gp_okE_of rfl q h
theorem gp_k1028_0 : ∀ j, j < 15 → gp_okE 1028 prog_6_method_5_code (gp_c1028 (0 + j)) (0 + j) = true := by decide +kernel
theorem gp_k1028 {pc : Nat} {e : Instr × Nat} (h : gp_c1028 pc = some e) : gp_Pc 1028 pc e := by
  have hl : pc < 15 := by
    unfold gp_c1028 at h
    exact Nat.blt_eq.mp (gp_cond_none h).1
  have q := gp_k1028_0 (pc - 0) (by omega)
  rw [show 0 + (pc - 0) = pc by omega] at q
  exact gp_okE_of rfl q h
theorem gp_k1029_0 : ∀ j, j < 59 → gp_okE 1029 prog_6_method_6_code (gp_c1029 (0 + j)) (0 + j) = true := by decide +kernel
theorem gp_k1029 {pc : Nat} {e : Instr × Nat} (h : gp_c1029 pc = some e) : gp_Pc 1029 pc e := by
  have hl : pc < 59 := by
    unfold gp_c1029 at h
    exact Nat.blt_eq.mp (gp_cond_none h).1
  have q := gp_k1029_0 (pc - 0) (by omega)
  rw [show 0 + (pc - 0) = pc by omega] at q
  exact gp_okE_of rfl q h
theorem gp_k1030_0 : ∀ j, j < 150 → gp_okE 1030 prog_6_method_7_code (gp_c1030 (0 + j)) (0 + j) = true := by decide +kernel
theorem gp_k1030_1 : ∀ j, j < 3 → gp_okE 1030 prog_6_method_7_code (gp_c1030 (150 + j)) (150 + j) = true := by decide +kernel
theorem gp_k1030 {pc : Nat} {e : Instr × Nat} (h : gp_c1030 pc = some e) : gp_Pc 1030 pc e := by
  have hl : pc < 153 := by
    unfold gp_c1030 at h
    exact Nat.blt_eq.mp (gp_cond_none h).1
  by_cases h0 : pc < 150
  · have q := gp_k1030_0 (pc - 0) (by omega)
    rw [show 0 + (pc - 0) = pc by omega] at q
    exact gp_okE_of rfl q h
  have q := gp_k1030_1 (pc - 150) (by omega)
  rw [show 150 + (pc - 150) = pc by omega] at q
  exact gp_okE_of rfl q h
theorem gp_k1031_0 : ∀ j, j < 106 → gp_okE 1031 prog_6_method_8_code (gp_c1031 (0 + j)) (0 + j) = true := by decide +kernel
theorem gp_k1031 {pc : Nat} {e : Instr × Nat} (h : gp_c1031 pc = some e) : gp_Pc 1031 pc e := by
  have hl : pc < 106 := by
    unfold gp_c1031 at h
    exact Nat.blt_eq.mp (gp_cond_none h).1
  have q := gp_k1031_0 (pc - 0) (by omega)
  rw [show 0 + (pc - 0) = pc by omega] at q
  exact gp_okE_of rfl q h
theorem gp_k1032_0 : ∀ j, j < 150 → gp_okE 1032 prog_6_method_9_code (gp_c1032 (0 + j)) (0 + j) = true := by decide +kernel
theorem gp_k1032_1 : ∀ j, j < 40 → gp_okE 1032 prog_6_method_9_code (gp_c1032 (150 + j)) (150 + j) = true := by decide +kernel
theorem gp_k1032 {pc : Nat} {e : Instr × Nat} (h : gp_c1032 pc = some e) : gp_Pc 1032 pc e := by
  have hl : pc < 190 := by
    unfold gp_c1032 at h
    exact Nat.blt_eq.mp (gp_cond_none h).1
  by_cases h0 : pc < 150
  · have q := gp_k1032_0 (pc - 0) (by omega)
    rw [show 0 + (pc - 0) = pc by omega] at q
    exact gp_okE_of rfl q h
  have q := gp_k1032_1 (pc - 150) (by omega)
  rw [show 150 + (pc - 150) = pc by omega] at q
  exact gp_okE_of rfl q h
theorem gp_k1280_0 : ∀ j, j < 24 → gp_okE 1280 prog_7_method_1_code (gp_c1280 (0 + j)) (0 + j) = true := by decide +kernel
theorem gp_k1280 {pc : Nat} {e : Instr × Nat} (h : gp_c1280 pc = some e) : gp_Pc 1280 pc e := by
  have hl : pc < 24 := by
    unfold gp_c1280 at h
    exact Nat.blt_eq.mp (gp_cond_none h).1
  have q := gp_k1280_0 (pc - 0) (by omega)
  rw [show 0 + (pc - 0) = pc by omega] at q
  exact gp_okE_of rfl q h
theorem gp_k1281_0 : ∀ j, j < 53 → gp_okE 1281 prog_7_method_2_code (gp_c1281 (0 + j)) (0 + j) = true := by decide +kernel
theorem gp_k1281 {pc : Nat} {e : Instr × Nat} (h : gp_c1281 pc = some e) : gp_Pc 1281 pc e := by
  have hl : pc < 53 := by
    unfold gp_c1281 at h
    exact Nat.blt_eq.mp (gp_cond_none h).1
  have q := gp_k1281_0 (pc - 0) (by omega)
  rw [show 0 + (pc - 0) = pc by omega] at q
  exact gp_okE_of rfl q h
theorem gp_k1282_0 : ∀ j, j < 32 → gp_okE 1282 prog_7_method_3_code (gp_c1282 (0 + j)) (0 + j) = true := by decide +kernel
theorem gp_k1282 {pc : Nat} {e : Instr × Nat} (h : gp_c1282 pc = some e) : gp_Pc 1282 pc e := by
  have hl : pc < 32 := by
    unfold gp_c1282 at h
    exact Nat.blt_eq.mp (gp_cond_none h).1
  have q := gp_k1282_0 (pc - 0) (by omega)
  rw [show 0 + (pc - 0) = pc by omega] at q
  exact gp_okE_of rfl q h
theorem gp_k1283_0 : ∀ j, j < 16 → gp_okE 1283 prog_7_method_4_code (gp_c1283 (0 + j)) (0 + j) = true := by decide +kernel
theorem gp_k1283 {pc : Nat} {e : Instr × Nat} (h : gp_c1283 pc = some e) : gp_Pc 1283 pc e := by
  have hl : pc < 16 := by
    unfold gp_c1283 at h
    exact Nat.blt_eq.mp (gp_cond_none h).1
  have q := gp_k1283_0 (pc - 0) (by omega)
  rw [show 0 + (pc - 0) = pc by omega] at q
  exact gp_okE_of rfl q h
theorem gp_k1284_0 : ∀ j, j < 26 → gp_okE 1284 prog_7_method_5_code (gp_c1284 (0 + j)) (0 + j) = true := by decide +kernel
theorem gp_k1284 {pc : Nat} {e : Instr × Nat} (h : gp_c1284 pc = some e) : gp_Pc 1284 pc e := by
  have hl : pc < 26 := by
    unfold gp_c1284 at h
    exact Nat.blt_eq.mp (gp_cond_none h).1
  have q := gp_k1284_0 (pc - 0) (by omega)
  rw [show 0 + (pc - 0) = pc by omega] at q
  exact gp_okE_of rfl q h
theorem gp_k1285_0 : ∀ j, j < 80 → gp_okE 1285 prog_7_method_6_code (gp_c1285 (0 + j)) (0 + j) = true := by decide +kernel
theorem gp_k1285 {pc : Nat} {e : Instr × Nat} (h : gp_c1285 pc = some e) : gp_Pc 1285 pc e := by
  have hl : pc < 80 := by
    unfold gp_c1285 at h
    exact Nat.blt_eq.mp (gp_cond_none h).1
  have q := gp_k1285_0 (pc - 0) (by omega)
  rw [show 0 + (pc - 0) = pc by omega] at q
  exact gp_okE_of rfl q h
theorem gp_k1286_0 : ∀ j, j < 125 → gp_okE 1286 prog_7_method_7_code (gp_c1286 (0 + j)) (0 + j) = true := by decide +kernel
theorem gp_k1286 {pc : Nat} {e : Instr × Nat} (h : gp_c1286 pc = some e) : gp_Pc 1286 pc e := by
  have hl : pc < 125 := by
    unfold gp_c1286 at h
    exact Nat.blt_eq.mp (gp_cond_none h).1
  have q := gp_k1286_0 (pc - 0) (by omega)
  rw [show 0 + (pc - 0) = pc by omega] at q
  exact gp_okE_of rfl q h
theorem gp_k1287_0 : ∀ j, j < 56 → gp_okE 1287 prog_7_method_8_code (gp_c1287 (0 + j)) (0 + j) = true := by decide +kernel
theorem gp_k1287 {pc : Nat} {e : Instr × Nat} (h : gp_c1287 pc = some e) : gp_Pc 1287 pc e := by
  have hl : pc < 56 := by
    unfold gp_c1287 at h
    exact Nat.blt_eq.mp (gp_cond_none h).1
  have q := gp_k1287_0 (pc - 0) (by omega)
  rw [show 0 + (pc - 0) = pc by omega] at q
  exact gp_okE_of rfl q h
theorem gp_k1288_0 : ∀ j, j < 104 → gp_okE 1288 prog_7_method_9_code (gp_c1288 (0 + j)) (0 + j) = true := by decide +kernel
theorem gp_k1288 {pc : Nat} {e : Instr × Nat} (h : gp_c1288 pc = some e) : gp_Pc 1288 pc e := by
  have hl : pc < 104 := by
    unfold gp_c1288 at h
    exact Nat.blt_eq.mp (gp_cond_none h).1
  have q := gp_k1288_0 (pc - 0) (by omega)
  rw [show 0 + (pc - 0) = pc by omega] at q
  exact gp_okE_of rfl q h
theorem gp_k1289_0 : ∀ j, j < 33 → gp_okE 1289 prog_7_method_10_code (gp_c1289 (0 + j)) (0 + j) = true := by decide +kernel
theorem gp_k1289 {pc : Nat} {e : Instr × Nat} (h : gp_c1289 pc = some e) : gp_Pc 1289 pc e := by
  have hl : pc < 33 := by
    unfold gp_c1289 at h
    exact Nat.blt_eq.mp (gp_cond_none h).1
  have q := gp_k1289_0 (pc - 0) (by omega)
  rw [show 0 + (pc - 0) = pc by omega] at q
  exact gp_okE_of rfl q h
theorem gp_k1290_0 : ∀ j, j < 58 → gp_okE 1290 prog_7_method_11_code (gp_c1290 (0 + j)) (0 + j) = true := by decide +kernel
theorem gp_k1290 {pc : Nat} {e : Instr × Nat} (h : gp_c1290 pc = some e) : gp_Pc 1290 pc e := by
  have hl : pc < 58 := by
    unfold gp_c1290 at h
    exact Nat.blt_eq.mp (gp_cond_none h).1
  have q := gp_k1290_0 (pc - 0) (by omega)
  rw [show 0 + (pc - 0) = pc by omega] at q
  exact gp_okE_of rfl q h
theorem gp_k1291_0 : ∀ j, j < 18 → gp_okE 1291 prog_7_method_12_code (gp_c1291 (0 + j)) (0 + j) = true := by decide +kernel
theorem gp_k1291 {pc : Nat} {e : Instr × Nat} (h : gp_c1291 pc = some e) : gp_Pc 1291 pc e := by
  have hl : pc < 18 := by
    unfold gp_c1291 at h
    exact Nat.blt_eq.mp (gp_cond_none h).1
  have q := gp_k1291_0 (pc - 0) (by omega)
  rw [show 0 + (pc - 0) = pc by omega] at q
  exact gp_okE_of rfl q h
theorem gp_k1292_0 : ∀ j, j < 20 → gp_okE 1292 prog_7_method_13_code (gp_c1292 (0 + j)) (0 + j) = true := by decide +kernel
theorem gp_k1292 {pc : Nat} {e : Instr × Nat} (h : gp_c1292 pc = some e) : gp_Pc 1292 pc e := by
  have hl : pc < 20 := by
    unfold gp_c1292 at h
    exact Nat.blt_eq.mp (gp_cond_none h).1
  have q := gp_k1292_0 (pc - 0) (by omega)
  rw [show 0 + (pc - 0) = pc by omega] at q
  exact gp_okE_of rfl q h
theorem gp_k1293_0 : ∀ j, j < 32 → gp_okE 1293 prog_7_method_14_code (gp_c1293 (0 + j)) (0 + j) = true := by decide +kernel
theorem gp_k1293 {pc : Nat} {e : Instr × Nat} (h : gp_c1293 pc = some e) : gp_Pc 1293 pc e := by
  have hl : pc < 32 := by
    unfold gp_c1293 at h
    exact Nat.blt_eq.mp (gp_cond_none h).1
  have q := gp_k1293_0 (pc - 0) (by omega)
  rw [show 0 + (pc - 0) = pc by omega] at q
  exact gp_okE_of rfl q h
theorem gp_k1294_0 : ∀ j, j < 150 → gp_okE 1294 prog_7_method_15_code (gp_c1294 (0 + j)) (0 + j) = true := by decide +kernel
theorem gp_k1294_1 : ∀ j, j < 22 → gp_okE 1294 prog_7_method_15_code (gp_c1294 (150 + j)) (150 + j) = true := by decide +kernel
theorem gp_k1294 {pc : Nat} {e : Instr × Nat} (h : gp_c1294 pc = some e) : gp_Pc 1294 pc e := by
  have hl : pc < 172 := by
    unfold gp_c1294 at h
    exact Nat.blt_eq.mp (gp_cond_none h).1
  by_cases h0 : pc < 150
  · have q := gp_k1294_0 (pc - 0) (by omega)
    rw [show 0 + (pc - 0) = pc by omega] at q
    exact gp_okE_of rfl q h
  have q := gp_k1294_1 (pc - 150) (by omega)
  rw [show 150 + (pc - 150) = pc by omega] at q
  exact gp_okE_of rfl q h
theorem gp_k1536_0 : ∀ j, j < 34 → gp_okE 1536 prog_8_method_1_code (gp_c1536 (0 + j)) (0 + j) = true := by decide +kernel
theorem gp_k1536 {pc : Nat} {e : Instr × Nat} (h : gp_c1536 pc = some e) : gp_Pc 1536 pc e := by
  have hl : pc < 34 := by
    unfold gp_c1536 at h
    exact Nat.blt_eq.mp (gp_cond_none h).1
  have q := gp_k1536_0 (pc - 0) (by omega)
  rw [show 0 + (pc - 0) = pc by omega] at q
  exact gp_okE_of rfl q h
theorem gp_k1537_0 : ∀ j, j < 150 → gp_okE 1537 prog_8_method_2_code (gp_c1537 (0 + j)) (0 + j) = true := by decide +kernel
theorem gp_k1537_1 : ∀ j, j < 108 → gp_okE 1537 prog_8_method_2_code (gp_c1537 (150 + j)) (150 + j) = true := by decide +kernel
theorem gp_k1537 {pc : Nat} {e : Instr × Nat} (h : gp_c1537 pc = some e) : gp_Pc 1537 pc e := by
  have hl : pc < 258 := by
    unfold gp_c1537 at h
    exact Nat.blt_eq.mp (gp_cond_none h).1
  by_cases h0 : pc < 150
  · have q := gp_k1537_0 (pc - 0) (by omega)
    rw [show 0 + (pc - 0) = pc by omega] at q
    exact gp_okE_of rfl q h
  have q := gp_k1537_1 (pc - 150) (by omega)
  rw [show 150 + (pc - 150) = pc by omega] at q
  exact gp_okE_of rfl q h
