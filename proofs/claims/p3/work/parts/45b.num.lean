theorem wr_rng (x : Int) : -2147483648 ≤ gp_wr x ∧ gp_wr x ≤ 2147483647 := by unfold gp_wr; omega
theorem gz_irng (b : BitVec 32) : -2147483648 ≤ b.toInt ∧ b.toInt ≤ 2147483647 := by
  have h := b.isLt
  rw [BitVec.toInt_eq_toNat_cond]
  split <;> omega
theorem gz_ofn {c : Int} (h : 0 ≤ c ∧ c < 2147483648) : (BitVec.ofInt 32 c).toNat = c.toNat := by
  rw [BitVec.toNat_ofInt]
  have : c % ((2 ^ 32 : Nat) : Int) = c := Int.emod_eq_of_lt h.1 (by omega)
  rw [this]
theorem gz_and (x c : Int) (h : 0 ≤ c ∧ c < 2147483648) : 0 ≤ gp_and x c ∧ gp_and x c ≤ c := by
  unfold gp_and
  have a : (BitVec.ofInt 32 x &&& BitVec.ofInt 32 c).toNat ≤ c.toNat := by
    rw [BitVec.toNat_and, gz_ofn h]; exact Nat.and_le_right
  rw [BitVec.toInt_eq_toNat_cond]
  split <;> omega
theorem gz_andx (x y : Int) : -2147483648 ≤ gp_and x y ∧ gp_and x y ≤ 2147483647 := gz_irng _
theorem gz_orx (x y : Int) : -2147483648 ≤ gp_or x y ∧ gp_or x y ≤ 2147483647 := gz_irng _
theorem gz_xorx (x y : Int) : -2147483648 ≤ gp_xor x y ∧ gp_xor x y ≤ 2147483647 := gz_irng _
theorem gz_shlx (x y : Int) : -2147483648 ≤ gp_shl x y ∧ gp_shl x y ≤ 2147483647 := gz_irng _
theorem gz_shrx (x y : Int) : -2147483648 ≤ gp_shr x y ∧ gp_shr x y ≤ 2147483647 := gz_irng _
theorem gz_ushrx (x y : Int) : -2147483648 ≤ gp_ushr x y ∧ gp_ushr x y ≤ 2147483647 := gz_irng _
theorem gz_ush (x : Int) (k p : Nat) (hp : p = 2 ^ k) (hx : 0 ≤ x ∧ x < 2147483648) (hk : k < 32) : gp_ushr x (k : Int) = x / (p : Int) := by
  unfold gp_ushr
  have e : (((k : Int) % 32).toNat) = k := by omega
  rw [e]
  have a : (BitVec.ofInt 32 x >>> k).toNat = x.toNat / p := by
    rw [BitVec.toNat_ushiftRight, gz_ofn hx, Nat.shiftRight_eq_div_pow, hp]
  have b : x.toNat / p ≤ x.toNat := Nat.div_le_self _ _
  rw [BitVec.toInt_eq_toNat_cond, a]
  have c : ((x.toNat / p : Nat) : Int) = x / (p : Int) := by
    rw [Int.natCast_ediv, Int.toNat_of_nonneg hx.1]
  split <;> omega
theorem gz_ushn (x : Int) (k p : Nat) (hp : p = 2 ^ (32 - k)) (hk : 1 ≤ k ∧ k < 32) : 0 ≤ gp_ushr x (k : Int) ∧ gp_ushr x (k : Int) < (p : Int) := by
  unfold gp_ushr
  have e : (((k : Int) % 32).toNat) = k := by omega
  rw [e]
  have a : (BitVec.ofInt 32 x >>> k).toNat < p := by
    rw [BitVec.toNat_ushiftRight, Nat.shiftRight_eq_div_pow, hp]
    have h := (BitVec.ofInt 32 x).isLt
    apply Nat.div_lt_of_lt_mul
    rw [← Nat.pow_add, show k + (32 - k) = 32 by omega]; exact h
  have b : p ≤ 2147483648 := by
    rw [hp]
    exact Nat.pow_le_pow_right (by omega : 0 < 2) (by omega : 32 - k ≤ 31)
  rw [BitVec.toInt_eq_toNat_cond]
  split <;> omega
theorem rest_lt {m : BitVec 64} (h : ¬ m = 0#64) : (m &&& (m - 1#64)).toNat < m.toNat := by
  have z : m.toNat ≠ 0 := fun e => h (BitVec.eq_of_toNat_eq (by simpa using e))
  have a : (m - 1#64).toNat = m.toNat - 1 := by
    rw [BitVec.toNat_sub]
    have := m.isLt
    simp
    omega
  rw [BitVec.toNat_and, a]
  have := Nat.and_le_right (n := m.toNat) (m := m.toNat - 1)
  omega
theorem pl3 {s : gH} {v a b c : Int} (h0 : gp_I s 110 0 = a) (h1 : gp_I s 110 1 = b) (h2 : gp_I s 110 2 = c) : (v = 0 → gp_I s 110 v.toNat = a) ∧ (v = 1 → gp_I s 110 v.toNat = b) ∧ (v = 2 → gp_I s 110 v.toNat = c) := by
  refine ⟨fun h => ?_, fun h => ?_, fun h => ?_⟩ <;> subst h
  · exact h0
  · exact h1
  · exact h2
theorem gz_andl (c x : Int) (h : 0 ≤ c ∧ c < 2147483648) : 0 ≤ gp_and c x ∧ gp_and c x ≤ c := by
  unfold gp_and
  have a : (BitVec.ofInt 32 c &&& BitVec.ofInt 32 x).toNat ≤ c.toNat := by
    rw [BitVec.toNat_and, gz_ofn h]; exact Nat.and_le_left
  rw [BitVec.toInt_eq_toNat_cond]
  split <;> omega
theorem xor_m1 (x : Int) (h : -2147483648 ≤ x ∧ x ≤ 2147483647) : gp_xor x (-1) = -x - 1 := by
  unfold gp_xor
  have e : BitVec.ofInt 32 (-1) = BitVec.allOnes 32 := by decide
  rw [e, BitVec.xor_allOnes, BitVec.toInt_not]
  have : (BitVec.ofInt 32 x).toInt = x := by
    rw [BitVec.toInt_ofInt]; exact Int.bmod_eq_of_le (by omega) (by omega)
  have n : ((BitVec.ofInt 32 x).toNat : Int) = x % 4294967296 := by
    rw [BitVec.toNat_ofInt]
    have := Int.emod_nonneg x (by omega : (4294967296 : Int) ≠ 0)
    show (((x % ((2 ^ 32 : Nat) : Int)).toNat : Nat) : Int) = _
    rw [show ((2 ^ 32 : Nat) : Int) = 4294967296 from rfl]
    omega
  first
    | omega
    | (rw [Int.bmod_def]; split <;> omega)
theorem ntz0 (x : Int) (h : -2147483648 ≤ x ∧ x ≤ 2147483647) : x ≠ 0 → 0 ≤ gp_and (gp_xor x (-1)) (gp_wr (x - 1)) := by
  intro hx
  by_cases c : 0 < x
  · exact (gz_and _ _ (by rw [gp_wr_id (by omega) (by omega)]; omega)).1
  · exact (gz_andl _ _ (by rw [xor_m1 x h]; omega)).1
theorem and0 (x c : Int) : x = 0 → gp_and x c = 0 := by
  intro h; subst h
  unfold gp_and
  simp
theorem ntz_hl (p : BitVec 64) : gp_wr p.toInt = 0 → gp_wr (p >>> 32).toInt = 0 → p = 0#64 := by
  intro h1 h2
  have b := p.isLt
  have e : (p >>> 32).toNat = p.toNat / 4294967296 := by
    rw [BitVec.toNat_ushiftRight, Nat.shiftRight_eq_div_pow]
  have e2 : (p >>> 32).toInt = ((p.toNat / 4294967296 : Nat) : Int) := by
    rw [BitVec.toInt_eq_toNat_cond, e, if_pos (by omega)]
  rw [e2] at h2
  rw [BitVec.toInt_eq_toNat_cond] at h1
  apply BitVec.eq_of_toNat_eq
  show p.toNat = 0
  unfold gp_wr at h1 h2
  split at h1 <;> omega
