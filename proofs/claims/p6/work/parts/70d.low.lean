/-! the lowest bit, and what is left without it -/
theorem low_ex : ∀ n : Nat, 0 < n → ∃ k m, n = 2 ^ k * (2 * m + 1) := by
  intro n
  induction n using Nat.strongRecOn with
  | ind n ih =>
    intro h
    by_cases c : n % 2 = 1
    · exact ⟨0, n / 2, by omega⟩
    · obtain ⟨k, m, e⟩ := ih (n / 2) (by omega) (by omega)
      refine ⟨k + 1, m, ?_⟩
      rw [Nat.pow_succ, Nat.mul_right_comm, ← e]
      omega
theorem tb_odd (k m i : Nat) : (2 ^ k * (2 * m + 1)).testBit i = (decide (k ≤ i) && (2 * m + 1).testBit (i - k)) := by
  rw [Nat.testBit_two_pow_mul]
theorem tb_odd1 (k m i : Nat) : (2 ^ k * (2 * m + 1) - 1).testBit i = if i < k then true else (2 * m).testBit (i - k) := by
  have hp : 0 < 2 ^ k := Nat.pow_pos (by decide)
  have e : 2 ^ k * (2 * m + 1) - 1 = 2 ^ k * (2 * m) + (2 ^ k - 1) := by
    rw [Nat.mul_add, Nat.mul_one]; omega
  rw [e, Nat.testBit_two_pow_mul_add _ (by omega)]
  by_cases c : i < k
  · rw [if_pos c, if_pos c, Nat.testBit_two_pow_sub_one]; simp [c]
  · rw [if_neg c, if_neg c]
theorem tb_par (m j : Nat) : (2 * m + 1).testBit j = if j = 0 then true else (2 * m).testBit j := by
  cases j with
  | zero => rw [if_pos rfl, Nat.testBit_zero]; simp
  | succ j =>
    rw [if_neg (by omega), Nat.testBit_succ, Nat.testBit_succ]
    congr 1; omega
theorem tb_ev (m : Nat) : (2 * m).testBit 0 = false := by rw [Nat.testBit_zero]; simp
/-- a set that isn't empty: its lowest member, the set without it -/
theorem low_bits {x : BitVec 64} (h : ¬ x = 0#64) : ∃ k : Nat, k < 64 ∧ x.getLsbD k = true ∧ (∀ i, i < k → x.getLsbD i = false) ∧ (∀ i, (x &&& (x - 1#64)).getLsbD i = (x.getLsbD i && !decide (i = k))) ∧ ((x &&& -x) - 1#64).toNat = 2 ^ k - 1 := by
  have hx : 0 < x.toNat := by
    apply Classical.byContradiction
    intro c
    exact h (BitVec.eq_of_toNat_eq (by rw [BitVec.toNat_zero]; omega))
  obtain ⟨k, m, e⟩ := low_ex x.toNat hx
  have hp : 0 < 2 ^ k := Nat.pow_pos (by decide)
  have l := x.isLt
  have hk : k < 64 := by
    apply Classical.byContradiction
    intro c
    have a : 2 ^ 64 ≤ 2 ^ k := Nat.pow_le_pow_right (by decide) (by omega)
    have b : 2 ^ k * 1 ≤ 2 ^ k * (2 * m + 1) := Nat.mul_le_mul_left _ (by omega)
    omega
  have bx : ∀ i, x.getLsbD i = (decide (k ≤ i) && (2 * m + 1).testBit (i - k)) := fun i => by
    show x.toNat.testBit i = _
    rw [e, tb_odd]
  have n1 : (x - 1#64).toNat = x.toNat - 1 := by
    rw [BitVec.toNat_sub]
    show (2 ^ 64 - 1 + x.toNat) % 2 ^ 64 = _
    omega
  have b1 : ∀ i, (x - 1#64).getLsbD i = if i < k then true else (2 * m).testBit (i - k) := fun i => by
    show (x - 1#64).toNat.testBit i = _
    rw [n1, e, tb_odd1]
  have nn : (-x).toNat = 2 ^ 64 - ((x.toNat - 1) + 1) := by
    rw [BitVec.toNat_neg]; omega
  have bn : ∀ i, i < 64 → (-x).getLsbD i = !(if i < k then true else (2 * m).testBit (i - k)) := fun i hi => by
    show (-x).toNat.testBit i = _
    rw [nn, Nat.testBit_two_pow_sub_succ (by omega), e, tb_odd1]
    simp [hi]
  refine ⟨k, hk, ?_, fun i hi => ?_, fun i => ?_, ?_⟩
  · rw [bx, tb_par]; simp
  · rw [bx]
    have : ¬ k ≤ i := by omega
    simp [this]
  · rw [BitVec.getLsbD_and, b1, bx, tb_par]
    by_cases c : i < k
    · have : ¬ k ≤ i := by omega
      simp [this]
    · rw [if_neg c]
      by_cases d : i = k
      · subst d; simp [tb_ev]
      · have a : k ≤ i := by omega
        have b : ¬ i - k = 0 := by omega
        simp [a, b, d]
  · have q : (x &&& -x).toNat = 2 ^ k := by
      apply Nat.eq_of_testBit_eq
      intro i
      by_cases hi : i < 64
      · have g := BitVec.getLsbD_and (x := x) (y := -x) (i := i)
        rw [bn i hi, bx, tb_par] at g
        show (x &&& -x).getLsbD i = _
        rw [g, Nat.testBit_two_pow]
        by_cases c : i < k
        · have a1 : ¬ k ≤ i := by omega
          have a2 : ¬ k = i := by omega
          simp [a1, a2]
        · rw [if_neg c]
          by_cases d : k = i
          · subst d; simp [tb_ev]
          · have a : k ≤ i := by omega
            have b : ¬ i - k = 0 := by omega
            simp [a, b, d]
      · show (x &&& -x).getLsbD i = _
        rw [BitVec.getLsbD_of_ge _ _ (by omega), Nat.testBit_two_pow]
        have : ¬ k = i := by omega
        simp [this]
    rw [BitVec.toNat_sub, q]
    have : 2 ^ k < 2 ^ 64 := Nat.pow_lt_pow_right (by decide) hk
    show (2 ^ 64 - 1 + 2 ^ k) % 2 ^ 64 = _
    omega
theorem cnt_pow {x : BitVec 64} {k : Nat} (h : x.toNat = 2 ^ k - 1) : ∀ n, gm_cnt x n = if n ≤ k then n else k
  | 0 => by rw [if_pos (Nat.zero_le _)]; rfl
  | n + 1 => by
    show gm_cnt x n + (if Nat.testBit x.toNat n = true then 1 else 0) = _
    rw [cnt_pow h n, h, Nat.testBit_two_pow_sub_one]
    by_cases c : n < k
    · have c1 : n ≤ k := by omega
      have c2 : n + 1 ≤ k := by omega
      simp [c, c1, c2]
    · have c2 : ¬ n + 1 ≤ k := by omega
      by_cases d : n ≤ k
      · have d2 : n = k := by omega
        simp [c, d, c2, d2]
      · simp [c, d, c2]
theorem cnt_drop {x y : BitVec 64} {k : Nat} (hx : x.getLsbD k = true) (hy : ∀ i, y.getLsbD i = (x.getLsbD i && !decide (i = k))) : ∀ n, gm_cnt x n = gm_cnt y n + (if k < n then 1 else 0)
  | 0 => rfl
  | n + 1 => by
    show gm_cnt x n + _ = gm_cnt y n + _ + _
    rw [cnt_drop hx hy n, hy]
    by_cases c : n = k
    · subst c
      have d1 : ¬ n < n := Nat.lt_irrefl _
      simp [hx]
    · by_cases d : k < n
      · have d2 : k < n + 1 := by omega
        simp [c, d, d2]; omega
      · have d2 : ¬ k < n + 1 := by omega
        simp [c, d, d2]
/-- the number of the lowest member, as the class counts it -/
def lob (x : BitVec 64) : Nat := gm_cnt ((x &&& -x) - 1#64) 64
theorem lob_s {x : BitVec 64} (h : ¬ x = 0#64) : (lob x : Int) ≤ 63 ∧ x.getLsbD (lob x) = true ∧ (∀ i, i < lob x → x.getLsbD i = false) ∧ (∀ i, (x &&& (x - 1#64)).getLsbD i = (x.getLsbD i && !decide (i = lob x))) ∧ gm_cnt x 64 = gm_cnt (x &&& (x - 1#64)) 64 + 1 := by
  obtain ⟨k, h1, h2, h3, h4, h5⟩ := low_bits h
  have e : lob x = k := by
    unfold lob
    rw [cnt_pow h5]
    by_cases c : 64 ≤ k
    · omega
    · rw [if_neg c]
  rw [e]
  refine ⟨by omega, h2, h3, h4, ?_⟩
  rw [cnt_drop h2 h4, if_pos h1]
theorem lob_i {x : BitVec 64} {r : Int} (h : ¬ x = 0#64) (e : r = (lob x : Nat)) : 0 ≤ r ∧ r ≤ 63 ∧ x.getLsbD r.toNat = true := by
  obtain ⟨h1, h2, -⟩ := lob_s h
  subst e
  exact ⟨by omega, h1, h2⟩
/-- some of the members of another set -/
def sub (x y : BitVec 64) : Prop := ∀ i : Nat, x.getLsbD i = true → y.getLsbD i = true
theorem sub.refl (x : BitVec 64) : sub x x := fun _ h => h
theorem sub.rest {x y : BitVec 64} (h : sub x y) : sub (x &&& (x - 1#64)) y := fun i hi => by
  rw [BitVec.getLsbD_and, Bool.and_eq_true] at hi
  exact h i hi.1
theorem sub.low {x y : BitVec 64} {r : Int} (h : sub x y) (h0 : ¬ x = 0#64) (e : r = (lob x : Nat)) : 0 ≤ r ∧ r ≤ 63 ∧ y.getLsbD r.toNat = true := by
  have := lob_i h0 e
  exact ⟨this.1, this.2.1, h _ this.2.2⟩
theorem sub.bd {x y : BitVec 64} {n : Int} (h : sub x y) (b : bd y n) : bd x n := fun i hi => b i (h i hi)
theorem sub.and1 {x y z : BitVec 64} (h : sub x z) : sub (x &&& y) z := fun i hi => by
  rw [BitVec.getLsbD_and, Bool.and_eq_true] at hi
  exact h i hi.1
theorem sub.and2 {x y z : BitVec 64} (h : sub y z) : sub (x &&& y) z := fun i hi => by
  rw [BitVec.getLsbD_and, Bool.and_eq_true] at hi
  exact h i hi.2
theorem cnt_zz : ∀ n, gm_cnt 0#64 n = 0
  | 0 => rfl
  | n + 1 => by
    show gm_cnt 0#64 n + _ = 0
    rw [cnt_zz n]; simp
theorem cnt_nz {x : BitVec 64} (h : 0 < gm_cnt x 64) : ¬ x = 0#64 := by
  intro e; subst e
  rw [cnt_zz] at h
  omega
/-- has, as the class asks it -/
theorem hx_bit (x : BitVec 64) (k : Nat) (hk : k < 64) : ((x >>> k) &&& 1#64) = 0#64 ↔ x.getLsbD k = false := by
  have b0 : ((x >>> k) &&& 1#64).getLsbD 0 = x.getLsbD k := by
    rw [BitVec.getLsbD_and, BitVec.getLsbD_ushiftRight]
    simp
  constructor
  · intro h
    rw [← b0, h]; rfl
  · intro h
    apply BitVec.eq_of_getLsbD_eq
    intro i hi
    by_cases c : i = 0
    · subst c; rw [b0, h]; rfl
    · rw [BitVec.getLsbD_and]
      have : (1#64).getLsbD i = false := by
        rw [BitVec.getLsbD_one]; simp [c]
      simp [this]
