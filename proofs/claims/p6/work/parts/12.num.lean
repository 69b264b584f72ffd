/-! numbers: the small machine's against Int32, Int64 -/
section GpNum
theorem gp_bm (x : Int) : x.bmod (2 ^ 32) = gp_wr x := by
  unfold gp_wr
  rw [Int.bmod_def]
  split <;> omega
theorem gp_wr_id {x : Int} (h1 : -2147483648 ≤ x) (h2 : x < 2147483648) : gp_wr x = x := by unfold gp_wr; omega
theorem gp_wr_rng (x : Int) : -2147483648 ≤ gp_wr x ∧ gp_wr x < 2147483648 := by unfold gp_wr; omega
theorem gp_i32 (x : Int32) : -2147483648 ≤ x.toInt ∧ x.toInt < 2147483648 := by
  have h1 := x.toBitVec.le_toInt
  have h2 := x.toBitVec.toInt_lt
  exact ⟨by simpa using h1, by simpa using h2⟩
theorem gp_addI (x y : Int32) : (x + y).toInt = gp_wr (x.toInt + y.toInt) := by rw [Int32.toInt_add, gp_bm]
theorem gp_subI (x y : Int32) : (x - y).toInt = gp_wr (x.toInt - y.toInt) := by rw [Int32.toInt_sub, gp_bm]
theorem gp_mulI (x y : Int32) : (x * y).toInt = gp_wr (x.toInt * y.toInt) := by rw [Int32.toInt_mul, gp_bm]
theorem gp_negI (x : Int32) : (-x).toInt = gp_wr (-x.toInt) := by rw [Int32.toInt_neg, gp_bm]
theorem gp_ofI (z : Int) : (Int32.ofInt z).toInt = gp_wr z := by rw [Int32.toInt_ofInt, ← gp_bm]
theorem gp_bv (x : Int32) : BitVec.ofInt 32 x.toInt = x.toBitVec := BitVec.ofInt_toInt
theorem gp_andI (x y : Int32) : (x &&& y).toInt = gp_and x.toInt y.toInt := by
  unfold gp_and; rw [gp_bv, gp_bv]; rfl
theorem gp_orI (x y : Int32) : (x ||| y).toInt = gp_or x.toInt y.toInt := by
  unfold gp_or; rw [gp_bv, gp_bv]; rfl
theorem gp_xorI (x y : Int32) : (x ^^^ y).toInt = gp_xor x.toInt y.toInt := by
  unfold gp_xor; rw [gp_bv, gp_bv]; rfl
theorem gp_m31 (v : BitVec 32) : (v &&& 31#32).toNat = v.toNat % 32 := by
  rw [BitVec.toNat_and]
  exact Nat.and_two_pow_sub_one_eq_mod v.toNat 5
theorem gp_m63 (v : BitVec 64) : (v &&& 63#64).toNat = v.toNat % 64 := by
  rw [BitVec.toNat_and]
  exact Nat.and_two_pow_sub_one_eq_mod v.toNat 6
theorem gp_n32 (y : Int32) : (y.toInt % 32).toNat = y.toBitVec.toNat % 32 := by
  have h : y.toInt = y.toBitVec.toInt := rfl
  rw [h, BitVec.toInt_eq_toNat_cond]
  have := y.toBitVec.isLt
  split <;> omega
theorem gp_n64 (y : Int32) : (y.toInt % 64).toNat = y.toBitVec.toNat % 64 := by
  have h : y.toInt = y.toBitVec.toInt := rfl
  rw [h, BitVec.toInt_eq_toNat_cond]
  have := y.toBitVec.isLt
  split <;> omega
theorem gp_small {n : Nat} (v : BitVec n) (k : Nat) (hk : v.toNat < k) (hn : 2 * k < 2 ^ n) : (v.smod (BitVec.ofNat n k)).toNat = v.toNat := by
  have hlt : k < 2 ^ n := by omega
  have e1 : v.toInt = (v.toNat : Int) := by rw [BitVec.toInt_eq_toNat_cond, if_pos (by omega)]
  have e2 : (BitVec.ofNat n k).toInt = (k : Int) := by
    rw [BitVec.toInt_eq_toNat_cond, BitVec.toNat_ofNat, Nat.mod_eq_of_lt hlt]
    split
    · rfl
    · omega
  have e3 : (v.smod (BitVec.ofNat n k)).toInt = (v.toNat : Int) := by
    rw [BitVec.toInt_smod, e1, e2, Int.fmod_eq_emod_of_nonneg _ (by omega)]
    exact Int.emod_eq_of_lt (by omega) (by omega)
  rw [BitVec.toInt_eq_toNat_cond] at e3
  have := (v.smod (BitVec.ofNat n k)).isLt
  split at e3 <;> omega
theorem gp_sc (y : Int32) : ((y &&& 31).toBitVec.smod 32).toNat = (y.toInt % 32).toNat := by
  have h : (y &&& 31).toBitVec.toNat = y.toBitVec.toNat % 32 := gp_m31 y.toBitVec
  have h2 := gp_small (n := 32) (y &&& 31).toBitVec 32 (by rw [h]; omega) (by decide)
  rw [gp_n32, ← h]
  exact h2
theorem gp_shlI (x y : Int32) : (x <<< (y &&& 31)).toInt = gp_shl x.toInt y.toInt := by
  unfold gp_shl
  rw [gp_bv, ← gp_sc]
  rfl
theorem gp_shrI (x y : Int32) : (x >>> (y &&& 31)).toInt = gp_shr x.toInt y.toInt := by
  unfold gp_shr
  rw [gp_bv, ← gp_sc]
  rfl
theorem gp_ushrI (x y : Int32) : ((x.toUInt32 >>> (y.toUInt32 &&& Int32.toUInt32 31)).toInt32).toInt = gp_ushr x.toInt y.toInt := by
  unfold gp_ushr
  rw [gp_bv, gp_n32]
  have h : ((y.toUInt32 &&& Int32.toUInt32 31).toBitVec % 32#32).toNat = y.toBitVec.toNat % 32 := by
    rw [BitVec.toNat_umod]
    show (y.toBitVec &&& 31#32).toNat % 32 = _
    rw [gp_m31]; omega
  have e : (x.toUInt32 >>> (y.toUInt32 &&& Int32.toUInt32 31)).toBitVec = x.toBitVec >>> (y.toBitVec.toNat % 32) := by
    show x.toBitVec >>> ((y.toUInt32 &&& Int32.toUInt32 31).toBitVec % 32#32) = _
    rw [BitVec.ushiftRight_eq', h]
  show (x.toUInt32 >>> (y.toUInt32 &&& Int32.toUInt32 31)).toBitVec.toInt = _
  rw [e]
theorem gp_bI (x : Int32) : x.toInt8.toInt32.toInt = gp_b x.toInt := by
  have h : x.toInt8.toInt32.toInt = x.toInt.bmod 256 := by simp
  rw [h]; unfold gp_b; rw [Int.bmod_def]; split <;> omega
theorem gp_sI (x : Int32) : x.toInt16.toInt32.toInt = gp_s x.toInt := by
  have h : x.toInt16.toInt32.toInt = x.toInt.bmod 65536 := by simp
  rw [h]; unfold gp_s; rw [Int.bmod_def]; split <;> omega
theorem gp_bip {k : Int} (h1 : -128 ≤ k) (h2 : k < 128) : (Int8.ofInt k).toInt32.toInt = k := by
  have h : (Int8.ofInt k).toInt32.toInt = k.bmod 256 := by simp
  rw [h, Int.bmod_def]; split <;> omega
theorem gp_sip {k : Int} (h1 : -32768 ≤ k) (h2 : k < 32768) : (Int16.ofInt k).toInt32.toInt = k := by
  have h : (Int16.ofInt k).toInt32.toInt = k.bmod 65536 := by simp
  rw [h, Int.bmod_def]; split <;> omega
theorem gp_i2lI (x : Int32) : x.toInt64.toBitVec = BitVec.ofInt 64 x.toInt := by
  apply BitVec.eq_of_toInt_eq
  show x.toInt64.toInt = _
  rw [Int32.toInt_toInt64, BitVec.toInt_ofInt]
  have := gp_i32 x
  rw [Int.bmod_def]; split <;> omega
theorem gp_l2iI (x : Int64) : x.toInt32.toInt = gp_wr x.toBitVec.toInt := by
  have h : x.toInt32.toInt = x.toInt.bmod (2 ^ 32) := by simp
  rw [h, gp_bm]; rfl
theorem gp_divI (x y : Int32) : (x / y).toInt = gp_wr (x.toInt.tdiv y.toInt) := by rw [Int32.toInt_div, gp_bm]
theorem gp_remI (x y : Int32) (hy : ¬ y = 0) : (x - x / y * y).toInt = x.toInt.tmod y.toInt := by
  have hm : (x % y).toInt = x.toInt.tmod y.toInt := Int32.toInt_mod x y
  rw [← hm]
  congr 1
  apply Int32.toInt_inj.mp
  rw [gp_subI, gp_mulI, gp_divI, hm]
  have e : x.toInt.tmod y.toInt = x.toInt - y.toInt * x.toInt.tdiv y.toInt := by
    have := Int.mul_tdiv_add_tmod x.toInt y.toInt
    omega
  have r := gp_i32 x
  have r2 := gp_i32 y
  have rm := gp_i32 (x % y)
  rw [hm] at rm
  have key : ∀ a b c : Int, gp_wr (a - gp_wr (gp_wr b * c)) = gp_wr (a - b * c) := by
    intro a b c
    unfold gp_wr
    have h1 : ((b + 2147483648) % 4294967296 - 2147483648) * c = b * c - 4294967296 * (((b + 2147483648) / 4294967296) * c) := by
      have : (b + 2147483648) % 4294967296 = b + 2147483648 - 4294967296 * ((b + 2147483648) / 4294967296) := by omega
      rw [this]
      rw [show b + 2147483648 - 4294967296 * ((b + 2147483648) / 4294967296) - 2147483648 = b - 4294967296 * ((b + 2147483648) / 4294967296) by omega, Int.sub_mul, Int.mul_assoc]
    rw [h1]
    generalize (b + 2147483648) / 4294967296 * c = w
    generalize b * c = z
    omega
  rw [key, show x.toInt - x.toInt.tdiv y.toInt * y.toInt = x.toInt.tmod y.toInt by rw [e, Int.mul_comm]]
  exact gp_wr_id rm.1 rm.2
theorem gp_ne0 {y : Int32} (h : y.toInt ≠ 0) : ¬ y = 0 := fun e => h (by rw [e]; rfl)
theorem gp_lshlI (x : Int64) (y : Int32) : (x <<< (y.toInt64 &&& 63)).toBitVec = x.toBitVec <<< (y.toInt % 64).toNat := by
  have h : (y.toInt64 &&& 63).toBitVec.toNat = y.toBitVec.toNat % 64 := by
    show (y.toInt64.toBitVec &&& 63#64).toNat = _
    rw [gp_m63, gp_i2lI, BitVec.toNat_ofInt]
    have e : y.toInt = y.toBitVec.toInt := rfl
    rw [e, BitVec.toInt_eq_toNat_cond]
    have := y.toBitVec.isLt
    split <;> omega
  have h2 := gp_small (n := 64) (y.toInt64 &&& 63).toBitVec 64 (by rw [h]; omega) (by decide)
  show x.toBitVec <<< ((y.toInt64 &&& 63).toBitVec.smod 64#64) = _
  rw [BitVec.shiftLeft_eq', h2, h, gp_n64]
theorem gp_lshrI (x : Int64) (y : Int32) : (x >>> (y.toInt64 &&& 63)).toBitVec = x.toBitVec.sshiftRight (y.toInt % 64).toNat := by
  have h : (y.toInt64 &&& 63).toBitVec.toNat = y.toBitVec.toNat % 64 := by
    show (y.toInt64.toBitVec &&& 63#64).toNat = _
    rw [gp_m63, gp_i2lI, BitVec.toNat_ofInt]
    have e : y.toInt = y.toBitVec.toInt := rfl
    rw [e, BitVec.toInt_eq_toNat_cond]
    have := y.toBitVec.isLt
    split <;> omega
  have h2 := gp_small (n := 64) (y.toInt64 &&& 63).toBitVec 64 (by rw [h]; omega) (by decide)
  show x.toBitVec.sshiftRight' ((y.toInt64 &&& 63).toBitVec.smod 64#64) = _
  rw [BitVec.sshiftRight', h2, h, gp_n64]
theorem gp_lushrI (x : Int64) (y : Int32) : ((x.toUInt64 >>> (y.toInt64.toUInt64 &&& Int64.toUInt64 63)).toInt64).toBitVec = x.toBitVec >>> (y.toInt % 64).toNat := by
  have h : ((y.toInt64.toUInt64 &&& Int64.toUInt64 63).toBitVec % 64#64).toNat = y.toBitVec.toNat % 64 := by
    rw [BitVec.toNat_umod]
    show (y.toInt64.toBitVec &&& 63#64).toNat % 64 = _
    rw [gp_m63, gp_i2lI, BitVec.toNat_ofInt]
    have e : y.toInt = y.toBitVec.toInt := rfl
    rw [e, BitVec.toInt_eq_toNat_cond]
    have := y.toBitVec.isLt
    split <;> omega
  show x.toBitVec >>> ((y.toInt64.toUInt64 &&& Int64.toUInt64 63).toBitVec % 64#64) = _
  rw [BitVec.ushiftRight_eq', h, gp_n64]
theorem gp_lcI (x y : Int64) : (lg_cmp x y).toInt = gp_cmp x.toBitVec y.toBitVec := by
  unfold lg_cmp gp_cmp
  have h1 : x > y ↔ y.toBitVec.toInt < x.toBitVec.toInt := Int64.lt_iff_toInt_lt
  have h2 : x = y ↔ x.toBitVec = y.toBitVec := Int64.toBitVec_inj.symm
  by_cases a : x.toBitVec.toInt < y.toBitVec.toInt
  · rw [if_pos a, if_neg (by rw [h1]; omega), if_neg (by rw [h2]; intro e; rw [e] at a; omega)]; rfl
  · rw [if_neg a]
    by_cases e : x.toBitVec = y.toBitVec
    · rw [if_pos e, if_neg (by rw [h1, e]; omega), if_pos (h2.mpr e)]; rfl
    · rw [if_neg e, if_pos]
      · rfl
      · rw [h1]
        have : x.toBitVec.toInt ≠ y.toBitVec.toInt := fun q => e (BitVec.eq_of_toInt_eq q)
        omega
end GpNum
