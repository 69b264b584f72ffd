theorem ds_cnt (x : BitVec 64) : ∀ n, ds 2 n x.toNat = gm_cnt x n := by
  have h : ∀ (n y : Nat), ds 2 (n + 1) y = ds 2 n y + y / 2 ^ n % 2 := by
    intro n
    induction n with
    | zero => intro y; show y % 2 + 0 = 0 + y / 1 % 2; rw [Nat.div_one]; omega
    | succ n ih =>
      intro y
      show y % 2 + ds 2 (n + 1) (y / 2) = y % 2 + ds 2 n (y / 2) + _
      rw [ih, Nat.div_div_eq_div_mul, show 2 * 2 ^ n = 2 ^ (n + 1) by rw [Nat.pow_succ]; omega]
      omega
  intro n
  induction n with
  | zero => rfl
  | succ n ih =>
    rw [h, ih]
    show gm_cnt x n + _ = gm_cnt x n + (if x.getLsbD n then 1 else 0)
    congr 1
    show _ = if Nat.testBit x.toNat n = true then 1 else 0
    rw [Nat.testBit_eq_decide_div_mod_eq]
    by_cases c : x.toNat / 2 ^ n % 2 = 1
    · rw [if_pos (by simpa using c)]; exact c
    · rw [if_neg (by simpa using c)]; omega
def bc1 (x : BitVec 64) : BitVec 64 := x - ((x >>> 1) &&& (BitVec.ofInt 64 6148914691236517205))
def bc2 (x : BitVec 64) : BitVec 64 := (x &&& (BitVec.ofInt 64 3689348814741910323)) + ((x >>> 2) &&& (BitVec.ofInt 64 3689348814741910323))
def bc3 (x : BitVec 64) : BitVec 64 := (x + (x >>> 4)) &&& (BitVec.ofInt 64 1085102592571150095)
def bc4 (k : Nat) (x : BitVec 64) : BitVec 64 := x + (x >>> k)
theorem mk1 : (BitVec.ofInt 64 6148914691236517205).toNat = mk 1 32 := by decide
theorem mk2 : (BitVec.ofInt 64 3689348814741910323).toNat = mk 2 16 := by decide
theorem mk4 : (BitVec.ofInt 64 1085102592571150095).toNat = mk 4 8 := by decide
theorem mk2v : mk 2 16 = 3689348814741910323 := by decide
theorem bc1_n (x : BitVec 64) : (bc1 x).toNat = zz 1 32 x.toNat := by
  have h := split2 1 32 x.toNat x.isLt
  unfold bc1 zz
  rw [BitVec.toNat_sub, BitVec.toNat_and, BitVec.toNat_ushiftRight, mk1, Nat.shiftRight_eq_div_pow]
  have l := x.isLt
  generalize (x.toNat &&& mk 1 32) = P at *
  generalize (x.toNat / 2 ^ 1 &&& mk 1 32) = Q at *
  omega
theorem bc2_n (x : BitVec 64) : (bc2 x).toNat = zz 2 16 x.toNat := by
  unfold bc2 zz
  rw [BitVec.toNat_add, BitVec.toNat_and, BitVec.toNat_and, BitVec.toNat_ushiftRight, mk2, Nat.shiftRight_eq_div_pow]
  have a : x.toNat &&& mk 2 16 ≤ mk 2 16 := Nat.and_le_right
  have b : x.toNat / 2 ^ 2 &&& mk 2 16 ≤ mk 2 16 := Nat.and_le_right
  rw [mk2v] at *
  omega
theorem bc3_n (x : BitVec 64) (h : d7 16 x.toNat) (h2 : x.toNat < 2 ^ 63) : (bc3 x).toNat = zz 4 8 x.toNat := by
  unfold bc3
  rw [BitVec.toNat_and, BitVec.toNat_add, BitVec.toNat_ushiftRight, mk4, Nat.shiftRight_eq_div_pow, Nat.mod_eq_of_lt (by omega)]
  exact st3 8 x.toNat h
theorem bc4_n (k : Nat) (x : BitVec 64) (h : x.toNat < 2 ^ 63) (hk : 1 ≤ k) : (bc4 k x).toNat = x.toNat + x.toNat / 2 ^ k := by
  unfold bc4
  have : x.toNat / 2 ^ k ≤ x.toNat / 2 := Nat.div_le_div_left (by have := Nat.pow_le_pow_right (n := 2) (by decide) hk; omega) (by decide)
  rw [BitVec.toNat_add, BitVec.toNat_ushiftRight, Nat.shiftRight_eq_div_pow, Nat.mod_eq_of_lt (by omega)]
theorem and127 (y : BitVec 64) : gp_and (gp_wr y.toInt) 127 = (y.toNat % 128 : Nat) := by
  unfold gp_and
  have e : BitVec.ofInt 32 127 = 127#32 := rfl
  have h : (BitVec.ofInt 32 (gp_wr y.toInt) &&& BitVec.ofInt 32 127).toNat = y.toNat % 128 := by
    rw [BitVec.toNat_and, BitVec.toNat_ofInt, e, show (127#32).toNat = 2 ^ 7 - 1 from rfl, Nat.and_two_pow_sub_one_eq_mod, BitVec.toInt_eq_toNat_cond]
    unfold gp_wr
    have l := y.isLt
    split <;> omega
  rw [BitVec.toInt_eq_toNat_of_lt (by omega), h]
theorem bc_eq (x : BitVec 64) : gp_and (gp_wr (bc4 32 (bc4 16 (bc4 8 (bc3 (bc2 (bc1 x)))))).toInt) 127 = (gm_cnt x 64 : Nat) := by
  have n1 := bc1_n x
  have n2 := bc2_n (bc1 x)
  have d2 : d7 16 (bc2 (bc1 x)).toNat := by rw [n2]; exact zz_d7 16 _
  have l2 : (bc2 (bc1 x)).toNat < 2 ^ 63 := by
    rw [n2]; unfold zz
    have a : (bc1 x).toNat &&& mk 2 16 ≤ mk 2 16 := Nat.and_le_right
    have b : (bc1 x).toNat / 2 ^ 2 &&& mk 2 16 ≤ mk 2 16 := Nat.and_le_right
    rw [mk2v] at *
    omega
  have n3 := bc3_n _ d2 l2
  have b3 : b14 8 (bc3 (bc2 (bc1 x))).toNat := by rw [n3]; exact zz_b14 8 _ d2
  obtain ⟨y1, y2, y3, c1, c2, c3, c4, c5, c6, c7⟩ := st4b b3
  have n4 : (bc4 8 (bc3 (bc2 (bc1 x)))).toNat = y1 := by rw [bc4_n 8 _ (by omega) (by decide), c1]
  have n5 : (bc4 16 (bc4 8 (bc3 (bc2 (bc1 x))))).toNat = y2 := by rw [bc4_n 16 _ (by omega) (by decide), n4, c3]
  have n6 : (bc4 32 (bc4 16 (bc4 8 (bc3 (bc2 (bc1 x)))))).toNat = y3 := by rw [bc4_n 32 _ (by omega) (by decide), n5, c5]
  rw [and127, n6, c7, n3]
  have e4 : ds (2 ^ (2 * 4)) 8 (zz 4 8 (bc2 (bc1 x)).toNat) = ds (2 ^ 4) (2 * 8) (bc2 (bc1 x)).toNat := zz_ds 4 (by decide) 8 _
  have e2 : ds (2 ^ (2 * 2)) 16 (zz 2 16 (bc1 x).toNat) = ds (2 ^ 2) (2 * 16) (bc1 x).toNat := zz_ds 2 (by decide) 16 _
  have e1 : ds (2 ^ (2 * 1)) 32 (zz 1 32 x.toNat) = ds (2 ^ 1) (2 * 32) x.toNat := zz_ds 1 (by decide) 32 _
  rw [← n2] at e2
  rw [← n1] at e1
  have e : ds 256 8 (zz 4 8 (bc2 (bc1 x)).toNat) = ds 2 64 x.toNat := e4.trans (e2.trans e1)
  rw [e, ds_cnt]
theorem xm_bc {L d : Nat} {K : Option gV → gH → Prop} {s : gH} (p0 : BitVec 64) (k : ∀ (r : Int), (0 ≤ r ∧ r ≤ 64) → (r = (gm_cnt p0 64 : Nat)) → K (some (gp_i r)) s) : gs_C L d 3585 2 [gp_l p0] s K := by
  refine s_3585_e _ ?_
  have h := bc_eq p0
  have l := gm_cnt_le p0 64
  have h2 := k (gp_and (gp_wr (bc4 32 (bc4 16 (bc4 8 (bc3 (bc2 (bc1 p0)))))).toInt) 127) (by omega) h
  exact h2
