/-! counting bits: the JDK's way is the plain one -/
def ds (B : Nat) : Nat → Nat → Nat
  | 0, _ => 0
  | m + 1, y => y % B + ds B m (y / B)
def mk (k : Nat) : Nat → Nat
  | 0 => 0
  | m + 1 => (2 ^ k - 1) + 2 ^ (2 * k) * mk k m
theorem and_low (k y : Nat) : (y % 2 ^ (2 * k)) &&& (2 ^ k - 1) = y % 2 ^ k := by
  rw [Nat.and_two_pow_sub_one_eq_mod, Nat.mod_mod_of_dvd]
  exact Nat.pow_dvd_pow 2 (by omega)
theorem and_cat {j a b c d : Nat} (ha : a < 2 ^ j) (hc : c < 2 ^ j) : (a + 2 ^ j * b) &&& (c + 2 ^ j * d) = (a &&& c) + 2 ^ j * (b &&& d) := by
  apply Nat.eq_of_testBit_eq
  intro i
  have hac : a &&& c < 2 ^ j := Nat.lt_of_le_of_lt Nat.and_le_left ha
  rw [Nat.testBit_and, Nat.add_comm a, Nat.add_comm c, Nat.add_comm (a &&& c), Nat.testBit_two_pow_mul_add _ ha, Nat.testBit_two_pow_mul_add _ hc, Nat.testBit_two_pow_mul_add _ hac]
  split
  · rw [Nat.testBit_and]
  · rw [Nat.testBit_and]
theorem ev_s (k m y : Nat) : y &&& mk k (m + 1) = y % 2 ^ k + 2 ^ (2 * k) * ((y / 2 ^ (2 * k)) &&& mk k m) := by
  have hp : 0 < 2 ^ k := Nat.pow_pos (by decide)
  have hp2 : 2 ^ k ≤ 2 ^ (2 * k) := Nat.pow_le_pow_right (by decide) (by omega)
  have e : y = y % 2 ^ (2 * k) + 2 ^ (2 * k) * (y / 2 ^ (2 * k)) := (Nat.mod_add_div _ _).symm
  have := and_cat (j := 2 * k) (a := y % 2 ^ (2 * k)) (b := y / 2 ^ (2 * k)) (c := 2 ^ k - 1) (d := mk k m) (Nat.mod_lt _ (Nat.pow_pos (by decide))) (by omega)
  rw [← e, and_low] at this
  exact this
/-- even and odd places of a number, added -/
def zz (k m y : Nat) : Nat := (y &&& mk k m) + ((y / 2 ^ k) &&& mk k m)
theorem dd (k y : Nat) : y / 2 ^ k / 2 ^ (2 * k) = y / 2 ^ (2 * k) / 2 ^ k := by
  rw [Nat.div_div_eq_div_mul, Nat.div_div_eq_div_mul, Nat.mul_comm]
theorem zz_s (k m y : Nat) : zz k (m + 1) y = (y % 2 ^ k + y / 2 ^ k % 2 ^ k) + 2 ^ (2 * k) * zz k m (y / 2 ^ (2 * k)) := by
  unfold zz
  rw [ev_s, ev_s, dd, Nat.mul_add]
  omega
theorem zz_ds (k : Nat) (hk : 1 ≤ k) : ∀ (m y : Nat), ds (2 ^ (2 * k)) m (zz k m y) = ds (2 ^ k) (2 * m) y
  | 0, _ => rfl
  | m + 1, y => by
    have hp : 2 ≤ 2 ^ k := by
      have := Nat.pow_le_pow_right (n := 2) (by decide) hk
      omega
    have e2 : 2 ^ (2 * k) = 2 ^ k * 2 ^ k := by rw [Nat.two_mul, Nat.pow_add]
    have hlt : y % 2 ^ k + y / 2 ^ k % 2 ^ k < 2 ^ (2 * k) := by
      have a := Nat.mod_lt y (show 2 ^ k > 0 by omega)
      have b := Nat.mod_lt (y / 2 ^ k) (show 2 ^ k > 0 by omega)
      have c : 2 ^ k * 2 ≤ 2 ^ (2 * k) := by rw [e2]; exact Nat.mul_le_mul_left _ hp
      omega
    show zz k (m + 1) y % _ + ds _ m (zz k (m + 1) y / _) = ds _ (2 * m + 1 + 1) y
    rw [zz_s, Nat.add_mul_mod_self_left, Nat.mod_eq_of_lt hlt, Nat.add_mul_div_left _ _ (Nat.pow_pos (by decide)), Nat.div_eq_of_lt hlt, Nat.zero_add, zz_ds k hk m]
    show _ = y % 2 ^ k + (y / 2 ^ k % 2 ^ k + ds _ (2 * m) (y / 2 ^ k / 2 ^ k))
    rw [Nat.div_div_eq_div_mul, ← e2]
    omega
theorem split2 (k : Nat) : ∀ (m y : Nat), y < 2 ^ (2 * k * m) → y = (y &&& mk k m) + 2 ^ k * ((y / 2 ^ k) &&& mk k m)
  | 0, y, h => by
    have : y = 0 := by simpa using h
    subst this
    simp [mk]
  | m + 1, y, h => by
    have ih := split2 k m (y / 2 ^ (2 * k)) (by
      rw [Nat.div_lt_iff_lt_mul (Nat.pow_pos (by decide)), ← Nat.pow_add]
      exact h)
    rw [ev_s, ev_s, dd]
    have e2 : 2 ^ (2 * k) = 2 ^ k * 2 ^ k := by rw [Nat.two_mul, Nat.pow_add]
    have a := Nat.div_add_mod y (2 ^ k)
    have b := Nat.div_add_mod (y / 2 ^ k) (2 ^ k)
    rw [Nat.div_div_eq_div_mul, ← e2] at b
    generalize y / 2 ^ (2 * k) = Y at *
    generalize (Y &&& mk k m) = P at *
    generalize (Y / 2 ^ k &&& mk k m) = Q at *
    generalize y / 2 ^ k = Z at *
    generalize y % 2 ^ k = r at *
    generalize Z % 2 ^ k = r2 at *
    rw [← a, ← b, ih, e2]
    rw [Nat.mul_add, Nat.mul_add, Nat.mul_add, Nat.mul_add]
    have c1 : 2 ^ k * (2 ^ k * 2 ^ k * Q) = 2 ^ k * 2 ^ k * (2 ^ k * Q) := by
      rw [Nat.mul_assoc, Nat.mul_assoc]
      congr 1
      rw [← Nat.mul_assoc, ← Nat.mul_assoc]
    have c2 : 2 ^ k * (2 ^ k * P) = 2 ^ k * 2 ^ k * P := (Nat.mul_assoc _ _ _).symm
    have c3 : 2 ^ k * (2 ^ k * (2 ^ k * Q)) = 2 ^ k * 2 ^ k * (2 ^ k * Q) := (Nat.mul_assoc _ _ _).symm
    rw [c1, Nat.mul_add, c2, c3]
    omega
theorem mk_lt (k : Nat) : ∀ m, mk k m < 2 ^ (2 * k * m)
  | 0 => by simp [mk]
  | m + 1 => by
    have ih := mk_lt k m
    have e : 2 ^ (2 * k * (m + 1)) = 2 ^ (2 * k) * 2 ^ (2 * k * m) := by rw [← Nat.pow_add]; congr 1; rw [Nat.mul_add]; omega
    have hp : 0 < 2 ^ k := Nat.pow_pos (by decide)
    have hp2 : 2 ^ k ≤ 2 ^ (2 * k) := Nat.pow_le_pow_right (by decide) (by omega)
    show (2 ^ k - 1) + 2 ^ (2 * k) * mk k m < _
    rw [e]
    have : 2 ^ (2 * k) * (mk k m + 1) ≤ 2 ^ (2 * k) * 2 ^ (2 * k * m) := Nat.mul_le_mul_left _ ih
    rw [Nat.mul_add] at this
    omega
/-- no place of 16 above 7 -/
def d7 : Nat → Nat → Prop
  | 0, _ => True
  | m + 1, y => y % 16 ≤ 7 ∧ d7 m (y / 16)
theorem zz_d7 : ∀ (m y : Nat), d7 m (zz 2 m y)
  | 0, _ => trivial
  | m + 1, y => by
    have h := zz_s 2 m y
    refine ⟨?_, ?_⟩
    · rw [h]; omega
    · rw [h]
      have : ((y % 2 ^ 2 + y / 2 ^ 2 % 2 ^ 2) + 2 ^ (2 * 2) * zz 2 m (y / 2 ^ (2 * 2))) / 16 = zz 2 m (y / 2 ^ (2 * 2)) := by omega
      rw [this]
      exact zz_d7 m _
theorem st3 : ∀ (m y : Nat), d7 (2 * m) y → (y + y / 16) &&& mk 4 m = zz 4 m y
  | 0, _, _ => by simp [zz, mk]
  | m + 1, y, h => by
    have h1 : y % 16 ≤ 7 := h.1
    have h2 : y / 16 % 16 ≤ 7 := h.2.1
    have h3 : d7 (2 * m) (y / 16 / 16) := h.2.2
    have ih := st3 m (y / 16 / 16) h3
    rw [ev_s, zz_s]
    have e1 : (y + y / 16) % 2 ^ 4 = y % 2 ^ 4 + y / 2 ^ 4 % 2 ^ 4 := by omega
    have h4 : y / 16 / 16 % 16 ≤ 15 := by omega
    by_cases hm : m = 0
    · subst hm
      rw [e1]
      simp [mk, zz]
    · have h5 : y / 16 / 16 % 16 ≤ 7 := by
        obtain ⟨j, rfl⟩ : ∃ j, m = j + 1 := ⟨m - 1, by omega⟩
        exact h3.1
      have e2 : (y + y / 16) / 2 ^ (2 * 4) = y / 16 / 16 + y / 16 / 16 / 16 := by omega
      have e3 : y / 2 ^ (2 * 4) = y / 16 / 16 := by omega
      rw [e1, e2, e3, ih]
theorem st3_0 (y : Nat) : d7 16 y → y % 16 ≤ 7 := fun h => h.1
/-- bytes none of which is above 14: their sum -/
theorem st4 (e0 e1 e2 e3 e4 e5 e6 e7 y : Nat) (h0 : e0 ≤ 14) (h1 : e1 ≤ 14) (h2 : e2 ≤ 14) (h3 : e3 ≤ 14) (h4 : e4 ≤ 14) (h5 : e5 ≤ 14) (h6 : e6 ≤ 14) (h7 : e7 ≤ 14) (hy : y = e0 + 256 * (e1 + 256 * (e2 + 256 * (e3 + 256 * (e4 + 256 * (e5 + 256 * (e6 + 256 * e7))))))) : ∃ y1 y2 y3, y1 = y + y / 256 ∧ y1 < 2 ^ 62 ∧ y2 = y1 + y1 / 65536 ∧ y2 < 2 ^ 63 ∧ y3 = y2 + y2 / 4294967296 ∧ y3 < 2 ^ 64 ∧ y3 % 128 = e0 + e1 + e2 + e3 + e4 + e5 + e6 + e7 := by
  refine ⟨_, _, _, rfl, ?_, rfl, ?_, rfl, ?_, ?_⟩
  · omega
  · omega
  · omega
  · have q1 : y / 256 = e1 + 256 * (e2 + 256 * (e3 + 256 * (e4 + 256 * (e5 + 256 * (e6 + 256 * e7))))) := by omega
    have q2 : (y + y / 256) / 65536 = (e2 + e3) + 256 * ((e3 + e4) + 256 * ((e4 + e5) + 256 * ((e5 + e6) + 256 * ((e6 + e7) + 256 * e7)))) := by omega
    have q3 : (y + y / 256 + (y + y / 256) / 65536) / 4294967296 = (e4 + e5 + e6 + e7) + 256 * ((e5 + e6 + e7) + 256 * ((e6 + e7) + 256 * e7)) := by omega
    omega
theorem ds_bytes {m y : Nat} (h : y < 256 ^ (m + 1)) : ∃ e Y, y = e + 256 * Y ∧ e < 256 ∧ Y < 256 ^ m ∧ ds 256 (m + 1) y = e + ds 256 m Y := by
  refine ⟨y % 256, y / 256, by omega, by omega, ?_, rfl⟩
  rw [Nat.div_lt_iff_lt_mul (by decide)]
  rw [Nat.pow_succ] at h
  exact h
/-- bytes of what the third step leaves -/
def b14 : Nat → Nat → Prop
  | 0, y => y = 0
  | m + 1, y => y % 256 ≤ 14 ∧ b14 m (y / 256)
theorem zz_b14 : ∀ (m y : Nat), d7 (2 * m) y → b14 m (zz 4 m y)
  | 0, _, _ => by simp [b14, zz, mk]
  | m + 1, y, h => by
    have h1 : y % 16 ≤ 7 := h.1
    have h2 : y / 16 % 16 ≤ 7 := h.2.1
    have h3 : d7 (2 * m) (y / 16 / 16) := h.2.2
    have e3 : y / 2 ^ (2 * 4) = y / 16 / 16 := by omega
    have e : zz 4 (m + 1) y % 256 = y % 16 + y / 16 % 16 ∧ zz 4 (m + 1) y / 256 = zz 4 m (y / 16 / 16) := by
      rw [zz_s, e3]; omega
    exact ⟨by omega, by rw [e.2]; exact zz_b14 m _ h3⟩
theorem st4b {y : Nat} (h : b14 8 y) : ∃ y1 y2 y3, y1 = y + y / 256 ∧ y1 < 2 ^ 62 ∧ y2 = y1 + y1 / 65536 ∧ y2 < 2 ^ 63 ∧ y3 = y2 + y2 / 4294967296 ∧ y3 < 2 ^ 64 ∧ y3 % 128 = ds 256 8 y := by
  obtain ⟨a0, a1, a2, a3, a4, a5, a6, a7, a8⟩ := h
  obtain ⟨y1, y2, y3, c1, c2, c3, c4, c5, c6, c7⟩ := st4 _ _ _ _ _ _ _ _ y a0 a1 a2 a3 a4 a5 a6 a7 (by omega)
  refine ⟨y1, y2, y3, c1, c2, c3, c4, c5, c6, ?_⟩
  rw [c7]
  show _ = y % 256 + (y / 256 % 256 + (y / 256 / 256 % 256 + (y / 256 / 256 / 256 % 256 + (y / 256 / 256 / 256 / 256 % 256 + (y / 256 / 256 / 256 / 256 / 256 % 256 + (y / 256 / 256 / 256 / 256 / 256 / 256 % 256 + (y / 256 / 256 / 256 / 256 / 256 / 256 / 256 % 256 + 0)))))))
  omega
theorem ds_cnt (x : BitVec 64) : ∀ n, ds 2 n x.toNat = gm_cnt x n := by
  have h : ∀ (n y : Nat), ds 2 (n + 1) y = ds 2 n y + y / 2 ^ n % 2 := by
    intro n
    induction n with
    | zero => intro y; show y % 2 + 0 = 0 + y / 1 % 2; rw [Nat.div_one]; omega
    | succ n ih =>
      intro y
      show y % 2 + ds 2 (n + 1) (y / 2) = y % 2 + ds 2 n (y / 2) + _
      rw [ih, Nat.div_div_eq_div_mul, show 2 * 2 ^ n = 2 ^ (n + 1) by rw [Nat.pow_succ]; omega]
      omega
  intro n
  induction n with
  | zero => rfl
  | succ n ih =>
    rw [h, ih]
    show gm_cnt x n + _ = gm_cnt x n + (if x.getLsbD n then 1 else 0)
    congr 1
    show _ = if Nat.testBit x.toNat n = true then 1 else 0
    rw [Nat.testBit_eq_decide_div_mod_eq]
    by_cases c : x.toNat / 2 ^ n % 2 = 1
    · rw [if_pos (by simpa using c)]; exact c
    · rw [if_neg (by simpa using c)]; omega
def bc1 (x : BitVec 64) : BitVec 64 := x - ((x >>> 1) &&& (BitVec.ofInt 64 6148914691236517205))
def bc2 (x : BitVec 64) : BitVec 64 := (x &&& (BitVec.ofInt 64 3689348814741910323)) + ((x >>> 2) &&& (BitVec.ofInt 64 3689348814741910323))
def bc3 (x : BitVec 64) : BitVec 64 := (x + (x >>> 4)) &&& (BitVec.ofInt 64 1085102592571150095)
def bc4 (k : Nat) (x : BitVec 64) : BitVec 64 := x + (x >>> k)
theorem mk1 : (BitVec.ofInt 64 6148914691236517205).toNat = mk 1 32 := by decide
theorem mk2 : (BitVec.ofInt 64 3689348814741910323).toNat = mk 2 16 := by decide
theorem mk4 : (BitVec.ofInt 64 1085102592571150095).toNat = mk 4 8 := by decide
theorem mk2v : mk 2 16 = 3689348814741910323 := by decide
theorem bc1_n (x : BitVec 64) : (bc1 x).toNat = zz 1 32 x.toNat := by
  have h := split2 1 32 x.toNat x.isLt
  unfold bc1 zz
  rw [BitVec.toNat_sub, BitVec.toNat_and, BitVec.toNat_ushiftRight, mk1, Nat.shiftRight_eq_div_pow]
  have l := x.isLt
  generalize (x.toNat &&& mk 1 32) = P at *
  generalize (x.toNat / 2 ^ 1 &&& mk 1 32) = Q at *
  omega
theorem bc2_n (x : BitVec 64) : (bc2 x).toNat = zz 2 16 x.toNat := by
  unfold bc2 zz
  rw [BitVec.toNat_add, BitVec.toNat_and, BitVec.toNat_and, BitVec.toNat_ushiftRight, mk2, Nat.shiftRight_eq_div_pow]
  have a : x.toNat &&& mk 2 16 ≤ mk 2 16 := Nat.and_le_right
  have b : x.toNat / 2 ^ 2 &&& mk 2 16 ≤ mk 2 16 := Nat.and_le_right
  rw [mk2v] at *
  omega
theorem bc3_n (x : BitVec 64) (h : d7 16 x.toNat) (h2 : x.toNat < 2 ^ 63) : (bc3 x).toNat = zz 4 8 x.toNat := by
  unfold bc3
  rw [BitVec.toNat_and, BitVec.toNat_add, BitVec.toNat_ushiftRight, mk4, Nat.shiftRight_eq_div_pow, Nat.mod_eq_of_lt (by omega)]
  exact st3 8 x.toNat h
theorem bc4_n (k : Nat) (x : BitVec 64) (h : x.toNat < 2 ^ 63) (hk : 1 ≤ k) : (bc4 k x).toNat = x.toNat + x.toNat / 2 ^ k := by
  unfold bc4
  have : x.toNat / 2 ^ k ≤ x.toNat / 2 := Nat.div_le_div_left (by have := Nat.pow_le_pow_right (n := 2) (by decide) hk; omega) (by decide)
  rw [BitVec.toNat_add, BitVec.toNat_ushiftRight, Nat.shiftRight_eq_div_pow, Nat.mod_eq_of_lt (by omega)]
theorem and127 (y : BitVec 64) : gp_and (gp_wr y.toInt) 127 = (y.toNat % 128 : Nat) := by
  unfold gp_and
  have e : BitVec.ofInt 32 127 = 127#32 := rfl
  have h : (BitVec.ofInt 32 (gp_wr y.toInt) &&& BitVec.ofInt 32 127).toNat = y.toNat % 128 := by
    rw [BitVec.toNat_and, BitVec.toNat_ofInt, e, show (127#32).toNat = 2 ^ 7 - 1 from rfl, Nat.and_two_pow_sub_one_eq_mod, BitVec.toInt_eq_toNat_cond]
    unfold gp_wr
    have l := y.isLt
    split <;> omega
  rw [BitVec.toInt_eq_toNat_of_lt (by omega), h]
theorem bc_eq (x : BitVec 64) : gp_and (gp_wr (bc4 32 (bc4 16 (bc4 8 (bc3 (bc2 (bc1 x)))))).toInt) 127 = (gm_cnt x 64 : Nat) := by
  have n1 := bc1_n x
  have n2 := bc2_n (bc1 x)
  have d2 : d7 16 (bc2 (bc1 x)).toNat := by rw [n2]; exact zz_d7 16 _
  have l2 : (bc2 (bc1 x)).toNat < 2 ^ 63 := by
    rw [n2]; unfold zz
    have a : (bc1 x).toNat &&& mk 2 16 ≤ mk 2 16 := Nat.and_le_right
    have b : (bc1 x).toNat / 2 ^ 2 &&& mk 2 16 ≤ mk 2 16 := Nat.and_le_right
    rw [mk2v] at *
    omega
  have n3 := bc3_n _ d2 l2
  have b3 : b14 8 (bc3 (bc2 (bc1 x))).toNat := by rw [n3]; exact zz_b14 8 _ d2
  obtain ⟨y1, y2, y3, c1, c2, c3, c4, c5, c6, c7⟩ := st4b b3
  have n4 : (bc4 8 (bc3 (bc2 (bc1 x)))).toNat = y1 := by rw [bc4_n 8 _ (by omega) (by decide), c1]
  have n5 : (bc4 16 (bc4 8 (bc3 (bc2 (bc1 x))))).toNat = y2 := by rw [bc4_n 16 _ (by omega) (by decide), n4, c3]
  have n6 : (bc4 32 (bc4 16 (bc4 8 (bc3 (bc2 (bc1 x)))))).toNat = y3 := by rw [bc4_n 32 _ (by omega) (by decide), n5, c5]
  rw [and127, n6, c7, n3]
  have e4 : ds (2 ^ (2 * 4)) 8 (zz 4 8 (bc2 (bc1 x)).toNat) = ds (2 ^ 4) (2 * 8) (bc2 (bc1 x)).toNat := zz_ds 4 (by decide) 8 _
  have e2 : ds (2 ^ (2 * 2)) 16 (zz 2 16 (bc1 x).toNat) = ds (2 ^ 2) (2 * 16) (bc1 x).toNat := zz_ds 2 (by decide) 16 _
  have e1 : ds (2 ^ (2 * 1)) 32 (zz 1 32 x.toNat) = ds (2 ^ 1) (2 * 32) x.toNat := zz_ds 1 (by decide) 32 _
  rw [← n2] at e2
  rw [← n1] at e1
  have e : ds 256 8 (zz 4 8 (bc2 (bc1 x)).toNat) = ds 2 64 x.toNat := e4.trans (e2.trans e1)
  rw [e, ds_cnt]
theorem xm_bc {L d : Nat} {K : Option gV → gH → Prop} {s : gH} (p0 : BitVec 64) (k : ∀ (r : Int), (0 ≤ r ∧ r ≤ 64) → (r = (gm_cnt p0 64 : Nat)) → K (some (gp_i r)) s) : gs_C L d 3585 2 [gp_l p0] s K := by
  refine s_3585_e _ ?_
  have h := bc_eq p0
  have l := gm_cnt_le p0 64
  have h2 := k (gp_and (gp_wr (bc4 32 (bc4 16 (bc4 8 (bc3 (bc2 (bc1 p0)))))).toInt) 127) (by omega) h
  exact h2
/-! the lowest bit, and what is left without it -/
theorem low_ex : ∀ n : Nat, 0 < n → ∃ k m, n = 2 ^ k * (2 * m + 1) := by
  intro n
  induction n using Nat.strongRecOn with
  | ind n ih =>
    intro h
    by_cases c : n % 2 = 1
    · exact ⟨0, n / 2, by omega⟩
    · obtain ⟨k, m, e⟩ := ih (n / 2) (by omega) (by omega)
      refine ⟨k + 1, m, ?_⟩
      rw [Nat.pow_succ, Nat.mul_right_comm, ← e]
      omega
theorem tb_odd (k m i : Nat) : (2 ^ k * (2 * m + 1)).testBit i = (decide (k ≤ i) && (2 * m + 1).testBit (i - k)) := by
  rw [Nat.testBit_two_pow_mul]
theorem tb_odd1 (k m i : Nat) : (2 ^ k * (2 * m + 1) - 1).testBit i = if i < k then true else (2 * m).testBit (i - k) := by
  have hp : 0 < 2 ^ k := Nat.pow_pos (by decide)
  have e : 2 ^ k * (2 * m + 1) - 1 = 2 ^ k * (2 * m) + (2 ^ k - 1) := by
    rw [Nat.mul_add, Nat.mul_one]; omega
  rw [e, Nat.testBit_two_pow_mul_add _ (by omega)]
  by_cases c : i < k
  · rw [if_pos c, if_pos c, Nat.testBit_two_pow_sub_one]; simp [c]
  · rw [if_neg c, if_neg c]
theorem tb_par (m j : Nat) : (2 * m + 1).testBit j = if j = 0 then true else (2 * m).testBit j := by
  cases j with
  | zero => rw [if_pos rfl, Nat.testBit_zero]; simp
  | succ j =>
    rw [if_neg (by omega), Nat.testBit_succ, Nat.testBit_succ]
    congr 1; omega
theorem tb_ev (m : Nat) : (2 * m).testBit 0 = false := by rw [Nat.testBit_zero]; simp
/-- a set that isn't empty: its lowest member, the set without it -/
theorem low_bits {x : BitVec 64} (h : ¬ x = 0#64) : ∃ k : Nat, k < 64 ∧ x.getLsbD k = true ∧ (∀ i, i < k → x.getLsbD i = false) ∧ (∀ i, (x &&& (x - 1#64)).getLsbD i = (x.getLsbD i && !decide (i = k))) ∧ ((x &&& -x) - 1#64).toNat = 2 ^ k - 1 := by
  have hx : 0 < x.toNat := by
    apply Classical.byContradiction
    intro c
    exact h (BitVec.eq_of_toNat_eq (by rw [BitVec.toNat_zero]; omega))
  obtain ⟨k, m, e⟩ := low_ex x.toNat hx
  have hp : 0 < 2 ^ k := Nat.pow_pos (by decide)
  have l := x.isLt
  have hk : k < 64 := by
    apply Classical.byContradiction
    intro c
    have a : 2 ^ 64 ≤ 2 ^ k := Nat.pow_le_pow_right (by decide) (by omega)
    have b : 2 ^ k * 1 ≤ 2 ^ k * (2 * m + 1) := Nat.mul_le_mul_left _ (by omega)
    omega
  have bx : ∀ i, x.getLsbD i = (decide (k ≤ i) && (2 * m + 1).testBit (i - k)) := fun i => by
    show x.toNat.testBit i = _
    rw [e, tb_odd]
  have n1 : (x - 1#64).toNat = x.toNat - 1 := by
    rw [BitVec.toNat_sub]
    show (2 ^ 64 - 1 + x.toNat) % 2 ^ 64 = _
    omega
  have b1 : ∀ i, (x - 1#64).getLsbD i = if i < k then true else (2 * m).testBit (i - k) := fun i => by
    show (x - 1#64).toNat.testBit i = _
    rw [n1, e, tb_odd1]
  have nn : (-x).toNat = 2 ^ 64 - ((x.toNat - 1) + 1) := by
    rw [BitVec.toNat_neg]; omega
  have bn : ∀ i, i < 64 → (-x).getLsbD i = !(if i < k then true else (2 * m).testBit (i - k)) := fun i hi => by
    show (-x).toNat.testBit i = _
    rw [nn, Nat.testBit_two_pow_sub_succ (by omega), e, tb_odd1]
    simp [hi]
  refine ⟨k, hk, ?_, fun i hi => ?_, fun i => ?_, ?_⟩
  · rw [bx, tb_par]; simp
  · rw [bx]
    have : ¬ k ≤ i := by omega
    simp [this]
  · rw [BitVec.getLsbD_and, b1, bx, tb_par]
    by_cases c : i < k
    · have : ¬ k ≤ i := by omega
      simp [this]
    · rw [if_neg c]
      by_cases d : i = k
      · subst d; simp [tb_ev]
      · have a : k ≤ i := by omega
        have b : ¬ i - k = 0 := by omega
        simp [a, b, d]
  · have q : (x &&& -x).toNat = 2 ^ k := by
      apply Nat.eq_of_testBit_eq
      intro i
      by_cases hi : i < 64
      · have g := BitVec.getLsbD_and (x := x) (y := -x) (i := i)
        rw [bn i hi, bx, tb_par] at g
        show (x &&& -x).getLsbD i = _
        rw [g, Nat.testBit_two_pow]
        by_cases c : i < k
        · have a1 : ¬ k ≤ i := by omega
          have a2 : ¬ k = i := by omega
          simp [a1, a2]
        · rw [if_neg c]
          by_cases d : k = i
          · subst d; simp [tb_ev]
          · have a : k ≤ i := by omega
            have b : ¬ i - k = 0 := by omega
            simp [a, b, d]
      · show (x &&& -x).getLsbD i = _
        rw [BitVec.getLsbD_of_ge _ _ (by omega), Nat.testBit_two_pow]
        have : ¬ k = i := by omega
        simp [this]
    rw [BitVec.toNat_sub, q]
    have : 2 ^ k < 2 ^ 64 := Nat.pow_lt_pow_right (by decide) hk
    show (2 ^ 64 - 1 + 2 ^ k) % 2 ^ 64 = _
    omega
theorem cnt_pow {x : BitVec 64} {k : Nat} (h : x.toNat = 2 ^ k - 1) : ∀ n, gm_cnt x n = if n ≤ k then n else k
  | 0 => by rw [if_pos (Nat.zero_le _)]; rfl
  | n + 1 => by
    show gm_cnt x n + (if Nat.testBit x.toNat n = true then 1 else 0) = _
    rw [cnt_pow h n, h, Nat.testBit_two_pow_sub_one]
    by_cases c : n < k
    · rw [if_pos (by omega), if_pos (by omega)]; simp [c]
    · rw [if_neg (c := (n + 1 ≤ k)) (by omega)]
      by_cases d : n ≤ k
      · rw [if_pos d]; simp [c]; omega
      · rw [if_neg d]; simp [c]
theorem cnt_drop {x y : BitVec 64} {k : Nat} (hx : x.getLsbD k = true) (hy : ∀ i, y.getLsbD i = (x.getLsbD i && !decide (i = k))) : ∀ n, gm_cnt x n = gm_cnt y n + (if k < n then 1 else 0)
  | 0 => rfl
  | n + 1 => by
    show gm_cnt x n + _ = gm_cnt y n + _ + _
    rw [cnt_drop hx hy n, hy]
    by_cases c : n = k
    · subst c
      rw [if_neg (Nat.lt_irrefl _), if_pos (Nat.lt_succ_self _), hx]; simp
    · by_cases d : k < n
      · rw [if_pos d, if_pos (by omega)]; simp [c]; omega
      · rw [if_neg d, if_neg (by omega)]; simp [c]
/-- the number of the lowest member, as the class counts it -/
def lob (x : BitVec 64) : Nat := gm_cnt ((x &&& -x) - 1#64) 64
theorem lob_s {x : BitVec 64} (h : ¬ x = 0#64) : (lob x : Int) ≤ 63 ∧ x.getLsbD (lob x) = true ∧ (∀ i, i < lob x → x.getLsbD i = false) ∧ (∀ i, (x &&& (x - 1#64)).getLsbD i = (x.getLsbD i && !decide (i = lob x))) ∧ gm_cnt x 64 = gm_cnt (x &&& (x - 1#64)) 64 + 1 := by
  obtain ⟨k, h1, h2, h3, h4, h5⟩ := low_bits h
  have e : lob x = k := by
    unfold lob
    rw [cnt_pow h5]
    by_cases c : 64 ≤ k
    · omega
    · rw [if_neg c]
  rw [e]
  refine ⟨by omega, h2, h3, h4, ?_⟩
  rw [cnt_drop h2 h4, if_pos h1]
theorem lob_i {x : BitVec 64} {r : Int} (h : ¬ x = 0#64) (e : r = (lob x : Nat)) : 0 ≤ r ∧ r ≤ 63 ∧ x.getLsbD r.toNat = true := by
  obtain ⟨h1, h2, -⟩ := lob_s h
  subst e
  exact ⟨by omega, h1, h2⟩
/-- some of the members of another set -/
def sub (x y : BitVec 64) : Prop := ∀ i : Nat, x.getLsbD i = true → y.getLsbD i = true
theorem sub.refl (x : BitVec 64) : sub x x := fun _ h => h
theorem sub.rest {x y : BitVec 64} (h : sub x y) : sub (x &&& (x - 1#64)) y := fun i hi => by
  rw [BitVec.getLsbD_and, Bool.and_eq_true] at hi
  exact h i hi.1
theorem sub.low {x y : BitVec 64} {r : Int} (h : sub x y) (h0 : ¬ x = 0#64) (e : r = (lob x : Nat)) : 0 ≤ r ∧ r ≤ 63 ∧ y.getLsbD r.toNat = true := by
  have := lob_i h0 e
  exact ⟨this.1, this.2.1, h _ this.2.2⟩
theorem sub.bd {x y : BitVec 64} {n : Int} (h : sub x y) (b : bd y n) : bd x n := fun i hi => b i (h i hi)
theorem sub.and1 {x y z : BitVec 64} (h : sub x z) : sub (x &&& y) z := fun i hi => by
  rw [BitVec.getLsbD_and, Bool.and_eq_true] at hi
  exact h i hi.1
theorem sub.and2 {x y z : BitVec 64} (h : sub y z) : sub (x &&& y) z := fun i hi => by
  rw [BitVec.getLsbD_and, Bool.and_eq_true] at hi
  exact h i hi.2
theorem cnt_0 {x : BitVec 64} (h : 0 < gm_cnt x 64) : ¬ x = 0#64 := by
  intro e; subst e
  revert h
  decide
/-- has, as the class asks it -/
theorem hx_bit (x : BitVec 64) (k : Nat) (hk : k < 64) : ((x >>> k) &&& 1#64) = 0#64 ↔ x.getLsbD k = false := by
  have b0 : ((x >>> k) &&& 1#64).getLsbD 0 = x.getLsbD k := by
    rw [BitVec.getLsbD_and, BitVec.getLsbD_ushiftRight]
    simp
  constructor
  · intro h
    rw [← b0, h]; rfl
  · intro h
    apply BitVec.eq_of_getLsbD_eq
    intro i hi
    by_cases c : i = 0
    · subst c; rw [b0, h]; rfl
    · rw [BitVec.getLsbD_and]
      have : (1#64).getLsbD i = false := by
        rw [BitVec.getLsbD_one]; simp [c]
      simp [this]
