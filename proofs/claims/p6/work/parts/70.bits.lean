/-! counting bits: the JDK's way is the plain one -/
def ds (B : Nat) : Nat → Nat → Nat
  | 0, _ => 0
  | m + 1, y => y % B + ds B m (y / B)
def mk (k : Nat) : Nat → Nat
  | 0 => 0
  | m + 1 => (2 ^ k - 1) + 2 ^ (2 * k) * mk k m
theorem and_low (k y : Nat) : (y % 2 ^ (2 * k)) &&& (2 ^ k - 1) = y % 2 ^ k := by
  rw [Nat.and_two_pow_sub_one_eq_mod, Nat.mod_mod_of_dvd]
  exact Nat.pow_dvd_pow 2 (by omega)
theorem and_cat {j a b c d : Nat} (ha : a < 2 ^ j) (hc : c < 2 ^ j) : (a + 2 ^ j * b) &&& (c + 2 ^ j * d) = (a &&& c) + 2 ^ j * (b &&& d) := by
  apply Nat.eq_of_testBit_eq
  intro i
  have hac : a &&& c < 2 ^ j := Nat.lt_of_le_of_lt Nat.and_le_left ha
  rw [Nat.testBit_and, Nat.add_comm a, Nat.add_comm c, Nat.add_comm (a &&& c), Nat.testBit_two_pow_mul_add _ ha, Nat.testBit_two_pow_mul_add _ hc, Nat.testBit_two_pow_mul_add _ hac]
  split
  · rw [Nat.testBit_and]
  · rw [Nat.testBit_and]
theorem ev_s (k m y : Nat) : y &&& mk k (m + 1) = y % 2 ^ k + 2 ^ (2 * k) * ((y / 2 ^ (2 * k)) &&& mk k m) := by
  have hp : 0 < 2 ^ k := Nat.pow_pos (by decide)
  have hp2 : 2 ^ k ≤ 2 ^ (2 * k) := Nat.pow_le_pow_right (by decide) (by omega)
  have e : y = y % 2 ^ (2 * k) + 2 ^ (2 * k) * (y / 2 ^ (2 * k)) := (Nat.mod_add_div _ _).symm
  have := and_cat (j := 2 * k) (a := y % 2 ^ (2 * k)) (b := y / 2 ^ (2 * k)) (c := 2 ^ k - 1) (d := mk k m) (Nat.mod_lt _ (Nat.pow_pos (by decide))) (by omega)
  rw [← e, and_low] at this
  exact this
/-- even and odd places of a number, added -/
def zz (k m y : Nat) : Nat := (y &&& mk k m) + ((y / 2 ^ k) &&& mk k m)
theorem dd (k y : Nat) : y / 2 ^ k / 2 ^ (2 * k) = y / 2 ^ (2 * k) / 2 ^ k := by
  rw [Nat.div_div_eq_div_mul, Nat.div_div_eq_div_mul, Nat.mul_comm]
theorem zz_s (k m y : Nat) : zz k (m + 1) y = (y % 2 ^ k + y / 2 ^ k % 2 ^ k) + 2 ^ (2 * k) * zz k m (y / 2 ^ (2 * k)) := by
  unfold zz
  rw [ev_s, ev_s, dd, Nat.mul_add]
  omega
theorem zz_ds (k : Nat) (hk : 1 ≤ k) : ∀ (m y : Nat), ds (2 ^ (2 * k)) m (zz k m y) = ds (2 ^ k) (2 * m) y
  | 0, _ => rfl
  | m + 1, y => by
    have hp : 2 ≤ 2 ^ k := by
      have := Nat.pow_le_pow_right (n := 2) (by decide) hk
      omega
    have e2 : 2 ^ (2 * k) = 2 ^ k * 2 ^ k := by rw [Nat.two_mul, Nat.pow_add]
    have hlt : y % 2 ^ k + y / 2 ^ k % 2 ^ k < 2 ^ (2 * k) := by
      have a := Nat.mod_lt y (show 2 ^ k > 0 by omega)
      have b := Nat.mod_lt (y / 2 ^ k) (show 2 ^ k > 0 by omega)
      have c : 2 ^ k * 2 ≤ 2 ^ (2 * k) := by rw [e2]; exact Nat.mul_le_mul_left _ hp
      omega
    show zz k (m + 1) y % _ + ds _ m (zz k (m + 1) y / _) = ds _ (2 * m + 1 + 1) y
    rw [zz_s, Nat.add_mul_mod_self_left, Nat.mod_eq_of_lt hlt, Nat.add_mul_div_left _ _ (Nat.pow_pos (by decide)), Nat.div_eq_of_lt hlt, Nat.zero_add, zz_ds k hk m]
    show _ = y % 2 ^ k + (y / 2 ^ k % 2 ^ k + ds _ (2 * m) (y / 2 ^ k / 2 ^ k))
    rw [Nat.div_div_eq_div_mul, ← e2]
    omega
theorem split2 (k : Nat) : ∀ (m y : Nat), y < 2 ^ (2 * k * m) → y = (y &&& mk k m) + 2 ^ k * ((y / 2 ^ k) &&& mk k m)
  | 0, y, h => by
    have : y = 0 := by simpa using h
    subst this
    simp [mk]
  | m + 1, y, h => by
    have ih := split2 k m (y / 2 ^ (2 * k)) (by
      rw [Nat.div_lt_iff_lt_mul (Nat.pow_pos (by decide)), ← Nat.pow_add]
      exact h)
    rw [ev_s, ev_s, dd]
    have e2 : 2 ^ (2 * k) = 2 ^ k * 2 ^ k := by rw [Nat.two_mul, Nat.pow_add]
    have a := Nat.div_add_mod y (2 ^ k)
    have b := Nat.div_add_mod (y / 2 ^ k) (2 ^ k)
    rw [Nat.div_div_eq_div_mul, ← e2] at b
    generalize y / 2 ^ (2 * k) = Y at *
    generalize (Y &&& mk k m) = P at *
    generalize (Y / 2 ^ k &&& mk k m) = Q at *
    generalize y / 2 ^ k = Z at *
    generalize y % 2 ^ k = r at *
    generalize Z % 2 ^ k = r2 at *
    rw [← a, ← b, ih, e2]
    rw [Nat.mul_add, Nat.mul_add, Nat.mul_add, Nat.mul_add]
    have c2 : 2 ^ k * (2 ^ k * P) = 2 ^ k * 2 ^ k * P := (Nat.mul_assoc _ _ _).symm
    have c3 : 2 ^ k * (2 ^ k * (2 ^ k * Q)) = 2 ^ k * 2 ^ k * (2 ^ k * Q) := (Nat.mul_assoc _ _ _).symm
    have c1 : 2 ^ k * (2 ^ k * 2 ^ k * Q) = 2 ^ k * 2 ^ k * (2 ^ k * Q) := Nat.mul_left_comm _ _ _
    rw [c2, c3]
    omega
theorem mk_lt (k : Nat) : ∀ m, mk k m < 2 ^ (2 * k * m)
  | 0 => by simp [mk]
  | m + 1 => by
    have ih := mk_lt k m
    have e : 2 ^ (2 * k * (m + 1)) = 2 ^ (2 * k) * 2 ^ (2 * k * m) := by rw [← Nat.pow_add]; congr 1; rw [Nat.mul_add]; omega
    have hp : 0 < 2 ^ k := Nat.pow_pos (by decide)
    have hp2 : 2 ^ k ≤ 2 ^ (2 * k) := Nat.pow_le_pow_right (by decide) (by omega)
    show (2 ^ k - 1) + 2 ^ (2 * k) * mk k m < _
    rw [e]
    have : 2 ^ (2 * k) * (mk k m + 1) ≤ 2 ^ (2 * k) * 2 ^ (2 * k * m) := Nat.mul_le_mul_left _ ih
    rw [Nat.mul_add] at this
    omega
/-- no place of 16 above 7 -/
def d7 : Nat → Nat → Prop
  | 0, _ => True
  | m + 1, y => y % 16 ≤ 7 ∧ d7 m (y / 16)
theorem zz_d7 : ∀ (m y : Nat), d7 m (zz 2 m y)
  | 0, _ => trivial
  | m + 1, y => by
    have h := zz_s 2 m y
    refine ⟨?_, ?_⟩
    · rw [h]; omega
    · rw [h]
      have : ((y % 2 ^ 2 + y / 2 ^ 2 % 2 ^ 2) + 2 ^ (2 * 2) * zz 2 m (y / 2 ^ (2 * 2))) / 16 = zz 2 m (y / 2 ^ (2 * 2)) := by omega
      rw [this]
      exact zz_d7 m _
theorem st3 : ∀ (m y : Nat), d7 (2 * m) y → (y + y / 16) &&& mk 4 m = zz 4 m y
  | 0, _, _ => by simp [zz, mk]
  | m + 1, y, h => by
    have h1 : y % 16 ≤ 7 := h.1
    have h2 : y / 16 % 16 ≤ 7 := h.2.1
    have h3 : d7 (2 * m) (y / 16 / 16) := h.2.2
    have ih := st3 m (y / 16 / 16) h3
    have p4 : (2 : Nat) ^ 4 = 16 := rfl
    have p8 : (2 : Nat) ^ (2 * 4) = 256 := rfl
    rw [ev_s, zz_s, p4, p8]
    have e1 : (y + y / 16) % 16 = y % 16 + y / 16 % 16 := by omega
    have e3 : y / 256 = y / 16 / 16 := by omega
    by_cases hm : m = 0
    · subst hm
      rw [e1]
      simp [mk, zz]
    · have h5 : y / 16 / 16 % 16 ≤ 7 := by
        obtain ⟨j, rfl⟩ : ∃ j, m = j + 1 := ⟨m - 1, by omega⟩
        exact h3.1
      have e2 : (y + y / 16) / 256 = y / 16 / 16 + y / 16 / 16 / 16 := by omega
      rw [e1, e2, e3, ih]
theorem st3_0 (y : Nat) : d7 16 y → y % 16 ≤ 7 := fun h => h.1
theorem ds_bytes {m y : Nat} (h : y < 256 ^ (m + 1)) : ∃ e Y, y = e + 256 * Y ∧ e < 256 ∧ Y < 256 ^ m ∧ ds 256 (m + 1) y = e + ds 256 m Y := by
  refine ⟨y % 256, y / 256, by omega, by omega, ?_, rfl⟩
  rw [Nat.div_lt_iff_lt_mul (by decide)]
  rw [Nat.pow_succ] at h
  exact h
/-- bytes of what the third step leaves -/
def b14 : Nat → Nat → Prop
  | 0, y => y = 0
  | m + 1, y => y % 256 ≤ 14 ∧ b14 m (y / 256)
theorem zz_b14 : ∀ (m y : Nat), d7 (2 * m) y → b14 m (zz 4 m y)
  | 0, _, _ => by simp [b14, zz, mk]
  | m + 1, y, h => by
    have h1 : y % 16 ≤ 7 := h.1
    have h2 : y / 16 % 16 ≤ 7 := h.2.1
    have h3 : d7 (2 * m) (y / 16 / 16) := h.2.2
    have e3 : y / 2 ^ (2 * 4) = y / 16 / 16 := by omega
    have e : zz 4 (m + 1) y % 256 = y % 16 + y / 16 % 16 ∧ zz 4 (m + 1) y / 256 = zz 4 m (y / 16 / 16) := by
      rw [zz_s, e3]; omega
    exact ⟨by omega, by rw [e.2]; exact zz_b14 m _ h3⟩
