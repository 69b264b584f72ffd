/-! words for the printed contracts -/
theorem gz_w (x : Int) : gp_wr x = (x + 2147483648) % 4294967296 - 2147483648 := rfl
theorem gz_mx (x y : Int) : (x < y → gp_mx x y = y) ∧ (¬ x < y → gp_mx x y = x) := ⟨fun h => if_pos h, fun h => if_neg h⟩
theorem gz_mi (x y : Int) : (y < x → gp_mi x y = y) ∧ (¬ y < x → gp_mi x y = x) := ⟨fun h => if_pos h, fun h => if_neg h⟩
theorem gz_ab (x : Int) : (0 ≤ x → gp_ab x = x) ∧ (¬ 0 ≤ x → gp_ab x = (-x + 2147483648) % 4294967296 - 2147483648) := ⟨fun h => if_pos h, fun h => if_neg h⟩
theorem gz_b (x : Int) : gp_b x = (x + 128) % 256 - 128 := rfl
theorem gz_s (x : Int) : gp_s x = (x + 32768) % 65536 - 32768 := rfl
theorem gz_td (x y : Int) (h : 0 ≤ x) : x.tdiv y = x / y ∧ x.tmod y = x % y := ⟨Int.tdiv_eq_ediv_of_nonneg h, Int.tmod_eq_emod_of_nonneg h⟩
theorem gz_oi (x : Int) (h : -9223372036854775808 ≤ x ∧ x < 9223372036854775808) : (BitVec.ofInt 64 x).toInt = x := by
  rw [BitVec.toInt_ofInt]
  exact Int.bmod_eq_of_le (by omega) (by omega)
theorem gz_cmp (x y : BitVec 64) : (gp_cmp x y = -1 ∧ x.toInt < y.toInt) ∨ (gp_cmp x y = 0 ∧ x.toInt = y.toInt) ∨ (gp_cmp x y = 1 ∧ y.toInt < x.toInt) := by
  unfold gp_cmp
  split
  · exact Or.inl ⟨rfl, by assumption⟩
  · split
    · rename_i h1 h2; subst h2; exact Or.inr (Or.inl ⟨rfl, rfl⟩)
    · rename_i h1 h2
      have : x.toInt ≠ y.toInt := fun h => h2 (BitVec.eq_of_toInt_eq h)
      exact Or.inr (Or.inr ⟨rfl, by omega⟩)
theorem gz_0sh (n : Nat) : 0#64 >>> n = 0#64 := by simp
theorem gz_1sh {n : Nat} (h : 1 ≤ n) : 1#64 >>> n = 0#64 := by
  apply BitVec.eq_of_toNat_eq
  rw [BitVec.toNat_ushiftRight]
  show 1 >>> n = 0
  rw [Nat.shiftRight_eq_div_pow]
  exact Nat.div_eq_of_lt (Nat.one_lt_two_pow (by omega))
theorem gz_0and (x : BitVec 64) : 0#64 &&& x = 0#64 := by simp
theorem gz_oe {s : gH} {a i j : Nat} {v : Int} (h : i ≠ j) : gp_I (gp_wI s a i v) a j = gp_I s a j := by
  show gp_u2 _ _ _ _ _ _ = _
  rw [gm_u2, if_neg (by omega)]
theorem gz_oI {s : gH} {a i j : Nat} {v c : Int} (h : i ≠ j) (q : gp_I s a j = c) : gp_I (gp_wI s a i v) a j = c := (gz_oe h).trans q
/-- a heap that keeps what the other side has, and whose reference's places have a property -/
def gI (P : Nat → Nat → Int → Prop) (Q : Nat → Nat → BitVec 64 → Prop) (z s : gH) : Prop := (s.1 = z.1 ∧ s.2.1 = z.2.1 ∧ s.2.2.1 = z.2.2.1 ∧ s.2.2.2.2.2 = z.2.2.2.2.2) ∧ (∀ a k, ¬ (74 ≤ a ∧ a < 117) → gp_I s a k = gp_I z a k ∧ gp_L s a k = gp_L z a k) ∧ (∀ a k, 74 ≤ a → a < 117 → P a k (gp_I s a k) ∧ Q a k (gp_L s a k))
theorem gI.wI {P : Nat → Nat → Int → Prop} {Q : Nat → Nat → BitVec 64 → Prop} {z s : gH} (h : gI P Q z s) (a k : Nat) (v : Int) (ha : 74 ≤ a) (hb : a < 117) (hv : P a k v) : gI P Q z (gp_wI s a k v) := by
  refine ⟨h.1, fun a' k' hn => ⟨?_, (h.2.1 a' k' hn).2⟩, fun a' k' h1 h2 => ⟨?_, (h.2.2 a' k' h1 h2).2⟩⟩
  · show gp_u2 _ _ _ _ _ _ = _
    rw [gm_u2, if_neg (fun q => hn (by omega))]
    exact (h.2.1 a' k' hn).1
  · show P a' k' (gp_u2 _ _ _ _ _ _)
    rw [gm_u2]
    split
    · rename_i q; rw [q.1, q.2]; exact hv
    · exact (h.2.2 a' k' h1 h2).1
theorem gI.wL {P : Nat → Nat → Int → Prop} {Q : Nat → Nat → BitVec 64 → Prop} {z s : gH} (h : gI P Q z s) (a k : Nat) (v : BitVec 64) (ha : 74 ≤ a) (hb : a < 117) (hv : Q a k v) : gI P Q z (gp_wL s a k v) := by
  refine ⟨h.1, fun a' k' hn => ⟨(h.2.1 a' k' hn).1, ?_⟩, fun a' k' h1 h2 => ⟨(h.2.2 a' k' h1 h2).1, ?_⟩⟩
  · show gp_u2 _ _ _ _ _ _ = _
    rw [gm_u2, if_neg (fun q => hn (by omega))]
    exact (h.2.1 a' k' hn).2
  · show Q a' k' (gp_u2 _ _ _ _ _ _)
    rw [gm_u2]
    split
    · rename_i q; rw [q.1, q.2]; exact hv
    · exact (h.2.2 a' k' h1 h2).2

def zP (a k : Nat) (v : Int) : Prop := cond (Nat.beq a 74) (cond (Nat.beq k 15) (v = 0) (cond (Nat.beq k 44) (v = 0) (cond (Nat.beq k 49) (0 ≤ v ∧ v ≤ 3) (cond (Nat.beq k 55) (0 ≤ v ∧ v ≤ 3) (cond (Nat.beq k 56) (0 ≤ v ∧ v ≤ 1) (True)))))) (cond (Nat.beq a 78) (v = 0) (cond (Nat.beq a 79) (v = 0) (cond (Nat.beq a 80) (v = 0) (cond (Nat.beq a 81) ((0 ≤ v ∧ v ≤ 1) ∧ (k < 8 → v = 1)) (cond (Nat.beq a 86) (v = 0 ∨ v = 2) (cond (Nat.beq a 87) (v = 0) (cond (Nat.beq a 88) (v = 0) (cond (Nat.beq a 89) (v = 0) (cond (Nat.beq a 90) (v = 0) (cond (Nat.beq a 91) (v = 0) (cond (Nat.beq a 92) (v = 0) (cond (Nat.beq a 93) (v = 0) (cond (Nat.beq a 94) (v = 0) (cond (Nat.beq a 95) (v = 0) (cond (Nat.beq a 96) (v = 0) (cond (Nat.beq a 97) (v = 0) (cond (Nat.beq a 98) (0 ≤ v ∧ v ≤ 1) (cond (Nat.beq a 99) (0 ≤ v ∧ v ≤ 1) (cond (Nat.beq a 100) (v = 0) (cond (Nat.beq a 101) (v = 0) (cond (Nat.beq a 102) (v = 0) (cond (Nat.beq a 103) (v = 0) (cond (Nat.beq a 104) (v = 0) (cond (Nat.beq a 105) (0 ≤ v ∧ v ≤ 1) (cond (Nat.beq a 106) (0 ≤ v ∧ v ≤ 7) (cond (Nat.beq a 107) (v = 0) (cond (Nat.beq a 108) (v = 0) (cond (Nat.beq a 109) (v = 0) (cond (Nat.beq a 110) (v = 0) (cond (Nat.beq a 111) (0 ≤ v ∧ v ≤ 7) (cond (Nat.beq a 112) (v = 0) (True))))))))))))))))))))))))))))))))
def zQ (a k : Nat) (v : BitVec 64) : Prop := cond (Nat.beq a 74) (cond (Nat.beq k 35) (v = 0#64) (cond (Nat.beq k 36) (v = 0#64) (True))) (cond (Nat.beq a 76) (v = 0#64) (cond (Nat.beq a 77) (v = 0#64) (True)))
abbrev zM (z s : gH) : Prop := gI zP zQ z s
theorem zw75 {z s : gH} (h : zM z s) (k : Nat) (v : Int) : zM z (gp_wI s 75 k v) := gI.wI h 75 k v (by omega) (by omega) trivial
theorem zr78 {z s : gH} (h : zM z s) (k : Nat) : gp_I s 78 k = 0 := (h.2.2 78 k (by omega) (by omega)).1
theorem zw78 {z s : gH} (h : zM z s) (k : Nat) (v : Int) (hv : v = 0) : zM z (gp_wI s 78 k v) := gI.wI h 78 k v (by omega) (by omega) hv
theorem zr79 {z s : gH} (h : zM z s) (k : Nat) : gp_I s 79 k = 0 := (h.2.2 79 k (by omega) (by omega)).1
theorem zw79 {z s : gH} (h : zM z s) (k : Nat) (v : Int) (hv : v = 0) : zM z (gp_wI s 79 k v) := gI.wI h 79 k v (by omega) (by omega) hv
theorem zr80 {z s : gH} (h : zM z s) (k : Nat) : gp_I s 80 k = 0 := (h.2.2 80 k (by omega) (by omega)).1
theorem zw80 {z s : gH} (h : zM z s) (k : Nat) (v : Int) (hv : v = 0) : zM z (gp_wI s 80 k v) := gI.wI h 80 k v (by omega) (by omega) hv
theorem zr81 {z s : gH} (h : zM z s) (k : Nat) : (0 ≤ gp_I s 81 k ∧ gp_I s 81 k ≤ 1) ∧ (k < 8 → gp_I s 81 k = 1) := (h.2.2 81 k (by omega) (by omega)).1
theorem zw81 {z s : gH} (h : zM z s) (k : Nat) (v : Int) (hv : (0 ≤ v ∧ v ≤ 1) ∧ (k < 8 → v = 1)) : zM z (gp_wI s 81 k v) := gI.wI h 81 k v (by omega) (by omega) hv
theorem zw82 {z s : gH} (h : zM z s) (k : Nat) (v : Int) : zM z (gp_wI s 82 k v) := gI.wI h 82 k v (by omega) (by omega) trivial
theorem zw83 {z s : gH} (h : zM z s) (k : Nat) (v : Int) : zM z (gp_wI s 83 k v) := gI.wI h 83 k v (by omega) (by omega) trivial
theorem zw84 {z s : gH} (h : zM z s) (k : Nat) (v : Int) : zM z (gp_wI s 84 k v) := gI.wI h 84 k v (by omega) (by omega) trivial
theorem zw85 {z s : gH} (h : zM z s) (k : Nat) (v : Int) : zM z (gp_wI s 85 k v) := gI.wI h 85 k v (by omega) (by omega) trivial
theorem zr86 {z s : gH} (h : zM z s) (k : Nat) : gp_I s 86 k = 0 ∨ gp_I s 86 k = 2 := (h.2.2 86 k (by omega) (by omega)).1
theorem zw86 {z s : gH} (h : zM z s) (k : Nat) (v : Int) (hv : v = 0 ∨ v = 2) : zM z (gp_wI s 86 k v) := gI.wI h 86 k v (by omega) (by omega) hv
theorem zr87 {z s : gH} (h : zM z s) (k : Nat) : gp_I s 87 k = 0 := (h.2.2 87 k (by omega) (by omega)).1
theorem zw87 {z s : gH} (h : zM z s) (k : Nat) (v : Int) (hv : v = 0) : zM z (gp_wI s 87 k v) := gI.wI h 87 k v (by omega) (by omega) hv
theorem zr88 {z s : gH} (h : zM z s) (k : Nat) : gp_I s 88 k = 0 := (h.2.2 88 k (by omega) (by omega)).1
theorem zw88 {z s : gH} (h : zM z s) (k : Nat) (v : Int) (hv : v = 0) : zM z (gp_wI s 88 k v) := gI.wI h 88 k v (by omega) (by omega) hv
theorem zr89 {z s : gH} (h : zM z s) (k : Nat) : gp_I s 89 k = 0 := (h.2.2 89 k (by omega) (by omega)).1
theorem zw89 {z s : gH} (h : zM z s) (k : Nat) (v : Int) (hv : v = 0) : zM z (gp_wI s 89 k v) := gI.wI h 89 k v (by omega) (by omega) hv
theorem zr90 {z s : gH} (h : zM z s) (k : Nat) : gp_I s 90 k = 0 := (h.2.2 90 k (by omega) (by omega)).1
theorem zw90 {z s : gH} (h : zM z s) (k : Nat) (v : Int) (hv : v = 0) : zM z (gp_wI s 90 k v) := gI.wI h 90 k v (by omega) (by omega) hv
theorem zr91 {z s : gH} (h : zM z s) (k : Nat) : gp_I s 91 k = 0 := (h.2.2 91 k (by omega) (by omega)).1
theorem zw91 {z s : gH} (h : zM z s) (k : Nat) (v : Int) (hv : v = 0) : zM z (gp_wI s 91 k v) := gI.wI h 91 k v (by omega) (by omega) hv
theorem zr92 {z s : gH} (h : zM z s) (k : Nat) : gp_I s 92 k = 0 := (h.2.2 92 k (by omega) (by omega)).1
theorem zw92 {z s : gH} (h : zM z s) (k : Nat) (v : Int) (hv : v = 0) : zM z (gp_wI s 92 k v) := gI.wI h 92 k v (by omega) (by omega) hv
theorem zr93 {z s : gH} (h : zM z s) (k : Nat) : gp_I s 93 k = 0 := (h.2.2 93 k (by omega) (by omega)).1
theorem zw93 {z s : gH} (h : zM z s) (k : Nat) (v : Int) (hv : v = 0) : zM z (gp_wI s 93 k v) := gI.wI h 93 k v (by omega) (by omega) hv
theorem zr94 {z s : gH} (h : zM z s) (k : Nat) : gp_I s 94 k = 0 := (h.2.2 94 k (by omega) (by omega)).1
theorem zw94 {z s : gH} (h : zM z s) (k : Nat) (v : Int) (hv : v = 0) : zM z (gp_wI s 94 k v) := gI.wI h 94 k v (by omega) (by omega) hv
theorem zr95 {z s : gH} (h : zM z s) (k : Nat) : gp_I s 95 k = 0 := (h.2.2 95 k (by omega) (by omega)).1
theorem zw95 {z s : gH} (h : zM z s) (k : Nat) (v : Int) (hv : v = 0) : zM z (gp_wI s 95 k v) := gI.wI h 95 k v (by omega) (by omega) hv
theorem zr96 {z s : gH} (h : zM z s) (k : Nat) : gp_I s 96 k = 0 := (h.2.2 96 k (by omega) (by omega)).1
theorem zw96 {z s : gH} (h : zM z s) (k : Nat) (v : Int) (hv : v = 0) : zM z (gp_wI s 96 k v) := gI.wI h 96 k v (by omega) (by omega) hv
theorem zr97 {z s : gH} (h : zM z s) (k : Nat) : gp_I s 97 k = 0 := (h.2.2 97 k (by omega) (by omega)).1
theorem zw97 {z s : gH} (h : zM z s) (k : Nat) (v : Int) (hv : v = 0) : zM z (gp_wI s 97 k v) := gI.wI h 97 k v (by omega) (by omega) hv
theorem zr98 {z s : gH} (h : zM z s) (k : Nat) : 0 ≤ gp_I s 98 k ∧ gp_I s 98 k ≤ 1 := (h.2.2 98 k (by omega) (by omega)).1
theorem zw98 {z s : gH} (h : zM z s) (k : Nat) (v : Int) (hv : 0 ≤ v ∧ v ≤ 1) : zM z (gp_wI s 98 k v) := gI.wI h 98 k v (by omega) (by omega) hv
theorem zr99 {z s : gH} (h : zM z s) (k : Nat) : 0 ≤ gp_I s 99 k ∧ gp_I s 99 k ≤ 1 := (h.2.2 99 k (by omega) (by omega)).1
theorem zw99 {z s : gH} (h : zM z s) (k : Nat) (v : Int) (hv : 0 ≤ v ∧ v ≤ 1) : zM z (gp_wI s 99 k v) := gI.wI h 99 k v (by omega) (by omega) hv
theorem zr100 {z s : gH} (h : zM z s) (k : Nat) : gp_I s 100 k = 0 := (h.2.2 100 k (by omega) (by omega)).1
theorem zw100 {z s : gH} (h : zM z s) (k : Nat) (v : Int) (hv : v = 0) : zM z (gp_wI s 100 k v) := gI.wI h 100 k v (by omega) (by omega) hv
theorem zr101 {z s : gH} (h : zM z s) (k : Nat) : gp_I s 101 k = 0 := (h.2.2 101 k (by omega) (by omega)).1
theorem zw101 {z s : gH} (h : zM z s) (k : Nat) (v : Int) (hv : v = 0) : zM z (gp_wI s 101 k v) := gI.wI h 101 k v (by omega) (by omega) hv
theorem zr102 {z s : gH} (h : zM z s) (k : Nat) : gp_I s 102 k = 0 := (h.2.2 102 k (by omega) (by omega)).1
theorem zw102 {z s : gH} (h : zM z s) (k : Nat) (v : Int) (hv : v = 0) : zM z (gp_wI s 102 k v) := gI.wI h 102 k v (by omega) (by omega) hv
theorem zr103 {z s : gH} (h : zM z s) (k : Nat) : gp_I s 103 k = 0 := (h.2.2 103 k (by omega) (by omega)).1
theorem zw103 {z s : gH} (h : zM z s) (k : Nat) (v : Int) (hv : v = 0) : zM z (gp_wI s 103 k v) := gI.wI h 103 k v (by omega) (by omega) hv
theorem zr104 {z s : gH} (h : zM z s) (k : Nat) : gp_I s 104 k = 0 := (h.2.2 104 k (by omega) (by omega)).1
theorem zw104 {z s : gH} (h : zM z s) (k : Nat) (v : Int) (hv : v = 0) : zM z (gp_wI s 104 k v) := gI.wI h 104 k v (by omega) (by omega) hv
theorem zr105 {z s : gH} (h : zM z s) (k : Nat) : 0 ≤ gp_I s 105 k ∧ gp_I s 105 k ≤ 1 := (h.2.2 105 k (by omega) (by omega)).1
theorem zw105 {z s : gH} (h : zM z s) (k : Nat) (v : Int) (hv : 0 ≤ v ∧ v ≤ 1) : zM z (gp_wI s 105 k v) := gI.wI h 105 k v (by omega) (by omega) hv
theorem zr106 {z s : gH} (h : zM z s) (k : Nat) : 0 ≤ gp_I s 106 k ∧ gp_I s 106 k ≤ 7 := (h.2.2 106 k (by omega) (by omega)).1
theorem zw106 {z s : gH} (h : zM z s) (k : Nat) (v : Int) (hv : 0 ≤ v ∧ v ≤ 7) : zM z (gp_wI s 106 k v) := gI.wI h 106 k v (by omega) (by omega) hv
theorem zr107 {z s : gH} (h : zM z s) (k : Nat) : gp_I s 107 k = 0 := (h.2.2 107 k (by omega) (by omega)).1
theorem zw107 {z s : gH} (h : zM z s) (k : Nat) (v : Int) (hv : v = 0) : zM z (gp_wI s 107 k v) := gI.wI h 107 k v (by omega) (by omega) hv
theorem zr108 {z s : gH} (h : zM z s) (k : Nat) : gp_I s 108 k = 0 := (h.2.2 108 k (by omega) (by omega)).1
theorem zw108 {z s : gH} (h : zM z s) (k : Nat) (v : Int) (hv : v = 0) : zM z (gp_wI s 108 k v) := gI.wI h 108 k v (by omega) (by omega) hv
theorem zr109 {z s : gH} (h : zM z s) (k : Nat) : gp_I s 109 k = 0 := (h.2.2 109 k (by omega) (by omega)).1
theorem zw109 {z s : gH} (h : zM z s) (k : Nat) (v : Int) (hv : v = 0) : zM z (gp_wI s 109 k v) := gI.wI h 109 k v (by omega) (by omega) hv
theorem zr110 {z s : gH} (h : zM z s) (k : Nat) : gp_I s 110 k = 0 := (h.2.2 110 k (by omega) (by omega)).1
theorem zw110 {z s : gH} (h : zM z s) (k : Nat) (v : Int) (hv : v = 0) : zM z (gp_wI s 110 k v) := gI.wI h 110 k v (by omega) (by omega) hv
theorem zr111 {z s : gH} (h : zM z s) (k : Nat) : 0 ≤ gp_I s 111 k ∧ gp_I s 111 k ≤ 7 := (h.2.2 111 k (by omega) (by omega)).1
theorem zw111 {z s : gH} (h : zM z s) (k : Nat) (v : Int) (hv : 0 ≤ v ∧ v ≤ 7) : zM z (gp_wI s 111 k v) := gI.wI h 111 k v (by omega) (by omega) hv
theorem zr112 {z s : gH} (h : zM z s) (k : Nat) : gp_I s 112 k = 0 := (h.2.2 112 k (by omega) (by omega)).1
theorem zw112 {z s : gH} (h : zM z s) (k : Nat) (v : Int) (hv : v = 0) : zM z (gp_wI s 112 k v) := gI.wI h 112 k v (by omega) (by omega) hv
theorem zw113 {z s : gH} (h : zM z s) (k : Nat) (v : Int) : zM z (gp_wI s 113 k v) := gI.wI h 113 k v (by omega) (by omega) trivial
theorem zw114 {z s : gH} (h : zM z s) (k : Nat) (v : Int) : zM z (gp_wI s 114 k v) := gI.wI h 114 k v (by omega) (by omega) trivial
theorem zw115 {z s : gH} (h : zM z s) (k : Nat) (v : Int) : zM z (gp_wI s 115 k v) := gI.wI h 115 k v (by omega) (by omega) trivial
theorem zw116 {z s : gH} (h : zM z s) (k : Nat) (v : Int) : zM z (gp_wI s 116 k v) := gI.wI h 116 k v (by omega) (by omega) trivial
theorem zr76 {z s : gH} (h : zM z s) (k : Nat) : gp_L s 76 k = 0#64 := (h.2.2 76 k (by omega) (by omega)).2
theorem zw76 {z s : gH} (h : zM z s) (k : Nat) (v : BitVec 64) (hv : v = 0#64) : zM z (gp_wL s 76 k v) := gI.wL h 76 k v (by omega) (by omega) hv
theorem zr77 {z s : gH} (h : zM z s) (k : Nat) : gp_L s 77 k = 0#64 := (h.2.2 77 k (by omega) (by omega)).2
theorem zw77 {z s : gH} (h : zM z s) (k : Nat) (v : BitVec 64) (hv : v = 0#64) : zM z (gp_wL s 77 k v) := gI.wL h 77 k v (by omega) (by omega) hv
theorem zw74_7 {z s : gH} (h : zM z s) (k : Nat) (v : Int) : zM z (gp_wI s 74 7 v) := gI.wI h 74 7 v (by omega) (by omega) trivial
theorem zw74_8 {z s : gH} (h : zM z s) (k : Nat) (v : Int) : zM z (gp_wI s 74 8 v) := gI.wI h 74 8 v (by omega) (by omega) trivial
theorem zw74_9 {z s : gH} (h : zM z s) (k : Nat) (v : Int) : zM z (gp_wI s 74 9 v) := gI.wI h 74 9 v (by omega) (by omega) trivial
theorem zw74_11 {z s : gH} (h : zM z s) (k : Nat) (v : Int) : zM z (gp_wI s 74 11 v) := gI.wI h 74 11 v (by omega) (by omega) trivial
theorem zr74_15 {z s : gH} (h : zM z s) (k : Nat) : gp_I s 74 15 = 0 := (h.2.2 74 15 (by omega) (by omega)).1
theorem zw74_15 {z s : gH} (h : zM z s) (k : Nat) (v : Int) (hv : v = 0) : zM z (gp_wI s 74 15 v) := gI.wI h 74 15 v (by omega) (by omega) hv
theorem zr74_35 {z s : gH} (h : zM z s) (k : Nat) : gp_L s 74 35 = 0#64 := (h.2.2 74 35 (by omega) (by omega)).2
theorem zw74_35 {z s : gH} (h : zM z s) (k : Nat) (v : BitVec 64) (hv : v = 0#64) : zM z (gp_wL s 74 35 v) := gI.wL h 74 35 v (by omega) (by omega) hv
theorem zr74_36 {z s : gH} (h : zM z s) (k : Nat) : gp_L s 74 36 = 0#64 := (h.2.2 74 36 (by omega) (by omega)).2
theorem zw74_36 {z s : gH} (h : zM z s) (k : Nat) (v : BitVec 64) (hv : v = 0#64) : zM z (gp_wL s 74 36 v) := gI.wL h 74 36 v (by omega) (by omega) hv
theorem zw74_38 {z s : gH} (h : zM z s) (k : Nat) (v : Int) : zM z (gp_wI s 74 38 v) := gI.wI h 74 38 v (by omega) (by omega) trivial
theorem zw74_39 {z s : gH} (h : zM z s) (k : Nat) (v : Int) : zM z (gp_wI s 74 39 v) := gI.wI h 74 39 v (by omega) (by omega) trivial
theorem zw74_40 {z s : gH} (h : zM z s) (k : Nat) (v : Int) : zM z (gp_wI s 74 40 v) := gI.wI h 74 40 v (by omega) (by omega) trivial
theorem zw74_41 {z s : gH} (h : zM z s) (k : Nat) (v : Int) : zM z (gp_wI s 74 41 v) := gI.wI h 74 41 v (by omega) (by omega) trivial
theorem zw74_42 {z s : gH} (h : zM z s) (k : Nat) (v : Int) : zM z (gp_wI s 74 42 v) := gI.wI h 74 42 v (by omega) (by omega) trivial
theorem zw74_43 {z s : gH} (h : zM z s) (k : Nat) (v : Int) : zM z (gp_wI s 74 43 v) := gI.wI h 74 43 v (by omega) (by omega) trivial
theorem zr74_44 {z s : gH} (h : zM z s) (k : Nat) : gp_I s 74 44 = 0 := (h.2.2 74 44 (by omega) (by omega)).1
theorem zw74_44 {z s : gH} (h : zM z s) (k : Nat) (v : Int) (hv : v = 0) : zM z (gp_wI s 74 44 v) := gI.wI h 74 44 v (by omega) (by omega) hv
theorem zw74_45 {z s : gH} (h : zM z s) (k : Nat) (v : Int) : zM z (gp_wI s 74 45 v) := gI.wI h 74 45 v (by omega) (by omega) trivial
theorem zw74_46 {z s : gH} (h : zM z s) (k : Nat) (v : Int) : zM z (gp_wI s 74 46 v) := gI.wI h 74 46 v (by omega) (by omega) trivial
theorem zr74_49 {z s : gH} (h : zM z s) (k : Nat) : 0 ≤ gp_I s 74 49 ∧ gp_I s 74 49 ≤ 3 := (h.2.2 74 49 (by omega) (by omega)).1
theorem zw74_49 {z s : gH} (h : zM z s) (k : Nat) (v : Int) (hv : 0 ≤ v ∧ v ≤ 3) : zM z (gp_wI s 74 49 v) := gI.wI h 74 49 v (by omega) (by omega) hv
theorem zr74_55 {z s : gH} (h : zM z s) (k : Nat) : 0 ≤ gp_I s 74 55 ∧ gp_I s 74 55 ≤ 3 := (h.2.2 74 55 (by omega) (by omega)).1
theorem zw74_55 {z s : gH} (h : zM z s) (k : Nat) (v : Int) (hv : 0 ≤ v ∧ v ≤ 3) : zM z (gp_wI s 74 55 v) := gI.wI h 74 55 v (by omega) (by omega) hv
theorem zr74_56 {z s : gH} (h : zM z s) (k : Nat) : 0 ≤ gp_I s 74 56 ∧ gp_I s 74 56 ≤ 1 := (h.2.2 74 56 (by omega) (by omega)).1
theorem zw74_56 {z s : gH} (h : zM z s) (k : Nat) (v : Int) (hv : 0 ≤ v ∧ v ≤ 1) : zM z (gp_wI s 74 56 v) := gI.wI h 74 56 v (by omega) (by omega) hv
theorem zw74_57 {z s : gH} (h : zM z s) (k : Nat) (v : Int) : zM z (gp_wI s 74 57 v) := gI.wI h 74 57 v (by omega) (by omega) trivial
theorem zw74_58 {z s : gH} (h : zM z s) (k : Nat) (v : Int) : zM z (gp_wI s 74 58 v) := gI.wI h 74 58 v (by omega) (by omega) trivial
