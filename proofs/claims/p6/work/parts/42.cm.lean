/-! the reference's copies -/
/-- the first n followers of game f stand also in game t -/
def gm_cp (s : gH) (f t n : Nat) : gH := (s.1, s.2.1, s.2.2.1, (fun a k => if (a = 78 ∨ a = 79 ∨ a = 80) ∧ 64 * t ≤ k ∧ k < 64 * t + n then s.2.2.2.1 a (64 * f + (k - 64 * t)) else s.2.2.2.1 a k), (fun a k => if (a = 76 ∨ a = 77) ∧ 64 * t ≤ k ∧ k < 64 * t + n then s.2.2.2.2.1 a (64 * f + (k - 64 * t)) else s.2.2.2.2.1 a k), s.2.2.2.2.2)
theorem gm_cp_0 (s : gH) (f t : Nat) : gm_cp s f t 0 = s := by
  have e1 : (fun a k => if (a = 78 ∨ a = 79 ∨ a = 80) ∧ 64 * t ≤ k ∧ k < 64 * t + 0 then s.2.2.2.1 a (64 * f + (k - 64 * t)) else s.2.2.2.1 a k) = s.2.2.2.1 := by
    funext a k; rw [if_neg (by omega)]
  have e2 : (fun a k => if (a = 76 ∨ a = 77) ∧ 64 * t ≤ k ∧ k < 64 * t + 0 then s.2.2.2.2.1 a (64 * f + (k - 64 * t)) else s.2.2.2.2.1 a k) = s.2.2.2.2.1 := by
    funext a k; rw [if_neg (by omega)]
  unfold gm_cp
  rw [e1, e2]
theorem gm_cp_I (s : gH) (f t n a : Nat) (hn : n < 64) : gp_I (gm_cp s f t n) a (64 * f + n) = gp_I s a (64 * f + n) := by
  show (if _ then _ else _) = _
  rw [if_neg (by omega)]
theorem gm_cp_L (s : gH) (f t n a : Nat) (hn : n < 64) : gp_L (gm_cp s f t n) a (64 * f + n) = gp_L s a (64 * f + n) := by
  show (if _ then _ else _) = _
  rw [if_neg (by omega)]
theorem gm_cp_o (s : gH) (f t n a k : Nat) (ha : ¬ (a = 78 ∨ a = 79 ∨ a = 80)) : gp_I (gm_cp s f t n) a k = gp_I s a k := by
  show (if _ then _ else _) = _
  rw [if_neg (fun h => ha h.1)]
theorem gm_cp_s (s : gH) (f t n : Nat) : gp_wI (gp_wI (gp_wI (gp_wL (gp_wL (gm_cp s f t n) 76 (64 * t + n) (gp_L s 76 (64 * f + n))) 77 (64 * t + n) (gp_L s 77 (64 * f + n))) 78 (64 * t + n) (gp_I s 78 (64 * f + n))) 79 (64 * t + n) (gp_I s 79 (64 * f + n))) 80 (64 * t + n) (gp_I s 80 (64 * f + n)) = gm_cp s f t (n + 1) := by
  have e1 : gp_u2 (gp_u2 (gp_u2 (gm_cp s f t n).2.2.2.1 78 (64 * t + n) (gp_I s 78 (64 * f + n))) 79 (64 * t + n) (gp_I s 79 (64 * f + n))) 80 (64 * t + n) (gp_I s 80 (64 * f + n)) = (gm_cp s f t (n + 1)).2.2.2.1 := by
    funext a k
    rw [gm_u2, gm_u2, gm_u2]
    show _ = if _ then _ else _
    by_cases hk : k = 64 * t + n
    · subst hk
      rw [show 64 * t + n - 64 * t = n by omega]
      by_cases h1 : a = 80
      · subst h1; simp
      · by_cases h2 : a = 79
        · subst h2; simp
        · by_cases h3 : a = 78
          · subst h3; simp
          · rw [if_neg (by omega), if_neg (by omega), if_neg (by omega), if_neg (by omega)]
            show (if _ then _ else _) = _
            rw [if_neg (by omega)]
    · rw [if_neg (by omega), if_neg (by omega), if_neg (by omega)]
      show (if _ then _ else _) = _
      by_cases h : (a = 78 ∨ a = 79 ∨ a = 80) ∧ 64 * t ≤ k ∧ k < 64 * t + n
      · rw [if_pos h, if_pos (by omega)]
      · rw [if_neg h, if_neg (by omega)]
  have e2 : gp_u2 (gp_u2 (gm_cp s f t n).2.2.2.2.1 76 (64 * t + n) (gp_L s 76 (64 * f + n))) 77 (64 * t + n) (gp_L s 77 (64 * f + n)) = (gm_cp s f t (n + 1)).2.2.2.2.1 := by
    funext a k
    rw [gm_u2, gm_u2]
    show _ = if _ then _ else _
    by_cases hk : k = 64 * t + n
    · subst hk
      rw [show 64 * t + n - 64 * t = n by omega]
      by_cases h1 : a = 77
      · subst h1; simp
      · by_cases h2 : a = 76
        · subst h2; simp
        · rw [if_neg (by omega), if_neg (by omega), if_neg (by omega)]
          show (if _ then _ else _) = _
          rw [if_neg (by omega)]
    · rw [if_neg (by omega), if_neg (by omega)]
      show (if _ then _ else _) = _
      by_cases h : (a = 76 ∨ a = 77) ∧ 64 * t ≤ k ∧ k < 64 * t + n
      · rw [if_pos h, if_pos (by omega)]
      · rw [if_neg h, if_neg (by omega)]
  show (s.1, s.2.1, s.2.2.1, _, _, s.2.2.2.2.2) = (s.1, s.2.1, s.2.2.1, (gm_cp s f t (n + 1)).2.2.2.1, (gm_cp s f t (n + 1)).2.2.2.2.1, s.2.2.2.2.2)
  rw [← e1, ← e2]
theorem cm_copies_at {L d : Nat} {K : Option gV → gH → Prop} {s : gH} (f t m : Nat) (hf : f < 85) (ht : t < 85) (hm : m ≤ 64) (h81 : gp_I s 81 f = (m : Int)) (k : K none (gm_cp s f t m)) : ∀ (n i : Nat) (x y : gV), i + n = m → gs_E L d 3084 14 [gp_r (some 74), gp_i (f : Int), gp_i (t : Int), gp_i (i : Int), x, y] [] (gm_cp s f t i) K
  | 0, i, x, y, h => by
    have : i = m := by omega
    subst this
    have e : gp_I (gm_cp s f t i) 81 f = (i : Int) := by
      rw [gm_cp_o _ _ _ _ _ _ (by decide)]; exact h81
    refine s_3084_14 _ _ _ _ _ ⟨by omega, fun h => ?_, fun _ => k⟩
    rw [Int.toNat_natCast, e] at h; omega
  | n + 1, i, x, y, h => by
    have e : gp_I (gm_cp s f t i) 81 f = (m : Int) := by
      rw [gm_cp_o _ _ _ _ _ _ (by decide)]; exact h81
    have e2 : gp_wr ((i : Int) + 1) = ((i + 1 : Nat) : Int) := by rw [gp_wr_id (by omega) (by omega)]; simp
    refine s_3084_14 _ _ _ _ _ ⟨by omega, fun _ => ?_, fun h0 => ?_⟩
    · rw [gm_ix hf (by omega), gm_ix ht (by omega), Int.toNat_natCast, Int.toNat_natCast, e2]
      refine ⟨by omega, by omega, fun s1 q1 => ⟨by omega, by omega, fun s2 q2 => ⟨by omega, by omega, fun s3 q3 => ⟨by omega, by omega, fun s4 q4 => ⟨by omega, by omega, fun s5 q5 => ?_⟩⟩⟩⟩⟩
      have q : s5 = gm_cp s f t (i + 1) := by
        rw [← gm_cp_s, ← gm_cp_I s f t i 78 (by omega), ← gm_cp_I s f t i 79 (by omega), ← gm_cp_I s f t i 80 (by omega), ← gm_cp_L s f t i 76 (by omega), ← gm_cp_L s f t i 77 (by omega)]
        rw [q5, q4, q3, q2, q1]
        rfl
      rw [q]
      exact cm_copies_at f t m hf ht hm h81 k n (i + 1) _ _ (by omega)
    · rw [Int.toNat_natCast, e] at h0; omega
theorem cm_copies {L d : Nat} {K : Option gV → gH → Prop} {s : gH} (f t m : Nat) (hf : f < 85) (ht : t < 85) (hm : m ≤ 64) (h81 : gp_I s 81 f = (m : Int)) (k : K none (gm_cp (gp_wI s 81 t (m : Int)) f t m)) : gs_C L d 3084 6 [gp_r (some 74), gp_i (f : Int), gp_i (t : Int)] s K := by
  apply s_3084_e
  refine ⟨by omega, by omega, fun s1 e => ?_⟩
  rw [Int.toNat_natCast, Int.toNat_natCast, h81] at e
  have h2 : gp_I s1 81 f = (m : Int) := by
    rw [e]
    show gp_u2 _ _ _ _ _ _ = _
    rw [gm_u2]; split
    · rfl
    · exact h81
  have h := cm_copies_at (L := L) (d := d) (K := K) (s := s1) f t m hf ht hm h2 (by rw [e]; exact k) m 0 gp_n gp_n (by omega)
  rw [gm_cp_0] at h
  exact h
