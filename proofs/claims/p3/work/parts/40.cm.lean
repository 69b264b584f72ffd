/-! contracts of the reference's small methods -/
theorem gm_cmp0 (a b : BitVec 64) : gp_cmp a b = 0 ↔ a = b := by
  unfold gp_cmp
  constructor
  · intro h
    split at h
    · omega
    · split at h
      · assumption
      · omega
  · intro h
    subst h
    simp
theorem gm_bit (b : BitVec 64) (i : Nat) : ((b >>> i) &&& 1#64) = 1#64 ↔ b.getLsbD i = true := by
  constructor
  · intro h
    have := congrArg (fun x => BitVec.getLsbD x 0) h
    simpa using this
  · intro h
    apply BitVec.eq_of_getLsbD_eq
    intro j hj
    rcases Nat.eq_zero_or_pos j with rfl | hp
    · simpa using h
    · have : j ≠ 0 := by omega
      simp [this]
/-- the 0 or 1 of a member -/
def gm_h (b : BitVec 64) (i : Nat) : Int := if b.getLsbD i = true then 1 else 0
theorem cm_has {L d : Nat} {K : Option gV → gH → Prop} {s : gH} (b : BitVec 64) (i : Nat) (hi : i < 64) (k : K (some (gp_i (gm_h b i))) s) : gs_C L d 3078 3 [gp_l b, gp_i (i : Int)] s K := by
  apply s_3078_e
  have e : ((i : Int) % 64).toNat = i := by omega
  rw [e]
  refine ⟨fun h => s_3078_15 _ _ _ ⟨Or.inr rfl, ?_⟩, fun h => s_3078_15 _ _ _ ⟨Or.inl rfl, ?_⟩⟩
  · rw [gm_cmp0, gm_bit] at h
    unfold gm_h at k; rw [if_pos h] at k; exact k
  · rw [gm_cmp0, gm_bit] at h
    unfold gm_h at k; rw [if_neg h] at k; exact k
/-- how many members lie below n -/
def gm_cnt (b : BitVec 64) : Nat → Nat
  | 0 => 0
  | n + 1 => gm_cnt b n + (if b.getLsbD n = true then 1 else 0)
theorem gm_cnt_le (b : BitVec 64) : ∀ n, gm_cnt b n ≤ n
  | 0 => Nat.le_refl _
  | n + 1 => by
    have := gm_cnt_le b n
    unfold gm_cnt; split <;> omega
theorem cm_size_at {L d : Nat} {K : Option gV → gH → Prop} {s : gH} (b : BitVec 64) (k : K (some (gp_i (gm_cnt b 64 : Nat))) s) : ∀ (n i : Nat), i + n = 64 → gs_E L (d + 1) 3079 4 [gp_l b, gp_n, gp_i (gm_cnt b i : Nat), gp_i (i : Int)] [] s K
  | 0, i, h => by
    have : i = 64 := by omega
    subst this
    exact s_3079_4 _ _ _ ⟨fun h => absurd h (by decide), fun _ => k⟩
  | n + 1, i, h => by
    have hl := gm_cnt_le b i
    refine s_3079_4 _ _ _ ⟨fun _ => cm_has b i (by omega) ⟨_, rfl, fun h0 => ?_, fun h0 => ?_⟩, fun h0 => absurd (by omega : (i : Int) < 64) h0⟩
    · apply s_3079_24
      have e : (gm_cnt b (i + 1) : Int) = gp_wr ((gm_cnt b i : Nat) + 0) := by
        rw [gp_wr_id (by omega) (by omega)]
        have hb : ¬ b.getLsbD i = true := by
          intro hb; unfold gm_h at h0; rw [if_pos hb] at h0; omega
        show ((gm_cnt b i + _ : Nat) : Int) = _
        rw [if_neg hb]; simp
      have e2 : ((i + 1 : Nat) : Int) = gp_wr ((i : Int) + 1) := by rw [gp_wr_id (by omega) (by omega)]; simp
      rw [← e, ← e2]
      exact cm_size_at b k n (i + 1) (by omega)
    · apply s_3079_24
      have e : (gm_cnt b (i + 1) : Int) = gp_wr ((gm_cnt b i : Nat) + 1) := by
        rw [gp_wr_id (by omega) (by omega)]
        have hb : b.getLsbD i = true := by
          apply Classical.byContradiction
          intro hb; unfold gm_h at h0; rw [if_neg hb] at h0; omega
        show ((gm_cnt b i + _ : Nat) : Int) = _
        rw [if_pos hb]; simp
      have e2 : ((i + 1 : Nat) : Int) = gp_wr ((i : Int) + 1) := by rw [gp_wr_id (by omega) (by omega)]; simp
      rw [← e, ← e2]
      exact cm_size_at b k n (i + 1) (by omega)
theorem cm_size {L d : Nat} {K : Option gV → gH → Prop} {s : gH} (b : BitVec 64) (k : K (some (gp_i (gm_cnt b 64 : Nat))) s) : gs_C L (d + 1) 3079 4 [gp_l b] s K :=
  s_3079_e _ (cm_size_at b k 64 0 rfl)
/-- the member number k (from 0) at or above i, in n places; or -1 -/
def gm_nth (b : BitVec 64) : Nat → Nat → Nat → Int
  | 0, _, _ => -1
  | n + 1, i, k => if b.getLsbD i = true then (if k = 0 then i else gm_nth b n (i + 1) (k - 1)) else gm_nth b n (i + 1) k
theorem cm_inSet_at {L d : Nat} {K : Option gV → gH → Prop} {s : gH} (b : BitVec 64) (m : Nat) (hm : m < 1000) : ∀ (n i j : Nat), i + n = 64 → j ≤ m → K (some (gp_i (gm_nth b n i (m - j)))) s → gs_E L (d + 1) 3080 5 [gp_l b, gp_n, gp_i (m : Int), gp_i (j : Int), gp_i (i : Int)] [] s K
  | 0, i, j, h, hj, k => by
    have : i = 64 := by omega
    subst this
    exact s_3080_5 _ _ _ _ ⟨fun h => absurd h (by decide), fun _ => k⟩
  | n + 1, i, j, h, hj, k => by
    have e2 : gp_wr ((i : Int) + 1) = ((i + 1 : Nat) : Int) := by rw [gp_wr_id (by omega) (by omega)]; simp
    have e3 : gp_wr ((j : Int) + 1) = ((j + 1 : Nat) : Int) := by rw [gp_wr_id (by omega) (by omega)]; simp
    refine s_3080_5 _ _ _ _ ⟨fun _ => cm_has b i (by omega) ⟨_, rfl, fun h0 => ?_, fun h0 => ⟨fun h1 => ?_, fun h1 => ?_⟩⟩, fun h0 => absurd (by omega : (i : Int) < 64) h0⟩
    · have hb : ¬ b.getLsbD i = true := by
        intro hb; unfold gm_h at h0; rw [if_pos hb] at h0; omega
      unfold gm_nth at k; rw [if_neg hb] at k
      apply s_3080_32
      rw [e2]
      exact cm_inSet_at b m hm n (i + 1) j (by omega) hj k
    · have hb : b.getLsbD i = true := by
        apply Classical.byContradiction
        intro hb; unfold gm_h at h0; rw [if_neg hb] at h0; omega
      unfold gm_nth at k; rw [if_pos hb, if_pos (by omega)] at k
      exact k
    · have hb : b.getLsbD i = true := by
        apply Classical.byContradiction
        intro hb; unfold gm_h at h0; rw [if_neg hb] at h0; omega
      unfold gm_nth at k; rw [if_pos hb, if_neg (by omega)] at k
      apply s_3080_32
      rw [e2, e3]
      exact cm_inSet_at b m hm n (i + 1) (j + 1) (by omega) (by omega) (by rw [show m - (j + 1) = m - j - 1 by omega]; exact k)
theorem cm_inSet {L d : Nat} {K : Option gV → gH → Prop} {s : gH} (b : BitVec 64) (m : Nat) (hm : m < 1000) (k : K (some (gp_i (gm_nth b 64 0 m))) s) : gs_C L (d + 1) 3080 5 [gp_l b, gp_i (m : Int)] s K :=
  s_3080_e _ _ (cm_inSet_at b m hm 64 0 0 rfl (Nat.zero_le _) k)
theorem gm_ix {g n : Nat} (hg : g < 85) (hn : n < 64) : gp_wr ((gp_wr (64 * (g : Int))) + (n : Int)) = ((64 * g + n : Nat) : Int) := by
  rw [gp_wr_id (x := 64 * (g : Int)) (by omega) (by omega), gp_wr_id (by omega) (by omega)]; omega
theorem cm_root {L d : Nat} {K : Option gV → gH → Prop} {s : gH} (g : Nat) (hg : g < 85) (h1 : 0 ≤ gp_I s 81 g ∧ gp_I s 81 g ≤ 64) (k : K (some (gp_i (gp_I s 81 g - 1))) s) : gs_C L d 3081 2 [gp_r (some 74), gp_i (g : Int)] s K := by
  apply s_3081_e
  rw [show ((g : Int)).toNat = g from rfl, gp_wr_id (by omega) (by omega)]
  exact ⟨by omega, k⟩
theorem cm_side {L d : Nat} {K : Option gV → gH → Prop} {s : gH} (g n : Nat) (w : Int) (hg : g < 85) (hn : n < 64) (k : K (some (gp_l (gp_L s (if w = 0 then 76 else 77) (64 * g + n)))) s) : gs_C L d 3082 4 [gp_r (some 74), gp_i (g : Int), gp_i (n : Int), gp_i w] s K := by
  apply s_3082_e
  rw [gm_ix hg hn]
  refine ⟨fun h => ⟨by omega, s_3082_29 _ _ _ _ ?_⟩, fun h => ⟨by omega, s_3082_29 _ _ _ _ ?_⟩⟩
  · rw [if_pos h] at k; exact k
  · rw [if_neg h] at k; exact k
theorem cm_shut {L d : Nat} {K : Option gV → gH → Prop} {s : gH} (g n : Nat) (w : Int) (hg : g < 85) (hn : n < 64) (k : K (some (gp_i (gp_I s (if w = 0 then 78 else 79) (64 * g + n)))) s) : gs_C L d 3083 4 [gp_r (some 74), gp_i (g : Int), gp_i (n : Int), gp_i w] s K := by
  apply s_3083_e
  rw [gm_ix hg hn]
  refine ⟨fun h => ⟨by omega, s_3083_29 _ _ _ _ ?_⟩, fun h => ⟨by omega, s_3083_29 _ _ _ _ ?_⟩⟩
  · rw [if_pos h] at k; exact k
  · rw [if_neg h] at k; exact k
