/-! small methods of the reference, II -/
theorem cm_isSlot {L d : Nat} {K : Option gV → gH → Prop} {s : gH} (x : Int) (k : K (some (gp_i (if 0 ≤ x ∧ x < 8 then 1 else 0))) s) : gs_C L d 3075 1 [gp_i x] s K := by
  refine s_3075_e _ ⟨fun h => s_3075_14 _ (s_3075_15 _ _ ⟨Or.inl rfl, ?_⟩), fun h => ⟨fun h2 => s_3075_15 _ _ ⟨Or.inr rfl, ?_⟩, fun h2 => s_3075_14 _ (s_3075_15 _ _ ⟨Or.inl rfl, ?_⟩)⟩⟩
  · rw [if_neg (by omega)] at k; exact k
  · rw [if_pos (by omega)] at k; exact k
  · rw [if_neg (by omega)] at k; exact k
theorem cm_isSheet {L d : Nat} {K : Option gV → gH → Prop} {s : gH} (x : Int) (k : K (some (gp_i (if 0 ≤ x ∧ x < 4 then 1 else 0))) s) : gs_C L d 3076 1 [gp_i x] s K := by
  refine s_3076_e _ ⟨fun h => s_3076_13 _ (s_3076_14 _ _ ⟨Or.inl rfl, ?_⟩), fun h => ⟨fun h2 => s_3076_14 _ _ ⟨Or.inr rfl, ?_⟩, fun h2 => s_3076_13 _ (s_3076_14 _ _ ⟨Or.inl rfl, ?_⟩)⟩⟩
  · rw [if_neg (by omega)] at k; exact k
  · rw [if_pos (by omega)] at k; exact k
  · rw [if_neg (by omega)] at k; exact k
theorem cm_isSide {L d : Nat} {K : Option gV → gH → Prop} {s : gH} (x : Int) (k : K (some (gp_i (if x = 0 ∨ x = 1 then 1 else 0))) s) : gs_C L d 3077 1 [gp_i x] s K := by
  refine s_3077_e _ ⟨fun h => s_3077_9 _ (s_3077_14 _ _ ⟨Or.inr rfl, ?_⟩), fun h => ⟨fun h2 => s_3077_9 _ (s_3077_14 _ _ ⟨Or.inr rfl, ?_⟩), fun h2 => s_3077_14 _ _ ⟨Or.inl rfl, ?_⟩⟩⟩
  · rw [if_pos (by omega)] at k; exact k
  · rw [if_pos (by omega)] at k; exact k
  · rw [if_neg (by omega)] at k; exact k
theorem cm_finds {L d : Nat} {K : Option gV → gH → Prop} {s : gH} (c : Nat) (hc : c < 7) (k : K (some (gp_i (-1000000000 - (c : Int)))) (gp_wI s 75 c (gp_wr (gp_I s 75 c + 1)))) : gs_C L d 3074 2 [gp_r (some 74), gp_i (c : Int)] s K := by
  apply s_3074_e
  refine ⟨by omega, by omega, fun s1 e => ?_⟩
  rw [gp_wr_id (by omega) (by omega), e]
  exact k
/-- the greatest depth among the first n places that lie in the set -/
def gm_dp (f : Nat → Int) (b : BitVec 64) : Nat → Int
  | 0 => -1
  | n + 1 => if b.getLsbD n = true then (if gm_dp f b n < f n then f n else gm_dp f b n) else gm_dp f b n
theorem gm_dp_le (f : Nat → Int) (b : BitVec 64) (hf : ∀ n, n < 64 → -1 ≤ f n ∧ f n ≤ 1000) : ∀ n, n ≤ 64 → -1 ≤ gm_dp f b n ∧ gm_dp f b n ≤ 1000
  | 0, _ => by unfold gm_dp; omega
  | n + 1, h => by
    have := gm_dp_le f b hf n (by omega)
    have := hf n (by omega)
    unfold gm_dp
    split
    · split <;> omega
    · omega
theorem cm_depthOf_at {L d : Nat} {K : Option gV → gH → Prop} {s : gH} (g : Nat) (hg : g < 85) (b : BitVec 64) (f : Nat → Int) (hf : ∀ n, n < 64 → gp_I s 80 (64 * g + n) = f n) (h1 : ∀ n, n < 64 → -1 ≤ f n ∧ f n ≤ 1000) (k : K (some (gp_i (gm_dp f b 64 + 1))) s) : ∀ (n i : Nat), i + n = 64 → gs_E L (d + 1) 3086 6 [gp_r (some 74), gp_i (g : Int), gp_l b, gp_n, gp_i (gm_dp f b i), gp_i (i : Int)] [] s K
  | 0, i, h => by
    have : i = 64 := by omega
    subst this
    have := gm_dp_le f b h1 64 (by omega)
    refine s_3086_6 _ _ _ _ ⟨fun h => absurd h (by decide), fun _ => ?_⟩
    rw [gp_wr_id (by omega) (by omega)]; exact k
  | n + 1, i, h => by
    have e2 : gp_wr ((i : Int) + 1) = ((i + 1 : Nat) : Int) := by rw [gp_wr_id (by omega) (by omega)]; simp
    have ih := cm_depthOf_at (L := L) (d := d) g hg b f hf h1 k n (i + 1) (by omega)
    refine s_3086_6 _ _ _ _ ⟨fun _ => cm_has b i (by omega) ⟨_, rfl, fun h0 => ?_, fun h0 => ?_⟩, fun h0 => absurd (by omega : (i : Int) < 64) h0⟩
    · have hb : ¬ b.getLsbD i = true := by
        intro hb; unfold gm_h at h0; rw [if_pos hb] at h0; omega
      apply s_3086_54; apply s_3086_56
      rw [e2]
      unfold gm_dp at ih; rw [if_neg hb] at ih
      exact ih
    · have hb : b.getLsbD i = true := by
        apply Classical.byContradiction
        intro hb; unfold gm_h at h0; rw [if_neg hb] at h0; omega
      unfold gm_dp at ih; rw [if_pos hb] at ih
      rw [gm_ix hg (by omega), Int.toNat_natCast, hf i (by omega)]
      refine ⟨by omega, fun h2 => ⟨by omega, ?_⟩, fun h2 => ?_⟩
      · apply s_3086_56
        rw [e2]; rw [if_pos h2] at ih; exact ih
      · apply s_3086_54; apply s_3086_56
        rw [e2]; rw [if_neg h2] at ih; exact ih
theorem cm_depthOf {L d : Nat} {K : Option gV → gH → Prop} {s : gH} (g : Nat) (hg : g < 85) (b : BitVec 64) (f : Nat → Int) (hf : ∀ n, n < 64 → gp_I s 80 (64 * g + n) = f n) (h1 : ∀ n, n < 64 → -1 ≤ f n ∧ f n ≤ 1000) (k : K (some (gp_i (gm_dp f b 64 + 1))) s) : gs_C L (d + 1) 3086 6 [gp_r (some 74), gp_i (g : Int), gp_l b] s K :=
  s_3086_e _ _ (cm_depthOf_at g hg b f hf h1 k 64 0 rfl)
/-- row 86 (the kept orders) is 0 below n -/
def gm_z86 (s : gH) (n : Nat) : gH := (s.1, s.2.1, s.2.2.1, (fun a k => if a = 86 ∧ k < n then 0 else s.2.2.2.1 a k), s.2.2.2.2.1, s.2.2.2.2.2)
theorem gm_z86_0 (s : gH) : gm_z86 s 0 = s := by
  unfold gm_z86
  simp
theorem gm_u2 {α : Type} (f : Nat → Nat → α) (a i : Nat) (v : α) (a' i' : Nat) : gp_u2 f a i v a' i' = if a' = a ∧ i' = i then v else f a' i' := by
  unfold gp_u2
  by_cases h1 : a' = a
  · by_cases h2 : i' = i
    · subst h1; subst h2; simp
    · have : Nat.beq i' i = false := by
        cases hb : Nat.beq i' i
        · rfl
        · exact absurd (Nat.eq_of_beq_eq_true hb) h2
      simp [this, h2]
  · have : Nat.beq a' a = false := by
      cases hb : Nat.beq a' a
      · rfl
      · exact absurd (Nat.eq_of_beq_eq_true hb) h1
    simp [this, h1]
theorem gm_z86_s (s : gH) (n : Nat) : gp_wI (gm_z86 s n) 86 n 0 = gm_z86 s (n + 1) := by
  have e : gp_u2 (fun a k => if a = 86 ∧ k < n then (0 : Int) else s.2.2.2.1 a k) 86 n 0 = (fun a k => if a = 86 ∧ k < n + 1 then (0 : Int) else s.2.2.2.1 a k) := by
    funext a k
    rw [gm_u2]
    by_cases h1 : a = 86
    · by_cases h2 : k < n
      · rw [if_neg (by omega), if_pos ⟨h1, h2⟩, if_pos ⟨h1, by omega⟩]
      · by_cases h3 : k = n
        · rw [if_pos ⟨h1, h3⟩, if_pos ⟨h1, by omega⟩]
        · rw [if_neg (by omega), if_neg (by omega), if_neg (by omega)]
    · rw [if_neg (by omega), if_neg (by omega), if_neg (by omega)]
  show (s.1, s.2.1, s.2.2.1, gp_u2 (fun a k => if a = 86 ∧ k < n then (0 : Int) else s.2.2.2.1 a k) 86 n 0, s.2.2.2.2.1, s.2.2.2.2.2) = _
  rw [e]; rfl
theorem cm_forgets_at {L d : Nat} {K : Option gV → gH → Prop} {s : gH} (k : K none (gm_z86 s 4096)) : ∀ (n i : Nat), i + n = 4096 → gs_E L d 3089 2 [gp_r (some 74), gp_i (i : Int)] [] (gm_z86 s i) K
  | 0, i, h => by
    have : i = 4096 := by omega
    subst this
    exact s_3089_2 _ ⟨fun h => absurd h (by decide), fun _ => k⟩
  | n + 1, i, h => by
    have e2 : gp_wr ((i : Int) + 1) = ((i + 1 : Nat) : Int) := by rw [gp_wr_id (by omega) (by omega)]; simp
    refine s_3089_2 _ ⟨fun _ => ⟨by omega, fun s1 e => ?_⟩, fun h0 => absurd (by omega : (i : Int) < 4096) h0⟩
    rw [e, Int.toNat_natCast, gm_z86_s, e2]
    exact cm_forgets_at k n (i + 1) (by omega)
theorem cm_forgets {L d : Nat} {K : Option gV → gH → Prop} {s : gH} (k : K none (gm_z86 s 4096)) : gs_C L d 3089 2 [gp_r (some 74)] s K := by
  apply s_3089_e
  have h := cm_forgets_at (L := L) (d := d) k 4096 0 rfl
  rw [gm_z86_0] at h
  exact h
/-- the reference's begins: nothing made, no order kept -/
def gm_bg (s : gH) : gH := gm_z86 (gp_wI (gp_wI s 81 20 0) 74 15 0) 4096
theorem cm_begins {L d : Nat} {K : Option gV → gH → Prop} {s : gH} (k : K none (gm_bg s)) : gs_C L (d + 1) 3085 1 [gp_r (some 74)] s K := by
  refine s_3085_e (fun s1 e1 s2 e2 => cm_forgets ⟨rfl, ?_⟩)
  rw [e2, e1]; exact k
