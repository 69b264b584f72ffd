/-! the reference's made: a follower is found among the made ones, or written -/
def gm_same (s : gH) (i : Nat) (l r : BitVec 64) (x y : Int) : Prop := gp_L s 76 (1280 + i) = l ∧ gp_L s 77 (1280 + i) = r ∧ (l = 0#64 → gp_I s 78 (1280 + i) = x) ∧ (r = 0#64 → gp_I s 79 (1280 + i) = y)
theorem cm_mades_at {L d : Nat} {K : Option gV → gH → Prop} {s : gH} (m : Nat) (hm : m ≤ 60) (h81 : gp_I s 81 20 = (m : Int)) (l r : BitVec 64) (x y : Int) (f : Nat → Int) (hf : ∀ i, i < 64 → gp_I s 80 (1280 + i) = f i) (h1 : ∀ i, i < 64 → -1 ≤ f i ∧ f i ≤ 1000)
    (k1 : ∀ i, i < m → gm_same s i l r x y → (∀ j, j < i → ¬ gm_same s j l r x y) → K (some (gp_i (i : Int))) s)
    (k2 : (∀ j, j < m → ¬ gm_same s j l r x y) → m = 60 → K (some (gp_i 0)) (gp_wI s 74 15 1))
    (k3 : (∀ j, j < m → ¬ gm_same s j l r x y) → m < 60 → K (some (gp_i (m : Int))) (gp_wI (gm_lay s m l r x y (gm_dp f (l ||| r) 64 + 1)) 81 20 ((m : Int) + 1))) :
    ∀ (n i : Nat) (z : gV), i + n = m → (∀ j, j < i → ¬ gm_same s j l r x y) → gs_E L (d + 3) 3088 3 [gp_r (some 74), gp_l l, gp_n, gp_l r, gp_n, gp_i x, gp_i y, gp_i (i : Int), z] [] s K
  | 0, i, z, h, hj => by
    have : i = m := by omega
    subst this
    refine s_3088_3 _ _ _ _ _ _ ⟨fun h0 => ?_, fun _ => ⟨fun h0 => fun s3 e3 => ?_, fun h0 => ?_⟩⟩
    · rw [h81] at h0; omega
    · rw [e3]; exact k2 hj (by omega)
    · rw [h81]
      refine cm_lays i (by omega) l r x y f hf h1 ⟨rfl, fun s2 e2 => ?_⟩
      have e : gp_I (gm_lay s i l r x y (gm_dp f (l ||| r) 64 + 1)) 81 20 = (i : Int) := h81
      rw [e, gp_wr_id (by omega) (by omega)] at e2
      have e' : gp_I s2 81 20 = (i : Int) + 1 := by rw [e2]; rfl
      rw [e', gp_wr_id (by omega) (by omega), e2]
      rw [show (i : Int) + 1 - 1 = (i : Int) by omega]
      exact k3 hj (by omega)
  | n + 1, i, z, h, hj => by
    have e2 : gp_wr ((i : Int) + 1) = ((i + 1 : Nat) : Int) := by rw [gp_wr_id (by omega) (by omega)]; simp
    have go : ∀ v : Int, ¬ gm_same s i l r x y → gs_E L (d + 3) 3088 86 [gp_r (some 74), gp_l l, gp_n, gp_l r, gp_n, gp_i x, gp_i y, gp_i (i : Int), gp_i v] [] s K := by
      intro v hn
      apply s_3088_86
      rw [e2]
      refine cm_mades_at m hm h81 l r x y f hf h1 k1 k2 k3 n (i + 1) _ (by omega) (fun j hj2 => ?_)
      rcases Nat.lt_succ_iff_lt_or_eq.mp hj2 with h3 | h3
      · exact hj j h3
      · rw [h3]; exact hn
    have go2 : gp_L s 76 (1280 + i) = l → gp_L s 77 (1280 + i) = r → (l = 0#64 → gp_I s 78 (1280 + i) = x) → gs_E L (d + 3) 3088 65 [gp_r (some 74), gp_l l, gp_n, gp_l r, gp_n, gp_i x, gp_i y, gp_i (i : Int), gp_i ((1280 + i : Nat) : Int)] [] s K := by
      intro a1 a2 a3
      refine s_3088_65 _ _ _ _ _ _ ⟨fun hr => ⟨by omega, fun hy => s_3088_83 _ _ _ _ _ _ ?_, fun hy => go _ ?_⟩, fun hr => s_3088_83 _ _ _ _ _ _ ?_⟩
      · rw [Int.toNat_natCast] at hy
        exact k1 i (by omega) ⟨a1, a2, a3, fun _ => hy⟩ hj
      · rw [Int.toNat_natCast] at hy; rw [gm_cmp0] at hr
        exact fun q => hy (q.2.2.2 hr)
      · rw [gm_cmp0] at hr
        exact k1 i (by omega) ⟨a1, a2, a3, fun q => absurd q hr⟩ hj
    refine s_3088_3 _ _ _ _ _ _ ⟨fun _ => ?_, fun h0 => ?_⟩
    · rw [gm_ix20 (by omega), Int.toNat_natCast]
      refine ⟨by omega, fun q1 => ⟨by omega, fun q2 => ⟨fun ql => ⟨by omega, fun qx => ?_, fun qx => ?_⟩, fun ql => ?_⟩, fun q2 => ?_⟩, fun q1 => ?_⟩
      · rw [gm_cmp0] at q1 q2
        exact go2 q1 q2 (fun _ => qx)
      · rw [gm_cmp0] at ql
        exact go _ (fun q => qx (q.2.2.1 ql))
      · rw [gm_cmp0] at q1 q2 ql
        exact go2 q1 q2 (fun q => absurd q ql)
      · rw [gm_cmp0] at q2
        exact go _ (fun q => q2 q.2.1)
      · rw [gm_cmp0] at q1
        exact go _ (fun q => q1 q.1)
    · rw [h81] at h0; omega
theorem cm_mades {L d : Nat} {K : Option gV → gH → Prop} {s : gH} (m : Nat) (hm : m ≤ 60) (h81 : gp_I s 81 20 = (m : Int)) (l r : BitVec 64) (x y : Int) (f : Nat → Int) (hf : ∀ i, i < 64 → gp_I s 80 (1280 + i) = f i) (h1 : ∀ i, i < 64 → -1 ≤ f i ∧ f i ≤ 1000)
    (k1 : ∀ i, i < m → gm_same s i l r x y → (∀ j, j < i → ¬ gm_same s j l r x y) → K (some (gp_i (i : Int))) s)
    (k2 : (∀ j, j < m → ¬ gm_same s j l r x y) → m = 60 → K (some (gp_i 0)) (gp_wI s 74 15 1))
    (k3 : (∀ j, j < m → ¬ gm_same s j l r x y) → m < 60 → K (some (gp_i (m : Int))) (gp_wI (gm_lay s m l r x y (gm_dp f (l ||| r) 64 + 1)) 81 20 ((m : Int) + 1))) : gs_C L (d + 3) 3088 9 [gp_r (some 74), gp_l l, gp_l r, gp_i x, gp_i y] s K :=
  s_3088_e _ _ _ _ (cm_mades_at m hm h81 l r x y f hf h1 k1 k2 k3 m 0 _ (by omega) (fun j hj => absurd hj (Nat.not_lt_zero _)))
