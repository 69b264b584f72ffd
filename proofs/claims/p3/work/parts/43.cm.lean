/-! the reference's lays: a follower is written behind the made ones -/
theorem gm_ix20 {n : Nat} (hn : n < 64) : gp_wr (1280 + (n : Int)) = ((1280 + n : Nat) : Int) := by
  rw [gp_wr_id (by omega) (by omega)]; omega
/-- the heap with follower n of the made game written -/
def gm_lay (s : gH) (n : Nat) (l r : BitVec 64) (x y dp : Int) : gH := gp_wI (gp_wI (gp_wI (gp_wL (gp_wL s 76 (1280 + n) l) 77 (1280 + n) r) 78 (1280 + n) (if l = 0#64 then x else 0)) 79 (1280 + n) (if r = 0#64 then y else 0)) 80 (1280 + n) dp
theorem cm_lays {L d : Nat} {K : Option gV → gH → Prop} {s : gH} (n : Nat) (hn : n < 64) (l r : BitVec 64) (x y : Int) (f : Nat → Int) (hf : ∀ i, i < 64 → gp_I s 80 (1280 + i) = f i) (h1 : ∀ i, i < 64 → -1 ≤ f i ∧ f i ≤ 1000) (k : K none (gm_lay s n l r x y (gm_dp f (l ||| r) 64 + 1))) : gs_C L (d + 2) 3087 9 [gp_r (some 74), gp_i (n : Int), gp_l l, gp_l r, gp_i x, gp_i y] s K := by
  have fin : ∀ s4 : gH, s4 = gp_wI (gp_wI (gp_wL (gp_wL s 76 (1280 + n) l) 77 (1280 + n) r) 78 (1280 + n) (if l = 0#64 then x else 0)) 79 (1280 + n) (if r = 0#64 then y else 0) → gs_C L (d + 1) 3086 6 [gp_r (some 74), gp_i 20, gp_l (l ||| r)] s4 (fun r s2 => ∃ x3, r = some (gp_i x3) ∧ ((0 ≤ ((1280 + n : Nat) : Int) ∧ ((1280 + n : Nat) : Int) < 5440) ∧ (∀ s4, s4 = gp_wI s2 80 ((1280 + n : Nat) : Int).toNat x3 → K none s4))) := by
    intro s4 e
    refine cm_depthOf 20 (by omega) (l ||| r) f (fun i hi => ?_) h1 ⟨_, rfl, by omega, fun s5 e5 => ?_⟩
    · rw [e]; exact hf i hi
    · rw [e5, e, Int.toNat_natCast]; exact k
  apply s_3087_e
  rw [gm_ix20 hn, Int.toNat_natCast]
  refine ⟨by omega, fun s1 e1 => ⟨by omega, fun s2 e2 => ⟨fun hl => ?_, fun hl => ?_⟩⟩⟩
  all_goals
    rw [gm_cmp0] at hl
    refine s_3087_42 _ _ _ _ _ _ _ _ ⟨by omega, fun s3 e3 => ⟨fun hr => ?_, fun hr => ?_⟩⟩
    all_goals
      rw [gm_cmp0] at hr
      refine s_3087_62 _ _ _ _ _ _ _ _ ⟨by omega, fun s4 e4 => fin s4 ?_⟩
      rw [e4, e3, e2, e1, Int.toNat_natCast]
      simp only [hl, hr, if_true, if_false]
