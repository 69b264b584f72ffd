set_option maxRecDepth 100000 in
/-- GatheredPointsModel.isIn, pc 0 -/
theorem s_3073_e {L d : Nat} {K : Option gV → gH → Prop} {s : gH} (p0 : BitVec 64) (p1 : BitVec 64) (p2 : BitVec 64) (H : (((gp_cmp p0 p1) < 0 → gs_E L d 3073 17 [gp_l p0, gp_n, gp_l p1, gp_n, gp_l p2, gp_n] [] s K) ∧ (¬ (gp_cmp p0 p1) < 0 → ((0 < (gp_cmp p0 p2) → gs_E L d 3073 17 [gp_l p0, gp_n, gp_l p1, gp_n, gp_l p2, gp_n] [] s K) ∧ (¬ 0 < (gp_cmp p0 p2) → gs_E L d 3073 18 [gp_l p0, gp_n, gp_l p1, gp_n, gp_l p2, gp_n] [gp_i 1] s K))))) : gs_C L d 3073 6 [gp_l p0, gp_l p1, gp_l p2] s K := by
  show gs_E L d 3073 0 [gp_l p0, gp_n, gp_l p1, gp_n, gp_l p2, gp_n] [] s K
  refine gs_E.stp (pc' := 3) (ls' := [gp_l p0, gp_n, gp_l p1, gp_n, gp_l p2, gp_n]) (st' := [gp_i (gp_cmp p0 p1)]) (s' := s) 3 rfl ?_
  refine gs_E.br (c := (gp_cmp p0 p1) < 0) (p1 := 17) (p2 := 6) (l1 := [gp_l p0, gp_n, gp_l p1, gp_n, gp_l p2, gp_n]) (l2 := [gp_l p0, gp_n, gp_l p1, gp_n, gp_l p2, gp_n]) (s1 := []) (s2 := []) rfl gs_b1 (fun hc => ?_) (fun hc => ?_)
  · replace H := H.1 hc
    exact H
  · replace H := H.2 hc
    refine gs_E.stp (pc' := 10) (ls' := [gp_l p0, gp_n, gp_l p1, gp_n, gp_l p2, gp_n]) (st' := [gp_i (gp_cmp p0 p2)]) (s' := s) 3 rfl ?_
    refine gs_E.br (c := 0 < (gp_cmp p0 p2)) (p1 := 17) (p2 := 13) (l1 := [gp_l p0, gp_n, gp_l p1, gp_n, gp_l p2, gp_n]) (l2 := [gp_l p0, gp_n, gp_l p1, gp_n, gp_l p2, gp_n]) (s1 := []) (s2 := []) rfl gs_b1 (fun hc => ?_) (fun hc => ?_)
    · replace H := H.1 hc
      exact H
    · replace H := H.2 hc
      refine gs_E.stp (pc' := 18) (ls' := [gp_l p0, gp_n, gp_l p1, gp_n, gp_l p2, gp_n]) (st' := [gp_i 1]) (s' := s) 2 rfl ?_
      exact H

set_option maxRecDepth 100000 in
/-- GatheredPointsModel.isIn, pc 17 -/
theorem s_3073_17 {L d : Nat} {K : Option gV → gH → Prop} {s : gH} (v0 : BitVec 64) (v2 : BitVec 64) (v4 : BitVec 64) (H : gs_E L d 3073 18 [gp_l v0, gp_n, gp_l v2, gp_n, gp_l v4, gp_n] [gp_i 0] s K) : gs_E L d 3073 17 [gp_l v0, gp_n, gp_l v2, gp_n, gp_l v4, gp_n] [] s K := by
  refine gs_E.stp (pc' := 18) (ls' := [gp_l v0, gp_n, gp_l v2, gp_n, gp_l v4, gp_n]) (st' := [gp_i 0]) (s' := s) 1 rfl ?_
  exact H

set_option maxRecDepth 100000 in
/-- GatheredPointsModel.isIn, pc 18 -/
theorem s_3073_18 {L d : Nat} {K : Option gV → gH → Prop} {s : gH} (v0 : BitVec 64) (v2 : BitVec 64) (v4 : BitVec 64) (w0 : Int) (H : ((w0 = 0 ∨ w0 = 1) ∧ K (some (gp_i w0)) s)) : gs_E L d 3073 18 [gp_l v0, gp_n, gp_l v2, gp_n, gp_l v4, gp_n] [gp_i w0] s K := by
  exact gs_E.retz (r := (some (gp_i w0))) rfl H.1 H.2

set_option maxRecDepth 100000 in
/-- GatheredPointsModel.finds, pc 0 -/
theorem s_3074_e {L d : Nat} {K : Option gV → gH → Prop} {s : gH} (p0 : Int) (H : ((0 ≤ p0 ∧ p0 < 7) ∧ ((0 ≤ p0 ∧ p0 < 7) ∧ (∀ s1, s1 = gp_wI s 75 p0.toNat (gp_wr ((gp_I s 75 p0.toNat) + 1)) → K (some (gp_i (gp_wr ((-1000000000) - p0)))) s1)))) : gs_C L d 3074 2 [gp_r (some 74), gp_i p0] s K := by
  show gs_E L d 3074 0 [gp_r (some 74), gp_i p0] [] s K
  refine gs_E.stp (pc' := 6) (ls' := [gp_r (some 74), gp_i p0]) (st' := [gp_i p0, gp_r (some 75), gp_i p0, gp_r (some 75)]) (s' := s) 4 rfl ?_
  refine gs_E.ck (pc' := 7) (ls' := [gp_r (some 74), gp_i p0]) (st' := [gp_i (gp_I s 75 p0.toNat), gp_i p0, gp_r (some 75)]) (s' := s) rfl (Or.inl ⟨rfl, H.1.1, H.1.2⟩) ?_
  replace H := H.2
  refine gs_E.stp (pc' := 9) (ls' := [gp_r (some 74), gp_i p0]) (st' := [gp_i (gp_wr ((gp_I s 75 p0.toNat) + 1)), gp_i p0, gp_r (some 75)]) (s' := s) 2 rfl ?_
  refine gs_E.ck (pc' := 10) (ls' := [gp_r (some 74), gp_i p0]) (st' := []) (s' := gp_wI s 75 p0.toNat (gp_wr ((gp_I s 75 p0.toNat) + 1))) rfl ⟨rfl, H.1.1, H.1.2⟩ ?_
  replace H := H.2 _ rfl
  generalize gp_wI s 75 p0.toNat (gp_wr ((gp_I s 75 p0.toNat) + 1)) = s1 at H ⊢
  refine gs_E.stp (pc' := 14) (ls' := [gp_r (some 74), gp_i p0]) (st' := [gp_i (gp_wr ((-1000000000) - p0))]) (s' := s1) 3 rfl ?_
  exact gs_E.ret (r := (some (gp_i (gp_wr ((-1000000000) - p0))))) rfl H

set_option maxRecDepth 100000 in
/-- GatheredPointsModel.isSlot, pc 0 -/
theorem s_3075_e {L d : Nat} {K : Option gV → gH → Prop} {s : gH} (p0 : Int) (H : ((p0 < 0 → gs_E L d 3075 14 [gp_i p0] [] s K) ∧ (¬ p0 < 0 → ((p0 < 8 → gs_E L d 3075 15 [gp_i p0] [gp_i 1] s K) ∧ (¬ p0 < 8 → gs_E L d 3075 14 [gp_i p0] [] s K))))) : gs_C L d 3075 1 [gp_i p0] s K := by
  show gs_E L d 3075 0 [gp_i p0] [] s K
  refine gs_E.stp (pc' := 1) (ls' := [gp_i p0]) (st' := [gp_i p0]) (s' := s) 1 rfl ?_
  refine gs_E.br (c := p0 < 0) (p1 := 14) (p2 := 4) (l1 := [gp_i p0]) (l2 := [gp_i p0]) (s1 := []) (s2 := []) rfl gs_b1 (fun hc => ?_) (fun hc => ?_)
  · replace H := H.1 hc
    exact H
  · replace H := H.2 hc
    refine gs_E.stp (pc' := 7) (ls' := [gp_i p0]) (st' := [gp_i 8, gp_i p0]) (s' := s) 2 rfl ?_
    refine gs_E.br (c := ¬ p0 < 8) (p1 := 14) (p2 := 10) (l1 := [gp_i p0]) (l2 := [gp_i p0]) (s1 := []) (s2 := []) rfl gs_b2 (fun hc => ?_) (fun hc => ?_)
    · replace H := H.2 hc
      exact H
    · replace H := H.1 (Decidable.byContradiction hc)
      refine gs_E.stp (pc' := 15) (ls' := [gp_i p0]) (st' := [gp_i 1]) (s' := s) 2 rfl ?_
      exact H

set_option maxRecDepth 100000 in
/-- GatheredPointsModel.isSlot, pc 14 -/
theorem s_3075_14 {L d : Nat} {K : Option gV → gH → Prop} {s : gH} (v0 : Int) (H : gs_E L d 3075 15 [gp_i v0] [gp_i 0] s K) : gs_E L d 3075 14 [gp_i v0] [] s K := by
  refine gs_E.stp (pc' := 15) (ls' := [gp_i v0]) (st' := [gp_i 0]) (s' := s) 1 rfl ?_
  exact H

set_option maxRecDepth 100000 in
/-- GatheredPointsModel.isSlot, pc 15 -/
theorem s_3075_15 {L d : Nat} {K : Option gV → gH → Prop} {s : gH} (v0 : Int) (w0 : Int) (H : ((w0 = 0 ∨ w0 = 1) ∧ K (some (gp_i w0)) s)) : gs_E L d 3075 15 [gp_i v0] [gp_i w0] s K := by
  exact gs_E.retz (r := (some (gp_i w0))) rfl H.1 H.2

set_option maxRecDepth 100000 in
/-- GatheredPointsModel.isSheet, pc 0 -/
theorem s_3076_e {L d : Nat} {K : Option gV → gH → Prop} {s : gH} (p0 : Int) (H : ((p0 < 0 → gs_E L d 3076 13 [gp_i p0] [] s K) ∧ (¬ p0 < 0 → ((p0 < 4 → gs_E L d 3076 14 [gp_i p0] [gp_i 1] s K) ∧ (¬ p0 < 4 → gs_E L d 3076 13 [gp_i p0] [] s K))))) : gs_C L d 3076 1 [gp_i p0] s K := by
  show gs_E L d 3076 0 [gp_i p0] [] s K
  refine gs_E.stp (pc' := 1) (ls' := [gp_i p0]) (st' := [gp_i p0]) (s' := s) 1 rfl ?_
  refine gs_E.br (c := p0 < 0) (p1 := 13) (p2 := 4) (l1 := [gp_i p0]) (l2 := [gp_i p0]) (s1 := []) (s2 := []) rfl gs_b1 (fun hc => ?_) (fun hc => ?_)
  · replace H := H.1 hc
    exact H
  · replace H := H.2 hc
    refine gs_E.stp (pc' := 6) (ls' := [gp_i p0]) (st' := [gp_i 4, gp_i p0]) (s' := s) 2 rfl ?_
    refine gs_E.br (c := ¬ p0 < 4) (p1 := 13) (p2 := 9) (l1 := [gp_i p0]) (l2 := [gp_i p0]) (s1 := []) (s2 := []) rfl gs_b2 (fun hc => ?_) (fun hc => ?_)
    · replace H := H.2 hc
      exact H
    · replace H := H.1 (Decidable.byContradiction hc)
      refine gs_E.stp (pc' := 14) (ls' := [gp_i p0]) (st' := [gp_i 1]) (s' := s) 2 rfl ?_
      exact H

set_option maxRecDepth 100000 in
/-- GatheredPointsModel.isSheet, pc 13 -/
theorem s_3076_13 {L d : Nat} {K : Option gV → gH → Prop} {s : gH} (v0 : Int) (H : gs_E L d 3076 14 [gp_i v0] [gp_i 0] s K) : gs_E L d 3076 13 [gp_i v0] [] s K := by
  refine gs_E.stp (pc' := 14) (ls' := [gp_i v0]) (st' := [gp_i 0]) (s' := s) 1 rfl ?_
  exact H

set_option maxRecDepth 100000 in
/-- GatheredPointsModel.isSheet, pc 14 -/
theorem s_3076_14 {L d : Nat} {K : Option gV → gH → Prop} {s : gH} (v0 : Int) (w0 : Int) (H : ((w0 = 0 ∨ w0 = 1) ∧ K (some (gp_i w0)) s)) : gs_E L d 3076 14 [gp_i v0] [gp_i w0] s K := by
  exact gs_E.retz (r := (some (gp_i w0))) rfl H.1 H.2

set_option maxRecDepth 100000 in
/-- GatheredPointsModel.isSide, pc 0 -/
theorem s_3077_e {L d : Nat} {K : Option gV → gH → Prop} {s : gH} (p0 : Int) (H : ((p0 = 0 → gs_E L d 3077 9 [gp_i p0] [] s K) ∧ (¬ p0 = 0 → ((p0 = 1 → gs_E L d 3077 9 [gp_i p0] [] s K) ∧ (¬ p0 = 1 → gs_E L d 3077 14 [gp_i p0] [gp_i 0] s K))))) : gs_C L d 3077 1 [gp_i p0] s K := by
  show gs_E L d 3077 0 [gp_i p0] [] s K
  refine gs_E.stp (pc' := 1) (ls' := [gp_i p0]) (st' := [gp_i p0]) (s' := s) 1 rfl ?_
  refine gs_E.br (c := p0 = 0) (p1 := 9) (p2 := 4) (l1 := [gp_i p0]) (l2 := [gp_i p0]) (s1 := []) (s2 := []) rfl gs_b1 (fun hc => ?_) (fun hc => ?_)
  · replace H := H.1 hc
    exact H
  · replace H := H.2 hc
    refine gs_E.stp (pc' := 6) (ls' := [gp_i p0]) (st' := [gp_i 1, gp_i p0]) (s' := s) 2 rfl ?_
    refine gs_E.br (c := ¬ p0 = 1) (p1 := 13) (p2 := 9) (l1 := [gp_i p0]) (l2 := [gp_i p0]) (s1 := []) (s2 := []) rfl gs_b2 (fun hc => ?_) (fun hc => ?_)
    · replace H := H.2 hc
      refine gs_E.stp (pc' := 14) (ls' := [gp_i p0]) (st' := [gp_i 0]) (s' := s) 1 rfl ?_
      exact H
    · replace H := H.1 (Decidable.byContradiction hc)
      exact H

set_option maxRecDepth 100000 in
/-- GatheredPointsModel.isSide, pc 9 -/
theorem s_3077_9 {L d : Nat} {K : Option gV → gH → Prop} {s : gH} (v0 : Int) (H : gs_E L d 3077 14 [gp_i v0] [gp_i 1] s K) : gs_E L d 3077 9 [gp_i v0] [] s K := by
  refine gs_E.stp (pc' := 14) (ls' := [gp_i v0]) (st' := [gp_i 1]) (s' := s) 2 rfl ?_
  exact H

set_option maxRecDepth 100000 in
/-- GatheredPointsModel.isSide, pc 14 -/
theorem s_3077_14 {L d : Nat} {K : Option gV → gH → Prop} {s : gH} (v0 : Int) (w0 : Int) (H : ((w0 = 0 ∨ w0 = 1) ∧ K (some (gp_i w0)) s)) : gs_E L d 3077 14 [gp_i v0] [gp_i w0] s K := by
  exact gs_E.retz (r := (some (gp_i w0))) rfl H.1 H.2

set_option maxRecDepth 100000 in
/-- GatheredPointsModel.has, pc 0 -/
theorem s_3078_e {L d : Nat} {K : Option gV → gH → Prop} {s : gH} (p0 : BitVec 64) (p1 : Int) (H : (((gp_cmp ((p0 >>> (p1 % 64).toNat) &&& (1#64)) (1#64)) = 0 → gs_E L d 3078 15 [gp_l p0, gp_n, gp_i p1] [gp_i 1] s K) ∧ (¬ (gp_cmp ((p0 >>> (p1 % 64).toNat) &&& (1#64)) (1#64)) = 0 → gs_E L d 3078 15 [gp_l p0, gp_n, gp_i p1] [gp_i 0] s K))) : gs_C L d 3078 3 [gp_l p0, gp_i p1] s K := by
  show gs_E L d 3078 0 [gp_l p0, gp_n, gp_i p1] [] s K
  refine gs_E.stp (pc' := 7) (ls' := [gp_l p0, gp_n, gp_i p1]) (st' := [gp_i (gp_cmp ((p0 >>> (p1 % 64).toNat) &&& (1#64)) (1#64))]) (s' := s) 7 rfl ?_
  refine gs_E.br (c := ¬ (gp_cmp ((p0 >>> (p1 % 64).toNat) &&& (1#64)) (1#64)) = 0) (p1 := 14) (p2 := 10) (l1 := [gp_l p0, gp_n, gp_i p1]) (l2 := [gp_l p0, gp_n, gp_i p1]) (s1 := []) (s2 := []) rfl gs_b2 (fun hc => ?_) (fun hc => ?_)
  · replace H := H.2 hc
    refine gs_E.stp (pc' := 15) (ls' := [gp_l p0, gp_n, gp_i p1]) (st' := [gp_i 0]) (s' := s) 1 rfl ?_
    exact H
  · replace H := H.1 (Decidable.byContradiction hc)
    refine gs_E.stp (pc' := 15) (ls' := [gp_l p0, gp_n, gp_i p1]) (st' := [gp_i 1]) (s' := s) 2 rfl ?_
    exact H

set_option maxRecDepth 100000 in
/-- GatheredPointsModel.has, pc 15 -/
theorem s_3078_15 {L d : Nat} {K : Option gV → gH → Prop} {s : gH} (v0 : BitVec 64) (v2 : Int) (w0 : Int) (H : ((w0 = 0 ∨ w0 = 1) ∧ K (some (gp_i w0)) s)) : gs_E L d 3078 15 [gp_l v0, gp_n, gp_i v2] [gp_i w0] s K := by
  exact gs_E.retz (r := (some (gp_i w0))) rfl H.1 H.2

set_option maxRecDepth 100000 in
/-- GatheredPointsModel.size, pc 0 -/
theorem s_3079_e {L d : Nat} {K : Option gV → gH → Prop} {s : gH} (p0 : BitVec 64) (H : gs_E L (d + 1) 3079 4 [gp_l p0, gp_n, gp_i 0, gp_i 0] [] s K) : gs_C L (d + 1) 3079 4 [gp_l p0] s K := by
  show gs_E L (d + 1) 3079 0 [gp_l p0, gp_n, gp_n, gp_n] [] s K
  refine gs_E.stp (pc' := 4) (ls' := [gp_l p0, gp_n, gp_i 0, gp_i 0]) (st' := []) (s' := s) 4 rfl ?_
  exact H

set_option maxRecDepth 100000 in
/-- GatheredPointsModel.size, pc 4 -/
theorem s_3079_4 {L d : Nat} {K : Option gV → gH → Prop} {s : gH} (v0 : BitVec 64) (v2 : Int) (v3 : Int) (H : ((v3 < 64 → gs_C L d 3078 3 [gp_l v0, gp_i v3] s (fun r s1 => ∃ x2, r = some (gp_i x2) ∧ ((x2 = 0 → gs_E L (d + 1) 3079 24 [gp_l v0, gp_n, gp_i v2, gp_i v3] [gp_i 0, gp_i v2] s1 K) ∧ (¬ x2 = 0 → gs_E L (d + 1) 3079 24 [gp_l v0, gp_n, gp_i v2, gp_i v3] [gp_i 1, gp_i v2] s1 K)))) ∧ (¬ v3 < 64 → K (some (gp_i v2)) s))) : gs_E L (d + 1) 3079 4 [gp_l v0, gp_n, gp_i v2, gp_i v3] [] s K := by
  refine gs_E.stp (pc' := 7) (ls' := [gp_l v0, gp_n, gp_i v2, gp_i v3]) (st' := [gp_i 64, gp_i v3]) (s' := s) 2 rfl ?_
  refine gs_E.br (c := ¬ v3 < 64) (p1 := 32) (p2 := 10) (l1 := [gp_l v0, gp_n, gp_i v2, gp_i v3]) (l2 := [gp_l v0, gp_n, gp_i v2, gp_i v3]) (s1 := []) (s2 := []) rfl gs_b2 (fun hc => ?_) (fun hc => ?_)
  · replace H := H.2 hc
    refine gs_E.stp (pc' := 33) (ls' := [gp_l v0, gp_n, gp_i v2, gp_i v3]) (st' := [gp_i v2]) (s' := s) 1 rfl ?_
    exact gs_E.ret (r := (some (gp_i v2))) rfl H
  · replace H := H.1 (Decidable.byContradiction hc)
    refine gs_E.stp (pc' := 13) (ls' := [gp_l v0, gp_n, gp_i v2, gp_i v3]) (st' := [gp_i v3, gp_l v0, gp_i v2]) (s' := s) 3 rfl ?_
    refine gs_E.call (args := [gp_l v0, gp_i v3]) (m := 3) (y' := 3078) (st' := [gp_i v2]) rfl H (fun r s1 H => ?_)
    obtain ⟨x2, rfl, H⟩ := H
    show gs_E L (d + 1) 3079 16 [gp_l v0, gp_n, gp_i v2, gp_i v3] [gp_i x2, gp_i v2] s1 K
    refine gs_E.br (c := x2 = 0) (p1 := 23) (p2 := 19) (l1 := [gp_l v0, gp_n, gp_i v2, gp_i v3]) (l2 := [gp_l v0, gp_n, gp_i v2, gp_i v3]) (s1 := [gp_i v2]) (s2 := [gp_i v2]) rfl gs_b1 (fun hc => ?_) (fun hc => ?_)
    · replace H := H.1 hc
      refine gs_E.stp (pc' := 24) (ls' := [gp_l v0, gp_n, gp_i v2, gp_i v3]) (st' := [gp_i 0, gp_i v2]) (s' := s1) 1 rfl ?_
      exact H
    · replace H := H.2 hc
      refine gs_E.stp (pc' := 24) (ls' := [gp_l v0, gp_n, gp_i v2, gp_i v3]) (st' := [gp_i 1, gp_i v2]) (s' := s1) 2 rfl ?_
      exact H

set_option maxRecDepth 100000 in
/-- GatheredPointsModel.size, pc 24 -/
theorem s_3079_24 {L d : Nat} {K : Option gV → gH → Prop} {s : gH} (v0 : BitVec 64) (v2 : Int) (v3 : Int) (w0 : Int) (w1 : Int) (H : gs_E L (d + 1) 3079 4 [gp_l v0, gp_n, gp_i (gp_wr (w0 + w1)), gp_i (gp_wr (v3 + 1))] [] s K) : gs_E L (d + 1) 3079 24 [gp_l v0, gp_n, gp_i v2, gp_i v3] [gp_i w1, gp_i w0] s K := by
  refine gs_E.stp (pc' := 4) (ls' := [gp_l v0, gp_n, gp_i (gp_wr (w0 + w1)), gp_i (gp_wr (v3 + 1))]) (st' := []) (s' := s) 4 rfl ?_
  exact H

set_option maxRecDepth 100000 in
/-- GatheredPointsModel.inSet, pc 0 -/
theorem s_3080_e {L d : Nat} {K : Option gV → gH → Prop} {s : gH} (p0 : BitVec 64) (p1 : Int) (H : gs_E L (d + 1) 3080 5 [gp_l p0, gp_n, gp_i p1, gp_i 0, gp_i 0] [] s K) : gs_C L (d + 1) 3080 5 [gp_l p0, gp_i p1] s K := by
  show gs_E L (d + 1) 3080 0 [gp_l p0, gp_n, gp_i p1, gp_n, gp_n] [] s K
  refine gs_E.stp (pc' := 5) (ls' := [gp_l p0, gp_n, gp_i p1, gp_i 0, gp_i 0]) (st' := []) (s' := s) 4 rfl ?_
  exact H

set_option maxRecDepth 100000 in
/-- GatheredPointsModel.inSet, pc 5 -/
theorem s_3080_5 {L d : Nat} {K : Option gV → gH → Prop} {s : gH} (v0 : BitVec 64) (v2 : Int) (v3 : Int) (v4 : Int) (H : ((v4 < 64 → gs_C L d 3078 3 [gp_l v0, gp_i v4] s (fun r s1 => ∃ x2, r = some (gp_i x2) ∧ ((x2 = 0 → gs_E L (d + 1) 3080 32 [gp_l v0, gp_n, gp_i v2, gp_i v3, gp_i v4] [] s1 K) ∧ (¬ x2 = 0 → ((v3 = v2 → K (some (gp_i v4)) s1) ∧ (¬ v3 = v2 → gs_E L (d + 1) 3080 32 [gp_l v0, gp_n, gp_i v2, gp_i (gp_wr (v3 + 1)), gp_i v4] [] s1 K)))))) ∧ (¬ v4 < 64 → K (some (gp_i (-1))) s))) : gs_E L (d + 1) 3080 5 [gp_l v0, gp_n, gp_i v2, gp_i v3, gp_i v4] [] s K := by
  refine gs_E.stp (pc' := 9) (ls' := [gp_l v0, gp_n, gp_i v2, gp_i v3, gp_i v4]) (st' := [gp_i 64, gp_i v4]) (s' := s) 2 rfl ?_
  refine gs_E.br (c := ¬ v4 < 64) (p1 := 38) (p2 := 12) (l1 := [gp_l v0, gp_n, gp_i v2, gp_i v3, gp_i v4]) (l2 := [gp_l v0, gp_n, gp_i v2, gp_i v3, gp_i v4]) (s1 := []) (s2 := []) rfl gs_b2 (fun hc => ?_) (fun hc => ?_)
  · replace H := H.2 hc
    refine gs_E.stp (pc' := 39) (ls' := [gp_l v0, gp_n, gp_i v2, gp_i v3, gp_i v4]) (st' := [gp_i (-1)]) (s' := s) 1 rfl ?_
    exact gs_E.ret (r := (some (gp_i (-1)))) rfl H
  · replace H := H.1 (Decidable.byContradiction hc)
    refine gs_E.stp (pc' := 15) (ls' := [gp_l v0, gp_n, gp_i v2, gp_i v3, gp_i v4]) (st' := [gp_i v4, gp_l v0]) (s' := s) 2 rfl ?_
    refine gs_E.call (args := [gp_l v0, gp_i v4]) (m := 3) (y' := 3078) (st' := []) rfl H (fun r s1 H => ?_)
    obtain ⟨x2, rfl, H⟩ := H
    show gs_E L (d + 1) 3080 18 [gp_l v0, gp_n, gp_i v2, gp_i v3, gp_i v4] [gp_i x2] s1 K
    refine gs_E.br (c := x2 = 0) (p1 := 32) (p2 := 21) (l1 := [gp_l v0, gp_n, gp_i v2, gp_i v3, gp_i v4]) (l2 := [gp_l v0, gp_n, gp_i v2, gp_i v3, gp_i v4]) (s1 := []) (s2 := []) rfl gs_b1 (fun hc => ?_) (fun hc => ?_)
    · replace H := H.1 hc
      exact H
    · replace H := H.2 hc
      refine gs_E.stp (pc' := 23) (ls' := [gp_l v0, gp_n, gp_i v2, gp_i v3, gp_i v4]) (st' := [gp_i v2, gp_i v3]) (s' := s1) 2 rfl ?_
      refine gs_E.br (c := ¬ v3 = v2) (p1 := 29) (p2 := 26) (l1 := [gp_l v0, gp_n, gp_i v2, gp_i v3, gp_i v4]) (l2 := [gp_l v0, gp_n, gp_i v2, gp_i v3, gp_i v4]) (s1 := []) (s2 := []) rfl gs_b2 (fun hc => ?_) (fun hc => ?_)
      · replace H := H.2 hc
        refine gs_E.stp (pc' := 32) (ls' := [gp_l v0, gp_n, gp_i v2, gp_i (gp_wr (v3 + 1)), gp_i v4]) (st' := []) (s' := s1) 1 rfl ?_
        exact H
      · replace H := H.1 (Decidable.byContradiction hc)
        refine gs_E.stp (pc' := 28) (ls' := [gp_l v0, gp_n, gp_i v2, gp_i v3, gp_i v4]) (st' := [gp_i v4]) (s' := s1) 1 rfl ?_
        exact gs_E.ret (r := (some (gp_i v4))) rfl H

set_option maxRecDepth 100000 in
/-- GatheredPointsModel.inSet, pc 32 -/
theorem s_3080_32 {L d : Nat} {K : Option gV → gH → Prop} {s : gH} (v0 : BitVec 64) (v2 : Int) (v3 : Int) (v4 : Int) (H : gs_E L (d + 1) 3080 5 [gp_l v0, gp_n, gp_i v2, gp_i v3, gp_i (gp_wr (v4 + 1))] [] s K) : gs_E L (d + 1) 3080 32 [gp_l v0, gp_n, gp_i v2, gp_i v3, gp_i v4] [] s K := by
  refine gs_E.stp (pc' := 5) (ls' := [gp_l v0, gp_n, gp_i v2, gp_i v3, gp_i (gp_wr (v4 + 1))]) (st' := []) (s' := s) 2 rfl ?_
  exact H

set_option maxRecDepth 100000 in
/-- GatheredPointsModel.root, pc 0 -/
theorem s_3081_e {L d : Nat} {K : Option gV → gH → Prop} {s : gH} (p0 : Int) (H : ((0 ≤ p0 ∧ p0 < 85) ∧ K (some (gp_i (gp_wr ((gp_I s 81 p0.toNat) - 1)))) s)) : gs_C L d 3081 2 [gp_r (some 74), gp_i p0] s K := by
  show gs_E L d 3081 0 [gp_r (some 74), gp_i p0] [] s K
  refine gs_E.stp (pc' := 5) (ls' := [gp_r (some 74), gp_i p0]) (st' := [gp_i p0, gp_r (some 81)]) (s' := s) 3 rfl ?_
  refine gs_E.ck (pc' := 6) (ls' := [gp_r (some 74), gp_i p0]) (st' := [gp_i (gp_I s 81 p0.toNat)]) (s' := s) rfl (Or.inl ⟨rfl, H.1.1, H.1.2⟩) ?_
  replace H := H.2
  refine gs_E.stp (pc' := 8) (ls' := [gp_r (some 74), gp_i p0]) (st' := [gp_i (gp_wr ((gp_I s 81 p0.toNat) - 1))]) (s' := s) 2 rfl ?_
  exact gs_E.ret (r := (some (gp_i (gp_wr ((gp_I s 81 p0.toNat) - 1))))) rfl H

set_option maxRecDepth 100000 in
/-- GatheredPointsModel.side, pc 0 -/
theorem s_3082_e {L d : Nat} {K : Option gV → gH → Prop} {s : gH} (p0 : Int) (p1 : Int) (p2 : Int) (H : ((p2 = 0 → ((0 ≤ (gp_wr ((gp_wr (64 * p0)) + p1)) ∧ (gp_wr ((gp_wr (64 * p0)) + p1)) < 5440) ∧ gs_E L d 3082 29 [gp_r (some 74), gp_i p0, gp_i p1, gp_i p2] [gp_l (gp_L s 76 (gp_wr ((gp_wr (64 * p0)) + p1)).toNat)] s K)) ∧ (¬ p2 = 0 → ((0 ≤ (gp_wr ((gp_wr (64 * p0)) + p1)) ∧ (gp_wr ((gp_wr (64 * p0)) + p1)) < 5440) ∧ gs_E L d 3082 29 [gp_r (some 74), gp_i p0, gp_i p1, gp_i p2] [gp_l (gp_L s 77 (gp_wr ((gp_wr (64 * p0)) + p1)).toNat)] s K)))) : gs_C L d 3082 4 [gp_r (some 74), gp_i p0, gp_i p1, gp_i p2] s K := by
  show gs_E L d 3082 0 [gp_r (some 74), gp_i p0, gp_i p1, gp_i p2] [] s K
  refine gs_E.stp (pc' := 1) (ls' := [gp_r (some 74), gp_i p0, gp_i p1, gp_i p2]) (st' := [gp_i p2]) (s' := s) 1 rfl ?_
  refine gs_E.br (c := ¬ p2 = 0) (p1 := 18) (p2 := 4) (l1 := [gp_r (some 74), gp_i p0, gp_i p1, gp_i p2]) (l2 := [gp_r (some 74), gp_i p0, gp_i p1, gp_i p2]) (s1 := []) (s2 := []) rfl gs_b2 (fun hc => ?_) (fun hc => ?_)
  · replace H := H.2 hc
    refine gs_E.stp (pc' := 28) (ls' := [gp_r (some 74), gp_i p0, gp_i p1, gp_i p2]) (st' := [gp_i (gp_wr ((gp_wr (64 * p0)) + p1)), gp_r (some 77)]) (s' := s) 7 rfl ?_
    refine gs_E.ck (pc' := 29) (ls' := [gp_r (some 74), gp_i p0, gp_i p1, gp_i p2]) (st' := [gp_l (gp_L s 77 (gp_wr ((gp_wr (64 * p0)) + p1)).toNat)]) (s' := s) rfl ⟨rfl, H.1.1, H.1.2⟩ ?_
    replace H := H.2
    exact H
  · replace H := H.1 (Decidable.byContradiction hc)
    refine gs_E.stp (pc' := 14) (ls' := [gp_r (some 74), gp_i p0, gp_i p1, gp_i p2]) (st' := [gp_i (gp_wr ((gp_wr (64 * p0)) + p1)), gp_r (some 76)]) (s' := s) 7 rfl ?_
    refine gs_E.ck (pc' := 15) (ls' := [gp_r (some 74), gp_i p0, gp_i p1, gp_i p2]) (st' := [gp_l (gp_L s 76 (gp_wr ((gp_wr (64 * p0)) + p1)).toNat)]) (s' := s) rfl ⟨rfl, H.1.1, H.1.2⟩ ?_
    replace H := H.2
    refine gs_E.stp (pc' := 29) (ls' := [gp_r (some 74), gp_i p0, gp_i p1, gp_i p2]) (st' := [gp_l (gp_L s 76 (gp_wr ((gp_wr (64 * p0)) + p1)).toNat)]) (s' := s) 1 rfl ?_
    exact H

set_option maxRecDepth 100000 in
/-- GatheredPointsModel.side, pc 29 -/
theorem s_3082_29 {L d : Nat} {K : Option gV → gH → Prop} {s : gH} (v1 : Int) (v2 : Int) (v3 : Int) (w0 : BitVec 64) (H : K (some (gp_l w0)) s) : gs_E L d 3082 29 [gp_r (some 74), gp_i v1, gp_i v2, gp_i v3] [gp_l w0] s K := by
  exact gs_E.ret (r := (some (gp_l w0))) rfl H

set_option maxRecDepth 100000 in
/-- GatheredPointsModel.shut, pc 0 -/
theorem s_3083_e {L d : Nat} {K : Option gV → gH → Prop} {s : gH} (p0 : Int) (p1 : Int) (p2 : Int) (H : ((p2 = 0 → ((0 ≤ (gp_wr ((gp_wr (64 * p0)) + p1)) ∧ (gp_wr ((gp_wr (64 * p0)) + p1)) < 5440) ∧ gs_E L d 3083 29 [gp_r (some 74), gp_i p0, gp_i p1, gp_i p2] [gp_i (gp_I s 78 (gp_wr ((gp_wr (64 * p0)) + p1)).toNat)] s K)) ∧ (¬ p2 = 0 → ((0 ≤ (gp_wr ((gp_wr (64 * p0)) + p1)) ∧ (gp_wr ((gp_wr (64 * p0)) + p1)) < 5440) ∧ gs_E L d 3083 29 [gp_r (some 74), gp_i p0, gp_i p1, gp_i p2] [gp_i (gp_I s 79 (gp_wr ((gp_wr (64 * p0)) + p1)).toNat)] s K)))) : gs_C L d 3083 4 [gp_r (some 74), gp_i p0, gp_i p1, gp_i p2] s K := by
  show gs_E L d 3083 0 [gp_r (some 74), gp_i p0, gp_i p1, gp_i p2] [] s K
  refine gs_E.stp (pc' := 1) (ls' := [gp_r (some 74), gp_i p0, gp_i p1, gp_i p2]) (st' := [gp_i p2]) (s' := s) 1 rfl ?_
  refine gs_E.br (c := ¬ p2 = 0) (p1 := 18) (p2 := 4) (l1 := [gp_r (some 74), gp_i p0, gp_i p1, gp_i p2]) (l2 := [gp_r (some 74), gp_i p0, gp_i p1, gp_i p2]) (s1 := []) (s2 := []) rfl gs_b2 (fun hc => ?_) (fun hc => ?_)
  · replace H := H.2 hc
    refine gs_E.stp (pc' := 28) (ls' := [gp_r (some 74), gp_i p0, gp_i p1, gp_i p2]) (st' := [gp_i (gp_wr ((gp_wr (64 * p0)) + p1)), gp_r (some 79)]) (s' := s) 7 rfl ?_
    refine gs_E.ck (pc' := 29) (ls' := [gp_r (some 74), gp_i p0, gp_i p1, gp_i p2]) (st' := [gp_i (gp_I s 79 (gp_wr ((gp_wr (64 * p0)) + p1)).toNat)]) (s' := s) rfl (Or.inl ⟨rfl, H.1.1, H.1.2⟩) ?_
    replace H := H.2
    exact H
  · replace H := H.1 (Decidable.byContradiction hc)
    refine gs_E.stp (pc' := 14) (ls' := [gp_r (some 74), gp_i p0, gp_i p1, gp_i p2]) (st' := [gp_i (gp_wr ((gp_wr (64 * p0)) + p1)), gp_r (some 78)]) (s' := s) 7 rfl ?_
    refine gs_E.ck (pc' := 15) (ls' := [gp_r (some 74), gp_i p0, gp_i p1, gp_i p2]) (st' := [gp_i (gp_I s 78 (gp_wr ((gp_wr (64 * p0)) + p1)).toNat)]) (s' := s) rfl (Or.inl ⟨rfl, H.1.1, H.1.2⟩) ?_
    replace H := H.2
    refine gs_E.stp (pc' := 29) (ls' := [gp_r (some 74), gp_i p0, gp_i p1, gp_i p2]) (st' := [gp_i (gp_I s 78 (gp_wr ((gp_wr (64 * p0)) + p1)).toNat)]) (s' := s) 1 rfl ?_
    exact H

set_option maxRecDepth 100000 in
/-- GatheredPointsModel.shut, pc 29 -/
theorem s_3083_29 {L d : Nat} {K : Option gV → gH → Prop} {s : gH} (v1 : Int) (v2 : Int) (v3 : Int) (w0 : Int) (H : K (some (gp_i w0)) s) : gs_E L d 3083 29 [gp_r (some 74), gp_i v1, gp_i v2, gp_i v3] [gp_i w0] s K := by
  exact gs_E.ret (r := (some (gp_i w0))) rfl H

set_option maxRecDepth 100000 in
/-- GatheredPointsModel.copies, pc 0 -/
theorem s_3084_e {L d : Nat} {K : Option gV → gH → Prop} {s : gH} (p0 : Int) (p1 : Int) (H : ((0 ≤ p0 ∧ p0 < 85) ∧ ((0 ≤ p1 ∧ p1 < 85) ∧ (∀ s1, s1 = gp_wI s 81 p1.toNat (gp_I s 81 p0.toNat) → gs_E L d 3084 14 [gp_r (some 74), gp_i p0, gp_i p1, gp_i 0, gp_n, gp_n] [] s1 K)))) : gs_C L d 3084 6 [gp_r (some 74), gp_i p0, gp_i p1] s K := by
  show gs_E L d 3084 0 [gp_r (some 74), gp_i p0, gp_i p1, gp_n, gp_n, gp_n] [] s K
  refine gs_E.stp (pc' := 10) (ls' := [gp_r (some 74), gp_i p0, gp_i p1, gp_n, gp_n, gp_n]) (st' := [gp_i p0, gp_r (some 81), gp_i p1, gp_r (some 81)]) (s' := s) 6 rfl ?_
  refine gs_E.ck (pc' := 11) (ls' := [gp_r (some 74), gp_i p0, gp_i p1, gp_n, gp_n, gp_n]) (st' := [gp_i (gp_I s 81 p0.toNat), gp_i p1, gp_r (some 81)]) (s' := s) rfl (Or.inl ⟨rfl, H.1.1, H.1.2⟩) ?_
  replace H := H.2
  refine gs_E.ck (pc' := 12) (ls' := [gp_r (some 74), gp_i p0, gp_i p1, gp_n, gp_n, gp_n]) (st' := []) (s' := gp_wI s 81 p1.toNat (gp_I s 81 p0.toNat)) rfl ⟨rfl, H.1.1, H.1.2⟩ ?_
  replace H := H.2 _ rfl
  generalize gp_wI s 81 p1.toNat (gp_I s 81 p0.toNat) = s1 at H ⊢
  refine gs_E.stp (pc' := 14) (ls' := [gp_r (some 74), gp_i p0, gp_i p1, gp_i 0, gp_n, gp_n]) (st' := []) (s' := s1) 2 rfl ?_
  exact H

set_option maxRecDepth 100000 in
/-- GatheredPointsModel.copies, pc 14 -/
theorem s_3084_14 {L d : Nat} {K : Option gV → gH → Prop} {s : gH} (v1 : Int) (v2 : Int) (v3 : Int) (v4 : gV) (v5 : gV) (H : ((0 ≤ v1 ∧ v1 < 85) ∧ ((v3 < (gp_I s 81 v1.toNat) → ((0 ≤ (gp_wr ((gp_wr (64 * v1)) + v3)) ∧ (gp_wr ((gp_wr (64 * v1)) + v3)) < 5440) ∧ ((0 ≤ (gp_wr ((gp_wr (64 * v2)) + v3)) ∧ (gp_wr ((gp_wr (64 * v2)) + v3)) < 5440) ∧ (∀ s1, s1 = gp_wL s 76 (gp_wr ((gp_wr (64 * v2)) + v3)).toNat (gp_L s 76 (gp_wr ((gp_wr (64 * v1)) + v3)).toNat) → ((0 ≤ (gp_wr ((gp_wr (64 * v1)) + v3)) ∧ (gp_wr ((gp_wr (64 * v1)) + v3)) < 5440) ∧ ((0 ≤ (gp_wr ((gp_wr (64 * v2)) + v3)) ∧ (gp_wr ((gp_wr (64 * v2)) + v3)) < 5440) ∧ (∀ s2, s2 = gp_wL s1 77 (gp_wr ((gp_wr (64 * v2)) + v3)).toNat (gp_L s1 77 (gp_wr ((gp_wr (64 * v1)) + v3)).toNat) → ((0 ≤ (gp_wr ((gp_wr (64 * v1)) + v3)) ∧ (gp_wr ((gp_wr (64 * v1)) + v3)) < 5440) ∧ ((0 ≤ (gp_wr ((gp_wr (64 * v2)) + v3)) ∧ (gp_wr ((gp_wr (64 * v2)) + v3)) < 5440) ∧ (∀ s3, s3 = gp_wI s2 78 (gp_wr ((gp_wr (64 * v2)) + v3)).toNat (gp_I s2 78 (gp_wr ((gp_wr (64 * v1)) + v3)).toNat) → ((0 ≤ (gp_wr ((gp_wr (64 * v1)) + v3)) ∧ (gp_wr ((gp_wr (64 * v1)) + v3)) < 5440) ∧ ((0 ≤ (gp_wr ((gp_wr (64 * v2)) + v3)) ∧ (gp_wr ((gp_wr (64 * v2)) + v3)) < 5440) ∧ (∀ s4, s4 = gp_wI s3 79 (gp_wr ((gp_wr (64 * v2)) + v3)).toNat (gp_I s3 79 (gp_wr ((gp_wr (64 * v1)) + v3)).toNat) → ((0 ≤ (gp_wr ((gp_wr (64 * v1)) + v3)) ∧ (gp_wr ((gp_wr (64 * v1)) + v3)) < 5440) ∧ ((0 ≤ (gp_wr ((gp_wr (64 * v2)) + v3)) ∧ (gp_wr ((gp_wr (64 * v2)) + v3)) < 5440) ∧ (∀ s5, s5 = gp_wI s4 80 (gp_wr ((gp_wr (64 * v2)) + v3)).toNat (gp_I s4 80 (gp_wr ((gp_wr (64 * v1)) + v3)).toNat) → gs_E L d 3084 14 [gp_r (some 74), gp_i v1, gp_i v2, gp_i (gp_wr (v3 + 1)), gp_i (gp_wr ((gp_wr (64 * v1)) + v3)), gp_i (gp_wr ((gp_wr (64 * v2)) + v3))] [] s5 K)))))))))))))))) ∧ (¬ v3 < (gp_I s 81 v1.toNat) → K none s)))) : gs_E L d 3084 14 [gp_r (some 74), gp_i v1, gp_i v2, gp_i v3, v4, v5] [] s K := by
  refine gs_E.stp (pc' := 20) (ls' := [gp_r (some 74), gp_i v1, gp_i v2, gp_i v3, v4, v5]) (st' := [gp_i v1, gp_r (some 81), gp_i v3]) (s' := s) 4 rfl ?_
  refine gs_E.ck (pc' := 21) (ls' := [gp_r (some 74), gp_i v1, gp_i v2, gp_i v3, v4, v5]) (st' := [gp_i (gp_I s 81 v1.toNat), gp_i v3]) (s' := s) rfl (Or.inl ⟨rfl, H.1.1, H.1.2⟩) ?_
  replace H := H.2
  refine gs_E.br (c := ¬ v3 < (gp_I s 81 v1.toNat)) (p1 := 116) (p2 := 24) (l1 := [gp_r (some 74), gp_i v1, gp_i v2, gp_i v3, v4, v5]) (l2 := [gp_r (some 74), gp_i v1, gp_i v2, gp_i v3, v4, v5]) (s1 := []) (s2 := []) rfl gs_b2 (fun hc => ?_) (fun hc => ?_)
  · replace H := H.2 hc
    exact gs_E.ret (r := none) rfl H
  · replace H := H.1 (Decidable.byContradiction hc)
    refine gs_E.stp (pc' := 52) (ls' := [gp_r (some 74), gp_i v1, gp_i v2, gp_i v3, gp_i (gp_wr ((gp_wr (64 * v1)) + v3)), gp_i (gp_wr ((gp_wr (64 * v2)) + v3))]) (st' := [gp_i (gp_wr ((gp_wr (64 * v1)) + v3)), gp_r (some 76), gp_i (gp_wr ((gp_wr (64 * v2)) + v3)), gp_r (some 76)]) (s' := s) 18 rfl ?_
    refine gs_E.ck (pc' := 53) (ls' := [gp_r (some 74), gp_i v1, gp_i v2, gp_i v3, gp_i (gp_wr ((gp_wr (64 * v1)) + v3)), gp_i (gp_wr ((gp_wr (64 * v2)) + v3))]) (st' := [gp_l (gp_L s 76 (gp_wr ((gp_wr (64 * v1)) + v3)).toNat), gp_i (gp_wr ((gp_wr (64 * v2)) + v3)), gp_r (some 76)]) (s' := s) rfl ⟨rfl, H.1.1, H.1.2⟩ ?_
    replace H := H.2
    refine gs_E.ck (pc' := 54) (ls' := [gp_r (some 74), gp_i v1, gp_i v2, gp_i v3, gp_i (gp_wr ((gp_wr (64 * v1)) + v3)), gp_i (gp_wr ((gp_wr (64 * v2)) + v3))]) (st' := []) (s' := gp_wL s 76 (gp_wr ((gp_wr (64 * v2)) + v3)).toNat (gp_L s 76 (gp_wr ((gp_wr (64 * v1)) + v3)).toNat)) rfl ⟨rfl, H.1.1, H.1.2⟩ ?_
    replace H := H.2 _ rfl
    generalize gp_wL s 76 (gp_wr ((gp_wr (64 * v2)) + v3)).toNat (gp_L s 76 (gp_wr ((gp_wr (64 * v1)) + v3)).toNat) = s1 at H ⊢
    refine gs_E.stp (pc' := 66) (ls' := [gp_r (some 74), gp_i v1, gp_i v2, gp_i v3, gp_i (gp_wr ((gp_wr (64 * v1)) + v3)), gp_i (gp_wr ((gp_wr (64 * v2)) + v3))]) (st' := [gp_i (gp_wr ((gp_wr (64 * v1)) + v3)), gp_r (some 77), gp_i (gp_wr ((gp_wr (64 * v2)) + v3)), gp_r (some 77)]) (s' := s1) 6 rfl ?_
    refine gs_E.ck (pc' := 67) (ls' := [gp_r (some 74), gp_i v1, gp_i v2, gp_i v3, gp_i (gp_wr ((gp_wr (64 * v1)) + v3)), gp_i (gp_wr ((gp_wr (64 * v2)) + v3))]) (st' := [gp_l (gp_L s1 77 (gp_wr ((gp_wr (64 * v1)) + v3)).toNat), gp_i (gp_wr ((gp_wr (64 * v2)) + v3)), gp_r (some 77)]) (s' := s1) rfl ⟨rfl, H.1.1, H.1.2⟩ ?_
    replace H := H.2
    refine gs_E.ck (pc' := 68) (ls' := [gp_r (some 74), gp_i v1, gp_i v2, gp_i v3, gp_i (gp_wr ((gp_wr (64 * v1)) + v3)), gp_i (gp_wr ((gp_wr (64 * v2)) + v3))]) (st' := []) (s' := gp_wL s1 77 (gp_wr ((gp_wr (64 * v2)) + v3)).toNat (gp_L s1 77 (gp_wr ((gp_wr (64 * v1)) + v3)).toNat)) rfl ⟨rfl, H.1.1, H.1.2⟩ ?_
    replace H := H.2 _ rfl
    generalize gp_wL s1 77 (gp_wr ((gp_wr (64 * v2)) + v3)).toNat (gp_L s1 77 (gp_wr ((gp_wr (64 * v1)) + v3)).toNat) = s2 at H ⊢
    refine gs_E.stp (pc' := 80) (ls' := [gp_r (some 74), gp_i v1, gp_i v2, gp_i v3, gp_i (gp_wr ((gp_wr (64 * v1)) + v3)), gp_i (gp_wr ((gp_wr (64 * v2)) + v3))]) (st' := [gp_i (gp_wr ((gp_wr (64 * v1)) + v3)), gp_r (some 78), gp_i (gp_wr ((gp_wr (64 * v2)) + v3)), gp_r (some 78)]) (s' := s2) 6 rfl ?_
    refine gs_E.ck (pc' := 81) (ls' := [gp_r (some 74), gp_i v1, gp_i v2, gp_i v3, gp_i (gp_wr ((gp_wr (64 * v1)) + v3)), gp_i (gp_wr ((gp_wr (64 * v2)) + v3))]) (st' := [gp_i (gp_I s2 78 (gp_wr ((gp_wr (64 * v1)) + v3)).toNat), gp_i (gp_wr ((gp_wr (64 * v2)) + v3)), gp_r (some 78)]) (s' := s2) rfl (Or.inl ⟨rfl, H.1.1, H.1.2⟩) ?_
    replace H := H.2
    refine gs_E.ck (pc' := 82) (ls' := [gp_r (some 74), gp_i v1, gp_i v2, gp_i v3, gp_i (gp_wr ((gp_wr (64 * v1)) + v3)), gp_i (gp_wr ((gp_wr (64 * v2)) + v3))]) (st' := []) (s' := gp_wI s2 78 (gp_wr ((gp_wr (64 * v2)) + v3)).toNat (gp_I s2 78 (gp_wr ((gp_wr (64 * v1)) + v3)).toNat)) rfl ⟨rfl, H.1.1, H.1.2⟩ ?_
    replace H := H.2 _ rfl
    generalize gp_wI s2 78 (gp_wr ((gp_wr (64 * v2)) + v3)).toNat (gp_I s2 78 (gp_wr ((gp_wr (64 * v1)) + v3)).toNat) = s3 at H ⊢
    refine gs_E.stp (pc' := 94) (ls' := [gp_r (some 74), gp_i v1, gp_i v2, gp_i v3, gp_i (gp_wr ((gp_wr (64 * v1)) + v3)), gp_i (gp_wr ((gp_wr (64 * v2)) + v3))]) (st' := [gp_i (gp_wr ((gp_wr (64 * v1)) + v3)), gp_r (some 79), gp_i (gp_wr ((gp_wr (64 * v2)) + v3)), gp_r (some 79)]) (s' := s3) 6 rfl ?_
    refine gs_E.ck (pc' := 95) (ls' := [gp_r (some 74), gp_i v1, gp_i v2, gp_i v3, gp_i (gp_wr ((gp_wr (64 * v1)) + v3)), gp_i (gp_wr ((gp_wr (64 * v2)) + v3))]) (st' := [gp_i (gp_I s3 79 (gp_wr ((gp_wr (64 * v1)) + v3)).toNat), gp_i (gp_wr ((gp_wr (64 * v2)) + v3)), gp_r (some 79)]) (s' := s3) rfl (Or.inl ⟨rfl, H.1.1, H.1.2⟩) ?_
    replace H := H.2
    refine gs_E.ck (pc' := 96) (ls' := [gp_r (some 74), gp_i v1, gp_i v2, gp_i v3, gp_i (gp_wr ((gp_wr (64 * v1)) + v3)), gp_i (gp_wr ((gp_wr (64 * v2)) + v3))]) (st' := []) (s' := gp_wI s3 79 (gp_wr ((gp_wr (64 * v2)) + v3)).toNat (gp_I s3 79 (gp_wr ((gp_wr (64 * v1)) + v3)).toNat)) rfl ⟨rfl, H.1.1, H.1.2⟩ ?_
    replace H := H.2 _ rfl
    generalize gp_wI s3 79 (gp_wr ((gp_wr (64 * v2)) + v3)).toNat (gp_I s3 79 (gp_wr ((gp_wr (64 * v1)) + v3)).toNat) = s4 at H ⊢
    refine gs_E.stp (pc' := 108) (ls' := [gp_r (some 74), gp_i v1, gp_i v2, gp_i v3, gp_i (gp_wr ((gp_wr (64 * v1)) + v3)), gp_i (gp_wr ((gp_wr (64 * v2)) + v3))]) (st' := [gp_i (gp_wr ((gp_wr (64 * v1)) + v3)), gp_r (some 80), gp_i (gp_wr ((gp_wr (64 * v2)) + v3)), gp_r (some 80)]) (s' := s4) 6 rfl ?_
    refine gs_E.ck (pc' := 109) (ls' := [gp_r (some 74), gp_i v1, gp_i v2, gp_i v3, gp_i (gp_wr ((gp_wr (64 * v1)) + v3)), gp_i (gp_wr ((gp_wr (64 * v2)) + v3))]) (st' := [gp_i (gp_I s4 80 (gp_wr ((gp_wr (64 * v1)) + v3)).toNat), gp_i (gp_wr ((gp_wr (64 * v2)) + v3)), gp_r (some 80)]) (s' := s4) rfl (Or.inl ⟨rfl, H.1.1, H.1.2⟩) ?_
    replace H := H.2
    refine gs_E.ck (pc' := 110) (ls' := [gp_r (some 74), gp_i v1, gp_i v2, gp_i v3, gp_i (gp_wr ((gp_wr (64 * v1)) + v3)), gp_i (gp_wr ((gp_wr (64 * v2)) + v3))]) (st' := []) (s' := gp_wI s4 80 (gp_wr ((gp_wr (64 * v2)) + v3)).toNat (gp_I s4 80 (gp_wr ((gp_wr (64 * v1)) + v3)).toNat)) rfl ⟨rfl, H.1.1, H.1.2⟩ ?_
    replace H := H.2 _ rfl
    generalize gp_wI s4 80 (gp_wr ((gp_wr (64 * v2)) + v3)).toNat (gp_I s4 80 (gp_wr ((gp_wr (64 * v1)) + v3)).toNat) = s5 at H ⊢
    refine gs_E.stp (pc' := 14) (ls' := [gp_r (some 74), gp_i v1, gp_i v2, gp_i (gp_wr (v3 + 1)), gp_i (gp_wr ((gp_wr (64 * v1)) + v3)), gp_i (gp_wr ((gp_wr (64 * v2)) + v3))]) (st' := []) (s' := s5) 2 rfl ?_
    exact H

set_option maxRecDepth 100000 in
/-- GatheredPointsModel.begins, pc 0 -/
theorem s_3085_e {L d : Nat} {K : Option gV → gH → Prop} {s : gH}  (H : (∀ s1, s1 = gp_wI s 81 20 0 → (∀ s2, s2 = gp_wI s1 74 15 0 → gs_C L d 3089 2 [gp_r (some 74)] s2 (fun r s3 => r = none ∧ K none s3)))) : gs_C L (d + 1) 3085 1 [gp_r (some 74)] s K := by
  show gs_E L (d + 1) 3085 0 [gp_r (some 74)] [] s K
  refine gs_E.stp (pc' := 8) (ls' := [gp_r (some 74)]) (st' := []) (s' := gp_wI s 81 20 0) 5 rfl ?_
  replace H := H _ rfl
  generalize gp_wI s 81 20 0 = s1 at H ⊢
  refine gs_E.stp (pc' := 13) (ls' := [gp_r (some 74)]) (st' := []) (s' := gp_wI s1 74 15 0) 3 rfl ?_
  replace H := H _ rfl
  generalize gp_wI s1 74 15 0 = s2 at H ⊢
  refine gs_E.stp (pc' := 14) (ls' := [gp_r (some 74)]) (st' := [gp_r (some 74)]) (s' := s2) 1 rfl ?_
  refine gs_E.call (args := [gp_r (some 74)]) (m := 2) (y' := 3089) (st' := []) rfl H (fun r s3 H => ?_)
  obtain ⟨rfl, H⟩ := H
  show gs_E L (d + 1) 3085 17 [gp_r (some 74)] [] s3 K
  exact gs_E.ret (r := none) rfl H

set_option maxRecDepth 100000 in
/-- GatheredPointsModel.depthOf, pc 0 -/
theorem s_3086_e {L d : Nat} {K : Option gV → gH → Prop} {s : gH} (p0 : Int) (p1 : BitVec 64) (H : gs_E L (d + 1) 3086 6 [gp_r (some 74), gp_i p0, gp_l p1, gp_n, gp_i (-1), gp_i 0] [] s K) : gs_C L (d + 1) 3086 6 [gp_r (some 74), gp_i p0, gp_l p1] s K := by
  show gs_E L (d + 1) 3086 0 [gp_r (some 74), gp_i p0, gp_l p1, gp_n, gp_n, gp_n] [] s K
  refine gs_E.stp (pc' := 6) (ls' := [gp_r (some 74), gp_i p0, gp_l p1, gp_n, gp_i (-1), gp_i 0]) (st' := []) (s' := s) 4 rfl ?_
  exact H

set_option maxRecDepth 100000 in
/-- GatheredPointsModel.depthOf, pc 6 -/
theorem s_3086_6 {L d : Nat} {K : Option gV → gH → Prop} {s : gH} (v1 : Int) (v2 : BitVec 64) (v4 : Int) (v5 : Int) (H : ((v5 < 64 → gs_C L d 3078 3 [gp_l v2, gp_i v5] s (fun r s1 => ∃ x2, r = some (gp_i x2) ∧ ((x2 = 0 → gs_E L (d + 1) 3086 54 [gp_r (some 74), gp_i v1, gp_l v2, gp_n, gp_i v4, gp_i v5] [] s1 K) ∧ (¬ x2 = 0 → ((0 ≤ (gp_wr ((gp_wr (64 * v1)) + v5)) ∧ (gp_wr ((gp_wr (64 * v1)) + v5)) < 5440) ∧ ((v4 < (gp_I s1 80 (gp_wr ((gp_wr (64 * v1)) + v5)).toNat) → ((0 ≤ (gp_wr ((gp_wr (64 * v1)) + v5)) ∧ (gp_wr ((gp_wr (64 * v1)) + v5)) < 5440) ∧ gs_E L (d + 1) 3086 56 [gp_r (some 74), gp_i v1, gp_l v2, gp_n, gp_i v4, gp_i v5] [gp_i (gp_I s1 80 (gp_wr ((gp_wr (64 * v1)) + v5)).toNat)] s1 K)) ∧ (¬ v4 < (gp_I s1 80 (gp_wr ((gp_wr (64 * v1)) + v5)).toNat) → gs_E L (d + 1) 3086 54 [gp_r (some 74), gp_i v1, gp_l v2, gp_n, gp_i v4, gp_i v5] [] s1 K))))))) ∧ (¬ v5 < 64 → K (some (gp_i (gp_wr (v4 + 1)))) s))) : gs_E L (d + 1) 3086 6 [gp_r (some 74), gp_i v1, gp_l v2, gp_n, gp_i v4, gp_i v5] [] s K := by
  refine gs_E.stp (pc' := 10) (ls' := [gp_r (some 74), gp_i v1, gp_l v2, gp_n, gp_i v4, gp_i v5]) (st' := [gp_i 64, gp_i v5]) (s' := s) 2 rfl ?_
  refine gs_E.br (c := ¬ v5 < 64) (p1 := 64) (p2 := 13) (l1 := [gp_r (some 74), gp_i v1, gp_l v2, gp_n, gp_i v4, gp_i v5]) (l2 := [gp_r (some 74), gp_i v1, gp_l v2, gp_n, gp_i v4, gp_i v5]) (s1 := []) (s2 := []) rfl gs_b2 (fun hc => ?_) (fun hc => ?_)
  · replace H := H.2 hc
    refine gs_E.stp (pc' := 68) (ls' := [gp_r (some 74), gp_i v1, gp_l v2, gp_n, gp_i v4, gp_i v5]) (st' := [gp_i (gp_wr (v4 + 1))]) (s' := s) 3 rfl ?_
    exact gs_E.ret (r := (some (gp_i (gp_wr (v4 + 1))))) rfl H
  · replace H := H.1 (Decidable.byContradiction hc)
    refine gs_E.stp (pc' := 16) (ls' := [gp_r (some 74), gp_i v1, gp_l v2, gp_n, gp_i v4, gp_i v5]) (st' := [gp_i v5, gp_l v2]) (s' := s) 2 rfl ?_
    refine gs_E.call (args := [gp_l v2, gp_i v5]) (m := 3) (y' := 3078) (st' := []) rfl H (fun r s1 H => ?_)
    obtain ⟨x2, rfl, H⟩ := H
    show gs_E L (d + 1) 3086 19 [gp_r (some 74), gp_i v1, gp_l v2, gp_n, gp_i v4, gp_i v5] [gp_i x2] s1 K
    refine gs_E.br (c := x2 = 0) (p1 := 54) (p2 := 22) (l1 := [gp_r (some 74), gp_i v1, gp_l v2, gp_n, gp_i v4, gp_i v5]) (l2 := [gp_r (some 74), gp_i v1, gp_l v2, gp_n, gp_i v4, gp_i v5]) (s1 := []) (s2 := []) rfl gs_b1 (fun hc => ?_) (fun hc => ?_)
    · replace H := H.1 hc
      exact H
    · replace H := H.2 hc
      refine gs_E.stp (pc' := 33) (ls' := [gp_r (some 74), gp_i v1, gp_l v2, gp_n, gp_i v4, gp_i v5]) (st' := [gp_i (gp_wr ((gp_wr (64 * v1)) + v5)), gp_r (some 80)]) (s' := s1) 7 rfl ?_
      refine gs_E.ck (pc' := 34) (ls' := [gp_r (some 74), gp_i v1, gp_l v2, gp_n, gp_i v4, gp_i v5]) (st' := [gp_i (gp_I s1 80 (gp_wr ((gp_wr (64 * v1)) + v5)).toNat)]) (s' := s1) rfl (Or.inl ⟨rfl, H.1.1, H.1.2⟩) ?_
      replace H := H.2
      refine gs_E.stp (pc' := 36) (ls' := [gp_r (some 74), gp_i v1, gp_l v2, gp_n, gp_i v4, gp_i v5]) (st' := [gp_i v4, gp_i (gp_I s1 80 (gp_wr ((gp_wr (64 * v1)) + v5)).toNat)]) (s' := s1) 1 rfl ?_
      refine gs_E.br (c := ¬ v4 < (gp_I s1 80 (gp_wr ((gp_wr (64 * v1)) + v5)).toNat)) (p1 := 54) (p2 := 39) (l1 := [gp_r (some 74), gp_i v1, gp_l v2, gp_n, gp_i v4, gp_i v5]) (l2 := [gp_r (some 74), gp_i v1, gp_l v2, gp_n, gp_i v4, gp_i v5]) (s1 := []) (s2 := []) rfl gs_b2 (fun hc => ?_) (fun hc => ?_)
      · replace H := H.2 hc
        exact H
      · replace H := H.1 (Decidable.byContradiction hc)
        refine gs_E.stp (pc' := 50) (ls' := [gp_r (some 74), gp_i v1, gp_l v2, gp_n, gp_i v4, gp_i v5]) (st' := [gp_i (gp_wr ((gp_wr (64 * v1)) + v5)), gp_r (some 80)]) (s' := s1) 7 rfl ?_
        refine gs_E.ck (pc' := 51) (ls' := [gp_r (some 74), gp_i v1, gp_l v2, gp_n, gp_i v4, gp_i v5]) (st' := [gp_i (gp_I s1 80 (gp_wr ((gp_wr (64 * v1)) + v5)).toNat)]) (s' := s1) rfl (Or.inl ⟨rfl, H.1.1, H.1.2⟩) ?_
        replace H := H.2
        refine gs_E.stp (pc' := 56) (ls' := [gp_r (some 74), gp_i v1, gp_l v2, gp_n, gp_i v4, gp_i v5]) (st' := [gp_i (gp_I s1 80 (gp_wr ((gp_wr (64 * v1)) + v5)).toNat)]) (s' := s1) 1 rfl ?_
        exact H

set_option maxRecDepth 100000 in
/-- GatheredPointsModel.depthOf, pc 54 -/
theorem s_3086_54 {L d : Nat} {K : Option gV → gH → Prop} {s : gH} (v1 : Int) (v2 : BitVec 64) (v4 : Int) (v5 : Int) (H : gs_E L (d + 1) 3086 56 [gp_r (some 74), gp_i v1, gp_l v2, gp_n, gp_i v4, gp_i v5] [gp_i v4] s K) : gs_E L (d + 1) 3086 54 [gp_r (some 74), gp_i v1, gp_l v2, gp_n, gp_i v4, gp_i v5] [] s K := by
  refine gs_E.stp (pc' := 56) (ls' := [gp_r (some 74), gp_i v1, gp_l v2, gp_n, gp_i v4, gp_i v5]) (st' := [gp_i v4]) (s' := s) 1 rfl ?_
  exact H

set_option maxRecDepth 100000 in
/-- GatheredPointsModel.depthOf, pc 56 -/
theorem s_3086_56 {L d : Nat} {K : Option gV → gH → Prop} {s : gH} (v1 : Int) (v2 : BitVec 64) (v4 : Int) (v5 : Int) (w0 : Int) (H : gs_E L (d + 1) 3086 6 [gp_r (some 74), gp_i v1, gp_l v2, gp_n, gp_i w0, gp_i (gp_wr (v5 + 1))] [] s K) : gs_E L (d + 1) 3086 56 [gp_r (some 74), gp_i v1, gp_l v2, gp_n, gp_i v4, gp_i v5] [gp_i w0] s K := by
  refine gs_E.stp (pc' := 6) (ls' := [gp_r (some 74), gp_i v1, gp_l v2, gp_n, gp_i w0, gp_i (gp_wr (v5 + 1))]) (st' := []) (s' := s) 3 rfl ?_
  exact H

set_option maxRecDepth 100000 in
/-- GatheredPointsModel.lays, pc 0 -/
theorem s_3087_e {L d : Nat} {K : Option gV → gH → Prop} {s : gH} (p0 : Int) (p1 : BitVec 64) (p2 : BitVec 64) (p3 : Int) (p4 : Int) (H : ((0 ≤ (gp_wr (1280 + p0)) ∧ (gp_wr (1280 + p0)) < 5440) ∧ (∀ s1, s1 = gp_wL s 76 (gp_wr (1280 + p0)).toNat p1 → ((0 ≤ (gp_wr (1280 + p0)) ∧ (gp_wr (1280 + p0)) < 5440) ∧ (∀ s2, s2 = gp_wL s1 77 (gp_wr (1280 + p0)).toNat p2 → (((gp_cmp p1 (0#64)) = 0 → gs_E L (d + 1) 3087 42 [gp_r (some 74), gp_i p0, gp_l p1, gp_n, gp_l p2, gp_n, gp_i p3, gp_i p4, gp_i (gp_wr (1280 + p0))] [gp_i p3, gp_i (gp_wr (1280 + p0)), gp_r (some 78)] s2 K) ∧ (¬ (gp_cmp p1 (0#64)) = 0 → gs_E L (d + 1) 3087 42 [gp_r (some 74), gp_i p0, gp_l p1, gp_n, gp_l p2, gp_n, gp_i p3, gp_i p4, gp_i (gp_wr (1280 + p0))] [gp_i 0, gp_i (gp_wr (1280 + p0)), gp_r (some 78)] s2 K))))))) : gs_C L (d + 1) 3087 9 [gp_r (some 74), gp_i p0, gp_l p1, gp_l p2, gp_i p3, gp_i p4] s K := by
  show gs_E L (d + 1) 3087 0 [gp_r (some 74), gp_i p0, gp_l p1, gp_n, gp_l p2, gp_n, gp_i p3, gp_i p4, gp_n] [] s K
  refine gs_E.stp (pc' := 14) (ls' := [gp_r (some 74), gp_i p0, gp_l p1, gp_n, gp_l p2, gp_n, gp_i p3, gp_i p4, gp_i (gp_wr (1280 + p0))]) (st' := [gp_l p1, gp_i (gp_wr (1280 + p0)), gp_r (some 76)]) (s' := s) 8 rfl ?_
  refine gs_E.ck (pc' := 15) (ls' := [gp_r (some 74), gp_i p0, gp_l p1, gp_n, gp_l p2, gp_n, gp_i p3, gp_i p4, gp_i (gp_wr (1280 + p0))]) (st' := []) (s' := gp_wL s 76 (gp_wr (1280 + p0)).toNat p1) rfl ⟨rfl, H.1.1, H.1.2⟩ ?_
  replace H := H.2 _ rfl
  generalize gp_wL s 76 (gp_wr (1280 + p0)).toNat p1 = s1 at H ⊢
  refine gs_E.stp (pc' := 23) (ls' := [gp_r (some 74), gp_i p0, gp_l p1, gp_n, gp_l p2, gp_n, gp_i p3, gp_i p4, gp_i (gp_wr (1280 + p0))]) (st' := [gp_l p2, gp_i (gp_wr (1280 + p0)), gp_r (some 77)]) (s' := s1) 4 rfl ?_
  refine gs_E.ck (pc' := 24) (ls' := [gp_r (some 74), gp_i p0, gp_l p1, gp_n, gp_l p2, gp_n, gp_i p3, gp_i p4, gp_i (gp_wr (1280 + p0))]) (st' := []) (s' := gp_wL s1 77 (gp_wr (1280 + p0)).toNat p2) rfl ⟨rfl, H.1.1, H.1.2⟩ ?_
  replace H := H.2 _ rfl
  generalize gp_wL s1 77 (gp_wr (1280 + p0)).toNat p2 = s2 at H ⊢
  refine gs_E.stp (pc' := 33) (ls' := [gp_r (some 74), gp_i p0, gp_l p1, gp_n, gp_l p2, gp_n, gp_i p3, gp_i p4, gp_i (gp_wr (1280 + p0))]) (st' := [gp_i (gp_cmp p1 (0#64)), gp_i (gp_wr (1280 + p0)), gp_r (some 78)]) (s' := s2) 6 rfl ?_
  refine gs_E.br (c := ¬ (gp_cmp p1 (0#64)) = 0) (p1 := 41) (p2 := 36) (l1 := [gp_r (some 74), gp_i p0, gp_l p1, gp_n, gp_l p2, gp_n, gp_i p3, gp_i p4, gp_i (gp_wr (1280 + p0))]) (l2 := [gp_r (some 74), gp_i p0, gp_l p1, gp_n, gp_l p2, gp_n, gp_i p3, gp_i p4, gp_i (gp_wr (1280 + p0))]) (s1 := [gp_i (gp_wr (1280 + p0)), gp_r (some 78)]) (s2 := [gp_i (gp_wr (1280 + p0)), gp_r (some 78)]) rfl gs_b2 (fun hc => ?_) (fun hc => ?_)
  · replace H := H.2 hc
    refine gs_E.stp (pc' := 42) (ls' := [gp_r (some 74), gp_i p0, gp_l p1, gp_n, gp_l p2, gp_n, gp_i p3, gp_i p4, gp_i (gp_wr (1280 + p0))]) (st' := [gp_i 0, gp_i (gp_wr (1280 + p0)), gp_r (some 78)]) (s' := s2) 1 rfl ?_
    exact H
  · replace H := H.1 (Decidable.byContradiction hc)
    refine gs_E.stp (pc' := 42) (ls' := [gp_r (some 74), gp_i p0, gp_l p1, gp_n, gp_l p2, gp_n, gp_i p3, gp_i p4, gp_i (gp_wr (1280 + p0))]) (st' := [gp_i p3, gp_i (gp_wr (1280 + p0)), gp_r (some 78)]) (s' := s2) 2 rfl ?_
    exact H

set_option maxRecDepth 100000 in
/-- GatheredPointsModel.lays, pc 42 -/
theorem s_3087_42 {L d : Nat} {K : Option gV → gH → Prop} {s : gH} (v1 : Int) (v2 : BitVec 64) (v4 : BitVec 64) (v6 : Int) (v7 : Int) (v8 : Int) (w1 : Int) (w2 : Int) (H : ((0 ≤ w1 ∧ w1 < 5440) ∧ (∀ s1, s1 = gp_wI s 78 w1.toNat w2 → (((gp_cmp v4 (0#64)) = 0 → gs_E L (d + 1) 3087 62 [gp_r (some 74), gp_i v1, gp_l v2, gp_n, gp_l v4, gp_n, gp_i v6, gp_i v7, gp_i v8] [gp_i v7, gp_i v8, gp_r (some 79)] s1 K) ∧ (¬ (gp_cmp v4 (0#64)) = 0 → gs_E L (d + 1) 3087 62 [gp_r (some 74), gp_i v1, gp_l v2, gp_n, gp_l v4, gp_n, gp_i v6, gp_i v7, gp_i v8] [gp_i 0, gp_i v8, gp_r (some 79)] s1 K))))) : gs_E L (d + 1) 3087 42 [gp_r (some 74), gp_i v1, gp_l v2, gp_n, gp_l v4, gp_n, gp_i v6, gp_i v7, gp_i v8] [gp_i w2, gp_i w1, gp_r (some 78)] s K := by
  refine gs_E.ck (pc' := 43) (ls' := [gp_r (some 74), gp_i v1, gp_l v2, gp_n, gp_l v4, gp_n, gp_i v6, gp_i v7, gp_i v8]) (st' := []) (s' := gp_wI s 78 w1.toNat w2) rfl ⟨rfl, H.1.1, H.1.2⟩ ?_
  replace H := H.2 _ rfl
  generalize gp_wI s 78 w1.toNat w2 = s1 at H ⊢
  refine gs_E.stp (pc' := 53) (ls' := [gp_r (some 74), gp_i v1, gp_l v2, gp_n, gp_l v4, gp_n, gp_i v6, gp_i v7, gp_i v8]) (st' := [gp_i (gp_cmp v4 (0#64)), gp_i v8, gp_r (some 79)]) (s' := s1) 6 rfl ?_
  refine gs_E.br (c := ¬ (gp_cmp v4 (0#64)) = 0) (p1 := 61) (p2 := 56) (l1 := [gp_r (some 74), gp_i v1, gp_l v2, gp_n, gp_l v4, gp_n, gp_i v6, gp_i v7, gp_i v8]) (l2 := [gp_r (some 74), gp_i v1, gp_l v2, gp_n, gp_l v4, gp_n, gp_i v6, gp_i v7, gp_i v8]) (s1 := [gp_i v8, gp_r (some 79)]) (s2 := [gp_i v8, gp_r (some 79)]) rfl gs_b2 (fun hc => ?_) (fun hc => ?_)
  · replace H := H.2 hc
    refine gs_E.stp (pc' := 62) (ls' := [gp_r (some 74), gp_i v1, gp_l v2, gp_n, gp_l v4, gp_n, gp_i v6, gp_i v7, gp_i v8]) (st' := [gp_i 0, gp_i v8, gp_r (some 79)]) (s' := s1) 1 rfl ?_
    exact H
  · replace H := H.1 (Decidable.byContradiction hc)
    refine gs_E.stp (pc' := 62) (ls' := [gp_r (some 74), gp_i v1, gp_l v2, gp_n, gp_l v4, gp_n, gp_i v6, gp_i v7, gp_i v8]) (st' := [gp_i v7, gp_i v8, gp_r (some 79)]) (s' := s1) 2 rfl ?_
    exact H

set_option maxRecDepth 100000 in
/-- GatheredPointsModel.lays, pc 62 -/
theorem s_3087_62 {L d : Nat} {K : Option gV → gH → Prop} {s : gH} (v1 : Int) (v2 : BitVec 64) (v4 : BitVec 64) (v6 : Int) (v7 : Int) (v8 : Int) (w1 : Int) (w2 : Int) (H : ((0 ≤ w1 ∧ w1 < 5440) ∧ (∀ s1, s1 = gp_wI s 79 w1.toNat w2 → gs_C L d 3086 6 [gp_r (some 74), gp_i 20, gp_l (v2 ||| v4)] s1 (fun r s2 => ∃ x3, r = some (gp_i x3) ∧ ((0 ≤ v8 ∧ v8 < 5440) ∧ (∀ s4, s4 = gp_wI s2 80 v8.toNat x3 → K none s4)))))) : gs_E L (d + 1) 3087 62 [gp_r (some 74), gp_i v1, gp_l v2, gp_n, gp_l v4, gp_n, gp_i v6, gp_i v7, gp_i v8] [gp_i w2, gp_i w1, gp_r (some 79)] s K := by
  refine gs_E.ck (pc' := 63) (ls' := [gp_r (some 74), gp_i v1, gp_l v2, gp_n, gp_l v4, gp_n, gp_i v6, gp_i v7, gp_i v8]) (st' := []) (s' := gp_wI s 79 w1.toNat w2) rfl ⟨rfl, H.1.1, H.1.2⟩ ?_
  replace H := H.2 _ rfl
  generalize gp_wI s 79 w1.toNat w2 = s1 at H ⊢
  refine gs_E.stp (pc' := 76) (ls' := [gp_r (some 74), gp_i v1, gp_l v2, gp_n, gp_l v4, gp_n, gp_i v6, gp_i v7, gp_i v8]) (st' := [gp_l (v2 ||| v4), gp_i 20, gp_r (some 74), gp_i v8, gp_r (some 80)]) (s' := s1) 8 rfl ?_
  refine gs_E.call (args := [gp_r (some 74), gp_i 20, gp_l (v2 ||| v4)]) (m := 6) (y' := 3086) (st' := [gp_i v8, gp_r (some 80)]) rfl H (fun r s2 H => ?_)
  obtain ⟨x3, rfl, H⟩ := H
  show gs_E L (d + 1) 3087 79 [gp_r (some 74), gp_i v1, gp_l v2, gp_n, gp_l v4, gp_n, gp_i v6, gp_i v7, gp_i v8] [gp_i x3, gp_i v8, gp_r (some 80)] s2 K
  refine gs_E.ck (pc' := 80) (ls' := [gp_r (some 74), gp_i v1, gp_l v2, gp_n, gp_l v4, gp_n, gp_i v6, gp_i v7, gp_i v8]) (st' := []) (s' := gp_wI s2 80 v8.toNat x3) rfl ⟨rfl, H.1.1, H.1.2⟩ ?_
  replace H := H.2 _ rfl
  generalize gp_wI s2 80 v8.toNat x3 = s4 at H ⊢
  exact gs_E.ret (r := none) rfl H

set_option maxRecDepth 100000 in
/-- GatheredPointsModel.made, pc 0 -/
theorem s_3088_e {L d : Nat} {K : Option gV → gH → Prop} {s : gH} (p0 : BitVec 64) (p1 : BitVec 64) (p2 : Int) (p3 : Int) (H : gs_E L (d + 1) 3088 3 [gp_r (some 74), gp_l p0, gp_n, gp_l p1, gp_n, gp_i p2, gp_i p3, gp_i 0, gp_n] [] s K) : gs_C L (d + 1) 3088 9 [gp_r (some 74), gp_l p0, gp_l p1, gp_i p2, gp_i p3] s K := by
  show gs_E L (d + 1) 3088 0 [gp_r (some 74), gp_l p0, gp_n, gp_l p1, gp_n, gp_i p2, gp_i p3, gp_n, gp_n] [] s K
  refine gs_E.stp (pc' := 3) (ls' := [gp_r (some 74), gp_l p0, gp_n, gp_l p1, gp_n, gp_i p2, gp_i p3, gp_i 0, gp_n]) (st' := []) (s' := s) 2 rfl ?_
  exact H

set_option maxRecDepth 100000 in
/-- GatheredPointsModel.made, pc 3 -/
theorem s_3088_3 {L d : Nat} {K : Option gV → gH → Prop} {s : gH} (v1 : BitVec 64) (v3 : BitVec 64) (v5 : Int) (v6 : Int) (v7 : Int) (v8 : gV) (H : ((v7 < (gp_I s 81 20) → ((0 ≤ (gp_wr (1280 + v7)) ∧ (gp_wr (1280 + v7)) < 5440) ∧ (((gp_cmp (gp_L s 76 (gp_wr (1280 + v7)).toNat) v1) = 0 → ((0 ≤ (gp_wr (1280 + v7)) ∧ (gp_wr (1280 + v7)) < 5440) ∧ (((gp_cmp (gp_L s 77 (gp_wr (1280 + v7)).toNat) v3) = 0 → (((gp_cmp v1 (0#64)) = 0 → ((0 ≤ (gp_wr (1280 + v7)) ∧ (gp_wr (1280 + v7)) < 5440) ∧ (((gp_I s 78 (gp_wr (1280 + v7)).toNat) = v5 → gs_E L (d + 1) 3088 65 [gp_r (some 74), gp_l v1, gp_n, gp_l v3, gp_n, gp_i v5, gp_i v6, gp_i v7, gp_i (gp_wr (1280 + v7))] [] s K) ∧ (¬ (gp_I s 78 (gp_wr (1280 + v7)).toNat) = v5 → gs_E L (d + 1) 3088 86 [gp_r (some 74), gp_l v1, gp_n, gp_l v3, gp_n, gp_i v5, gp_i v6, gp_i v7, gp_i (gp_wr (1280 + v7))] [] s K)))) ∧ (¬ (gp_cmp v1 (0#64)) = 0 → gs_E L (d + 1) 3088 65 [gp_r (some 74), gp_l v1, gp_n, gp_l v3, gp_n, gp_i v5, gp_i v6, gp_i v7, gp_i (gp_wr (1280 + v7))] [] s K))) ∧ (¬ (gp_cmp (gp_L s 77 (gp_wr (1280 + v7)).toNat) v3) = 0 → gs_E L (d + 1) 3088 86 [gp_r (some 74), gp_l v1, gp_n, gp_l v3, gp_n, gp_i v5, gp_i v6, gp_i v7, gp_i (gp_wr (1280 + v7))] [] s K)))) ∧ (¬ (gp_cmp (gp_L s 76 (gp_wr (1280 + v7)).toNat) v1) = 0 → gs_E L (d + 1) 3088 86 [gp_r (some 74), gp_l v1, gp_n, gp_l v3, gp_n, gp_i v5, gp_i v6, gp_i v7, gp_i (gp_wr (1280 + v7))] [] s K)))) ∧ (¬ v7 < (gp_I s 81 20) → (((gp_I s 81 20) = 60 → (∀ s3, s3 = gp_wI s 74 15 1 → K (some (gp_i 0)) s3)) ∧ (¬ (gp_I s 81 20) = 60 → gs_C L d 3087 9 [gp_r (some 74), gp_i (gp_I s 81 20), gp_l v1, gp_l v3, gp_i v5, gp_i v6] s (fun r s1 => r = none ∧ (∀ s2, s2 = gp_wI s1 81 20 (gp_wr ((gp_I s1 81 20) + 1)) → K (some (gp_i (gp_wr ((gp_I s2 81 20) - 1)))) s2))))))) : gs_E L (d + 1) 3088 3 [gp_r (some 74), gp_l v1, gp_n, gp_l v3, gp_n, gp_i v5, gp_i v6, gp_i v7, v8] [] s K := by
  refine gs_E.stp (pc' := 12) (ls' := [gp_r (some 74), gp_l v1, gp_n, gp_l v3, gp_n, gp_i v5, gp_i v6, gp_i v7, v8]) (st' := [gp_i (gp_I s 81 20), gp_i v7]) (s' := s) 5 rfl ?_
  refine gs_E.br (c := ¬ v7 < (gp_I s 81 20)) (p1 := 92) (p2 := 15) (l1 := [gp_r (some 74), gp_l v1, gp_n, gp_l v3, gp_n, gp_i v5, gp_i v6, gp_i v7, v8]) (l2 := [gp_r (some 74), gp_l v1, gp_n, gp_l v3, gp_n, gp_i v5, gp_i v6, gp_i v7, v8]) (s1 := []) (s2 := []) rfl gs_b2 (fun hc => ?_) (fun hc => ?_)
  · replace H := H.2 hc
    refine gs_E.stp (pc' := 101) (ls' := [gp_r (some 74), gp_l v1, gp_n, gp_l v3, gp_n, gp_i v5, gp_i v6, gp_i v7, v8]) (st' := [gp_i 60, gp_i (gp_I s 81 20)]) (s' := s) 5 rfl ?_
    refine gs_E.br (c := ¬ (gp_I s 81 20) = 60) (p1 := 111) (p2 := 104) (l1 := [gp_r (some 74), gp_l v1, gp_n, gp_l v3, gp_n, gp_i v5, gp_i v6, gp_i v7, v8]) (l2 := [gp_r (some 74), gp_l v1, gp_n, gp_l v3, gp_n, gp_i v5, gp_i v6, gp_i v7, v8]) (s1 := []) (s2 := []) rfl gs_b2 (fun hc => ?_) (fun hc => ?_)
    · replace H := H.2 hc
      refine gs_E.stp (pc' := 125) (ls' := [gp_r (some 74), gp_l v1, gp_n, gp_l v3, gp_n, gp_i v5, gp_i v6, gp_i v7, v8]) (st' := [gp_i v6, gp_i v5, gp_l v3, gp_l v1, gp_i (gp_I s 81 20), gp_r (some 74)]) (s' := s) 9 rfl ?_
      refine gs_E.call (args := [gp_r (some 74), gp_i (gp_I s 81 20), gp_l v1, gp_l v3, gp_i v5, gp_i v6]) (m := 9) (y' := 3087) (st' := []) rfl H (fun r s1 H => ?_)
      obtain ⟨rfl, H⟩ := H
      show gs_E L (d + 1) 3088 128 [gp_r (some 74), gp_l v1, gp_n, gp_l v3, gp_n, gp_i v5, gp_i v6, gp_i v7, v8] [] s1 K
      refine gs_E.stp (pc' := 139) (ls' := [gp_r (some 74), gp_l v1, gp_n, gp_l v3, gp_n, gp_i v5, gp_i v6, gp_i v7, v8]) (st' := []) (s' := gp_wI s1 81 20 (gp_wr ((gp_I s1 81 20) + 1))) 8 rfl ?_
      replace H := H _ rfl
      generalize gp_wI s1 81 20 (gp_wr ((gp_I s1 81 20) + 1)) = s2 at H ⊢
      refine gs_E.stp (pc' := 148) (ls' := [gp_r (some 74), gp_l v1, gp_n, gp_l v3, gp_n, gp_i v5, gp_i v6, gp_i v7, v8]) (st' := [gp_i (gp_wr ((gp_I s2 81 20) - 1))]) (s' := s2) 6 rfl ?_
      exact gs_E.ret (r := (some (gp_i (gp_wr ((gp_I s2 81 20) - 1))))) rfl H
    · replace H := H.1 (Decidable.byContradiction hc)
      refine gs_E.stp (pc' := 109) (ls' := [gp_r (some 74), gp_l v1, gp_n, gp_l v3, gp_n, gp_i v5, gp_i v6, gp_i v7, v8]) (st' := []) (s' := gp_wI s 74 15 1) 3 rfl ?_
      replace H := H _ rfl
      generalize gp_wI s 74 15 1 = s3 at H ⊢
      refine gs_E.stp (pc' := 110) (ls' := [gp_r (some 74), gp_l v1, gp_n, gp_l v3, gp_n, gp_i v5, gp_i v6, gp_i v7, v8]) (st' := [gp_i 0]) (s' := s3) 1 rfl ?_
      exact gs_E.ret (r := (some (gp_i 0))) rfl H
  · replace H := H.1 (Decidable.byContradiction hc)
    refine gs_E.stp (pc' := 29) (ls' := [gp_r (some 74), gp_l v1, gp_n, gp_l v3, gp_n, gp_i v5, gp_i v6, gp_i v7, gp_i (gp_wr (1280 + v7))]) (st' := [gp_i (gp_wr (1280 + v7)), gp_r (some 76)]) (s' := s) 7 rfl ?_
    refine gs_E.ck (pc' := 30) (ls' := [gp_r (some 74), gp_l v1, gp_n, gp_l v3, gp_n, gp_i v5, gp_i v6, gp_i v7, gp_i (gp_wr (1280 + v7))]) (st' := [gp_l (gp_L s 76 (gp_wr (1280 + v7)).toNat)]) (s' := s) rfl ⟨rfl, H.1.1, H.1.2⟩ ?_
    replace H := H.2
    refine gs_E.stp (pc' := 32) (ls' := [gp_r (some 74), gp_l v1, gp_n, gp_l v3, gp_n, gp_i v5, gp_i v6, gp_i v7, gp_i (gp_wr (1280 + v7))]) (st' := [gp_i (gp_cmp (gp_L s 76 (gp_wr (1280 + v7)).toNat) v1)]) (s' := s) 2 rfl ?_
    refine gs_E.br (c := ¬ (gp_cmp (gp_L s 76 (gp_wr (1280 + v7)).toNat) v1) = 0) (p1 := 86) (p2 := 35) (l1 := [gp_r (some 74), gp_l v1, gp_n, gp_l v3, gp_n, gp_i v5, gp_i v6, gp_i v7, gp_i (gp_wr (1280 + v7))]) (l2 := [gp_r (some 74), gp_l v1, gp_n, gp_l v3, gp_n, gp_i v5, gp_i v6, gp_i v7, gp_i (gp_wr (1280 + v7))]) (s1 := []) (s2 := []) rfl gs_b2 (fun hc => ?_) (fun hc => ?_)
    · replace H := H.2 hc
      exact H
    · replace H := H.1 (Decidable.byContradiction hc)
      refine gs_E.stp (pc' := 41) (ls' := [gp_r (some 74), gp_l v1, gp_n, gp_l v3, gp_n, gp_i v5, gp_i v6, gp_i v7, gp_i (gp_wr (1280 + v7))]) (st' := [gp_i (gp_wr (1280 + v7)), gp_r (some 77)]) (s' := s) 3 rfl ?_
      refine gs_E.ck (pc' := 42) (ls' := [gp_r (some 74), gp_l v1, gp_n, gp_l v3, gp_n, gp_i v5, gp_i v6, gp_i v7, gp_i (gp_wr (1280 + v7))]) (st' := [gp_l (gp_L s 77 (gp_wr (1280 + v7)).toNat)]) (s' := s) rfl ⟨rfl, H.1.1, H.1.2⟩ ?_
      replace H := H.2
      refine gs_E.stp (pc' := 44) (ls' := [gp_r (some 74), gp_l v1, gp_n, gp_l v3, gp_n, gp_i v5, gp_i v6, gp_i v7, gp_i (gp_wr (1280 + v7))]) (st' := [gp_i (gp_cmp (gp_L s 77 (gp_wr (1280 + v7)).toNat) v3)]) (s' := s) 2 rfl ?_
      refine gs_E.br (c := ¬ (gp_cmp (gp_L s 77 (gp_wr (1280 + v7)).toNat) v3) = 0) (p1 := 86) (p2 := 47) (l1 := [gp_r (some 74), gp_l v1, gp_n, gp_l v3, gp_n, gp_i v5, gp_i v6, gp_i v7, gp_i (gp_wr (1280 + v7))]) (l2 := [gp_r (some 74), gp_l v1, gp_n, gp_l v3, gp_n, gp_i v5, gp_i v6, gp_i v7, gp_i (gp_wr (1280 + v7))]) (s1 := []) (s2 := []) rfl gs_b2 (fun hc => ?_) (fun hc => ?_)
      · replace H := H.2 hc
        exact H
      · replace H := H.1 (Decidable.byContradiction hc)
        refine gs_E.stp (pc' := 50) (ls' := [gp_r (some 74), gp_l v1, gp_n, gp_l v3, gp_n, gp_i v5, gp_i v6, gp_i v7, gp_i (gp_wr (1280 + v7))]) (st' := [gp_i (gp_cmp v1 (0#64))]) (s' := s) 3 rfl ?_
        refine gs_E.br (c := ¬ (gp_cmp v1 (0#64)) = 0) (p1 := 65) (p2 := 53) (l1 := [gp_r (some 74), gp_l v1, gp_n, gp_l v3, gp_n, gp_i v5, gp_i v6, gp_i v7, gp_i (gp_wr (1280 + v7))]) (l2 := [gp_r (some 74), gp_l v1, gp_n, gp_l v3, gp_n, gp_i v5, gp_i v6, gp_i v7, gp_i (gp_wr (1280 + v7))]) (s1 := []) (s2 := []) rfl gs_b2 (fun hc => ?_) (fun hc => ?_)
        · replace H := H.2 hc
          exact H
        · replace H := H.1 (Decidable.byContradiction hc)
          refine gs_E.stp (pc' := 59) (ls' := [gp_r (some 74), gp_l v1, gp_n, gp_l v3, gp_n, gp_i v5, gp_i v6, gp_i v7, gp_i (gp_wr (1280 + v7))]) (st' := [gp_i (gp_wr (1280 + v7)), gp_r (some 78)]) (s' := s) 3 rfl ?_
          refine gs_E.ck (pc' := 60) (ls' := [gp_r (some 74), gp_l v1, gp_n, gp_l v3, gp_n, gp_i v5, gp_i v6, gp_i v7, gp_i (gp_wr (1280 + v7))]) (st' := [gp_i (gp_I s 78 (gp_wr (1280 + v7)).toNat)]) (s' := s) rfl (Or.inl ⟨rfl, H.1.1, H.1.2⟩) ?_
          replace H := H.2
          refine gs_E.stp (pc' := 62) (ls' := [gp_r (some 74), gp_l v1, gp_n, gp_l v3, gp_n, gp_i v5, gp_i v6, gp_i v7, gp_i (gp_wr (1280 + v7))]) (st' := [gp_i v5, gp_i (gp_I s 78 (gp_wr (1280 + v7)).toNat)]) (s' := s) 1 rfl ?_
          refine gs_E.br (c := ¬ (gp_I s 78 (gp_wr (1280 + v7)).toNat) = v5) (p1 := 86) (p2 := 65) (l1 := [gp_r (some 74), gp_l v1, gp_n, gp_l v3, gp_n, gp_i v5, gp_i v6, gp_i v7, gp_i (gp_wr (1280 + v7))]) (l2 := [gp_r (some 74), gp_l v1, gp_n, gp_l v3, gp_n, gp_i v5, gp_i v6, gp_i v7, gp_i (gp_wr (1280 + v7))]) (s1 := []) (s2 := []) rfl gs_b2 (fun hc => ?_) (fun hc => ?_)
          · replace H := H.2 hc
            exact H
          · replace H := H.1 (Decidable.byContradiction hc)
            exact H

set_option maxRecDepth 100000 in
/-- GatheredPointsModel.made, pc 65 -/
theorem s_3088_65 {L d : Nat} {K : Option gV → gH → Prop} {s : gH} (v1 : BitVec 64) (v3 : BitVec 64) (v5 : Int) (v6 : Int) (v7 : Int) (v8 : Int) (H : (((gp_cmp v3 (0#64)) = 0 → ((0 ≤ v8 ∧ v8 < 5440) ∧ (((gp_I s 79 v8.toNat) = v6 → gs_E L (d + 1) 3088 83 [gp_r (some 74), gp_l v1, gp_n, gp_l v3, gp_n, gp_i v5, gp_i v6, gp_i v7, gp_i v8] [] s K) ∧ (¬ (gp_I s 79 v8.toNat) = v6 → gs_E L (d + 1) 3088 86 [gp_r (some 74), gp_l v1, gp_n, gp_l v3, gp_n, gp_i v5, gp_i v6, gp_i v7, gp_i v8] [] s K)))) ∧ (¬ (gp_cmp v3 (0#64)) = 0 → gs_E L (d + 1) 3088 83 [gp_r (some 74), gp_l v1, gp_n, gp_l v3, gp_n, gp_i v5, gp_i v6, gp_i v7, gp_i v8] [] s K))) : gs_E L (d + 1) 3088 65 [gp_r (some 74), gp_l v1, gp_n, gp_l v3, gp_n, gp_i v5, gp_i v6, gp_i v7, gp_i v8] [] s K := by
  refine gs_E.stp (pc' := 68) (ls' := [gp_r (some 74), gp_l v1, gp_n, gp_l v3, gp_n, gp_i v5, gp_i v6, gp_i v7, gp_i v8]) (st' := [gp_i (gp_cmp v3 (0#64))]) (s' := s) 3 rfl ?_
  refine gs_E.br (c := ¬ (gp_cmp v3 (0#64)) = 0) (p1 := 83) (p2 := 71) (l1 := [gp_r (some 74), gp_l v1, gp_n, gp_l v3, gp_n, gp_i v5, gp_i v6, gp_i v7, gp_i v8]) (l2 := [gp_r (some 74), gp_l v1, gp_n, gp_l v3, gp_n, gp_i v5, gp_i v6, gp_i v7, gp_i v8]) (s1 := []) (s2 := []) rfl gs_b2 (fun hc => ?_) (fun hc => ?_)
  · replace H := H.2 hc
    exact H
  · replace H := H.1 (Decidable.byContradiction hc)
    refine gs_E.stp (pc' := 77) (ls' := [gp_r (some 74), gp_l v1, gp_n, gp_l v3, gp_n, gp_i v5, gp_i v6, gp_i v7, gp_i v8]) (st' := [gp_i v8, gp_r (some 79)]) (s' := s) 3 rfl ?_
    refine gs_E.ck (pc' := 78) (ls' := [gp_r (some 74), gp_l v1, gp_n, gp_l v3, gp_n, gp_i v5, gp_i v6, gp_i v7, gp_i v8]) (st' := [gp_i (gp_I s 79 v8.toNat)]) (s' := s) rfl (Or.inl ⟨rfl, H.1.1, H.1.2⟩) ?_
    replace H := H.2
    refine gs_E.stp (pc' := 80) (ls' := [gp_r (some 74), gp_l v1, gp_n, gp_l v3, gp_n, gp_i v5, gp_i v6, gp_i v7, gp_i v8]) (st' := [gp_i v6, gp_i (gp_I s 79 v8.toNat)]) (s' := s) 1 rfl ?_
    refine gs_E.br (c := ¬ (gp_I s 79 v8.toNat) = v6) (p1 := 86) (p2 := 83) (l1 := [gp_r (some 74), gp_l v1, gp_n, gp_l v3, gp_n, gp_i v5, gp_i v6, gp_i v7, gp_i v8]) (l2 := [gp_r (some 74), gp_l v1, gp_n, gp_l v3, gp_n, gp_i v5, gp_i v6, gp_i v7, gp_i v8]) (s1 := []) (s2 := []) rfl gs_b2 (fun hc => ?_) (fun hc => ?_)
    · replace H := H.2 hc
      exact H
    · replace H := H.1 (Decidable.byContradiction hc)
      exact H

set_option maxRecDepth 100000 in
/-- GatheredPointsModel.made, pc 83 -/
theorem s_3088_83 {L d : Nat} {K : Option gV → gH → Prop} {s : gH} (v1 : BitVec 64) (v3 : BitVec 64) (v5 : Int) (v6 : Int) (v7 : Int) (v8 : Int) (H : K (some (gp_i v7)) s) : gs_E L (d + 1) 3088 83 [gp_r (some 74), gp_l v1, gp_n, gp_l v3, gp_n, gp_i v5, gp_i v6, gp_i v7, gp_i v8] [] s K := by
  refine gs_E.stp (pc' := 85) (ls' := [gp_r (some 74), gp_l v1, gp_n, gp_l v3, gp_n, gp_i v5, gp_i v6, gp_i v7, gp_i v8]) (st' := [gp_i v7]) (s' := s) 1 rfl ?_
  exact gs_E.ret (r := (some (gp_i v7))) rfl H

set_option maxRecDepth 100000 in
/-- GatheredPointsModel.made, pc 86 -/
theorem s_3088_86 {L d : Nat} {K : Option gV → gH → Prop} {s : gH} (v1 : BitVec 64) (v3 : BitVec 64) (v5 : Int) (v6 : Int) (v7 : Int) (v8 : Int) (H : gs_E L (d + 1) 3088 3 [gp_r (some 74), gp_l v1, gp_n, gp_l v3, gp_n, gp_i v5, gp_i v6, gp_i (gp_wr (v7 + 1)), gp_i v8] [] s K) : gs_E L (d + 1) 3088 86 [gp_r (some 74), gp_l v1, gp_n, gp_l v3, gp_n, gp_i v5, gp_i v6, gp_i v7, gp_i v8] [] s K := by
  refine gs_E.stp (pc' := 3) (ls' := [gp_r (some 74), gp_l v1, gp_n, gp_l v3, gp_n, gp_i v5, gp_i v6, gp_i (gp_wr (v7 + 1)), gp_i v8]) (st' := []) (s' := s) 2 rfl ?_
  exact H

set_option maxRecDepth 100000 in
/-- GatheredPointsModel.forgets, pc 0 -/
theorem s_3089_e {L d : Nat} {K : Option gV → gH → Prop} {s : gH}  (H : gs_E L d 3089 2 [gp_r (some 74), gp_i 0] [] s K) : gs_C L d 3089 2 [gp_r (some 74)] s K := by
  show gs_E L d 3089 0 [gp_r (some 74), gp_n] [] s K
  refine gs_E.stp (pc' := 2) (ls' := [gp_r (some 74), gp_i 0]) (st' := []) (s' := s) 2 rfl ?_
  exact H

set_option maxRecDepth 100000 in
/-- GatheredPointsModel.forgets, pc 2 -/
theorem s_3089_2 {L d : Nat} {K : Option gV → gH → Prop} {s : gH} (v1 : Int) (H : ((v1 < 4096 → ((0 ≤ v1 ∧ v1 < 4096) ∧ (∀ s1, s1 = gp_wI s 86 v1.toNat 0 → gs_E L d 3089 2 [gp_r (some 74), gp_i (gp_wr (v1 + 1))] [] s1 K))) ∧ (¬ v1 < 4096 → K none s))) : gs_E L d 3089 2 [gp_r (some 74), gp_i v1] [] s K := by
  refine gs_E.stp (pc' := 6) (ls' := [gp_r (some 74), gp_i v1]) (st' := [gp_i 4096, gp_i v1]) (s' := s) 2 rfl ?_
  refine gs_E.br (c := ¬ v1 < 4096) (p1 := 22) (p2 := 9) (l1 := [gp_r (some 74), gp_i v1]) (l2 := [gp_r (some 74), gp_i v1]) (s1 := []) (s2 := []) rfl gs_b2 (fun hc => ?_) (fun hc => ?_)
  · replace H := H.2 hc
    exact gs_E.ret (r := none) rfl H
  · replace H := H.1 (Decidable.byContradiction hc)
    refine gs_E.stp (pc' := 15) (ls' := [gp_r (some 74), gp_i v1]) (st' := [gp_i 0, gp_i v1, gp_r (some 86)]) (s' := s) 4 rfl ?_
    refine gs_E.ck (pc' := 16) (ls' := [gp_r (some 74), gp_i v1]) (st' := []) (s' := gp_wI s 86 v1.toNat 0) rfl ⟨rfl, H.1.1, H.1.2⟩ ?_
    replace H := H.2 _ rfl
    generalize gp_wI s 86 v1.toNat 0 = s1 at H ⊢
    refine gs_E.stp (pc' := 2) (ls' := [gp_r (some 74), gp_i (gp_wr (v1 + 1))]) (st' := []) (s' := s1) 2 rfl ?_
    exact H

set_option maxRecDepth 100000 in
/-- GatheredPointsModel.order, pc 0 -/
theorem s_3090_e {L d : Nat} {K : Option gV → gH → Prop} {s : gH} (p0 : Int) (p1 : Int) (p2 : Int) (p3 : Int) (H : ((0 ≤ (gp_wr ((gp_wr (64 * p1)) + p3)) ∧ (gp_wr ((gp_wr (64 * p1)) + p3)) < 4096) ∧ (((gp_I s 86 (gp_wr ((gp_wr (64 * p1)) + p3)).toNat) = 0 → ((0 ≤ (gp_wr ((gp_wr (64 * p0)) + p1)) ∧ (gp_wr ((gp_wr (64 * p0)) + p1)) < 5440) ∧ ((0 ≤ (gp_wr ((gp_wr (64 * p2)) + p3)) ∧ (gp_wr ((gp_wr (64 * p2)) + p3)) < 5440) ∧ (((gp_I s 80 (gp_wr ((gp_wr (64 * p0)) + p1)).toNat) < (gp_I s 80 (gp_wr ((gp_wr (64 * p2)) + p3)).toNat) → gs_E L (d + 1) 3090 65 [gp_r (some 74), gp_i p0, gp_i p1, gp_i p2, gp_i p3, gp_i (gp_I s 80 (gp_wr ((gp_wr (64 * p0)) + p1)).toNat), gp_i (gp_I s 80 (gp_wr ((gp_wr (64 * p2)) + p3)).toNat), gp_n, gp_n] [gp_i (-1)] s K) ∧ (¬ (gp_I s 80 (gp_wr ((gp_wr (64 * p0)) + p1)).toNat) < (gp_I s 80 (gp_wr ((gp_wr (64 * p2)) + p3)).toNat) → (((gp_I s 80 (gp_wr ((gp_wr (64 * p2)) + p3)).toNat) < (gp_I s 80 (gp_wr ((gp_wr (64 * p0)) + p1)).toNat) → gs_E L (d + 1) 3090 65 [gp_r (some 74), gp_i p0, gp_i p1, gp_i p2, gp_i p3, gp_i (gp_I s 80 (gp_wr ((gp_wr (64 * p0)) + p1)).toNat), gp_i (gp_I s 80 (gp_wr ((gp_wr (64 * p2)) + p3)).toNat), gp_n, gp_n] [gp_i 1] s K) ∧ (¬ (gp_I s 80 (gp_wr ((gp_wr (64 * p2)) + p3)).toNat) < (gp_I s 80 (gp_wr ((gp_wr (64 * p0)) + p1)).toNat) → gs_E L (d + 1) 3090 65 [gp_r (some 74), gp_i p0, gp_i p1, gp_i p2, gp_i p3, gp_i (gp_I s 80 (gp_wr ((gp_wr (64 * p0)) + p1)).toNat), gp_i (gp_I s 80 (gp_wr ((gp_wr (64 * p2)) + p3)).toNat), gp_n, gp_n] [gp_i 0] s K))))))) ∧ (¬ (gp_I s 86 (gp_wr ((gp_wr (64 * p1)) + p3)).toNat) = 0 → gs_E L (d + 1) 3090 145 [gp_r (some 74), gp_i p0, gp_i p1, gp_i p2, gp_i p3, gp_n, gp_n, gp_n, gp_n] [] s K)))) : gs_C L (d + 1) 3090 9 [gp_r (some 74), gp_i p0, gp_i p1, gp_i p2, gp_i p3] s K := by
  show gs_E L (d + 1) 3090 0 [gp_r (some 74), gp_i p0, gp_i p1, gp_i p2, gp_i p3, gp_n, gp_n, gp_n, gp_n] [] s K
  refine gs_E.stp (pc' := 11) (ls' := [gp_r (some 74), gp_i p0, gp_i p1, gp_i p2, gp_i p3, gp_n, gp_n, gp_n, gp_n]) (st' := [gp_i (gp_wr ((gp_wr (64 * p1)) + p3)), gp_r (some 86)]) (s' := s) 7 rfl ?_
  refine gs_E.ck (pc' := 12) (ls' := [gp_r (some 74), gp_i p0, gp_i p1, gp_i p2, gp_i p3, gp_n, gp_n, gp_n, gp_n]) (st' := [gp_i (gp_I s 86 (gp_wr ((gp_wr (64 * p1)) + p3)).toNat)]) (s' := s) rfl (Or.inl ⟨rfl, H.1.1, H.1.2⟩) ?_
  replace H := H.2
  refine gs_E.br (c := ¬ (gp_I s 86 (gp_wr ((gp_wr (64 * p1)) + p3)).toNat) = 0) (p1 := 145) (p2 := 15) (l1 := [gp_r (some 74), gp_i p0, gp_i p1, gp_i p2, gp_i p3, gp_n, gp_n, gp_n, gp_n]) (l2 := [gp_r (some 74), gp_i p0, gp_i p1, gp_i p2, gp_i p3, gp_n, gp_n, gp_n, gp_n]) (s1 := []) (s2 := []) rfl gs_b2 (fun hc => ?_) (fun hc => ?_)
  · replace H := H.2 hc
    exact H
  · replace H := H.1 (Decidable.byContradiction hc)
    refine gs_E.stp (pc' := 25) (ls' := [gp_r (some 74), gp_i p0, gp_i p1, gp_i p2, gp_i p3, gp_n, gp_n, gp_n, gp_n]) (st' := [gp_i (gp_wr ((gp_wr (64 * p0)) + p1)), gp_r (some 80)]) (s' := s) 7 rfl ?_
    refine gs_E.ck (pc' := 26) (ls' := [gp_r (some 74), gp_i p0, gp_i p1, gp_i p2, gp_i p3, gp_n, gp_n, gp_n, gp_n]) (st' := [gp_i (gp_I s 80 (gp_wr ((gp_wr (64 * p0)) + p1)).toNat)]) (s' := s) rfl (Or.inl ⟨rfl, H.1.1, H.1.2⟩) ?_
    replace H := H.2
    refine gs_E.stp (pc' := 39) (ls' := [gp_r (some 74), gp_i p0, gp_i p1, gp_i p2, gp_i p3, gp_i (gp_I s 80 (gp_wr ((gp_wr (64 * p0)) + p1)).toNat), gp_n, gp_n, gp_n]) (st' := [gp_i (gp_wr ((gp_wr (64 * p2)) + p3)), gp_r (some 80)]) (s' := s) 8 rfl ?_
    refine gs_E.ck (pc' := 40) (ls' := [gp_r (some 74), gp_i p0, gp_i p1, gp_i p2, gp_i p3, gp_i (gp_I s 80 (gp_wr ((gp_wr (64 * p0)) + p1)).toNat), gp_n, gp_n, gp_n]) (st' := [gp_i (gp_I s 80 (gp_wr ((gp_wr (64 * p2)) + p3)).toNat)]) (s' := s) rfl (Or.inl ⟨rfl, H.1.1, H.1.2⟩) ?_
    replace H := H.2
    refine gs_E.stp (pc' := 46) (ls' := [gp_r (some 74), gp_i p0, gp_i p1, gp_i p2, gp_i p3, gp_i (gp_I s 80 (gp_wr ((gp_wr (64 * p0)) + p1)).toNat), gp_i (gp_I s 80 (gp_wr ((gp_wr (64 * p2)) + p3)).toNat), gp_n, gp_n]) (st' := [gp_i (gp_I s 80 (gp_wr ((gp_wr (64 * p2)) + p3)).toNat), gp_i (gp_I s 80 (gp_wr ((gp_wr (64 * p0)) + p1)).toNat)]) (s' := s) 3 rfl ?_
    refine gs_E.br (c := ¬ (gp_I s 80 (gp_wr ((gp_wr (64 * p0)) + p1)).toNat) < (gp_I s 80 (gp_wr ((gp_wr (64 * p2)) + p3)).toNat)) (p1 := 53) (p2 := 49) (l1 := [gp_r (some 74), gp_i p0, gp_i p1, gp_i p2, gp_i p3, gp_i (gp_I s 80 (gp_wr ((gp_wr (64 * p0)) + p1)).toNat), gp_i (gp_I s 80 (gp_wr ((gp_wr (64 * p2)) + p3)).toNat), gp_n, gp_n]) (l2 := [gp_r (some 74), gp_i p0, gp_i p1, gp_i p2, gp_i p3, gp_i (gp_I s 80 (gp_wr ((gp_wr (64 * p0)) + p1)).toNat), gp_i (gp_I s 80 (gp_wr ((gp_wr (64 * p2)) + p3)).toNat), gp_n, gp_n]) (s1 := []) (s2 := []) rfl gs_b2 (fun hc => ?_) (fun hc => ?_)
    · replace H := H.2 hc
      refine gs_E.stp (pc' := 57) (ls' := [gp_r (some 74), gp_i p0, gp_i p1, gp_i p2, gp_i p3, gp_i (gp_I s 80 (gp_wr ((gp_wr (64 * p0)) + p1)).toNat), gp_i (gp_I s 80 (gp_wr ((gp_wr (64 * p2)) + p3)).toNat), gp_n, gp_n]) (st' := [gp_i (gp_I s 80 (gp_wr ((gp_wr (64 * p2)) + p3)).toNat), gp_i (gp_I s 80 (gp_wr ((gp_wr (64 * p0)) + p1)).toNat)]) (s' := s) 2 rfl ?_
      refine gs_E.br (c := ¬ (gp_I s 80 (gp_wr ((gp_wr (64 * p2)) + p3)).toNat) < (gp_I s 80 (gp_wr ((gp_wr (64 * p0)) + p1)).toNat)) (p1 := 64) (p2 := 60) (l1 := [gp_r (some 74), gp_i p0, gp_i p1, gp_i p2, gp_i p3, gp_i (gp_I s 80 (gp_wr ((gp_wr (64 * p0)) + p1)).toNat), gp_i (gp_I s 80 (gp_wr ((gp_wr (64 * p2)) + p3)).toNat), gp_n, gp_n]) (l2 := [gp_r (some 74), gp_i p0, gp_i p1, gp_i p2, gp_i p3, gp_i (gp_I s 80 (gp_wr ((gp_wr (64 * p0)) + p1)).toNat), gp_i (gp_I s 80 (gp_wr ((gp_wr (64 * p2)) + p3)).toNat), gp_n, gp_n]) (s1 := []) (s2 := []) rfl gs_b2 (fun hc => ?_) (fun hc => ?_)
      · replace H := H.2 hc
        refine gs_E.stp (pc' := 65) (ls' := [gp_r (some 74), gp_i p0, gp_i p1, gp_i p2, gp_i p3, gp_i (gp_I s 80 (gp_wr ((gp_wr (64 * p0)) + p1)).toNat), gp_i (gp_I s 80 (gp_wr ((gp_wr (64 * p2)) + p3)).toNat), gp_n, gp_n]) (st' := [gp_i 0]) (s' := s) 1 rfl ?_
        exact H
      · replace H := H.1 (Decidable.byContradiction hc)
        refine gs_E.stp (pc' := 65) (ls' := [gp_r (some 74), gp_i p0, gp_i p1, gp_i p2, gp_i p3, gp_i (gp_I s 80 (gp_wr ((gp_wr (64 * p0)) + p1)).toNat), gp_i (gp_I s 80 (gp_wr ((gp_wr (64 * p2)) + p3)).toNat), gp_n, gp_n]) (st' := [gp_i 1]) (s' := s) 2 rfl ?_
        exact H
    · replace H := H.1 (Decidable.byContradiction hc)
      refine gs_E.stp (pc' := 65) (ls' := [gp_r (some 74), gp_i p0, gp_i p1, gp_i p2, gp_i p3, gp_i (gp_I s 80 (gp_wr ((gp_wr (64 * p0)) + p1)).toNat), gp_i (gp_I s 80 (gp_wr ((gp_wr (64 * p2)) + p3)).toNat), gp_n, gp_n]) (st' := [gp_i (-1)]) (s' := s) 2 rfl ?_
      exact H

set_option maxRecDepth 100000 in
/-- GatheredPointsModel.order, pc 65 -/
theorem s_3090_65 {L d : Nat} {K : Option gV → gH → Prop} {s : gH} (v1 : Int) (v2 : Int) (v3 : Int) (v4 : Int) (v5 : Int) (v6 : Int) (v7 : gV) (v8 : gV) (w0 : Int) (H : gs_E L (d + 1) 3090 70 [gp_r (some 74), gp_i v1, gp_i v2, gp_i v3, gp_i v4, gp_i v5, gp_i v6, gp_i w0, gp_i 0] [] s K) : gs_E L (d + 1) 3090 65 [gp_r (some 74), gp_i v1, gp_i v2, gp_i v3, gp_i v4, gp_i v5, gp_i v6, v7, v8] [gp_i w0] s K := by
  refine gs_E.stp (pc' := 70) (ls' := [gp_r (some 74), gp_i v1, gp_i v2, gp_i v3, gp_i v4, gp_i v5, gp_i v6, gp_i w0, gp_i 0]) (st' := []) (s' := s) 3 rfl ?_
  exact H

set_option maxRecDepth 100000 in
/-- GatheredPointsModel.order, pc 70 -/
theorem s_3090_70 {L d : Nat} {K : Option gV → gH → Prop} {s : gH} (v1 : Int) (v2 : Int) (v3 : Int) (v4 : Int) (v5 : Int) (v6 : Int) (v7 : Int) (v8 : Int) (H : ((v8 < 2 → ((v7 = 0 → gs_C L d 3082 4 [gp_r (some 74), gp_i v1, gp_i v2, gp_i v8] s (fun r s1 => ∃ m2, r = some (gp_l m2) ∧ gs_C L d 3083 4 [gp_r (some 74), gp_i v1, gp_i v2, gp_i v8] s1 (fun r s3 => ∃ x4, r = some (gp_i x4) ∧ gs_C L d 3082 4 [gp_r (some 74), gp_i v3, gp_i v4, gp_i v8] s3 (fun r s5 => ∃ m6, r = some (gp_l m6) ∧ gs_C L d 3083 4 [gp_r (some 74), gp_i v3, gp_i v4, gp_i v8] s5 (fun r s7 => ∃ x8, r = some (gp_i x8) ∧ gs_C L d 3091 13 [gp_r (some 74), gp_i v1, gp_l m2, gp_i x4, gp_i v3, gp_l m6, gp_i x8] s7 (fun r s9 => ∃ x10, r = some (gp_i x10) ∧ gs_E L (d + 1) 3090 70 [gp_r (some 74), gp_i v1, gp_i v2, gp_i v3, gp_i v4, gp_i v5, gp_i v6, gp_i x10, gp_i (gp_wr (v8 + 1))] [] s9 K)))))) ∧ (¬ v7 = 0 → gs_E L (d + 1) 3090 129 [gp_r (some 74), gp_i v1, gp_i v2, gp_i v3, gp_i v4, gp_i v5, gp_i v6, gp_i v7, gp_i v8] [] s K))) ∧ (¬ v8 < 2 → gs_E L (d + 1) 3090 129 [gp_r (some 74), gp_i v1, gp_i v2, gp_i v3, gp_i v4, gp_i v5, gp_i v6, gp_i v7, gp_i v8] [] s K))) : gs_E L (d + 1) 3090 70 [gp_r (some 74), gp_i v1, gp_i v2, gp_i v3, gp_i v4, gp_i v5, gp_i v6, gp_i v7, gp_i v8] [] s K := by
  refine gs_E.stp (pc' := 73) (ls' := [gp_r (some 74), gp_i v1, gp_i v2, gp_i v3, gp_i v4, gp_i v5, gp_i v6, gp_i v7, gp_i v8]) (st' := [gp_i 2, gp_i v8]) (s' := s) 2 rfl ?_
  refine gs_E.br (c := ¬ v8 < 2) (p1 := 129) (p2 := 76) (l1 := [gp_r (some 74), gp_i v1, gp_i v2, gp_i v3, gp_i v4, gp_i v5, gp_i v6, gp_i v7, gp_i v8]) (l2 := [gp_r (some 74), gp_i v1, gp_i v2, gp_i v3, gp_i v4, gp_i v5, gp_i v6, gp_i v7, gp_i v8]) (s1 := []) (s2 := []) rfl gs_b2 (fun hc => ?_) (fun hc => ?_)
  · replace H := H.2 hc
    exact H
  · replace H := H.1 (Decidable.byContradiction hc)
    refine gs_E.stp (pc' := 78) (ls' := [gp_r (some 74), gp_i v1, gp_i v2, gp_i v3, gp_i v4, gp_i v5, gp_i v6, gp_i v7, gp_i v8]) (st' := [gp_i v7]) (s' := s) 1 rfl ?_
    refine gs_E.br (c := ¬ v7 = 0) (p1 := 129) (p2 := 81) (l1 := [gp_r (some 74), gp_i v1, gp_i v2, gp_i v3, gp_i v4, gp_i v5, gp_i v6, gp_i v7, gp_i v8]) (l2 := [gp_r (some 74), gp_i v1, gp_i v2, gp_i v3, gp_i v4, gp_i v5, gp_i v6, gp_i v7, gp_i v8]) (s1 := []) (s2 := []) rfl gs_b2 (fun hc => ?_) (fun hc => ?_)
    · replace H := H.2 hc
      exact H
    · replace H := H.1 (Decidable.byContradiction hc)
      refine gs_E.stp (pc' := 88) (ls' := [gp_r (some 74), gp_i v1, gp_i v2, gp_i v3, gp_i v4, gp_i v5, gp_i v6, gp_i v7, gp_i v8]) (st' := [gp_i v8, gp_i v2, gp_i v1, gp_r (some 74), gp_i v1, gp_r (some 74)]) (s' := s) 6 rfl ?_
      refine gs_E.call (args := [gp_r (some 74), gp_i v1, gp_i v2, gp_i v8]) (m := 4) (y' := 3082) (st' := [gp_i v1, gp_r (some 74)]) rfl H (fun r s1 H => ?_)
      obtain ⟨m2, rfl, H⟩ := H
      show gs_E L (d + 1) 3090 91 [gp_r (some 74), gp_i v1, gp_i v2, gp_i v3, gp_i v4, gp_i v5, gp_i v6, gp_i v7, gp_i v8] [gp_l m2, gp_i v1, gp_r (some 74)] s1 K
      refine gs_E.stp (pc' := 96) (ls' := [gp_r (some 74), gp_i v1, gp_i v2, gp_i v3, gp_i v4, gp_i v5, gp_i v6, gp_i v7, gp_i v8]) (st' := [gp_i v8, gp_i v2, gp_i v1, gp_r (some 74), gp_l m2, gp_i v1, gp_r (some 74)]) (s' := s1) 4 rfl ?_
      refine gs_E.call (args := [gp_r (some 74), gp_i v1, gp_i v2, gp_i v8]) (m := 4) (y' := 3083) (st' := [gp_l m2, gp_i v1, gp_r (some 74)]) rfl H (fun r s3 H => ?_)
      obtain ⟨x4, rfl, H⟩ := H
      show gs_E L (d + 1) 3090 99 [gp_r (some 74), gp_i v1, gp_i v2, gp_i v3, gp_i v4, gp_i v5, gp_i v6, gp_i v7, gp_i v8] [gp_i x4, gp_l m2, gp_i v1, gp_r (some 74)] s3 K
      refine gs_E.stp (pc' := 106) (ls' := [gp_r (some 74), gp_i v1, gp_i v2, gp_i v3, gp_i v4, gp_i v5, gp_i v6, gp_i v7, gp_i v8]) (st' := [gp_i v8, gp_i v4, gp_i v3, gp_r (some 74), gp_i v3, gp_i x4, gp_l m2, gp_i v1, gp_r (some 74)]) (s' := s3) 5 rfl ?_
      refine gs_E.call (args := [gp_r (some 74), gp_i v3, gp_i v4, gp_i v8]) (m := 4) (y' := 3082) (st' := [gp_i v3, gp_i x4, gp_l m2, gp_i v1, gp_r (some 74)]) rfl H (fun r s5 H => ?_)
      obtain ⟨m6, rfl, H⟩ := H
      show gs_E L (d + 1) 3090 109 [gp_r (some 74), gp_i v1, gp_i v2, gp_i v3, gp_i v4, gp_i v5, gp_i v6, gp_i v7, gp_i v8] [gp_l m6, gp_i v3, gp_i x4, gp_l m2, gp_i v1, gp_r (some 74)] s5 K
      refine gs_E.stp (pc' := 115) (ls' := [gp_r (some 74), gp_i v1, gp_i v2, gp_i v3, gp_i v4, gp_i v5, gp_i v6, gp_i v7, gp_i v8]) (st' := [gp_i v8, gp_i v4, gp_i v3, gp_r (some 74), gp_l m6, gp_i v3, gp_i x4, gp_l m2, gp_i v1, gp_r (some 74)]) (s' := s5) 4 rfl ?_
      refine gs_E.call (args := [gp_r (some 74), gp_i v3, gp_i v4, gp_i v8]) (m := 4) (y' := 3083) (st' := [gp_l m6, gp_i v3, gp_i x4, gp_l m2, gp_i v1, gp_r (some 74)]) rfl H (fun r s7 H => ?_)
      obtain ⟨x8, rfl, H⟩ := H
      show gs_E L (d + 1) 3090 118 [gp_r (some 74), gp_i v1, gp_i v2, gp_i v3, gp_i v4, gp_i v5, gp_i v6, gp_i v7, gp_i v8] [gp_i x8, gp_l m6, gp_i v3, gp_i x4, gp_l m2, gp_i v1, gp_r (some 74)] s7 K
      refine gs_E.call (args := [gp_r (some 74), gp_i v1, gp_l m2, gp_i x4, gp_i v3, gp_l m6, gp_i x8]) (m := 13) (y' := 3091) (st' := []) rfl H (fun r s9 H => ?_)
      obtain ⟨x10, rfl, H⟩ := H
      show gs_E L (d + 1) 3090 121 [gp_r (some 74), gp_i v1, gp_i v2, gp_i v3, gp_i v4, gp_i v5, gp_i v6, gp_i v7, gp_i v8] [gp_i x10] s9 K
      refine gs_E.stp (pc' := 70) (ls' := [gp_r (some 74), gp_i v1, gp_i v2, gp_i v3, gp_i v4, gp_i v5, gp_i v6, gp_i x10, gp_i (gp_wr (v8 + 1))]) (st' := []) (s' := s9) 3 rfl ?_
      exact H

set_option maxRecDepth 100000 in
/-- GatheredPointsModel.order, pc 129 -/
theorem s_3090_129 {L d : Nat} {K : Option gV → gH → Prop} {s : gH} (v1 : Int) (v2 : Int) (v3 : Int) (v4 : Int) (v5 : Int) (v6 : Int) (v7 : Int) (v8 : Int) (H : ((0 ≤ (gp_wr ((gp_wr (64 * v2)) + v4)) ∧ (gp_wr ((gp_wr (64 * v2)) + v4)) < 4096) ∧ (∀ s1, s1 = gp_wI s 86 (gp_wr ((gp_wr (64 * v2)) + v4)).toNat (gp_wr (2 + v7)) → gs_E L (d + 1) 3090 145 [gp_r (some 74), gp_i v1, gp_i v2, gp_i v3, gp_i v4, gp_i v5, gp_i v6, gp_i v7, gp_i v8] [] s1 K))) : gs_E L (d + 1) 3090 129 [gp_r (some 74), gp_i v1, gp_i v2, gp_i v3, gp_i v4, gp_i v5, gp_i v6, gp_i v7, gp_i v8] [] s K := by
  refine gs_E.stp (pc' := 144) (ls' := [gp_r (some 74), gp_i v1, gp_i v2, gp_i v3, gp_i v4, gp_i v5, gp_i v6, gp_i v7, gp_i v8]) (st' := [gp_i (gp_wr (2 + v7)), gp_i (gp_wr ((gp_wr (64 * v2)) + v4)), gp_r (some 86)]) (s' := s) 10 rfl ?_
  refine gs_E.ck (pc' := 145) (ls' := [gp_r (some 74), gp_i v1, gp_i v2, gp_i v3, gp_i v4, gp_i v5, gp_i v6, gp_i v7, gp_i v8]) (st' := []) (s' := gp_wI s 86 (gp_wr ((gp_wr (64 * v2)) + v4)).toNat (gp_wr (2 + v7))) rfl ⟨rfl, H.1.1, H.1.2⟩ ?_
  replace H := H.2 _ rfl
  generalize gp_wI s 86 (gp_wr ((gp_wr (64 * v2)) + v4)).toNat (gp_wr (2 + v7)) = s1 at H ⊢
  exact H

set_option maxRecDepth 100000 in
/-- GatheredPointsModel.order, pc 145 -/
theorem s_3090_145 {L d : Nat} {K : Option gV → gH → Prop} {s : gH} (v1 : Int) (v2 : Int) (v3 : Int) (v4 : Int) (v5 : gV) (v6 : gV) (v7 : gV) (v8 : gV) (H : ((0 ≤ (gp_wr ((gp_wr (64 * v2)) + v4)) ∧ (gp_wr ((gp_wr (64 * v2)) + v4)) < 4096) ∧ K (some (gp_i (gp_wr ((gp_I s 86 (gp_wr ((gp_wr (64 * v2)) + v4)).toNat) - 2)))) s)) : gs_E L (d + 1) 3090 145 [gp_r (some 74), gp_i v1, gp_i v2, gp_i v3, gp_i v4, v5, v6, v7, v8] [] s K := by
  refine gs_E.stp (pc' := 156) (ls' := [gp_r (some 74), gp_i v1, gp_i v2, gp_i v3, gp_i v4, v5, v6, v7, v8]) (st' := [gp_i (gp_wr ((gp_wr (64 * v2)) + v4)), gp_r (some 86)]) (s' := s) 7 rfl ?_
  refine gs_E.ck (pc' := 157) (ls' := [gp_r (some 74), gp_i v1, gp_i v2, gp_i v3, gp_i v4, v5, v6, v7, v8]) (st' := [gp_i (gp_I s 86 (gp_wr ((gp_wr (64 * v2)) + v4)).toNat)]) (s' := s) rfl (Or.inl ⟨rfl, H.1.1, H.1.2⟩) ?_
  replace H := H.2
  refine gs_E.stp (pc' := 159) (ls' := [gp_r (some 74), gp_i v1, gp_i v2, gp_i v3, gp_i v4, v5, v6, v7, v8]) (st' := [gp_i (gp_wr ((gp_I s 86 (gp_wr ((gp_wr (64 * v2)) + v4)).toNat) - 2))]) (s' := s) 2 rfl ?_
  exact gs_E.ret (r := (some (gp_i (gp_wr ((gp_I s 86 (gp_wr ((gp_wr (64 * v2)) + v4)).toNat) - 2))))) rfl H

set_option maxRecDepth 100000 in
/-- GatheredPointsModel.orderOfSides, pc 0 -/
theorem s_3091_e {L d : Nat} {K : Option gV → gH → Prop} {s : gH} (p0 : Int) (p1 : BitVec 64) (p2 : Int) (p3 : Int) (p4 : BitVec 64) (p5 : Int) (H : (((gp_cmp p1 (0#64)) = 0 → (((gp_cmp p4 (0#64)) = 0 → ((p2 < p5 → gs_E L (d + 1) 3091 36 [gp_r (some 74), gp_i p0, gp_l p1, gp_n, gp_i p2, gp_i p3, gp_l p4, gp_n, gp_i p5, gp_n, gp_n, gp_n, gp_n] [gp_i (-1)] s K) ∧ (¬ p2 < p5 → ((p5 < p2 → gs_E L (d + 1) 3091 36 [gp_r (some 74), gp_i p0, gp_l p1, gp_n, gp_i p2, gp_i p3, gp_l p4, gp_n, gp_i p5, gp_n, gp_n, gp_n, gp_n] [gp_i 1] s K) ∧ (¬ p5 < p2 → gs_E L (d + 1) 3091 36 [gp_r (some 74), gp_i p0, gp_l p1, gp_n, gp_i p2, gp_i p3, gp_l p4, gp_n, gp_i p5, gp_n, gp_n, gp_n, gp_n] [gp_i 0] s K))))) ∧ (¬ (gp_cmp p4 (0#64)) = 0 → gs_E L (d + 1) 3091 37 [gp_r (some 74), gp_i p0, gp_l p1, gp_n, gp_i p2, gp_i p3, gp_l p4, gp_n, gp_i p5, gp_n, gp_n, gp_n, gp_n] [] s K))) ∧ (¬ (gp_cmp p1 (0#64)) = 0 → gs_E L (d + 1) 3091 37 [gp_r (some 74), gp_i p0, gp_l p1, gp_n, gp_i p2, gp_i p3, gp_l p4, gp_n, gp_i p5, gp_n, gp_n, gp_n, gp_n] [] s K))) : gs_C L (d + 1) 3091 13 [gp_r (some 74), gp_i p0, gp_l p1, gp_i p2, gp_i p3, gp_l p4, gp_i p5] s K := by
  show gs_E L (d + 1) 3091 0 [gp_r (some 74), gp_i p0, gp_l p1, gp_n, gp_i p2, gp_i p3, gp_l p4, gp_n, gp_i p5, gp_n, gp_n, gp_n, gp_n] [] s K
  refine gs_E.stp (pc' := 3) (ls' := [gp_r (some 74), gp_i p0, gp_l p1, gp_n, gp_i p2, gp_i p3, gp_l p4, gp_n, gp_i p5, gp_n, gp_n, gp_n, gp_n]) (st' := [gp_i (gp_cmp p1 (0#64))]) (s' := s) 3 rfl ?_
  refine gs_E.br (c := ¬ (gp_cmp p1 (0#64)) = 0) (p1 := 37) (p2 := 6) (l1 := [gp_r (some 74), gp_i p0, gp_l p1, gp_n, gp_i p2, gp_i p3, gp_l p4, gp_n, gp_i p5, gp_n, gp_n, gp_n, gp_n]) (l2 := [gp_r (some 74), gp_i p0, gp_l p1, gp_n, gp_i p2, gp_i p3, gp_l p4, gp_n, gp_i p5, gp_n, gp_n, gp_n, gp_n]) (s1 := []) (s2 := []) rfl gs_b2 (fun hc => ?_) (fun hc => ?_)
  · replace H := H.2 hc
    exact H
  · replace H := H.1 (Decidable.byContradiction hc)
    refine gs_E.stp (pc' := 10) (ls' := [gp_r (some 74), gp_i p0, gp_l p1, gp_n, gp_i p2, gp_i p3, gp_l p4, gp_n, gp_i p5, gp_n, gp_n, gp_n, gp_n]) (st' := [gp_i (gp_cmp p4 (0#64))]) (s' := s) 3 rfl ?_
    refine gs_E.br (c := ¬ (gp_cmp p4 (0#64)) = 0) (p1 := 37) (p2 := 13) (l1 := [gp_r (some 74), gp_i p0, gp_l p1, gp_n, gp_i p2, gp_i p3, gp_l p4, gp_n, gp_i p5, gp_n, gp_n, gp_n, gp_n]) (l2 := [gp_r (some 74), gp_i p0, gp_l p1, gp_n, gp_i p2, gp_i p3, gp_l p4, gp_n, gp_i p5, gp_n, gp_n, gp_n, gp_n]) (s1 := []) (s2 := []) rfl gs_b2 (fun hc => ?_) (fun hc => ?_)
    · replace H := H.2 hc
      exact H
    · replace H := H.1 (Decidable.byContradiction hc)
      refine gs_E.stp (pc' := 17) (ls' := [gp_r (some 74), gp_i p0, gp_l p1, gp_n, gp_i p2, gp_i p3, gp_l p4, gp_n, gp_i p5, gp_n, gp_n, gp_n, gp_n]) (st' := [gp_i p5, gp_i p2]) (s' := s) 2 rfl ?_
      refine gs_E.br (c := ¬ p2 < p5) (p1 := 24) (p2 := 20) (l1 := [gp_r (some 74), gp_i p0, gp_l p1, gp_n, gp_i p2, gp_i p3, gp_l p4, gp_n, gp_i p5, gp_n, gp_n, gp_n, gp_n]) (l2 := [gp_r (some 74), gp_i p0, gp_l p1, gp_n, gp_i p2, gp_i p3, gp_l p4, gp_n, gp_i p5, gp_n, gp_n, gp_n, gp_n]) (s1 := []) (s2 := []) rfl gs_b2 (fun hc => ?_) (fun hc => ?_)
      · replace H := H.2 hc
        refine gs_E.stp (pc' := 28) (ls' := [gp_r (some 74), gp_i p0, gp_l p1, gp_n, gp_i p2, gp_i p3, gp_l p4, gp_n, gp_i p5, gp_n, gp_n, gp_n, gp_n]) (st' := [gp_i p5, gp_i p2]) (s' := s) 2 rfl ?_
        refine gs_E.br (c := ¬ p5 < p2) (p1 := 35) (p2 := 31) (l1 := [gp_r (some 74), gp_i p0, gp_l p1, gp_n, gp_i p2, gp_i p3, gp_l p4, gp_n, gp_i p5, gp_n, gp_n, gp_n, gp_n]) (l2 := [gp_r (some 74), gp_i p0, gp_l p1, gp_n, gp_i p2, gp_i p3, gp_l p4, gp_n, gp_i p5, gp_n, gp_n, gp_n, gp_n]) (s1 := []) (s2 := []) rfl gs_b2 (fun hc => ?_) (fun hc => ?_)
        · replace H := H.2 hc
          refine gs_E.stp (pc' := 36) (ls' := [gp_r (some 74), gp_i p0, gp_l p1, gp_n, gp_i p2, gp_i p3, gp_l p4, gp_n, gp_i p5, gp_n, gp_n, gp_n, gp_n]) (st' := [gp_i 0]) (s' := s) 1 rfl ?_
          exact H
        · replace H := H.1 (Decidable.byContradiction hc)
          refine gs_E.stp (pc' := 36) (ls' := [gp_r (some 74), gp_i p0, gp_l p1, gp_n, gp_i p2, gp_i p3, gp_l p4, gp_n, gp_i p5, gp_n, gp_n, gp_n, gp_n]) (st' := [gp_i 1]) (s' := s) 2 rfl ?_
          exact H
      · replace H := H.1 (Decidable.byContradiction hc)
        refine gs_E.stp (pc' := 36) (ls' := [gp_r (some 74), gp_i p0, gp_l p1, gp_n, gp_i p2, gp_i p3, gp_l p4, gp_n, gp_i p5, gp_n, gp_n, gp_n, gp_n]) (st' := [gp_i (-1)]) (s' := s) 2 rfl ?_
        exact H

set_option maxRecDepth 100000 in
/-- GatheredPointsModel.orderOfSides, pc 36 -/
theorem s_3091_36 {L d : Nat} {K : Option gV → gH → Prop} {s : gH} (v1 : Int) (v2 : BitVec 64) (v4 : Int) (v5 : Int) (v6 : BitVec 64) (v8 : Int) (v9 : gV) (v10 : gV) (v11 : gV) (v12 : gV) (w0 : Int) (H : K (some (gp_i w0)) s) : gs_E L (d + 1) 3091 36 [gp_r (some 74), gp_i v1, gp_l v2, gp_n, gp_i v4, gp_i v5, gp_l v6, gp_n, gp_i v8, v9, v10, v11, v12] [gp_i w0] s K := by
  exact gs_E.ret (r := (some (gp_i w0))) rfl H

set_option maxRecDepth 100000 in
/-- GatheredPointsModel.orderOfSides, pc 37 -/
theorem s_3091_37 {L d : Nat} {K : Option gV → gH → Prop} {s : gH} (v1 : Int) (v2 : BitVec 64) (v4 : Int) (v5 : Int) (v6 : BitVec 64) (v8 : Int) (v9 : gV) (v10 : gV) (v11 : gV) (v12 : gV) (H : gs_C L d 3079 4 [gp_l v2] s (fun r s1 => ∃ x2, r = some (gp_i x2) ∧ gs_C L d 3079 4 [gp_l v6] s1 (fun r s3 => ∃ x4, r = some (gp_i x4) ∧ ((x2 < x4 → gs_E L (d + 1) 3091 73 [gp_r (some 74), gp_i v1, gp_l v2, gp_n, gp_i v4, gp_i v5, gp_l v6, gp_n, gp_i v8, gp_i x2, gp_i x4, v11, v12] [gp_i (-1)] s3 K) ∧ (¬ x2 < x4 → ((x4 < x2 → gs_E L (d + 1) 3091 73 [gp_r (some 74), gp_i v1, gp_l v2, gp_n, gp_i v4, gp_i v5, gp_l v6, gp_n, gp_i v8, gp_i x2, gp_i x4, v11, v12] [gp_i 1] s3 K) ∧ (¬ x4 < x2 → gs_E L (d + 1) 3091 73 [gp_r (some 74), gp_i v1, gp_l v2, gp_n, gp_i v4, gp_i v5, gp_l v6, gp_n, gp_i v8, gp_i x2, gp_i x4, v11, v12] [gp_i 0] s3 K))))))) : gs_E L (d + 1) 3091 37 [gp_r (some 74), gp_i v1, gp_l v2, gp_n, gp_i v4, gp_i v5, gp_l v6, gp_n, gp_i v8, v9, v10, v11, v12] [] s K := by
  refine gs_E.stp (pc' := 38) (ls' := [gp_r (some 74), gp_i v1, gp_l v2, gp_n, gp_i v4, gp_i v5, gp_l v6, gp_n, gp_i v8, v9, v10, v11, v12]) (st' := [gp_l v2]) (s' := s) 1 rfl ?_
  refine gs_E.call (args := [gp_l v2]) (m := 4) (y' := 3079) (st' := []) rfl H (fun r s1 H => ?_)
  obtain ⟨x2, rfl, H⟩ := H
  show gs_E L (d + 1) 3091 41 [gp_r (some 74), gp_i v1, gp_l v2, gp_n, gp_i v4, gp_i v5, gp_l v6, gp_n, gp_i v8, v9, v10, v11, v12] [gp_i x2] s1 K
  refine gs_E.stp (pc' := 45) (ls' := [gp_r (some 74), gp_i v1, gp_l v2, gp_n, gp_i v4, gp_i v5, gp_l v6, gp_n, gp_i v8, gp_i x2, v10, v11, v12]) (st' := [gp_l v6]) (s' := s1) 2 rfl ?_
  refine gs_E.call (args := [gp_l v6]) (m := 4) (y' := 3079) (st' := []) rfl H (fun r s3 H => ?_)
  obtain ⟨x4, rfl, H⟩ := H
  show gs_E L (d + 1) 3091 48 [gp_r (some 74), gp_i v1, gp_l v2, gp_n, gp_i v4, gp_i v5, gp_l v6, gp_n, gp_i v8, gp_i x2, v10, v11, v12] [gp_i x4] s3 K
  refine gs_E.stp (pc' := 54) (ls' := [gp_r (some 74), gp_i v1, gp_l v2, gp_n, gp_i v4, gp_i v5, gp_l v6, gp_n, gp_i v8, gp_i x2, gp_i x4, v11, v12]) (st' := [gp_i x4, gp_i x2]) (s' := s3) 3 rfl ?_
  refine gs_E.br (c := ¬ x2 < x4) (p1 := 61) (p2 := 57) (l1 := [gp_r (some 74), gp_i v1, gp_l v2, gp_n, gp_i v4, gp_i v5, gp_l v6, gp_n, gp_i v8, gp_i x2, gp_i x4, v11, v12]) (l2 := [gp_r (some 74), gp_i v1, gp_l v2, gp_n, gp_i v4, gp_i v5, gp_l v6, gp_n, gp_i v8, gp_i x2, gp_i x4, v11, v12]) (s1 := []) (s2 := []) rfl gs_b2 (fun hc => ?_) (fun hc => ?_)
  · replace H := H.2 hc
    refine gs_E.stp (pc' := 65) (ls' := [gp_r (some 74), gp_i v1, gp_l v2, gp_n, gp_i v4, gp_i v5, gp_l v6, gp_n, gp_i v8, gp_i x2, gp_i x4, v11, v12]) (st' := [gp_i x4, gp_i x2]) (s' := s3) 2 rfl ?_
    refine gs_E.br (c := ¬ x4 < x2) (p1 := 72) (p2 := 68) (l1 := [gp_r (some 74), gp_i v1, gp_l v2, gp_n, gp_i v4, gp_i v5, gp_l v6, gp_n, gp_i v8, gp_i x2, gp_i x4, v11, v12]) (l2 := [gp_r (some 74), gp_i v1, gp_l v2, gp_n, gp_i v4, gp_i v5, gp_l v6, gp_n, gp_i v8, gp_i x2, gp_i x4, v11, v12]) (s1 := []) (s2 := []) rfl gs_b2 (fun hc => ?_) (fun hc => ?_)
    · replace H := H.2 hc
      refine gs_E.stp (pc' := 73) (ls' := [gp_r (some 74), gp_i v1, gp_l v2, gp_n, gp_i v4, gp_i v5, gp_l v6, gp_n, gp_i v8, gp_i x2, gp_i x4, v11, v12]) (st' := [gp_i 0]) (s' := s3) 1 rfl ?_
      exact H
    · replace H := H.1 (Decidable.byContradiction hc)
      refine gs_E.stp (pc' := 73) (ls' := [gp_r (some 74), gp_i v1, gp_l v2, gp_n, gp_i v4, gp_i v5, gp_l v6, gp_n, gp_i v8, gp_i x2, gp_i x4, v11, v12]) (st' := [gp_i 1]) (s' := s3) 2 rfl ?_
      exact H
  · replace H := H.1 (Decidable.byContradiction hc)
    refine gs_E.stp (pc' := 73) (ls' := [gp_r (some 74), gp_i v1, gp_l v2, gp_n, gp_i v4, gp_i v5, gp_l v6, gp_n, gp_i v8, gp_i x2, gp_i x4, v11, v12]) (st' := [gp_i (-1)]) (s' := s3) 2 rfl ?_
    exact H

set_option maxRecDepth 100000 in
/-- GatheredPointsModel.orderOfSides, pc 73 -/
theorem s_3091_73 {L d : Nat} {K : Option gV → gH → Prop} {s : gH} (v1 : Int) (v2 : BitVec 64) (v4 : Int) (v5 : Int) (v6 : BitVec 64) (v8 : Int) (v9 : Int) (v10 : Int) (v11 : gV) (v12 : gV) (w0 : Int) (H : gs_E L (d + 1) 3091 78 [gp_r (some 74), gp_i v1, gp_l v2, gp_n, gp_i v4, gp_i v5, gp_l v6, gp_n, gp_i v8, gp_i v9, gp_i v10, gp_i w0, gp_i 0] [] s K) : gs_E L (d + 1) 3091 73 [gp_r (some 74), gp_i v1, gp_l v2, gp_n, gp_i v4, gp_i v5, gp_l v6, gp_n, gp_i v8, gp_i v9, gp_i v10, v11, v12] [gp_i w0] s K := by
  refine gs_E.stp (pc' := 78) (ls' := [gp_r (some 74), gp_i v1, gp_l v2, gp_n, gp_i v4, gp_i v5, gp_l v6, gp_n, gp_i v8, gp_i v9, gp_i v10, gp_i w0, gp_i 0]) (st' := []) (s' := s) 3 rfl ?_
  exact H

set_option maxRecDepth 100000 in
/-- GatheredPointsModel.orderOfSides, pc 78 -/
theorem s_3091_78 {L d : Nat} {K : Option gV → gH → Prop} {s : gH} (v1 : Int) (v2 : BitVec 64) (v4 : Int) (v5 : Int) (v6 : BitVec 64) (v8 : Int) (v9 : Int) (v10 : Int) (v11 : Int) (v12 : Int) (H : ((v12 < v9 → ((v11 = 0 → gs_C L d 3092 8 [gp_r (some 74), gp_i v1, gp_l v2, gp_i v12] s (fun r s1 => ∃ x2, r = some (gp_i x2) ∧ gs_C L d 3092 8 [gp_r (some 74), gp_i v5, gp_l v6, gp_i v12] s1 (fun r s3 => ∃ x4, r = some (gp_i x4) ∧ gs_C L d 3090 9 [gp_r (some 74), gp_i v1, gp_i x2, gp_i v5, gp_i x4] s3 (fun r s5 => ∃ x6, r = some (gp_i x6) ∧ gs_E L (d + 1) 3091 78 [gp_r (some 74), gp_i v1, gp_l v2, gp_n, gp_i v4, gp_i v5, gp_l v6, gp_n, gp_i v8, gp_i v9, gp_i v10, gp_i x6, gp_i (gp_wr (v12 + 1))] [] s5 K)))) ∧ (¬ v11 = 0 → gs_E L (d + 1) 3091 123 [gp_r (some 74), gp_i v1, gp_l v2, gp_n, gp_i v4, gp_i v5, gp_l v6, gp_n, gp_i v8, gp_i v9, gp_i v10, gp_i v11, gp_i v12] [] s K))) ∧ (¬ v12 < v9 → gs_E L (d + 1) 3091 123 [gp_r (some 74), gp_i v1, gp_l v2, gp_n, gp_i v4, gp_i v5, gp_l v6, gp_n, gp_i v8, gp_i v9, gp_i v10, gp_i v11, gp_i v12] [] s K))) : gs_E L (d + 1) 3091 78 [gp_r (some 74), gp_i v1, gp_l v2, gp_n, gp_i v4, gp_i v5, gp_l v6, gp_n, gp_i v8, gp_i v9, gp_i v10, gp_i v11, gp_i v12] [] s K := by
  refine gs_E.stp (pc' := 82) (ls' := [gp_r (some 74), gp_i v1, gp_l v2, gp_n, gp_i v4, gp_i v5, gp_l v6, gp_n, gp_i v8, gp_i v9, gp_i v10, gp_i v11, gp_i v12]) (st' := [gp_i v9, gp_i v12]) (s' := s) 2 rfl ?_
  refine gs_E.br (c := ¬ v12 < v9) (p1 := 123) (p2 := 85) (l1 := [gp_r (some 74), gp_i v1, gp_l v2, gp_n, gp_i v4, gp_i v5, gp_l v6, gp_n, gp_i v8, gp_i v9, gp_i v10, gp_i v11, gp_i v12]) (l2 := [gp_r (some 74), gp_i v1, gp_l v2, gp_n, gp_i v4, gp_i v5, gp_l v6, gp_n, gp_i v8, gp_i v9, gp_i v10, gp_i v11, gp_i v12]) (s1 := []) (s2 := []) rfl gs_b2 (fun hc => ?_) (fun hc => ?_)
  · replace H := H.2 hc
    exact H
  · replace H := H.1 (Decidable.byContradiction hc)
    refine gs_E.stp (pc' := 87) (ls' := [gp_r (some 74), gp_i v1, gp_l v2, gp_n, gp_i v4, gp_i v5, gp_l v6, gp_n, gp_i v8, gp_i v9, gp_i v10, gp_i v11, gp_i v12]) (st' := [gp_i v11]) (s' := s) 1 rfl ?_
    refine gs_E.br (c := ¬ v11 = 0) (p1 := 123) (p2 := 90) (l1 := [gp_r (some 74), gp_i v1, gp_l v2, gp_n, gp_i v4, gp_i v5, gp_l v6, gp_n, gp_i v8, gp_i v9, gp_i v10, gp_i v11, gp_i v12]) (l2 := [gp_r (some 74), gp_i v1, gp_l v2, gp_n, gp_i v4, gp_i v5, gp_l v6, gp_n, gp_i v8, gp_i v9, gp_i v10, gp_i v11, gp_i v12]) (s1 := []) (s2 := []) rfl gs_b2 (fun hc => ?_) (fun hc => ?_)
    · replace H := H.2 hc
      exact H
    · replace H := H.1 (Decidable.byContradiction hc)
      refine gs_E.stp (pc' := 97) (ls' := [gp_r (some 74), gp_i v1, gp_l v2, gp_n, gp_i v4, gp_i v5, gp_l v6, gp_n, gp_i v8, gp_i v9, gp_i v10, gp_i v11, gp_i v12]) (st' := [gp_i v12, gp_l v2, gp_i v1, gp_r (some 74), gp_i v1, gp_r (some 74)]) (s' := s) 6 rfl ?_
      refine gs_E.call (args := [gp_r (some 74), gp_i v1, gp_l v2, gp_i v12]) (m := 8) (y' := 3092) (st' := [gp_i v1, gp_r (some 74)]) rfl H (fun r s1 H => ?_)
      obtain ⟨x2, rfl, H⟩ := H
      show gs_E L (d + 1) 3091 100 [gp_r (some 74), gp_i v1, gp_l v2, gp_n, gp_i v4, gp_i v5, gp_l v6, gp_n, gp_i v8, gp_i v9, gp_i v10, gp_i v11, gp_i v12] [gp_i x2, gp_i v1, gp_r (some 74)] s1 K
      refine gs_E.stp (pc' := 109) (ls' := [gp_r (some 74), gp_i v1, gp_l v2, gp_n, gp_i v4, gp_i v5, gp_l v6, gp_n, gp_i v8, gp_i v9, gp_i v10, gp_i v11, gp_i v12]) (st' := [gp_i v12, gp_l v6, gp_i v5, gp_r (some 74), gp_i v5, gp_i x2, gp_i v1, gp_r (some 74)]) (s' := s1) 5 rfl ?_
      refine gs_E.call (args := [gp_r (some 74), gp_i v5, gp_l v6, gp_i v12]) (m := 8) (y' := 3092) (st' := [gp_i v5, gp_i x2, gp_i v1, gp_r (some 74)]) rfl H (fun r s3 H => ?_)
      obtain ⟨x4, rfl, H⟩ := H
      show gs_E L (d + 1) 3091 112 [gp_r (some 74), gp_i v1, gp_l v2, gp_n, gp_i v4, gp_i v5, gp_l v6, gp_n, gp_i v8, gp_i v9, gp_i v10, gp_i v11, gp_i v12] [gp_i x4, gp_i v5, gp_i x2, gp_i v1, gp_r (some 74)] s3 K
      refine gs_E.call (args := [gp_r (some 74), gp_i v1, gp_i x2, gp_i v5, gp_i x4]) (m := 9) (y' := 3090) (st' := []) rfl H (fun r s5 H => ?_)
      obtain ⟨x6, rfl, H⟩ := H
      show gs_E L (d + 1) 3091 115 [gp_r (some 74), gp_i v1, gp_l v2, gp_n, gp_i v4, gp_i v5, gp_l v6, gp_n, gp_i v8, gp_i v9, gp_i v10, gp_i v11, gp_i v12] [gp_i x6] s5 K
      refine gs_E.stp (pc' := 78) (ls' := [gp_r (some 74), gp_i v1, gp_l v2, gp_n, gp_i v4, gp_i v5, gp_l v6, gp_n, gp_i v8, gp_i v9, gp_i v10, gp_i x6, gp_i (gp_wr (v12 + 1))]) (st' := []) (s' := s5) 3 rfl ?_
      exact H

set_option maxRecDepth 100000 in
/-- GatheredPointsModel.orderOfSides, pc 123 -/
theorem s_3091_123 {L d : Nat} {K : Option gV → gH → Prop} {s : gH} (v1 : Int) (v2 : BitVec 64) (v4 : Int) (v5 : Int) (v6 : BitVec 64) (v8 : Int) (v9 : Int) (v10 : Int) (v11 : Int) (v12 : Int) (H : K (some (gp_i v11)) s) : gs_E L (d + 1) 3091 123 [gp_r (some 74), gp_i v1, gp_l v2, gp_n, gp_i v4, gp_i v5, gp_l v6, gp_n, gp_i v8, gp_i v9, gp_i v10, gp_i v11, gp_i v12] [] s K := by
  refine gs_E.stp (pc' := 125) (ls' := [gp_r (some 74), gp_i v1, gp_l v2, gp_n, gp_i v4, gp_i v5, gp_l v6, gp_n, gp_i v8, gp_i v9, gp_i v10, gp_i v11, gp_i v12]) (st' := [gp_i v11]) (s' := s) 1 rfl ?_
  exact gs_E.ret (r := (some (gp_i v11))) rfl H

set_option maxRecDepth 100000 in
/-- GatheredPointsModel.option, pc 0 -/
theorem s_3092_e {L d : Nat} {K : Option gV → gH → Prop} {s : gH} (p0 : Int) (p1 : BitVec 64) (p2 : Int) (H : ((p0 = 20 → gs_E L (d + 1) 3092 16 [gp_r (some 74), gp_i p0, gp_l p1, gp_n, gp_i p2, gp_i 0, gp_n, gp_n] [] s K) ∧ (¬ p0 = 20 → gs_C L d 3080 5 [gp_l p1, gp_i p2] s (fun r s1 => ∃ x2, r = some (gp_i x2) ∧ K (some (gp_i x2)) s1)))) : gs_C L (d + 1) 3092 8 [gp_r (some 74), gp_i p0, gp_l p1, gp_i p2] s K := by
  show gs_E L (d + 1) 3092 0 [gp_r (some 74), gp_i p0, gp_l p1, gp_n, gp_i p2, gp_n, gp_n, gp_n] [] s K
  refine gs_E.stp (pc' := 3) (ls' := [gp_r (some 74), gp_i p0, gp_l p1, gp_n, gp_i p2, gp_n, gp_n, gp_n]) (st' := [gp_i 20, gp_i p0]) (s' := s) 2 rfl ?_
  refine gs_E.br (c := p0 = 20) (p1 := 13) (p2 := 6) (l1 := [gp_r (some 74), gp_i p0, gp_l p1, gp_n, gp_i p2, gp_n, gp_n, gp_n]) (l2 := [gp_r (some 74), gp_i p0, gp_l p1, gp_n, gp_i p2, gp_n, gp_n, gp_n]) (s1 := []) (s2 := []) rfl gs_b1 (fun hc => ?_) (fun hc => ?_)
  · replace H := H.1 hc
    refine gs_E.stp (pc' := 16) (ls' := [gp_r (some 74), gp_i p0, gp_l p1, gp_n, gp_i p2, gp_i 0, gp_n, gp_n]) (st' := []) (s' := s) 2 rfl ?_
    exact H
  · replace H := H.2 hc
    refine gs_E.stp (pc' := 9) (ls' := [gp_r (some 74), gp_i p0, gp_l p1, gp_n, gp_i p2, gp_n, gp_n, gp_n]) (st' := [gp_i p2, gp_l p1]) (s' := s) 2 rfl ?_
    refine gs_E.call (args := [gp_l p1, gp_i p2]) (m := 5) (y' := 3080) (st' := []) rfl H (fun r s1 H => ?_)
    obtain ⟨x2, rfl, H⟩ := H
    show gs_E L (d + 1) 3092 12 [gp_r (some 74), gp_i p0, gp_l p1, gp_n, gp_i p2, gp_n, gp_n, gp_n] [gp_i x2] s1 K
    exact gs_E.ret (r := (some (gp_i x2))) rfl H

set_option maxRecDepth 100000 in
/-- GatheredPointsModel.option, pc 16 -/
theorem s_3092_16 {L d : Nat} {K : Option gV → gH → Prop} {s : gH} (v1 : Int) (v2 : BitVec 64) (v4 : Int) (v5 : Int) (v6 : gV) (v7 : gV) (H : ((v5 < 64 → gs_C L d 3078 3 [gp_l v2, gp_i v5] s (fun r s1 => ∃ x2, r = some (gp_i x2) ∧ ((x2 = 0 → gs_E L (d + 1) 3092 105 [gp_r (some 74), gp_i v1, gp_l v2, gp_n, gp_i v4, gp_i v5, v6, v7] [] s1 K) ∧ (¬ x2 = 0 → gs_E L (d + 1) 3092 41 [gp_r (some 74), gp_i v1, gp_l v2, gp_n, gp_i v4, gp_i v5, gp_i 0, gp_i 0] [] s1 K)))) ∧ (¬ v5 < 64 → K (some (gp_i (-1))) s))) : gs_E L (d + 1) 3092 16 [gp_r (some 74), gp_i v1, gp_l v2, gp_n, gp_i v4, gp_i v5, v6, v7] [] s K := by
  refine gs_E.stp (pc' := 20) (ls' := [gp_r (some 74), gp_i v1, gp_l v2, gp_n, gp_i v4, gp_i v5, v6, v7]) (st' := [gp_i 64, gp_i v5]) (s' := s) 2 rfl ?_
  refine gs_E.br (c := ¬ v5 < 64) (p1 := 111) (p2 := 23) (l1 := [gp_r (some 74), gp_i v1, gp_l v2, gp_n, gp_i v4, gp_i v5, v6, v7]) (l2 := [gp_r (some 74), gp_i v1, gp_l v2, gp_n, gp_i v4, gp_i v5, v6, v7]) (s1 := []) (s2 := []) rfl gs_b2 (fun hc => ?_) (fun hc => ?_)
  · replace H := H.2 hc
    refine gs_E.stp (pc' := 112) (ls' := [gp_r (some 74), gp_i v1, gp_l v2, gp_n, gp_i v4, gp_i v5, v6, v7]) (st' := [gp_i (-1)]) (s' := s) 1 rfl ?_
    exact gs_E.ret (r := (some (gp_i (-1)))) rfl H
  · replace H := H.1 (Decidable.byContradiction hc)
    refine gs_E.stp (pc' := 26) (ls' := [gp_r (some 74), gp_i v1, gp_l v2, gp_n, gp_i v4, gp_i v5, v6, v7]) (st' := [gp_i v5, gp_l v2]) (s' := s) 2 rfl ?_
    refine gs_E.call (args := [gp_l v2, gp_i v5]) (m := 3) (y' := 3078) (st' := []) rfl H (fun r s1 H => ?_)
    obtain ⟨x2, rfl, H⟩ := H
    show gs_E L (d + 1) 3092 29 [gp_r (some 74), gp_i v1, gp_l v2, gp_n, gp_i v4, gp_i v5, v6, v7] [gp_i x2] s1 K
    refine gs_E.br (c := ¬ x2 = 0) (p1 := 35) (p2 := 32) (l1 := [gp_r (some 74), gp_i v1, gp_l v2, gp_n, gp_i v4, gp_i v5, v6, v7]) (l2 := [gp_r (some 74), gp_i v1, gp_l v2, gp_n, gp_i v4, gp_i v5, v6, v7]) (s1 := []) (s2 := []) rfl gs_b2 (fun hc => ?_) (fun hc => ?_)
    · replace H := H.2 hc
      refine gs_E.stp (pc' := 41) (ls' := [gp_r (some 74), gp_i v1, gp_l v2, gp_n, gp_i v4, gp_i v5, gp_i 0, gp_i 0]) (st' := []) (s' := s1) 4 rfl ?_
      exact H
    · replace H := H.1 (Decidable.byContradiction hc)
      refine gs_E.stp (pc' := 105) (ls' := [gp_r (some 74), gp_i v1, gp_l v2, gp_n, gp_i v4, gp_i v5, v6, v7]) (st' := []) (s' := s1) 1 rfl ?_
      exact H

set_option maxRecDepth 100000 in
/-- GatheredPointsModel.option, pc 41 -/
theorem s_3092_41 {L d : Nat} {K : Option gV → gH → Prop} {s : gH} (v1 : Int) (v2 : BitVec 64) (v4 : Int) (v5 : Int) (v6 : Int) (v7 : Int) (H : ((v7 < 64 → gs_C L d 3078 3 [gp_l v2, gp_i v7] s (fun r s1 => ∃ x2, r = some (gp_i x2) ∧ ((x2 = 0 → gs_E L (d + 1) 3092 85 [gp_r (some 74), gp_i v1, gp_l v2, gp_n, gp_i v4, gp_i v5, gp_i v6, gp_i v7] [gp_i v6] s1 K) ∧ (¬ x2 = 0 → ((v7 = v5 → gs_E L (d + 1) 3092 85 [gp_r (some 74), gp_i v1, gp_l v2, gp_n, gp_i v4, gp_i v5, gp_i v6, gp_i v7] [gp_i v6] s1 K) ∧ (¬ v7 = v5 → gs_C L d 3090 9 [gp_r (some 74), gp_i 20, gp_i v7, gp_i 20, gp_i v5] s1 (fun r s3 => ∃ x4, r = some (gp_i x4) ∧ ((x4 < 0 → gs_E L (d + 1) 3092 86 [gp_r (some 74), gp_i v1, gp_l v2, gp_n, gp_i v4, gp_i v5, gp_i v6, gp_i v7] [gp_i 1, gp_i v6] s3 K) ∧ (¬ x4 < 0 → gs_E L (d + 1) 3092 85 [gp_r (some 74), gp_i v1, gp_l v2, gp_n, gp_i v4, gp_i v5, gp_i v6, gp_i v7] [gp_i v6] s3 K))))))))) ∧ (¬ v7 < 64 → ((v6 = v4 → K (some (gp_i v5)) s) ∧ (¬ v6 = v4 → gs_E L (d + 1) 3092 105 [gp_r (some 74), gp_i v1, gp_l v2, gp_n, gp_i v4, gp_i v5, gp_i v6, gp_i v7] [] s K))))) : gs_E L (d + 1) 3092 41 [gp_r (some 74), gp_i v1, gp_l v2, gp_n, gp_i v4, gp_i v5, gp_i v6, gp_i v7] [] s K := by
  refine gs_E.stp (pc' := 45) (ls' := [gp_r (some 74), gp_i v1, gp_l v2, gp_n, gp_i v4, gp_i v5, gp_i v6, gp_i v7]) (st' := [gp_i 64, gp_i v7]) (s' := s) 2 rfl ?_
  refine gs_E.br (c := ¬ v7 < 64) (p1 := 95) (p2 := 48) (l1 := [gp_r (some 74), gp_i v1, gp_l v2, gp_n, gp_i v4, gp_i v5, gp_i v6, gp_i v7]) (l2 := [gp_r (some 74), gp_i v1, gp_l v2, gp_n, gp_i v4, gp_i v5, gp_i v6, gp_i v7]) (s1 := []) (s2 := []) rfl gs_b2 (fun hc => ?_) (fun hc => ?_)
  · replace H := H.2 hc
    refine gs_E.stp (pc' := 99) (ls' := [gp_r (some 74), gp_i v1, gp_l v2, gp_n, gp_i v4, gp_i v5, gp_i v6, gp_i v7]) (st' := [gp_i v4, gp_i v6]) (s' := s) 2 rfl ?_
    refine gs_E.br (c := ¬ v6 = v4) (p1 := 105) (p2 := 102) (l1 := [gp_r (some 74), gp_i v1, gp_l v2, gp_n, gp_i v4, gp_i v5, gp_i v6, gp_i v7]) (l2 := [gp_r (some 74), gp_i v1, gp_l v2, gp_n, gp_i v4, gp_i v5, gp_i v6, gp_i v7]) (s1 := []) (s2 := []) rfl gs_b2 (fun hc => ?_) (fun hc => ?_)
    · replace H := H.2 hc
      exact H
    · replace H := H.1 (Decidable.byContradiction hc)
      refine gs_E.stp (pc' := 104) (ls' := [gp_r (some 74), gp_i v1, gp_l v2, gp_n, gp_i v4, gp_i v5, gp_i v6, gp_i v7]) (st' := [gp_i v5]) (s' := s) 1 rfl ?_
      exact gs_E.ret (r := (some (gp_i v5))) rfl H
  · replace H := H.1 (Decidable.byContradiction hc)
    refine gs_E.stp (pc' := 53) (ls' := [gp_r (some 74), gp_i v1, gp_l v2, gp_n, gp_i v4, gp_i v5, gp_i v6, gp_i v7]) (st' := [gp_i v7, gp_l v2, gp_i v6]) (s' := s) 3 rfl ?_
    refine gs_E.call (args := [gp_l v2, gp_i v7]) (m := 3) (y' := 3078) (st' := [gp_i v6]) rfl H (fun r s1 H => ?_)
    obtain ⟨x2, rfl, H⟩ := H
    show gs_E L (d + 1) 3092 56 [gp_r (some 74), gp_i v1, gp_l v2, gp_n, gp_i v4, gp_i v5, gp_i v6, gp_i v7] [gp_i x2, gp_i v6] s1 K
    refine gs_E.br (c := x2 = 0) (p1 := 85) (p2 := 59) (l1 := [gp_r (some 74), gp_i v1, gp_l v2, gp_n, gp_i v4, gp_i v5, gp_i v6, gp_i v7]) (l2 := [gp_r (some 74), gp_i v1, gp_l v2, gp_n, gp_i v4, gp_i v5, gp_i v6, gp_i v7]) (s1 := [gp_i v6]) (s2 := [gp_i v6]) rfl gs_b1 (fun hc => ?_) (fun hc => ?_)
    · replace H := H.1 hc
      exact H
    · replace H := H.2 hc
      refine gs_E.stp (pc' := 63) (ls' := [gp_r (some 74), gp_i v1, gp_l v2, gp_n, gp_i v4, gp_i v5, gp_i v6, gp_i v7]) (st' := [gp_i v5, gp_i v7, gp_i v6]) (s' := s1) 2 rfl ?_
      refine gs_E.br (c := v7 = v5) (p1 := 85) (p2 := 66) (l1 := [gp_r (some 74), gp_i v1, gp_l v2, gp_n, gp_i v4, gp_i v5, gp_i v6, gp_i v7]) (l2 := [gp_r (some 74), gp_i v1, gp_l v2, gp_n, gp_i v4, gp_i v5, gp_i v6, gp_i v7]) (s1 := [gp_i v6]) (s2 := [gp_i v6]) rfl gs_b1 (fun hc => ?_) (fun hc => ?_)
      · replace H := H.1 hc
        exact H
      · replace H := H.2 hc
        refine gs_E.stp (pc' := 75) (ls' := [gp_r (some 74), gp_i v1, gp_l v2, gp_n, gp_i v4, gp_i v5, gp_i v6, gp_i v7]) (st' := [gp_i v5, gp_i 20, gp_i v7, gp_i 20, gp_r (some 74), gp_i v6]) (s' := s1) 5 rfl ?_
        refine gs_E.call (args := [gp_r (some 74), gp_i 20, gp_i v7, gp_i 20, gp_i v5]) (m := 9) (y' := 3090) (st' := [gp_i v6]) rfl H (fun r s3 H => ?_)
        obtain ⟨x4, rfl, H⟩ := H
        show gs_E L (d + 1) 3092 78 [gp_r (some 74), gp_i v1, gp_l v2, gp_n, gp_i v4, gp_i v5, gp_i v6, gp_i v7] [gp_i x4, gp_i v6] s3 K
        refine gs_E.br (c := ¬ x4 < 0) (p1 := 85) (p2 := 81) (l1 := [gp_r (some 74), gp_i v1, gp_l v2, gp_n, gp_i v4, gp_i v5, gp_i v6, gp_i v7]) (l2 := [gp_r (some 74), gp_i v1, gp_l v2, gp_n, gp_i v4, gp_i v5, gp_i v6, gp_i v7]) (s1 := [gp_i v6]) (s2 := [gp_i v6]) rfl gs_b2 (fun hc => ?_) (fun hc => ?_)
        · replace H := H.2 hc
          exact H
        · replace H := H.1 (Decidable.byContradiction hc)
          refine gs_E.stp (pc' := 86) (ls' := [gp_r (some 74), gp_i v1, gp_l v2, gp_n, gp_i v4, gp_i v5, gp_i v6, gp_i v7]) (st' := [gp_i 1, gp_i v6]) (s' := s3) 2 rfl ?_
          exact H

set_option maxRecDepth 100000 in
/-- GatheredPointsModel.option, pc 85 -/
theorem s_3092_85 {L d : Nat} {K : Option gV → gH → Prop} {s : gH} (v1 : Int) (v2 : BitVec 64) (v4 : Int) (v5 : Int) (v6 : Int) (v7 : Int) (w0 : Int) (H : gs_E L (d + 1) 3092 86 [gp_r (some 74), gp_i v1, gp_l v2, gp_n, gp_i v4, gp_i v5, gp_i v6, gp_i v7] [gp_i 0, gp_i w0] s K) : gs_E L (d + 1) 3092 85 [gp_r (some 74), gp_i v1, gp_l v2, gp_n, gp_i v4, gp_i v5, gp_i v6, gp_i v7] [gp_i w0] s K := by
  refine gs_E.stp (pc' := 86) (ls' := [gp_r (some 74), gp_i v1, gp_l v2, gp_n, gp_i v4, gp_i v5, gp_i v6, gp_i v7]) (st' := [gp_i 0, gp_i w0]) (s' := s) 1 rfl ?_
  exact H

set_option maxRecDepth 100000 in
/-- GatheredPointsModel.option, pc 86 -/
theorem s_3092_86 {L d : Nat} {K : Option gV → gH → Prop} {s : gH} (v1 : Int) (v2 : BitVec 64) (v4 : Int) (v5 : Int) (v6 : Int) (v7 : Int) (w0 : Int) (w1 : Int) (H : gs_E L (d + 1) 3092 41 [gp_r (some 74), gp_i v1, gp_l v2, gp_n, gp_i v4, gp_i v5, gp_i (gp_wr (w0 + w1)), gp_i (gp_wr (v7 + 1))] [] s K) : gs_E L (d + 1) 3092 86 [gp_r (some 74), gp_i v1, gp_l v2, gp_n, gp_i v4, gp_i v5, gp_i v6, gp_i v7] [gp_i w1, gp_i w0] s K := by
  refine gs_E.stp (pc' := 41) (ls' := [gp_r (some 74), gp_i v1, gp_l v2, gp_n, gp_i v4, gp_i v5, gp_i (gp_wr (w0 + w1)), gp_i (gp_wr (v7 + 1))]) (st' := []) (s' := s) 4 rfl ?_
  exact H

set_option maxRecDepth 100000 in
/-- GatheredPointsModel.option, pc 105 -/
theorem s_3092_105 {L d : Nat} {K : Option gV → gH → Prop} {s : gH} (v1 : Int) (v2 : BitVec 64) (v4 : Int) (v5 : Int) (v6 : gV) (v7 : gV) (H : gs_E L (d + 1) 3092 16 [gp_r (some 74), gp_i v1, gp_l v2, gp_n, gp_i v4, gp_i (gp_wr (v5 + 1)), v6, v7] [] s K) : gs_E L (d + 1) 3092 105 [gp_r (some 74), gp_i v1, gp_l v2, gp_n, gp_i v4, gp_i v5, v6, v7] [] s K := by
  refine gs_E.stp (pc' := 16) (ls' := [gp_r (some 74), gp_i v1, gp_l v2, gp_n, gp_i v4, gp_i (gp_wr (v5 + 1)), v6, v7]) (st' := []) (s' := s) 2 rfl ?_
  exact H

set_option maxRecDepth 100000 in
/-- GatheredPointsModel.ends, pc 0 -/
theorem s_3093_e {L d : Nat} {K : Option gV → gH → Prop} {s : gH} (p0 : Int) (p1 : Int) (H : gs_C L d 3089 2 [gp_r (some 74)] s (fun r s1 => r = none ∧ gs_E L (d + 1) 3093 11 [gp_r (some 74), gp_i p0, gp_i p1, gp_l ((1#64) <<< (p0 % 64).toNat), gp_n, gp_i p0, gp_n, gp_n, gp_n] [] s1 K)) : gs_C L (d + 1) 3093 9 [gp_r (some 74), gp_i p0, gp_i p1] s K := by
  show gs_E L (d + 1) 3093 0 [gp_r (some 74), gp_i p0, gp_i p1, gp_n, gp_n, gp_n, gp_n, gp_n, gp_n] [] s K
  refine gs_E.stp (pc' := 1) (ls' := [gp_r (some 74), gp_i p0, gp_i p1, gp_n, gp_n, gp_n, gp_n, gp_n, gp_n]) (st' := [gp_r (some 74)]) (s' := s) 1 rfl ?_
  refine gs_E.call (args := [gp_r (some 74)]) (m := 2) (y' := 3089) (st' := []) rfl H (fun r s1 H => ?_)
  obtain ⟨rfl, H⟩ := H
  show gs_E L (d + 1) 3093 4 [gp_r (some 74), gp_i p0, gp_i p1, gp_n, gp_n, gp_n, gp_n, gp_n, gp_n] [] s1 K
  refine gs_E.stp (pc' := 11) (ls' := [gp_r (some 74), gp_i p0, gp_i p1, gp_l ((1#64) <<< (p0 % 64).toNat), gp_n, gp_i p0, gp_n, gp_n, gp_n]) (st' := []) (s' := s1) 6 rfl ?_
  exact H

set_option maxRecDepth 100000 in
/-- GatheredPointsModel.ends, pc 11 -/
theorem s_3093_11 {L d : Nat} {K : Option gV → gH → Prop} {s : gH} (v1 : Int) (v2 : Int) (v3 : BitVec 64) (v5 : Int) (v6 : gV) (v7 : gV) (v8 : gV) (H : ((v5 < 0 → gs_C L d 3079 4 [gp_l v3] s (fun r s1 => ∃ x2, r = some (gp_i x2) ∧ gs_E L (d + 1) 3093 70 [gp_r (some 74), gp_i v1, gp_i v2, gp_l v3, gp_n, gp_i x2, gp_i 0, v7, v8] [] s1 K)) ∧ (¬ v5 < 0 → gs_C L d 3078 3 [gp_l v3, gp_i v5] s (fun r s3 => ∃ x4, r = some (gp_i x4) ∧ ((x4 = 0 → gs_E L (d + 1) 3093 53 [gp_r (some 74), gp_i v1, gp_i v2, gp_l v3, gp_n, gp_i v5, v6, v7, v8] [gp_l (0#64), gp_l v3] s3 K) ∧ (¬ x4 = 0 → ((0 ≤ (gp_wr (1280 + v5)) ∧ (gp_wr (1280 + v5)) < 5440) ∧ ((0 ≤ (gp_wr (1280 + v5)) ∧ (gp_wr (1280 + v5)) < 5440) ∧ gs_E L (d + 1) 3093 53 [gp_r (some 74), gp_i v1, gp_i v2, gp_l v3, gp_n, gp_i v5, v6, v7, v8] [gp_l ((gp_L s3 76 (gp_wr (1280 + v5)).toNat) ||| (gp_L s3 77 (gp_wr (1280 + v5)).toNat)), gp_l v3] s3 K)))))))) : gs_E L (d + 1) 3093 11 [gp_r (some 74), gp_i v1, gp_i v2, gp_l v3, gp_n, gp_i v5, v6, v7, v8] [] s K := by
  refine gs_E.stp (pc' := 13) (ls' := [gp_r (some 74), gp_i v1, gp_i v2, gp_l v3, gp_n, gp_i v5, v6, v7, v8]) (st' := [gp_i v5]) (s' := s) 1 rfl ?_
  refine gs_E.br (c := v5 < 0) (p1 := 61) (p2 := 16) (l1 := [gp_r (some 74), gp_i v1, gp_i v2, gp_l v3, gp_n, gp_i v5, v6, v7, v8]) (l2 := [gp_r (some 74), gp_i v1, gp_i v2, gp_l v3, gp_n, gp_i v5, v6, v7, v8]) (s1 := []) (s2 := []) rfl gs_b1 (fun hc => ?_) (fun hc => ?_)
  · replace H := H.1 hc
    refine gs_E.stp (pc' := 62) (ls' := [gp_r (some 74), gp_i v1, gp_i v2, gp_l v3, gp_n, gp_i v5, v6, v7, v8]) (st' := [gp_l v3]) (s' := s) 1 rfl ?_
    refine gs_E.call (args := [gp_l v3]) (m := 4) (y' := 3079) (st' := []) rfl H (fun r s1 H => ?_)
    obtain ⟨x2, rfl, H⟩ := H
    show gs_E L (d + 1) 3093 65 [gp_r (some 74), gp_i v1, gp_i v2, gp_l v3, gp_n, gp_i v5, v6, v7, v8] [gp_i x2] s1 K
    refine gs_E.stp (pc' := 70) (ls' := [gp_r (some 74), gp_i v1, gp_i v2, gp_l v3, gp_n, gp_i x2, gp_i 0, v7, v8]) (st' := []) (s' := s1) 3 rfl ?_
    exact H
  · replace H := H.2 hc
    refine gs_E.stp (pc' := 20) (ls' := [gp_r (some 74), gp_i v1, gp_i v2, gp_l v3, gp_n, gp_i v5, v6, v7, v8]) (st' := [gp_i v5, gp_l v3, gp_l v3]) (s' := s) 3 rfl ?_
    refine gs_E.call (args := [gp_l v3, gp_i v5]) (m := 3) (y' := 3078) (st' := [gp_l v3]) rfl H (fun r s3 H => ?_)
    obtain ⟨x4, rfl, H⟩ := H
    show gs_E L (d + 1) 3093 23 [gp_r (some 74), gp_i v1, gp_i v2, gp_l v3, gp_n, gp_i v5, v6, v7, v8] [gp_i x4, gp_l v3] s3 K
    refine gs_E.br (c := x4 = 0) (p1 := 52) (p2 := 26) (l1 := [gp_r (some 74), gp_i v1, gp_i v2, gp_l v3, gp_n, gp_i v5, v6, v7, v8]) (l2 := [gp_r (some 74), gp_i v1, gp_i v2, gp_l v3, gp_n, gp_i v5, v6, v7, v8]) (s1 := [gp_l v3]) (s2 := [gp_l v3]) rfl gs_b1 (fun hc => ?_) (fun hc => ?_)
    · replace H := H.1 hc
      refine gs_E.stp (pc' := 53) (ls' := [gp_r (some 74), gp_i v1, gp_i v2, gp_l v3, gp_n, gp_i v5, v6, v7, v8]) (st' := [gp_l (0#64), gp_l v3]) (s' := s3) 1 rfl ?_
      exact H
    · replace H := H.2 hc
      refine gs_E.stp (pc' := 36) (ls' := [gp_r (some 74), gp_i v1, gp_i v2, gp_l v3, gp_n, gp_i v5, v6, v7, v8]) (st' := [gp_i (gp_wr (1280 + v5)), gp_r (some 76), gp_l v3]) (s' := s3) 5 rfl ?_
      refine gs_E.ck (pc' := 37) (ls' := [gp_r (some 74), gp_i v1, gp_i v2, gp_l v3, gp_n, gp_i v5, v6, v7, v8]) (st' := [gp_l (gp_L s3 76 (gp_wr (1280 + v5)).toNat), gp_l v3]) (s' := s3) rfl ⟨rfl, H.1.1, H.1.2⟩ ?_
      replace H := H.2
      refine gs_E.stp (pc' := 47) (ls' := [gp_r (some 74), gp_i v1, gp_i v2, gp_l v3, gp_n, gp_i v5, v6, v7, v8]) (st' := [gp_i (gp_wr (1280 + v5)), gp_r (some 77), gp_l (gp_L s3 76 (gp_wr (1280 + v5)).toNat), gp_l v3]) (s' := s3) 5 rfl ?_
      refine gs_E.ck (pc' := 48) (ls' := [gp_r (some 74), gp_i v1, gp_i v2, gp_l v3, gp_n, gp_i v5, v6, v7, v8]) (st' := [gp_l (gp_L s3 77 (gp_wr (1280 + v5)).toNat), gp_l (gp_L s3 76 (gp_wr (1280 + v5)).toNat), gp_l v3]) (s' := s3) rfl ⟨rfl, H.1.1, H.1.2⟩ ?_
      replace H := H.2
      refine gs_E.stp (pc' := 53) (ls' := [gp_r (some 74), gp_i v1, gp_i v2, gp_l v3, gp_n, gp_i v5, v6, v7, v8]) (st' := [gp_l ((gp_L s3 76 (gp_wr (1280 + v5)).toNat) ||| (gp_L s3 77 (gp_wr (1280 + v5)).toNat)), gp_l v3]) (s' := s3) 2 rfl ?_
      exact H

set_option maxRecDepth 100000 in
/-- GatheredPointsModel.ends, pc 53 -/
theorem s_3093_53 {L d : Nat} {K : Option gV → gH → Prop} {s : gH} (v1 : Int) (v2 : Int) (v3 : BitVec 64) (v5 : Int) (v6 : gV) (v7 : gV) (v8 : gV) (w0 : BitVec 64) (w1 : BitVec 64) (H : gs_E L (d + 1) 3093 11 [gp_r (some 74), gp_i v1, gp_i v2, gp_l (w0 ||| w1), gp_n, gp_i (gp_wr (v5 + (-1))), v6, v7, v8] [] s K) : gs_E L (d + 1) 3093 53 [gp_r (some 74), gp_i v1, gp_i v2, gp_l v3, gp_n, gp_i v5, v6, v7, v8] [gp_l w1, gp_l w0] s K := by
  refine gs_E.stp (pc' := 11) (ls' := [gp_r (some 74), gp_i v1, gp_i v2, gp_l (w0 ||| w1), gp_n, gp_i (gp_wr (v5 + (-1))), v6, v7, v8]) (st' := []) (s' := s) 4 rfl ?_
  exact H

set_option maxRecDepth 100000 in
/-- GatheredPointsModel.ends, pc 70 -/
theorem s_3093_70 {L d : Nat} {K : Option gV → gH → Prop} {s : gH} (v1 : Int) (v2 : Int) (v3 : BitVec 64) (v5 : Int) (v6 : Int) (v7 : gV) (v8 : gV) (H : ((v6 < v5 → gs_C L d 3092 8 [gp_r (some 74), gp_i 20, gp_l v3, gp_i v6] s (fun r s2 => ∃ x3, r = some (gp_i x3) ∧ ((0 ≤ v6 ∧ v6 < 64) ∧ (∀ s4, s4 = gp_wI s2 87 v6.toNat x3 → ((0 ≤ v6 ∧ v6 < 64) ∧ ((0 ≤ (gp_I s4 87 v6.toNat) ∧ (gp_I s4 87 v6.toNat) < 64) ∧ (∀ s5, s5 = gp_wI s4 88 (gp_I s4 87 v6.toNat).toNat v6 → gs_E L (d + 1) 3093 70 [gp_r (some 74), gp_i v1, gp_i v2, gp_l v3, gp_n, gp_i v5, gp_i (gp_wr (v6 + 1)), v7, v8] [] s5 K))))))) ∧ (¬ v6 < v5 → ((0 ≤ v2 ∧ v2 < 85) ∧ (∀ s1, s1 = gp_wI s 81 v2.toNat v5 → gs_E L (d + 1) 3093 124 [gp_r (some 74), gp_i v1, gp_i v2, gp_l v3, gp_n, gp_i v5, gp_i 0, v7, v8] [] s1 K))))) : gs_E L (d + 1) 3093 70 [gp_r (some 74), gp_i v1, gp_i v2, gp_l v3, gp_n, gp_i v5, gp_i v6, v7, v8] [] s K := by
  refine gs_E.stp (pc' := 74) (ls' := [gp_r (some 74), gp_i v1, gp_i v2, gp_l v3, gp_n, gp_i v5, gp_i v6, v7, v8]) (st' := [gp_i v5, gp_i v6]) (s' := s) 2 rfl ?_
  refine gs_E.br (c := ¬ v6 < v5) (p1 := 113) (p2 := 77) (l1 := [gp_r (some 74), gp_i v1, gp_i v2, gp_l v3, gp_n, gp_i v5, gp_i v6, v7, v8]) (l2 := [gp_r (some 74), gp_i v1, gp_i v2, gp_l v3, gp_n, gp_i v5, gp_i v6, v7, v8]) (s1 := []) (s2 := []) rfl gs_b2 (fun hc => ?_) (fun hc => ?_)
  · replace H := H.2 hc
    refine gs_E.stp (pc' := 120) (ls' := [gp_r (some 74), gp_i v1, gp_i v2, gp_l v3, gp_n, gp_i v5, gp_i v6, v7, v8]) (st' := [gp_i v5, gp_i v2, gp_r (some 81)]) (s' := s) 4 rfl ?_
    refine gs_E.ck (pc' := 121) (ls' := [gp_r (some 74), gp_i v1, gp_i v2, gp_l v3, gp_n, gp_i v5, gp_i v6, v7, v8]) (st' := []) (s' := gp_wI s 81 v2.toNat v5) rfl ⟨rfl, H.1.1, H.1.2⟩ ?_
    replace H := H.2 _ rfl
    generalize gp_wI s 81 v2.toNat v5 = s1 at H ⊢
    refine gs_E.stp (pc' := 124) (ls' := [gp_r (some 74), gp_i v1, gp_i v2, gp_l v3, gp_n, gp_i v5, gp_i 0, v7, v8]) (st' := []) (s' := s1) 2 rfl ?_
    exact H
  · replace H := H.1 (Decidable.byContradiction hc)
    refine gs_E.stp (pc' := 89) (ls' := [gp_r (some 74), gp_i v1, gp_i v2, gp_l v3, gp_n, gp_i v5, gp_i v6, v7, v8]) (st' := [gp_i v6, gp_l v3, gp_i 20, gp_r (some 74), gp_i v6, gp_r (some 87)]) (s' := s) 7 rfl ?_
    refine gs_E.call (args := [gp_r (some 74), gp_i 20, gp_l v3, gp_i v6]) (m := 8) (y' := 3092) (st' := [gp_i v6, gp_r (some 87)]) rfl H (fun r s2 H => ?_)
    obtain ⟨x3, rfl, H⟩ := H
    show gs_E L (d + 1) 3093 92 [gp_r (some 74), gp_i v1, gp_i v2, gp_l v3, gp_n, gp_i v5, gp_i v6, v7, v8] [gp_i x3, gp_i v6, gp_r (some 87)] s2 K
    refine gs_E.ck (pc' := 93) (ls' := [gp_r (some 74), gp_i v1, gp_i v2, gp_l v3, gp_n, gp_i v5, gp_i v6, v7, v8]) (st' := []) (s' := gp_wI s2 87 v6.toNat x3) rfl ⟨rfl, H.1.1, H.1.2⟩ ?_
    replace H := H.2 _ rfl
    generalize gp_wI s2 87 v6.toNat x3 = s4 at H ⊢
    refine gs_E.stp (pc' := 103) (ls' := [gp_r (some 74), gp_i v1, gp_i v2, gp_l v3, gp_n, gp_i v5, gp_i v6, v7, v8]) (st' := [gp_i v6, gp_r (some 87), gp_r (some 88)]) (s' := s4) 5 rfl ?_
    refine gs_E.ck (pc' := 104) (ls' := [gp_r (some 74), gp_i v1, gp_i v2, gp_l v3, gp_n, gp_i v5, gp_i v6, v7, v8]) (st' := [gp_i (gp_I s4 87 v6.toNat), gp_r (some 88)]) (s' := s4) rfl (Or.inl ⟨rfl, H.1.1, H.1.2⟩) ?_
    replace H := H.2
    refine gs_E.stp (pc' := 106) (ls' := [gp_r (some 74), gp_i v1, gp_i v2, gp_l v3, gp_n, gp_i v5, gp_i v6, v7, v8]) (st' := [gp_i v6, gp_i (gp_I s4 87 v6.toNat), gp_r (some 88)]) (s' := s4) 1 rfl ?_
    refine gs_E.ck (pc' := 107) (ls' := [gp_r (some 74), gp_i v1, gp_i v2, gp_l v3, gp_n, gp_i v5, gp_i v6, v7, v8]) (st' := []) (s' := gp_wI s4 88 (gp_I s4 87 v6.toNat).toNat v6) rfl ⟨rfl, H.1.1, H.1.2⟩ ?_
    replace H := H.2 _ rfl
    generalize gp_wI s4 88 (gp_I s4 87 v6.toNat).toNat v6 = s5 at H ⊢
    refine gs_E.stp (pc' := 70) (ls' := [gp_r (some 74), gp_i v1, gp_i v2, gp_l v3, gp_n, gp_i v5, gp_i (gp_wr (v6 + 1)), v7, v8]) (st' := []) (s' := s5) 2 rfl ?_
    exact H

set_option maxRecDepth 100000 in
/-- GatheredPointsModel.ends, pc 124 -/
theorem s_3093_124 {L d : Nat} {K : Option gV → gH → Prop} {s : gH} (v1 : Int) (v2 : Int) (v3 : BitVec 64) (v5 : Int) (v6 : Int) (v7 : gV) (v8 : gV) (H : ((v6 < v5 → ((0 ≤ v6 ∧ v6 < 64) ∧ ((0 ≤ (gp_wr (1280 + (gp_I s 87 v6.toNat))) ∧ (gp_wr (1280 + (gp_I s 87 v6.toNat))) < 5440) ∧ gs_C L d 3094 6 [gp_r (some 74), gp_l (gp_L s 76 (gp_wr (1280 + (gp_I s 87 v6.toNat))).toNat)] s (fun r s1 => ∃ m2, r = some (gp_l m2) ∧ ((0 ≤ (gp_wr ((gp_wr (64 * v2)) + v6)) ∧ (gp_wr ((gp_wr (64 * v2)) + v6)) < 5440) ∧ (∀ s3, s3 = gp_wL s1 76 (gp_wr ((gp_wr (64 * v2)) + v6)).toNat m2 → ((0 ≤ (gp_wr (1280 + (gp_I s 87 v6.toNat))) ∧ (gp_wr (1280 + (gp_I s 87 v6.toNat))) < 5440) ∧ gs_C L d 3094 6 [gp_r (some 74), gp_l (gp_L s3 77 (gp_wr (1280 + (gp_I s 87 v6.toNat))).toNat)] s3 (fun r s4 => ∃ m5, r = some (gp_l m5) ∧ ((0 ≤ (gp_wr ((gp_wr (64 * v2)) + v6)) ∧ (gp_wr ((gp_wr (64 * v2)) + v6)) < 5440) ∧ (∀ s6, s6 = gp_wL s4 77 (gp_wr ((gp_wr (64 * v2)) + v6)).toNat m5 → ((0 ≤ (gp_wr (1280 + (gp_I s 87 v6.toNat))) ∧ (gp_wr (1280 + (gp_I s 87 v6.toNat))) < 5440) ∧ ((0 ≤ (gp_wr ((gp_wr (64 * v2)) + v6)) ∧ (gp_wr ((gp_wr (64 * v2)) + v6)) < 5440) ∧ (∀ s7, s7 = gp_wI s6 78 (gp_wr ((gp_wr (64 * v2)) + v6)).toNat (gp_I s6 78 (gp_wr (1280 + (gp_I s 87 v6.toNat))).toNat) → ((0 ≤ (gp_wr (1280 + (gp_I s 87 v6.toNat))) ∧ (gp_wr (1280 + (gp_I s 87 v6.toNat))) < 5440) ∧ ((0 ≤ (gp_wr ((gp_wr (64 * v2)) + v6)) ∧ (gp_wr ((gp_wr (64 * v2)) + v6)) < 5440) ∧ (∀ s8, s8 = gp_wI s7 79 (gp_wr ((gp_wr (64 * v2)) + v6)).toNat (gp_I s7 79 (gp_wr (1280 + (gp_I s 87 v6.toNat))).toNat) → ((0 ≤ (gp_wr (1280 + (gp_I s 87 v6.toNat))) ∧ (gp_wr (1280 + (gp_I s 87 v6.toNat))) < 5440) ∧ ((0 ≤ (gp_wr ((gp_wr (64 * v2)) + v6)) ∧ (gp_wr ((gp_wr (64 * v2)) + v6)) < 5440) ∧ (∀ s9, s9 = gp_wI s8 80 (gp_wr ((gp_wr (64 * v2)) + v6)).toNat (gp_I s8 80 (gp_wr (1280 + (gp_I s 87 v6.toNat))).toNat) → gs_E L (d + 1) 3093 124 [gp_r (some 74), gp_i v1, gp_i v2, gp_l v3, gp_n, gp_i v5, gp_i (gp_wr (v6 + 1)), gp_i (gp_wr (1280 + (gp_I s 87 v6.toNat))), gp_i (gp_wr ((gp_wr (64 * v2)) + v6))] [] s9 K))))))))))))))))))) ∧ (¬ v6 < v5 → K none s))) : gs_E L (d + 1) 3093 124 [gp_r (some 74), gp_i v1, gp_i v2, gp_l v3, gp_n, gp_i v5, gp_i v6, v7, v8] [] s K := by
  refine gs_E.stp (pc' := 128) (ls' := [gp_r (some 74), gp_i v1, gp_i v2, gp_l v3, gp_n, gp_i v5, gp_i v6, v7, v8]) (st' := [gp_i v5, gp_i v6]) (s' := s) 2 rfl ?_
  refine gs_E.br (c := ¬ v6 < v5) (p1 := 237) (p2 := 131) (l1 := [gp_r (some 74), gp_i v1, gp_i v2, gp_l v3, gp_n, gp_i v5, gp_i v6, v7, v8]) (l2 := [gp_r (some 74), gp_i v1, gp_i v2, gp_l v3, gp_n, gp_i v5, gp_i v6, v7, v8]) (s1 := []) (s2 := []) rfl gs_b2 (fun hc => ?_) (fun hc => ?_)
  · replace H := H.2 hc
    exact gs_E.ret (r := none) rfl H
  · replace H := H.1 (Decidable.byContradiction hc)
    refine gs_E.stp (pc' := 140) (ls' := [gp_r (some 74), gp_i v1, gp_i v2, gp_l v3, gp_n, gp_i v5, gp_i v6, v7, v8]) (st' := [gp_i v6, gp_r (some 87), gp_i 1280]) (s' := s) 4 rfl ?_
    refine gs_E.ck (pc' := 141) (ls' := [gp_r (some 74), gp_i v1, gp_i v2, gp_l v3, gp_n, gp_i v5, gp_i v6, v7, v8]) (st' := [gp_i (gp_I s 87 v6.toNat), gp_i 1280]) (s' := s) rfl (Or.inl ⟨rfl, H.1.1, H.1.2⟩) ?_
    replace H := H.2
    refine gs_E.stp (pc' := 166) (ls' := [gp_r (some 74), gp_i v1, gp_i v2, gp_l v3, gp_n, gp_i v5, gp_i v6, gp_i (gp_wr (1280 + (gp_I s 87 v6.toNat))), gp_i (gp_wr ((gp_wr (64 * v2)) + v6))]) (st' := [gp_i (gp_wr (1280 + (gp_I s 87 v6.toNat))), gp_r (some 76), gp_r (some 74), gp_i (gp_wr ((gp_wr (64 * v2)) + v6)), gp_r (some 76)]) (s' := s) 15 rfl ?_
    refine gs_E.ck (pc' := 167) (ls' := [gp_r (some 74), gp_i v1, gp_i v2, gp_l v3, gp_n, gp_i v5, gp_i v6, gp_i (gp_wr (1280 + (gp_I s 87 v6.toNat))), gp_i (gp_wr ((gp_wr (64 * v2)) + v6))]) (st' := [gp_l (gp_L s 76 (gp_wr (1280 + (gp_I s 87 v6.toNat))).toNat), gp_r (some 74), gp_i (gp_wr ((gp_wr (64 * v2)) + v6)), gp_r (some 76)]) (s' := s) rfl ⟨rfl, H.1.1, H.1.2⟩ ?_
    replace H := H.2
    refine gs_E.call (args := [gp_r (some 74), gp_l (gp_L s 76 (gp_wr (1280 + (gp_I s 87 v6.toNat))).toNat)]) (m := 6) (y' := 3094) (st' := [gp_i (gp_wr ((gp_wr (64 * v2)) + v6)), gp_r (some 76)]) rfl H (fun r s1 H => ?_)
    obtain ⟨m2, rfl, H⟩ := H
    show gs_E L (d + 1) 3093 170 [gp_r (some 74), gp_i v1, gp_i v2, gp_l v3, gp_n, gp_i v5, gp_i v6, gp_i (gp_wr (1280 + (gp_I s 87 v6.toNat))), gp_i (gp_wr ((gp_wr (64 * v2)) + v6))] [gp_l m2, gp_i (gp_wr ((gp_wr (64 * v2)) + v6)), gp_r (some 76)] s1 K
    refine gs_E.ck (pc' := 171) (ls' := [gp_r (some 74), gp_i v1, gp_i v2, gp_l v3, gp_n, gp_i v5, gp_i v6, gp_i (gp_wr (1280 + (gp_I s 87 v6.toNat))), gp_i (gp_wr ((gp_wr (64 * v2)) + v6))]) (st' := []) (s' := gp_wL s1 76 (gp_wr ((gp_wr (64 * v2)) + v6)).toNat m2) rfl ⟨rfl, H.1.1, H.1.2⟩ ?_
    replace H := H.2 _ rfl
    generalize gp_wL s1 76 (gp_wr ((gp_wr (64 * v2)) + v6)).toNat m2 = s3 at H ⊢
    refine gs_E.stp (pc' := 184) (ls' := [gp_r (some 74), gp_i v1, gp_i v2, gp_l v3, gp_n, gp_i v5, gp_i v6, gp_i (gp_wr (1280 + (gp_I s 87 v6.toNat))), gp_i (gp_wr ((gp_wr (64 * v2)) + v6))]) (st' := [gp_i (gp_wr (1280 + (gp_I s 87 v6.toNat))), gp_r (some 77), gp_r (some 74), gp_i (gp_wr ((gp_wr (64 * v2)) + v6)), gp_r (some 77)]) (s' := s3) 7 rfl ?_
    refine gs_E.ck (pc' := 185) (ls' := [gp_r (some 74), gp_i v1, gp_i v2, gp_l v3, gp_n, gp_i v5, gp_i v6, gp_i (gp_wr (1280 + (gp_I s 87 v6.toNat))), gp_i (gp_wr ((gp_wr (64 * v2)) + v6))]) (st' := [gp_l (gp_L s3 77 (gp_wr (1280 + (gp_I s 87 v6.toNat))).toNat), gp_r (some 74), gp_i (gp_wr ((gp_wr (64 * v2)) + v6)), gp_r (some 77)]) (s' := s3) rfl ⟨rfl, H.1.1, H.1.2⟩ ?_
    replace H := H.2
    refine gs_E.call (args := [gp_r (some 74), gp_l (gp_L s3 77 (gp_wr (1280 + (gp_I s 87 v6.toNat))).toNat)]) (m := 6) (y' := 3094) (st' := [gp_i (gp_wr ((gp_wr (64 * v2)) + v6)), gp_r (some 77)]) rfl H (fun r s4 H => ?_)
    obtain ⟨m5, rfl, H⟩ := H
    show gs_E L (d + 1) 3093 188 [gp_r (some 74), gp_i v1, gp_i v2, gp_l v3, gp_n, gp_i v5, gp_i v6, gp_i (gp_wr (1280 + (gp_I s 87 v6.toNat))), gp_i (gp_wr ((gp_wr (64 * v2)) + v6))] [gp_l m5, gp_i (gp_wr ((gp_wr (64 * v2)) + v6)), gp_r (some 77)] s4 K
    refine gs_E.ck (pc' := 189) (ls' := [gp_r (some 74), gp_i v1, gp_i v2, gp_l v3, gp_n, gp_i v5, gp_i v6, gp_i (gp_wr (1280 + (gp_I s 87 v6.toNat))), gp_i (gp_wr ((gp_wr (64 * v2)) + v6))]) (st' := []) (s' := gp_wL s4 77 (gp_wr ((gp_wr (64 * v2)) + v6)).toNat m5) rfl ⟨rfl, H.1.1, H.1.2⟩ ?_
    replace H := H.2 _ rfl
    generalize gp_wL s4 77 (gp_wr ((gp_wr (64 * v2)) + v6)).toNat m5 = s6 at H ⊢
    refine gs_E.stp (pc' := 201) (ls' := [gp_r (some 74), gp_i v1, gp_i v2, gp_l v3, gp_n, gp_i v5, gp_i v6, gp_i (gp_wr (1280 + (gp_I s 87 v6.toNat))), gp_i (gp_wr ((gp_wr (64 * v2)) + v6))]) (st' := [gp_i (gp_wr (1280 + (gp_I s 87 v6.toNat))), gp_r (some 78), gp_i (gp_wr ((gp_wr (64 * v2)) + v6)), gp_r (some 78)]) (s' := s6) 6 rfl ?_
    refine gs_E.ck (pc' := 202) (ls' := [gp_r (some 74), gp_i v1, gp_i v2, gp_l v3, gp_n, gp_i v5, gp_i v6, gp_i (gp_wr (1280 + (gp_I s 87 v6.toNat))), gp_i (gp_wr ((gp_wr (64 * v2)) + v6))]) (st' := [gp_i (gp_I s6 78 (gp_wr (1280 + (gp_I s 87 v6.toNat))).toNat), gp_i (gp_wr ((gp_wr (64 * v2)) + v6)), gp_r (some 78)]) (s' := s6) rfl (Or.inl ⟨rfl, H.1.1, H.1.2⟩) ?_
    replace H := H.2
    refine gs_E.ck (pc' := 203) (ls' := [gp_r (some 74), gp_i v1, gp_i v2, gp_l v3, gp_n, gp_i v5, gp_i v6, gp_i (gp_wr (1280 + (gp_I s 87 v6.toNat))), gp_i (gp_wr ((gp_wr (64 * v2)) + v6))]) (st' := []) (s' := gp_wI s6 78 (gp_wr ((gp_wr (64 * v2)) + v6)).toNat (gp_I s6 78 (gp_wr (1280 + (gp_I s 87 v6.toNat))).toNat)) rfl ⟨rfl, H.1.1, H.1.2⟩ ?_
    replace H := H.2 _ rfl
    generalize gp_wI s6 78 (gp_wr ((gp_wr (64 * v2)) + v6)).toNat (gp_I s6 78 (gp_wr (1280 + (gp_I s 87 v6.toNat))).toNat) = s7 at H ⊢
    refine gs_E.stp (pc' := 215) (ls' := [gp_r (some 74), gp_i v1, gp_i v2, gp_l v3, gp_n, gp_i v5, gp_i v6, gp_i (gp_wr (1280 + (gp_I s 87 v6.toNat))), gp_i (gp_wr ((gp_wr (64 * v2)) + v6))]) (st' := [gp_i (gp_wr (1280 + (gp_I s 87 v6.toNat))), gp_r (some 79), gp_i (gp_wr ((gp_wr (64 * v2)) + v6)), gp_r (some 79)]) (s' := s7) 6 rfl ?_
    refine gs_E.ck (pc' := 216) (ls' := [gp_r (some 74), gp_i v1, gp_i v2, gp_l v3, gp_n, gp_i v5, gp_i v6, gp_i (gp_wr (1280 + (gp_I s 87 v6.toNat))), gp_i (gp_wr ((gp_wr (64 * v2)) + v6))]) (st' := [gp_i (gp_I s7 79 (gp_wr (1280 + (gp_I s 87 v6.toNat))).toNat), gp_i (gp_wr ((gp_wr (64 * v2)) + v6)), gp_r (some 79)]) (s' := s7) rfl (Or.inl ⟨rfl, H.1.1, H.1.2⟩) ?_
    replace H := H.2
    refine gs_E.ck (pc' := 217) (ls' := [gp_r (some 74), gp_i v1, gp_i v2, gp_l v3, gp_n, gp_i v5, gp_i v6, gp_i (gp_wr (1280 + (gp_I s 87 v6.toNat))), gp_i (gp_wr ((gp_wr (64 * v2)) + v6))]) (st' := []) (s' := gp_wI s7 79 (gp_wr ((gp_wr (64 * v2)) + v6)).toNat (gp_I s7 79 (gp_wr (1280 + (gp_I s 87 v6.toNat))).toNat)) rfl ⟨rfl, H.1.1, H.1.2⟩ ?_
    replace H := H.2 _ rfl
    generalize gp_wI s7 79 (gp_wr ((gp_wr (64 * v2)) + v6)).toNat (gp_I s7 79 (gp_wr (1280 + (gp_I s 87 v6.toNat))).toNat) = s8 at H ⊢
    refine gs_E.stp (pc' := 229) (ls' := [gp_r (some 74), gp_i v1, gp_i v2, gp_l v3, gp_n, gp_i v5, gp_i v6, gp_i (gp_wr (1280 + (gp_I s 87 v6.toNat))), gp_i (gp_wr ((gp_wr (64 * v2)) + v6))]) (st' := [gp_i (gp_wr (1280 + (gp_I s 87 v6.toNat))), gp_r (some 80), gp_i (gp_wr ((gp_wr (64 * v2)) + v6)), gp_r (some 80)]) (s' := s8) 6 rfl ?_
    refine gs_E.ck (pc' := 230) (ls' := [gp_r (some 74), gp_i v1, gp_i v2, gp_l v3, gp_n, gp_i v5, gp_i v6, gp_i (gp_wr (1280 + (gp_I s 87 v6.toNat))), gp_i (gp_wr ((gp_wr (64 * v2)) + v6))]) (st' := [gp_i (gp_I s8 80 (gp_wr (1280 + (gp_I s 87 v6.toNat))).toNat), gp_i (gp_wr ((gp_wr (64 * v2)) + v6)), gp_r (some 80)]) (s' := s8) rfl (Or.inl ⟨rfl, H.1.1, H.1.2⟩) ?_
    replace H := H.2
    refine gs_E.ck (pc' := 231) (ls' := [gp_r (some 74), gp_i v1, gp_i v2, gp_l v3, gp_n, gp_i v5, gp_i v6, gp_i (gp_wr (1280 + (gp_I s 87 v6.toNat))), gp_i (gp_wr ((gp_wr (64 * v2)) + v6))]) (st' := []) (s' := gp_wI s8 80 (gp_wr ((gp_wr (64 * v2)) + v6)).toNat (gp_I s8 80 (gp_wr (1280 + (gp_I s 87 v6.toNat))).toNat)) rfl ⟨rfl, H.1.1, H.1.2⟩ ?_
    replace H := H.2 _ rfl
    generalize gp_wI s8 80 (gp_wr ((gp_wr (64 * v2)) + v6)).toNat (gp_I s8 80 (gp_wr (1280 + (gp_I s 87 v6.toNat))).toNat) = s9 at H ⊢
    refine gs_E.stp (pc' := 124) (ls' := [gp_r (some 74), gp_i v1, gp_i v2, gp_l v3, gp_n, gp_i v5, gp_i (gp_wr (v6 + 1)), gp_i (gp_wr (1280 + (gp_I s 87 v6.toNat))), gp_i (gp_wr ((gp_wr (64 * v2)) + v6))]) (st' := []) (s' := s9) 2 rfl ?_
    exact H

set_option maxRecDepth 100000 in
/-- GatheredPointsModel.placed, pc 0 -/
theorem s_3094_e {L d : Nat} {K : Option gV → gH → Prop} {s : gH} (p0 : BitVec 64) (H : gs_E L (d + 1) 3094 5 [gp_r (some 74), gp_l p0, gp_n, gp_l (0#64), gp_n, gp_i 0] [] s K) : gs_C L (d + 1) 3094 6 [gp_r (some 74), gp_l p0] s K := by
  show gs_E L (d + 1) 3094 0 [gp_r (some 74), gp_l p0, gp_n, gp_n, gp_n, gp_n] [] s K
  refine gs_E.stp (pc' := 5) (ls' := [gp_r (some 74), gp_l p0, gp_n, gp_l (0#64), gp_n, gp_i 0]) (st' := []) (s' := s) 4 rfl ?_
  exact H

set_option maxRecDepth 100000 in
/-- GatheredPointsModel.placed, pc 5 -/
theorem s_3094_5 {L d : Nat} {K : Option gV → gH → Prop} {s : gH} (v1 : BitVec 64) (v3 : BitVec 64) (v5 : Int) (H : ((v5 < 64 → gs_C L d 3078 3 [gp_l v1, gp_i v5] s (fun r s1 => ∃ x2, r = some (gp_i x2) ∧ ((x2 = 0 → gs_E L (d + 1) 3094 35 [gp_r (some 74), gp_l v1, gp_n, gp_l v3, gp_n, gp_i v5] [gp_l (0#64), gp_l v3] s1 K) ∧ (¬ x2 = 0 → ((0 ≤ v5 ∧ v5 < 64) ∧ gs_E L (d + 1) 3094 35 [gp_r (some 74), gp_l v1, gp_n, gp_l v3, gp_n, gp_i v5] [gp_l ((1#64) <<< ((gp_I s1 88 v5.toNat) % 64).toNat), gp_l v3] s1 K))))) ∧ (¬ v5 < 64 → K (some (gp_l v3)) s))) : gs_E L (d + 1) 3094 5 [gp_r (some 74), gp_l v1, gp_n, gp_l v3, gp_n, gp_i v5] [] s K := by
  refine gs_E.stp (pc' := 9) (ls' := [gp_r (some 74), gp_l v1, gp_n, gp_l v3, gp_n, gp_i v5]) (st' := [gp_i 64, gp_i v5]) (s' := s) 2 rfl ?_
  refine gs_E.br (c := ¬ v5 < 64) (p1 := 43) (p2 := 12) (l1 := [gp_r (some 74), gp_l v1, gp_n, gp_l v3, gp_n, gp_i v5]) (l2 := [gp_r (some 74), gp_l v1, gp_n, gp_l v3, gp_n, gp_i v5]) (s1 := []) (s2 := []) rfl gs_b2 (fun hc => ?_) (fun hc => ?_)
  · replace H := H.2 hc
    refine gs_E.stp (pc' := 44) (ls' := [gp_r (some 74), gp_l v1, gp_n, gp_l v3, gp_n, gp_i v5]) (st' := [gp_l v3]) (s' := s) 1 rfl ?_
    exact gs_E.ret (r := (some (gp_l v3))) rfl H
  · replace H := H.1 (Decidable.byContradiction hc)
    refine gs_E.stp (pc' := 16) (ls' := [gp_r (some 74), gp_l v1, gp_n, gp_l v3, gp_n, gp_i v5]) (st' := [gp_i v5, gp_l v1, gp_l v3]) (s' := s) 3 rfl ?_
    refine gs_E.call (args := [gp_l v1, gp_i v5]) (m := 3) (y' := 3078) (st' := [gp_l v3]) rfl H (fun r s1 H => ?_)
    obtain ⟨x2, rfl, H⟩ := H
    show gs_E L (d + 1) 3094 19 [gp_r (some 74), gp_l v1, gp_n, gp_l v3, gp_n, gp_i v5] [gp_i x2, gp_l v3] s1 K
    refine gs_E.br (c := x2 = 0) (p1 := 34) (p2 := 22) (l1 := [gp_r (some 74), gp_l v1, gp_n, gp_l v3, gp_n, gp_i v5]) (l2 := [gp_r (some 74), gp_l v1, gp_n, gp_l v3, gp_n, gp_i v5]) (s1 := [gp_l v3]) (s2 := [gp_l v3]) rfl gs_b1 (fun hc => ?_) (fun hc => ?_)
    · replace H := H.1 hc
      refine gs_E.stp (pc' := 35) (ls' := [gp_r (some 74), gp_l v1, gp_n, gp_l v3, gp_n, gp_i v5]) (st' := [gp_l (0#64), gp_l v3]) (s' := s1) 1 rfl ?_
      exact H
    · replace H := H.2 hc
      refine gs_E.stp (pc' := 29) (ls' := [gp_r (some 74), gp_l v1, gp_n, gp_l v3, gp_n, gp_i v5]) (st' := [gp_i v5, gp_r (some 88), gp_l (1#64), gp_l v3]) (s' := s1) 4 rfl ?_
      refine gs_E.ck (pc' := 30) (ls' := [gp_r (some 74), gp_l v1, gp_n, gp_l v3, gp_n, gp_i v5]) (st' := [gp_i (gp_I s1 88 v5.toNat), gp_l (1#64), gp_l v3]) (s' := s1) rfl (Or.inl ⟨rfl, H.1.1, H.1.2⟩) ?_
      replace H := H.2
      refine gs_E.stp (pc' := 35) (ls' := [gp_r (some 74), gp_l v1, gp_n, gp_l v3, gp_n, gp_i v5]) (st' := [gp_l ((1#64) <<< ((gp_I s1 88 v5.toNat) % 64).toNat), gp_l v3]) (s' := s1) 2 rfl ?_
      exact H

set_option maxRecDepth 100000 in
/-- GatheredPointsModel.placed, pc 35 -/
theorem s_3094_35 {L d : Nat} {K : Option gV → gH → Prop} {s : gH} (v1 : BitVec 64) (v3 : BitVec 64) (v5 : Int) (w0 : BitVec 64) (w1 : BitVec 64) (H : gs_E L (d + 1) 3094 5 [gp_r (some 74), gp_l v1, gp_n, gp_l (w0 ||| w1), gp_n, gp_i (gp_wr (v5 + 1))] [] s K) : gs_E L (d + 1) 3094 35 [gp_r (some 74), gp_l v1, gp_n, gp_l v3, gp_n, gp_i v5] [gp_l w1, gp_l w0] s K := by
  refine gs_E.stp (pc' := 5) (ls' := [gp_r (some 74), gp_l v1, gp_n, gp_l (w0 ||| w1), gp_n, gp_i (gp_wr (v5 + 1))]) (st' := []) (s' := s) 4 rfl ?_
  exact H

set_option maxRecDepth 100000 in
/-- GatheredPointsModel.isBig, pc 0 -/
theorem s_3095_e {L d : Nat} {K : Option gV → gH → Prop} {s : gH} (p0 : Int) (H : gs_E L (d + 1) 3095 4 [gp_r (some 74), gp_i p0, gp_i 0, gp_i 0] [] s K) : gs_C L (d + 1) 3095 4 [gp_r (some 74), gp_i p0] s K := by
  show gs_E L (d + 1) 3095 0 [gp_r (some 74), gp_i p0, gp_n, gp_n] [] s K
  refine gs_E.stp (pc' := 4) (ls' := [gp_r (some 74), gp_i p0, gp_i 0, gp_i 0]) (st' := []) (s' := s) 4 rfl ?_
  exact H

set_option maxRecDepth 100000 in
/-- GatheredPointsModel.isBig, pc 4 -/
theorem s_3095_4 {L d : Nat} {K : Option gV → gH → Prop} {s : gH} (v1 : Int) (v2 : Int) (v3 : Int) (H : ((0 ≤ v1 ∧ v1 < 85) ∧ ((v3 < (gp_I s 81 v1.toNat) → ((v2 = 0 → ((0 ≤ (gp_wr ((gp_wr (64 * v1)) + v3)) ∧ (gp_wr ((gp_wr (64 * v1)) + v3)) < 5440) ∧ (((gp_cmp (gp_L s 76 (gp_wr ((gp_wr (64 * v1)) + v3)).toNat) (0#64)) = 0 → ((0 ≤ (gp_wr ((gp_wr (64 * v1)) + v3)) ∧ (gp_wr ((gp_wr (64 * v1)) + v3)) < 5440) ∧ gs_C L d 3073 6 [gp_l (BitVec.ofInt 64 (gp_I s 78 (gp_wr ((gp_wr (64 * v1)) + v3)).toNat)), gp_l (BitVec.ofInt 64 (-99999)), gp_l (BitVec.ofInt 64 99999)] s (fun r s1 => ∃ x2, r = some (gp_i x2) ∧ ((x2 = 0 → gs_E L (d + 1) 3095 98 [gp_r (some 74), gp_i v1, gp_i v2, gp_i v3] [] s1 K) ∧ (¬ x2 = 0 → gs_E L (d + 1) 3095 58 [gp_r (some 74), gp_i v1, gp_i v2, gp_i v3] [] s1 K))))) ∧ (¬ (gp_cmp (gp_L s 76 (gp_wr ((gp_wr (64 * v1)) + v3)).toNat) (0#64)) = 0 → gs_E L (d + 1) 3095 58 [gp_r (some 74), gp_i v1, gp_i v2, gp_i v3] [] s K)))) ∧ (¬ v2 = 0 → gs_E L (d + 1) 3095 98 [gp_r (some 74), gp_i v1, gp_i v2, gp_i v3] [] s K))) ∧ (¬ v3 < (gp_I s 81 v1.toNat) → ((v2 = 0 ∨ v2 = 1) ∧ K (some (gp_i v2)) s))))) : gs_E L (d + 1) 3095 4 [gp_r (some 74), gp_i v1, gp_i v2, gp_i v3] [] s K := by
  refine gs_E.stp (pc' := 10) (ls' := [gp_r (some 74), gp_i v1, gp_i v2, gp_i v3]) (st' := [gp_i v1, gp_r (some 81), gp_i v3]) (s' := s) 4 rfl ?_
  refine gs_E.ck (pc' := 11) (ls' := [gp_r (some 74), gp_i v1, gp_i v2, gp_i v3]) (st' := [gp_i (gp_I s 81 v1.toNat), gp_i v3]) (s' := s) rfl (Or.inl ⟨rfl, H.1.1, H.1.2⟩) ?_
  replace H := H.2
  refine gs_E.br (c := ¬ v3 < (gp_I s 81 v1.toNat)) (p1 := 110) (p2 := 14) (l1 := [gp_r (some 74), gp_i v1, gp_i v2, gp_i v3]) (l2 := [gp_r (some 74), gp_i v1, gp_i v2, gp_i v3]) (s1 := []) (s2 := []) rfl gs_b2 (fun hc => ?_) (fun hc => ?_)
  · replace H := H.2 hc
    refine gs_E.stp (pc' := 111) (ls' := [gp_r (some 74), gp_i v1, gp_i v2, gp_i v3]) (st' := [gp_i v2]) (s' := s) 1 rfl ?_
    exact gs_E.retz (r := (some (gp_i v2))) rfl H.1 H.2
  · replace H := H.1 (Decidable.byContradiction hc)
    refine gs_E.stp (pc' := 15) (ls' := [gp_r (some 74), gp_i v1, gp_i v2, gp_i v3]) (st' := [gp_i v2]) (s' := s) 1 rfl ?_
    refine gs_E.br (c := ¬ v2 = 0) (p1 := 98) (p2 := 18) (l1 := [gp_r (some 74), gp_i v1, gp_i v2, gp_i v3]) (l2 := [gp_r (some 74), gp_i v1, gp_i v2, gp_i v3]) (s1 := []) (s2 := []) rfl gs_b2 (fun hc => ?_) (fun hc => ?_)
    · replace H := H.2 hc
      exact H
    · replace H := H.1 (Decidable.byContradiction hc)
      refine gs_E.stp (pc' := 28) (ls' := [gp_r (some 74), gp_i v1, gp_i v2, gp_i v3]) (st' := [gp_i (gp_wr ((gp_wr (64 * v1)) + v3)), gp_r (some 76)]) (s' := s) 7 rfl ?_
      refine gs_E.ck (pc' := 29) (ls' := [gp_r (some 74), gp_i v1, gp_i v2, gp_i v3]) (st' := [gp_l (gp_L s 76 (gp_wr ((gp_wr (64 * v1)) + v3)).toNat)]) (s' := s) rfl ⟨rfl, H.1.1, H.1.2⟩ ?_
      replace H := H.2
      refine gs_E.stp (pc' := 31) (ls' := [gp_r (some 74), gp_i v1, gp_i v2, gp_i v3]) (st' := [gp_i (gp_cmp (gp_L s 76 (gp_wr ((gp_wr (64 * v1)) + v3)).toNat) (0#64))]) (s' := s) 2 rfl ?_
      refine gs_E.br (c := ¬ (gp_cmp (gp_L s 76 (gp_wr ((gp_wr (64 * v1)) + v3)).toNat) (0#64)) = 0) (p1 := 58) (p2 := 34) (l1 := [gp_r (some 74), gp_i v1, gp_i v2, gp_i v3]) (l2 := [gp_r (some 74), gp_i v1, gp_i v2, gp_i v3]) (s1 := []) (s2 := []) rfl gs_b2 (fun hc => ?_) (fun hc => ?_)
      · replace H := H.2 hc
        exact H
      · replace H := H.1 (Decidable.byContradiction hc)
        refine gs_E.stp (pc' := 44) (ls' := [gp_r (some 74), gp_i v1, gp_i v2, gp_i v3]) (st' := [gp_i (gp_wr ((gp_wr (64 * v1)) + v3)), gp_r (some 78)]) (s' := s) 7 rfl ?_
        refine gs_E.ck (pc' := 45) (ls' := [gp_r (some 74), gp_i v1, gp_i v2, gp_i v3]) (st' := [gp_i (gp_I s 78 (gp_wr ((gp_wr (64 * v1)) + v3)).toNat)]) (s' := s) rfl (Or.inl ⟨rfl, H.1.1, H.1.2⟩) ?_
        replace H := H.2
        refine gs_E.stp (pc' := 52) (ls' := [gp_r (some 74), gp_i v1, gp_i v2, gp_i v3]) (st' := [gp_l (BitVec.ofInt 64 99999), gp_l (BitVec.ofInt 64 (-99999)), gp_l (BitVec.ofInt 64 (gp_I s 78 (gp_wr ((gp_wr (64 * v1)) + v3)).toNat))]) (s' := s) 3 rfl ?_
        refine gs_E.call (args := [gp_l (BitVec.ofInt 64 (gp_I s 78 (gp_wr ((gp_wr (64 * v1)) + v3)).toNat)), gp_l (BitVec.ofInt 64 (-99999)), gp_l (BitVec.ofInt 64 99999)]) (m := 6) (y' := 3073) (st' := []) rfl H (fun r s1 H => ?_)
        obtain ⟨x2, rfl, H⟩ := H
        show gs_E L (d + 1) 3095 55 [gp_r (some 74), gp_i v1, gp_i v2, gp_i v3] [gp_i x2] s1 K
        refine gs_E.br (c := x2 = 0) (p1 := 98) (p2 := 58) (l1 := [gp_r (some 74), gp_i v1, gp_i v2, gp_i v3]) (l2 := [gp_r (some 74), gp_i v1, gp_i v2, gp_i v3]) (s1 := []) (s2 := []) rfl gs_b1 (fun hc => ?_) (fun hc => ?_)
        · replace H := H.1 hc
          exact H
        · replace H := H.2 hc
          exact H

set_option maxRecDepth 100000 in
/-- GatheredPointsModel.isBig, pc 58 -/
theorem s_3095_58 {L d : Nat} {K : Option gV → gH → Prop} {s : gH} (v1 : Int) (v2 : Int) (v3 : Int) (H : ((0 ≤ (gp_wr ((gp_wr (64 * v1)) + v3)) ∧ (gp_wr ((gp_wr (64 * v1)) + v3)) < 5440) ∧ (((gp_cmp (gp_L s 77 (gp_wr ((gp_wr (64 * v1)) + v3)).toNat) (0#64)) = 0 → ((0 ≤ (gp_wr ((gp_wr (64 * v1)) + v3)) ∧ (gp_wr ((gp_wr (64 * v1)) + v3)) < 5440) ∧ gs_C L d 3073 6 [gp_l (BitVec.ofInt 64 (gp_I s 79 (gp_wr ((gp_wr (64 * v1)) + v3)).toNat)), gp_l (BitVec.ofInt 64 (-99999)), gp_l (BitVec.ofInt 64 99999)] s (fun r s1 => ∃ x2, r = some (gp_i x2) ∧ ((x2 = 0 → gs_E L (d + 1) 3095 98 [gp_r (some 74), gp_i v1, gp_i v2, gp_i v3] [] s1 K) ∧ (¬ x2 = 0 → gs_E L (d + 1) 3095 102 [gp_r (some 74), gp_i v1, gp_i v2, gp_i v3] [] s1 K))))) ∧ (¬ (gp_cmp (gp_L s 77 (gp_wr ((gp_wr (64 * v1)) + v3)).toNat) (0#64)) = 0 → gs_E L (d + 1) 3095 102 [gp_r (some 74), gp_i v1, gp_i v2, gp_i v3] [] s K)))) : gs_E L (d + 1) 3095 58 [gp_r (some 74), gp_i v1, gp_i v2, gp_i v3] [] s K := by
  refine gs_E.stp (pc' := 68) (ls' := [gp_r (some 74), gp_i v1, gp_i v2, gp_i v3]) (st' := [gp_i (gp_wr ((gp_wr (64 * v1)) + v3)), gp_r (some 77)]) (s' := s) 7 rfl ?_
  refine gs_E.ck (pc' := 69) (ls' := [gp_r (some 74), gp_i v1, gp_i v2, gp_i v3]) (st' := [gp_l (gp_L s 77 (gp_wr ((gp_wr (64 * v1)) + v3)).toNat)]) (s' := s) rfl ⟨rfl, H.1.1, H.1.2⟩ ?_
  replace H := H.2
  refine gs_E.stp (pc' := 71) (ls' := [gp_r (some 74), gp_i v1, gp_i v2, gp_i v3]) (st' := [gp_i (gp_cmp (gp_L s 77 (gp_wr ((gp_wr (64 * v1)) + v3)).toNat) (0#64))]) (s' := s) 2 rfl ?_
  refine gs_E.br (c := ¬ (gp_cmp (gp_L s 77 (gp_wr ((gp_wr (64 * v1)) + v3)).toNat) (0#64)) = 0) (p1 := 102) (p2 := 74) (l1 := [gp_r (some 74), gp_i v1, gp_i v2, gp_i v3]) (l2 := [gp_r (some 74), gp_i v1, gp_i v2, gp_i v3]) (s1 := []) (s2 := []) rfl gs_b2 (fun hc => ?_) (fun hc => ?_)
  · replace H := H.2 hc
    exact H
  · replace H := H.1 (Decidable.byContradiction hc)
    refine gs_E.stp (pc' := 84) (ls' := [gp_r (some 74), gp_i v1, gp_i v2, gp_i v3]) (st' := [gp_i (gp_wr ((gp_wr (64 * v1)) + v3)), gp_r (some 79)]) (s' := s) 7 rfl ?_
    refine gs_E.ck (pc' := 85) (ls' := [gp_r (some 74), gp_i v1, gp_i v2, gp_i v3]) (st' := [gp_i (gp_I s 79 (gp_wr ((gp_wr (64 * v1)) + v3)).toNat)]) (s' := s) rfl (Or.inl ⟨rfl, H.1.1, H.1.2⟩) ?_
    replace H := H.2
    refine gs_E.stp (pc' := 92) (ls' := [gp_r (some 74), gp_i v1, gp_i v2, gp_i v3]) (st' := [gp_l (BitVec.ofInt 64 99999), gp_l (BitVec.ofInt 64 (-99999)), gp_l (BitVec.ofInt 64 (gp_I s 79 (gp_wr ((gp_wr (64 * v1)) + v3)).toNat))]) (s' := s) 3 rfl ?_
    refine gs_E.call (args := [gp_l (BitVec.ofInt 64 (gp_I s 79 (gp_wr ((gp_wr (64 * v1)) + v3)).toNat)), gp_l (BitVec.ofInt 64 (-99999)), gp_l (BitVec.ofInt 64 99999)]) (m := 6) (y' := 3073) (st' := []) rfl H (fun r s1 H => ?_)
    obtain ⟨x2, rfl, H⟩ := H
    show gs_E L (d + 1) 3095 95 [gp_r (some 74), gp_i v1, gp_i v2, gp_i v3] [gp_i x2] s1 K
    refine gs_E.br (c := ¬ x2 = 0) (p1 := 102) (p2 := 98) (l1 := [gp_r (some 74), gp_i v1, gp_i v2, gp_i v3]) (l2 := [gp_r (some 74), gp_i v1, gp_i v2, gp_i v3]) (s1 := []) (s2 := []) rfl gs_b2 (fun hc => ?_) (fun hc => ?_)
    · replace H := H.2 hc
      exact H
    · replace H := H.1 (Decidable.byContradiction hc)
      exact H

set_option maxRecDepth 100000 in
/-- GatheredPointsModel.isBig, pc 98 -/
theorem s_3095_98 {L d : Nat} {K : Option gV → gH → Prop} {s : gH} (v1 : Int) (v2 : Int) (v3 : Int) (H : gs_E L (d + 1) 3095 103 [gp_r (some 74), gp_i v1, gp_i v2, gp_i v3] [gp_i 1] s K) : gs_E L (d + 1) 3095 98 [gp_r (some 74), gp_i v1, gp_i v2, gp_i v3] [] s K := by
  refine gs_E.stp (pc' := 103) (ls' := [gp_r (some 74), gp_i v1, gp_i v2, gp_i v3]) (st' := [gp_i 1]) (s' := s) 2 rfl ?_
  exact H

set_option maxRecDepth 100000 in
/-- GatheredPointsModel.isBig, pc 102 -/
theorem s_3095_102 {L d : Nat} {K : Option gV → gH → Prop} {s : gH} (v1 : Int) (v2 : Int) (v3 : Int) (H : gs_E L (d + 1) 3095 103 [gp_r (some 74), gp_i v1, gp_i v2, gp_i v3] [gp_i 0] s K) : gs_E L (d + 1) 3095 102 [gp_r (some 74), gp_i v1, gp_i v2, gp_i v3] [] s K := by
  refine gs_E.stp (pc' := 103) (ls' := [gp_r (some 74), gp_i v1, gp_i v2, gp_i v3]) (st' := [gp_i 0]) (s' := s) 1 rfl ?_
  exact H

set_option maxRecDepth 100000 in
/-- GatheredPointsModel.isBig, pc 103 -/
theorem s_3095_103 {L d : Nat} {K : Option gV → gH → Prop} {s : gH} (v1 : Int) (v2 : Int) (v3 : Int) (w0 : Int) (H : gs_E L (d + 1) 3095 4 [gp_r (some 74), gp_i v1, gp_i w0, gp_i (gp_wr (v3 + 1))] [] s K) : gs_E L (d + 1) 3095 103 [gp_r (some 74), gp_i v1, gp_i v2, gp_i v3] [gp_i w0] s K := by
  refine gs_E.stp (pc' := 4) (ls' := [gp_r (some 74), gp_i v1, gp_i w0, gp_i (gp_wr (v3 + 1))]) (st' := []) (s' := s) 3 rfl ?_
  exact H

set_option maxRecDepth 100000 in
/-- GatheredPointsModel.comes, pc 0 -/
theorem s_3096_e {L d : Nat} {K : Option gV → gH → Prop} {s : gH} (p0 : Int) (H : gs_E L (d + 1) 3096 2 [gp_r (some 74), gp_i p0, gp_i 0, gp_n, gp_n, gp_n, gp_n, gp_n] [] s K) : gs_C L (d + 1) 3096 8 [gp_r (some 74), gp_i p0] s K := by
  show gs_E L (d + 1) 3096 0 [gp_r (some 74), gp_i p0, gp_n, gp_n, gp_n, gp_n, gp_n, gp_n] [] s K
  refine gs_E.stp (pc' := 2) (ls' := [gp_r (some 74), gp_i p0, gp_i 0, gp_n, gp_n, gp_n, gp_n, gp_n]) (st' := []) (s' := s) 2 rfl ?_
  exact H

set_option maxRecDepth 100000 in
/-- GatheredPointsModel.comes, pc 2 -/
theorem s_3096_2 {L d : Nat} {K : Option gV → gH → Prop} {s : gH} (v1 : Int) (v2 : Int) (v3 : gV) (v4 : gV) (v5 : gV) (v6 : gV) (v7 : gV) (H : ((0 ≤ v1 ∧ v1 < 85) ∧ ((v2 < (gp_I s 81 v1.toNat) → gs_E L (d + 1) 3096 20 [gp_r (some 74), gp_i v1, gp_i v2, gp_l (0#64), gp_n, gp_l (0#64), gp_n, gp_i 0] [] s K) ∧ (¬ v2 < (gp_I s 81 v1.toNat) → ((0 ≤ v1 ∧ v1 < 85) ∧ ((0 ≤ (gp_wr ((gp_I s 81 v1.toNat) - 1)) ∧ (gp_wr ((gp_I s 81 v1.toNat) - 1)) < 64) ∧ K (some (gp_i (gp_I s 89 (gp_wr ((gp_I s 81 v1.toNat) - 1)).toNat))) s)))))) : gs_E L (d + 1) 3096 2 [gp_r (some 74), gp_i v1, gp_i v2, v3, v4, v5, v6, v7] [] s K := by
  refine gs_E.stp (pc' := 8) (ls' := [gp_r (some 74), gp_i v1, gp_i v2, v3, v4, v5, v6, v7]) (st' := [gp_i v1, gp_r (some 81), gp_i v2]) (s' := s) 4 rfl ?_
  refine gs_E.ck (pc' := 9) (ls' := [gp_r (some 74), gp_i v1, gp_i v2, v3, v4, v5, v6, v7]) (st' := [gp_i (gp_I s 81 v1.toNat), gp_i v2]) (s' := s) rfl (Or.inl ⟨rfl, H.1.1, H.1.2⟩) ?_
  replace H := H.2
  refine gs_E.br (c := ¬ v2 < (gp_I s 81 v1.toNat)) (p1 := 145) (p2 := 12) (l1 := [gp_r (some 74), gp_i v1, gp_i v2, v3, v4, v5, v6, v7]) (l2 := [gp_r (some 74), gp_i v1, gp_i v2, v3, v4, v5, v6, v7]) (s1 := []) (s2 := []) rfl gs_b2 (fun hc => ?_) (fun hc => ?_)
  · replace H := H.2 hc
    refine gs_E.stp (pc' := 154) (ls' := [gp_r (some 74), gp_i v1, gp_i v2, v3, v4, v5, v6, v7]) (st' := [gp_i v1, gp_r (some 81), gp_r (some 89)]) (s' := s) 5 rfl ?_
    refine gs_E.ck (pc' := 155) (ls' := [gp_r (some 74), gp_i v1, gp_i v2, v3, v4, v5, v6, v7]) (st' := [gp_i (gp_I s 81 v1.toNat), gp_r (some 89)]) (s' := s) rfl (Or.inl ⟨rfl, H.1.1, H.1.2⟩) ?_
    replace H := H.2
    refine gs_E.stp (pc' := 157) (ls' := [gp_r (some 74), gp_i v1, gp_i v2, v3, v4, v5, v6, v7]) (st' := [gp_i (gp_wr ((gp_I s 81 v1.toNat) - 1)), gp_r (some 89)]) (s' := s) 2 rfl ?_
    refine gs_E.ck (pc' := 158) (ls' := [gp_r (some 74), gp_i v1, gp_i v2, v3, v4, v5, v6, v7]) (st' := [gp_i (gp_I s 89 (gp_wr ((gp_I s 81 v1.toNat) - 1)).toNat)]) (s' := s) rfl (Or.inl ⟨rfl, H.1.1, H.1.2⟩) ?_
    replace H := H.2
    exact gs_E.ret (r := (some (gp_i (gp_I s 89 (gp_wr ((gp_I s 81 v1.toNat) - 1)).toNat)))) rfl H
  · replace H := H.1 (Decidable.byContradiction hc)
    refine gs_E.stp (pc' := 20) (ls' := [gp_r (some 74), gp_i v1, gp_i v2, gp_l (0#64), gp_n, gp_l (0#64), gp_n, gp_i 0]) (st' := []) (s' := s) 6 rfl ?_
    exact H

set_option maxRecDepth 100000 in
/-- GatheredPointsModel.comes, pc 20 -/
theorem s_3096_20 {L d : Nat} {K : Option gV → gH → Prop} {s : gH} (v1 : Int) (v2 : Int) (v3 : BitVec 64) (v5 : BitVec 64) (v7 : Int) (H : ((v7 < v2 → ((0 ≤ (gp_wr ((gp_wr (64 * v1)) + v2)) ∧ (gp_wr ((gp_wr (64 * v1)) + v2)) < 5440) ∧ gs_C L d 3078 3 [gp_l (gp_L s 76 (gp_wr ((gp_wr (64 * v1)) + v2)).toNat), gp_i v7] s (fun r s4 => ∃ x5, r = some (gp_i x5) ∧ ((x5 = 0 → gs_E L (d + 1) 3096 59 [gp_r (some 74), gp_i v1, gp_i v2, gp_l v3, gp_n, gp_l v5, gp_n, gp_i v7] [gp_l (0#64), gp_l v3] s4 K) ∧ (¬ x5 = 0 → ((0 ≤ v7 ∧ v7 < 64) ∧ gs_E L (d + 1) 3096 59 [gp_r (some 74), gp_i v1, gp_i v2, gp_l v3, gp_n, gp_l v5, gp_n, gp_i v7] [gp_l ((1#64) <<< ((gp_I s4 89 v7.toNat) % 64).toNat), gp_l v3] s4 K)))))) ∧ (¬ v7 < v2 → ((0 ≤ (gp_wr ((gp_wr (64 * v1)) + v2)) ∧ (gp_wr ((gp_wr (64 * v1)) + v2)) < 5440) ∧ ((0 ≤ (gp_wr ((gp_wr (64 * v1)) + v2)) ∧ (gp_wr ((gp_wr (64 * v1)) + v2)) < 5440) ∧ gs_C L d 3088 9 [gp_r (some 74), gp_l v3, gp_l v5, gp_i (gp_I s 78 (gp_wr ((gp_wr (64 * v1)) + v2)).toNat), gp_i (gp_I s 79 (gp_wr ((gp_wr (64 * v1)) + v2)).toNat)] s (fun r s1 => ∃ x2, r = some (gp_i x2) ∧ ((0 ≤ v2 ∧ v2 < 64) ∧ (∀ s3, s3 = gp_wI s1 89 v2.toNat x2 → gs_E L (d + 1) 3096 2 [gp_r (some 74), gp_i v1, gp_i (gp_wr (v2 + 1)), gp_l v3, gp_n, gp_l v5, gp_n, gp_i v7] [] s3 K)))))))) : gs_E L (d + 1) 3096 20 [gp_r (some 74), gp_i v1, gp_i v2, gp_l v3, gp_n, gp_l v5, gp_n, gp_i v7] [] s K := by
  refine gs_E.stp (pc' := 23) (ls' := [gp_r (some 74), gp_i v1, gp_i v2, gp_l v3, gp_n, gp_l v5, gp_n, gp_i v7]) (st' := [gp_i v2, gp_i v7]) (s' := s) 2 rfl ?_
  refine gs_E.br (c := ¬ v7 < v2) (p1 := 104) (p2 := 26) (l1 := [gp_r (some 74), gp_i v1, gp_i v2, gp_l v3, gp_n, gp_l v5, gp_n, gp_i v7]) (l2 := [gp_r (some 74), gp_i v1, gp_i v2, gp_l v3, gp_n, gp_l v5, gp_n, gp_i v7]) (s1 := []) (s2 := []) rfl gs_b2 (fun hc => ?_) (fun hc => ?_)
  · replace H := H.2 hc
    refine gs_E.stp (pc' := 123) (ls' := [gp_r (some 74), gp_i v1, gp_i v2, gp_l v3, gp_n, gp_l v5, gp_n, gp_i v7]) (st' := [gp_i (gp_wr ((gp_wr (64 * v1)) + v2)), gp_r (some 78), gp_l v5, gp_l v3, gp_r (some 74), gp_i v2, gp_r (some 89)]) (s' := s) 13 rfl ?_
    refine gs_E.ck (pc' := 124) (ls' := [gp_r (some 74), gp_i v1, gp_i v2, gp_l v3, gp_n, gp_l v5, gp_n, gp_i v7]) (st' := [gp_i (gp_I s 78 (gp_wr ((gp_wr (64 * v1)) + v2)).toNat), gp_l v5, gp_l v3, gp_r (some 74), gp_i v2, gp_r (some 89)]) (s' := s) rfl (Or.inl ⟨rfl, H.1.1, H.1.2⟩) ?_
    replace H := H.2
    refine gs_E.stp (pc' := 134) (ls' := [gp_r (some 74), gp_i v1, gp_i v2, gp_l v3, gp_n, gp_l v5, gp_n, gp_i v7]) (st' := [gp_i (gp_wr ((gp_wr (64 * v1)) + v2)), gp_r (some 79), gp_i (gp_I s 78 (gp_wr ((gp_wr (64 * v1)) + v2)).toNat), gp_l v5, gp_l v3, gp_r (some 74), gp_i v2, gp_r (some 89)]) (s' := s) 7 rfl ?_
    refine gs_E.ck (pc' := 135) (ls' := [gp_r (some 74), gp_i v1, gp_i v2, gp_l v3, gp_n, gp_l v5, gp_n, gp_i v7]) (st' := [gp_i (gp_I s 79 (gp_wr ((gp_wr (64 * v1)) + v2)).toNat), gp_i (gp_I s 78 (gp_wr ((gp_wr (64 * v1)) + v2)).toNat), gp_l v5, gp_l v3, gp_r (some 74), gp_i v2, gp_r (some 89)]) (s' := s) rfl (Or.inl ⟨rfl, H.1.1, H.1.2⟩) ?_
    replace H := H.2
    refine gs_E.call (args := [gp_r (some 74), gp_l v3, gp_l v5, gp_i (gp_I s 78 (gp_wr ((gp_wr (64 * v1)) + v2)).toNat), gp_i (gp_I s 79 (gp_wr ((gp_wr (64 * v1)) + v2)).toNat)]) (m := 9) (y' := 3088) (st' := [gp_i v2, gp_r (some 89)]) rfl H (fun r s1 H => ?_)
    obtain ⟨x2, rfl, H⟩ := H
    show gs_E L (d + 1) 3096 138 [gp_r (some 74), gp_i v1, gp_i v2, gp_l v3, gp_n, gp_l v5, gp_n, gp_i v7] [gp_i x2, gp_i v2, gp_r (some 89)] s1 K
    refine gs_E.ck (pc' := 139) (ls' := [gp_r (some 74), gp_i v1, gp_i v2, gp_l v3, gp_n, gp_l v5, gp_n, gp_i v7]) (st' := []) (s' := gp_wI s1 89 v2.toNat x2) rfl ⟨rfl, H.1.1, H.1.2⟩ ?_
    replace H := H.2 _ rfl
    generalize gp_wI s1 89 v2.toNat x2 = s3 at H ⊢
    refine gs_E.stp (pc' := 2) (ls' := [gp_r (some 74), gp_i v1, gp_i (gp_wr (v2 + 1)), gp_l v3, gp_n, gp_l v5, gp_n, gp_i v7]) (st' := []) (s' := s3) 2 rfl ?_
    exact H
  · replace H := H.1 (Decidable.byContradiction hc)
    refine gs_E.stp (pc' := 37) (ls' := [gp_r (some 74), gp_i v1, gp_i v2, gp_l v3, gp_n, gp_l v5, gp_n, gp_i v7]) (st' := [gp_i (gp_wr ((gp_wr (64 * v1)) + v2)), gp_r (some 76), gp_l v3]) (s' := s) 8 rfl ?_
    refine gs_E.ck (pc' := 38) (ls' := [gp_r (some 74), gp_i v1, gp_i v2, gp_l v3, gp_n, gp_l v5, gp_n, gp_i v7]) (st' := [gp_l (gp_L s 76 (gp_wr ((gp_wr (64 * v1)) + v2)).toNat), gp_l v3]) (s' := s) rfl ⟨rfl, H.1.1, H.1.2⟩ ?_
    replace H := H.2
    refine gs_E.stp (pc' := 40) (ls' := [gp_r (some 74), gp_i v1, gp_i v2, gp_l v3, gp_n, gp_l v5, gp_n, gp_i v7]) (st' := [gp_i v7, gp_l (gp_L s 76 (gp_wr ((gp_wr (64 * v1)) + v2)).toNat), gp_l v3]) (s' := s) 1 rfl ?_
    refine gs_E.call (args := [gp_l (gp_L s 76 (gp_wr ((gp_wr (64 * v1)) + v2)).toNat), gp_i v7]) (m := 3) (y' := 3078) (st' := [gp_l v3]) rfl H (fun r s4 H => ?_)
    obtain ⟨x5, rfl, H⟩ := H
    show gs_E L (d + 1) 3096 43 [gp_r (some 74), gp_i v1, gp_i v2, gp_l v3, gp_n, gp_l v5, gp_n, gp_i v7] [gp_i x5, gp_l v3] s4 K
    refine gs_E.br (c := x5 = 0) (p1 := 58) (p2 := 46) (l1 := [gp_r (some 74), gp_i v1, gp_i v2, gp_l v3, gp_n, gp_l v5, gp_n, gp_i v7]) (l2 := [gp_r (some 74), gp_i v1, gp_i v2, gp_l v3, gp_n, gp_l v5, gp_n, gp_i v7]) (s1 := [gp_l v3]) (s2 := [gp_l v3]) rfl gs_b1 (fun hc => ?_) (fun hc => ?_)
    · replace H := H.1 hc
      refine gs_E.stp (pc' := 59) (ls' := [gp_r (some 74), gp_i v1, gp_i v2, gp_l v3, gp_n, gp_l v5, gp_n, gp_i v7]) (st' := [gp_l (0#64), gp_l v3]) (s' := s4) 1 rfl ?_
      exact H
    · replace H := H.2 hc
      refine gs_E.stp (pc' := 53) (ls' := [gp_r (some 74), gp_i v1, gp_i v2, gp_l v3, gp_n, gp_l v5, gp_n, gp_i v7]) (st' := [gp_i v7, gp_r (some 89), gp_l (1#64), gp_l v3]) (s' := s4) 4 rfl ?_
      refine gs_E.ck (pc' := 54) (ls' := [gp_r (some 74), gp_i v1, gp_i v2, gp_l v3, gp_n, gp_l v5, gp_n, gp_i v7]) (st' := [gp_i (gp_I s4 89 v7.toNat), gp_l (1#64), gp_l v3]) (s' := s4) rfl (Or.inl ⟨rfl, H.1.1, H.1.2⟩) ?_
      replace H := H.2
      refine gs_E.stp (pc' := 59) (ls' := [gp_r (some 74), gp_i v1, gp_i v2, gp_l v3, gp_n, gp_l v5, gp_n, gp_i v7]) (st' := [gp_l ((1#64) <<< ((gp_I s4 89 v7.toNat) % 64).toNat), gp_l v3]) (s' := s4) 2 rfl ?_
      exact H

set_option maxRecDepth 100000 in
/-- GatheredPointsModel.comes, pc 59 -/
theorem s_3096_59 {L d : Nat} {K : Option gV → gH → Prop} {s : gH} (v1 : Int) (v2 : Int) (v3 : BitVec 64) (v5 : BitVec 64) (v7 : Int) (w0 : BitVec 64) (w1 : BitVec 64) (H : ((0 ≤ (gp_wr ((gp_wr (64 * v1)) + v2)) ∧ (gp_wr ((gp_wr (64 * v1)) + v2)) < 5440) ∧ gs_C L d 3078 3 [gp_l (gp_L s 77 (gp_wr ((gp_wr (64 * v1)) + v2)).toNat), gp_i v7] s (fun r s1 => ∃ x2, r = some (gp_i x2) ∧ ((x2 = 0 → gs_E L (d + 1) 3096 95 [gp_r (some 74), gp_i v1, gp_i v2, gp_l (w0 ||| w1), gp_n, gp_l v5, gp_n, gp_i v7] [gp_l (0#64), gp_l v5] s1 K) ∧ (¬ x2 = 0 → ((0 ≤ v7 ∧ v7 < 64) ∧ gs_E L (d + 1) 3096 95 [gp_r (some 74), gp_i v1, gp_i v2, gp_l (w0 ||| w1), gp_n, gp_l v5, gp_n, gp_i v7] [gp_l ((1#64) <<< ((gp_I s1 89 v7.toNat) % 64).toNat), gp_l v5] s1 K)))))) : gs_E L (d + 1) 3096 59 [gp_r (some 74), gp_i v1, gp_i v2, gp_l v3, gp_n, gp_l v5, gp_n, gp_i v7] [gp_l w1, gp_l w0] s K := by
  refine gs_E.stp (pc' := 73) (ls' := [gp_r (some 74), gp_i v1, gp_i v2, gp_l (w0 ||| w1), gp_n, gp_l v5, gp_n, gp_i v7]) (st' := [gp_i (gp_wr ((gp_wr (64 * v1)) + v2)), gp_r (some 77), gp_l v5]) (s' := s) 10 rfl ?_
  refine gs_E.ck (pc' := 74) (ls' := [gp_r (some 74), gp_i v1, gp_i v2, gp_l (w0 ||| w1), gp_n, gp_l v5, gp_n, gp_i v7]) (st' := [gp_l (gp_L s 77 (gp_wr ((gp_wr (64 * v1)) + v2)).toNat), gp_l v5]) (s' := s) rfl ⟨rfl, H.1.1, H.1.2⟩ ?_
  replace H := H.2
  refine gs_E.stp (pc' := 76) (ls' := [gp_r (some 74), gp_i v1, gp_i v2, gp_l (w0 ||| w1), gp_n, gp_l v5, gp_n, gp_i v7]) (st' := [gp_i v7, gp_l (gp_L s 77 (gp_wr ((gp_wr (64 * v1)) + v2)).toNat), gp_l v5]) (s' := s) 1 rfl ?_
  refine gs_E.call (args := [gp_l (gp_L s 77 (gp_wr ((gp_wr (64 * v1)) + v2)).toNat), gp_i v7]) (m := 3) (y' := 3078) (st' := [gp_l v5]) rfl H (fun r s1 H => ?_)
  obtain ⟨x2, rfl, H⟩ := H
  show gs_E L (d + 1) 3096 79 [gp_r (some 74), gp_i v1, gp_i v2, gp_l (w0 ||| w1), gp_n, gp_l v5, gp_n, gp_i v7] [gp_i x2, gp_l v5] s1 K
  refine gs_E.br (c := x2 = 0) (p1 := 94) (p2 := 82) (l1 := [gp_r (some 74), gp_i v1, gp_i v2, gp_l (w0 ||| w1), gp_n, gp_l v5, gp_n, gp_i v7]) (l2 := [gp_r (some 74), gp_i v1, gp_i v2, gp_l (w0 ||| w1), gp_n, gp_l v5, gp_n, gp_i v7]) (s1 := [gp_l v5]) (s2 := [gp_l v5]) rfl gs_b1 (fun hc => ?_) (fun hc => ?_)
  · replace H := H.1 hc
    refine gs_E.stp (pc' := 95) (ls' := [gp_r (some 74), gp_i v1, gp_i v2, gp_l (w0 ||| w1), gp_n, gp_l v5, gp_n, gp_i v7]) (st' := [gp_l (0#64), gp_l v5]) (s' := s1) 1 rfl ?_
    exact H
  · replace H := H.2 hc
    refine gs_E.stp (pc' := 89) (ls' := [gp_r (some 74), gp_i v1, gp_i v2, gp_l (w0 ||| w1), gp_n, gp_l v5, gp_n, gp_i v7]) (st' := [gp_i v7, gp_r (some 89), gp_l (1#64), gp_l v5]) (s' := s1) 4 rfl ?_
    refine gs_E.ck (pc' := 90) (ls' := [gp_r (some 74), gp_i v1, gp_i v2, gp_l (w0 ||| w1), gp_n, gp_l v5, gp_n, gp_i v7]) (st' := [gp_i (gp_I s1 89 v7.toNat), gp_l (1#64), gp_l v5]) (s' := s1) rfl (Or.inl ⟨rfl, H.1.1, H.1.2⟩) ?_
    replace H := H.2
    refine gs_E.stp (pc' := 95) (ls' := [gp_r (some 74), gp_i v1, gp_i v2, gp_l (w0 ||| w1), gp_n, gp_l v5, gp_n, gp_i v7]) (st' := [gp_l ((1#64) <<< ((gp_I s1 89 v7.toNat) % 64).toNat), gp_l v5]) (s' := s1) 2 rfl ?_
    exact H

set_option maxRecDepth 100000 in
/-- GatheredPointsModel.comes, pc 95 -/
theorem s_3096_95 {L d : Nat} {K : Option gV → gH → Prop} {s : gH} (v1 : Int) (v2 : Int) (v3 : BitVec 64) (v5 : BitVec 64) (v7 : Int) (w0 : BitVec 64) (w1 : BitVec 64) (H : gs_E L (d + 1) 3096 20 [gp_r (some 74), gp_i v1, gp_i v2, gp_l v3, gp_n, gp_l (w0 ||| w1), gp_n, gp_i (gp_wr (v7 + 1))] [] s K) : gs_E L (d + 1) 3096 95 [gp_r (some 74), gp_i v1, gp_i v2, gp_l v3, gp_n, gp_l v5, gp_n, gp_i v7] [gp_l w1, gp_l w0] s K := by
  refine gs_E.stp (pc' := 20) (ls' := [gp_r (some 74), gp_i v1, gp_i v2, gp_l v3, gp_n, gp_l (w0 ||| w1), gp_n, gp_i (gp_wr (v7 + 1))]) (st' := []) (s' := s) 4 rfl ?_
  exact H

set_option maxRecDepth 100000 in
/-- GatheredPointsModel.best, pc 0 -/
theorem s_3097_e {L d : Nat} {K : Option gV → gH → Prop} {s : gH} (p0 : Int) (p1 : Int) (p2 : Option Nat) (p3 : Int) (p4 : Int) (H : ((0 ≤ (gp_wr ((gp_wr (64 * p0)) + p1)) ∧ (gp_wr ((gp_wr (64 * p0)) + p1)) < 5440) ∧ (((gp_cmp (gp_L s 76 (gp_wr ((gp_wr (64 * p0)) + p1)).toNat) (0#64)) = 0 → ((0 ≤ (gp_wr ((gp_wr (64 * p0)) + p1)) ∧ (gp_wr ((gp_wr (64 * p0)) + p1)) < 5440) ∧ gs_E L (d + 1) 3097 32 [gp_r (some 74), gp_i p0, gp_i p1, gp_r p2, gp_i p3, gp_i p4, gp_i (gp_wr ((gp_wr (64 * p0)) + p1)), gp_n, gp_n] [gp_i (gp_I s 78 (gp_wr ((gp_wr (64 * p0)) + p1)).toNat)] s K)) ∧ (¬ (gp_cmp (gp_L s 76 (gp_wr ((gp_wr (64 * p0)) + p1)).toNat) (0#64)) = 0 → gs_E L (d + 1) 3097 32 [gp_r (some 74), gp_i p0, gp_i p1, gp_r p2, gp_i p3, gp_i p4, gp_i (gp_wr ((gp_wr (64 * p0)) + p1)), gp_n, gp_n] [gp_i (-2147483648)] s K)))) : gs_C L (d + 1) 3097 9 [gp_r (some 74), gp_i p0, gp_i p1, gp_r p2, gp_i p3, gp_i p4] s K := by
  show gs_E L (d + 1) 3097 0 [gp_r (some 74), gp_i p0, gp_i p1, gp_r p2, gp_i p3, gp_i p4, gp_n, gp_n, gp_n] [] s K
  refine gs_E.stp (pc' := 14) (ls' := [gp_r (some 74), gp_i p0, gp_i p1, gp_r p2, gp_i p3, gp_i p4, gp_i (gp_wr ((gp_wr (64 * p0)) + p1)), gp_n, gp_n]) (st' := [gp_i (gp_wr ((gp_wr (64 * p0)) + p1)), gp_r (some 76)]) (s' := s) 9 rfl ?_
  refine gs_E.ck (pc' := 15) (ls' := [gp_r (some 74), gp_i p0, gp_i p1, gp_r p2, gp_i p3, gp_i p4, gp_i (gp_wr ((gp_wr (64 * p0)) + p1)), gp_n, gp_n]) (st' := [gp_l (gp_L s 76 (gp_wr ((gp_wr (64 * p0)) + p1)).toNat)]) (s' := s) rfl ⟨rfl, H.1.1, H.1.2⟩ ?_
  replace H := H.2
  refine gs_E.stp (pc' := 17) (ls' := [gp_r (some 74), gp_i p0, gp_i p1, gp_r p2, gp_i p3, gp_i p4, gp_i (gp_wr ((gp_wr (64 * p0)) + p1)), gp_n, gp_n]) (st' := [gp_i (gp_cmp (gp_L s 76 (gp_wr ((gp_wr (64 * p0)) + p1)).toNat) (0#64))]) (s' := s) 2 rfl ?_
  refine gs_E.br (c := ¬ (gp_cmp (gp_L s 76 (gp_wr ((gp_wr (64 * p0)) + p1)).toNat) (0#64)) = 0) (p1 := 30) (p2 := 20) (l1 := [gp_r (some 74), gp_i p0, gp_i p1, gp_r p2, gp_i p3, gp_i p4, gp_i (gp_wr ((gp_wr (64 * p0)) + p1)), gp_n, gp_n]) (l2 := [gp_r (some 74), gp_i p0, gp_i p1, gp_r p2, gp_i p3, gp_i p4, gp_i (gp_wr ((gp_wr (64 * p0)) + p1)), gp_n, gp_n]) (s1 := []) (s2 := []) rfl gs_b2 (fun hc => ?_) (fun hc => ?_)
  · replace H := H.2 hc
    refine gs_E.stp (pc' := 32) (ls' := [gp_r (some 74), gp_i p0, gp_i p1, gp_r p2, gp_i p3, gp_i p4, gp_i (gp_wr ((gp_wr (64 * p0)) + p1)), gp_n, gp_n]) (st' := [gp_i (-2147483648)]) (s' := s) 1 rfl ?_
    exact H
  · replace H := H.1 (Decidable.byContradiction hc)
    refine gs_E.stp (pc' := 26) (ls' := [gp_r (some 74), gp_i p0, gp_i p1, gp_r p2, gp_i p3, gp_i p4, gp_i (gp_wr ((gp_wr (64 * p0)) + p1)), gp_n, gp_n]) (st' := [gp_i (gp_wr ((gp_wr (64 * p0)) + p1)), gp_r (some 78)]) (s' := s) 3 rfl ?_
    refine gs_E.ck (pc' := 27) (ls' := [gp_r (some 74), gp_i p0, gp_i p1, gp_r p2, gp_i p3, gp_i p4, gp_i (gp_wr ((gp_wr (64 * p0)) + p1)), gp_n, gp_n]) (st' := [gp_i (gp_I s 78 (gp_wr ((gp_wr (64 * p0)) + p1)).toNat)]) (s' := s) rfl (Or.inl ⟨rfl, H.1.1, H.1.2⟩) ?_
    replace H := H.2
    refine gs_E.stp (pc' := 32) (ls' := [gp_r (some 74), gp_i p0, gp_i p1, gp_r p2, gp_i p3, gp_i p4, gp_i (gp_wr ((gp_wr (64 * p0)) + p1)), gp_n, gp_n]) (st' := [gp_i (gp_I s 78 (gp_wr ((gp_wr (64 * p0)) + p1)).toNat)]) (s' := s) 1 rfl ?_
    exact H

set_option maxRecDepth 100000 in
/-- GatheredPointsModel.best, pc 32 -/
theorem s_3097_32 {L d : Nat} {K : Option gV → gH → Prop} {s : gH} (v1 : Int) (v2 : Int) (v3 : Option Nat) (v4 : Int) (v5 : Int) (v6 : Int) (v7 : gV) (v8 : gV) (w0 : Int) (H : gs_E L (d + 1) 3097 37 [gp_r (some 74), gp_i v1, gp_i v2, gp_r v3, gp_i v4, gp_i v5, gp_i v6, gp_i w0, gp_i 0] [] s K) : gs_E L (d + 1) 3097 32 [gp_r (some 74), gp_i v1, gp_i v2, gp_r v3, gp_i v4, gp_i v5, gp_i v6, v7, v8] [gp_i w0] s K := by
  refine gs_E.stp (pc' := 37) (ls' := [gp_r (some 74), gp_i v1, gp_i v2, gp_r v3, gp_i v4, gp_i v5, gp_i v6, gp_i w0, gp_i 0]) (st' := []) (s' := s) 3 rfl ?_
  exact H

set_option maxRecDepth 100000 in
/-- GatheredPointsModel.best, pc 37 -/
theorem s_3097_37 {L d : Nat} {K : Option gV → gH → Prop} {s : gH} (v1 : Int) (v2 : Int) (v3 : Option Nat) (v4 : Int) (v5 : Int) (v6 : Int) (v7 : Int) (v8 : Int) (H : ((v8 < v2 → ((0 ≤ v6 ∧ v6 < 5440) ∧ gs_C L d 3078 3 [gp_l (gp_L s 76 v6.toNat), gp_i v8] s (fun r s1 => ∃ x2, r = some (gp_i x2) ∧ ((x2 = 0 → gs_E L (d + 1) 3097 86 [gp_r (some 74), gp_i v1, gp_i v2, gp_r v3, gp_i v4, gp_i v5, gp_i v6, gp_i v7, gp_i v8] [] s1 K) ∧ (¬ x2 = 0 → (∃ q3, v3 = some q3 ∧ (gp_in (gp_mk L s1) 100 q3 (gp_wr ((gp_wr (v4 * v8)) + v5)) ∧ ((v7 < (gp_I s1 q3 (gp_wr ((gp_wr (v4 * v8)) + v5)).toNat) → (gp_in (gp_mk L s1) 100 q3 (gp_wr ((gp_wr (v4 * v8)) + v5)) ∧ gs_E L (d + 1) 3097 88 [gp_r (some 74), gp_i v1, gp_i v2, gp_r (some q3), gp_i v4, gp_i v5, gp_i v6, gp_i v7, gp_i v8] [gp_i (gp_I s1 q3 (gp_wr ((gp_wr (v4 * v8)) + v5)).toNat)] s1 K)) ∧ (¬ v7 < (gp_I s1 q3 (gp_wr ((gp_wr (v4 * v8)) + v5)).toNat) → gs_E L (d + 1) 3097 86 [gp_r (some 74), gp_i v1, gp_i v2, gp_r (some q3), gp_i v4, gp_i v5, gp_i v6, gp_i v7, gp_i v8] [] s1 K))))))))) ∧ (¬ v8 < v2 → K (some (gp_i v7)) s))) : gs_E L (d + 1) 3097 37 [gp_r (some 74), gp_i v1, gp_i v2, gp_r v3, gp_i v4, gp_i v5, gp_i v6, gp_i v7, gp_i v8] [] s K := by
  refine gs_E.stp (pc' := 40) (ls' := [gp_r (some 74), gp_i v1, gp_i v2, gp_r v3, gp_i v4, gp_i v5, gp_i v6, gp_i v7, gp_i v8]) (st' := [gp_i v2, gp_i v8]) (s' := s) 2 rfl ?_
  refine gs_E.br (c := ¬ v8 < v2) (p1 := 96) (p2 := 43) (l1 := [gp_r (some 74), gp_i v1, gp_i v2, gp_r v3, gp_i v4, gp_i v5, gp_i v6, gp_i v7, gp_i v8]) (l2 := [gp_r (some 74), gp_i v1, gp_i v2, gp_r v3, gp_i v4, gp_i v5, gp_i v6, gp_i v7, gp_i v8]) (s1 := []) (s2 := []) rfl gs_b2 (fun hc => ?_) (fun hc => ?_)
  · replace H := H.2 hc
    refine gs_E.stp (pc' := 98) (ls' := [gp_r (some 74), gp_i v1, gp_i v2, gp_r v3, gp_i v4, gp_i v5, gp_i v6, gp_i v7, gp_i v8]) (st' := [gp_i v7]) (s' := s) 1 rfl ?_
    exact gs_E.ret (r := (some (gp_i v7))) rfl H
  · replace H := H.1 (Decidable.byContradiction hc)
    refine gs_E.stp (pc' := 49) (ls' := [gp_r (some 74), gp_i v1, gp_i v2, gp_r v3, gp_i v4, gp_i v5, gp_i v6, gp_i v7, gp_i v8]) (st' := [gp_i v6, gp_r (some 76)]) (s' := s) 3 rfl ?_
    refine gs_E.ck (pc' := 50) (ls' := [gp_r (some 74), gp_i v1, gp_i v2, gp_r v3, gp_i v4, gp_i v5, gp_i v6, gp_i v7, gp_i v8]) (st' := [gp_l (gp_L s 76 v6.toNat)]) (s' := s) rfl ⟨rfl, H.1.1, H.1.2⟩ ?_
    replace H := H.2
    refine gs_E.stp (pc' := 52) (ls' := [gp_r (some 74), gp_i v1, gp_i v2, gp_r v3, gp_i v4, gp_i v5, gp_i v6, gp_i v7, gp_i v8]) (st' := [gp_i v8, gp_l (gp_L s 76 v6.toNat)]) (s' := s) 1 rfl ?_
    refine gs_E.call (args := [gp_l (gp_L s 76 v6.toNat), gp_i v8]) (m := 3) (y' := 3078) (st' := []) rfl H (fun r s1 H => ?_)
    obtain ⟨x2, rfl, H⟩ := H
    show gs_E L (d + 1) 3097 55 [gp_r (some 74), gp_i v1, gp_i v2, gp_r v3, gp_i v4, gp_i v5, gp_i v6, gp_i v7, gp_i v8] [gp_i x2] s1 K
    refine gs_E.br (c := x2 = 0) (p1 := 86) (p2 := 58) (l1 := [gp_r (some 74), gp_i v1, gp_i v2, gp_r v3, gp_i v4, gp_i v5, gp_i v6, gp_i v7, gp_i v8]) (l2 := [gp_r (some 74), gp_i v1, gp_i v2, gp_r v3, gp_i v4, gp_i v5, gp_i v6, gp_i v7, gp_i v8]) (s1 := []) (s2 := []) rfl gs_b1 (fun hc => ?_) (fun hc => ?_)
    · replace H := H.1 hc
      exact H
    · replace H := H.2 hc
      refine gs_E.stp (pc' := 67) (ls' := [gp_r (some 74), gp_i v1, gp_i v2, gp_r v3, gp_i v4, gp_i v5, gp_i v6, gp_i v7, gp_i v8]) (st' := [gp_i (gp_wr ((gp_wr (v4 * v8)) + v5)), gp_r v3]) (s' := s1) 6 rfl ?_
      obtain ⟨q3, hq, H⟩ := H
      rw [hq]
      refine gs_E.ck (pc' := 68) (ls' := [gp_r (some 74), gp_i v1, gp_i v2, gp_r (some q3), gp_i v4, gp_i v5, gp_i v6, gp_i v7, gp_i v8]) (st' := [gp_i (gp_I s1 q3 (gp_wr ((gp_wr (v4 * v8)) + v5)).toNat)]) (s' := s1) rfl (Or.inl H.1) ?_
      replace H := H.2
      refine gs_E.stp (pc' := 70) (ls' := [gp_r (some 74), gp_i v1, gp_i v2, gp_r (some q3), gp_i v4, gp_i v5, gp_i v6, gp_i v7, gp_i v8]) (st' := [gp_i v7, gp_i (gp_I s1 q3 (gp_wr ((gp_wr (v4 * v8)) + v5)).toNat)]) (s' := s1) 1 rfl ?_
      refine gs_E.br (c := ¬ v7 < (gp_I s1 q3 (gp_wr ((gp_wr (v4 * v8)) + v5)).toNat)) (p1 := 86) (p2 := 73) (l1 := [gp_r (some 74), gp_i v1, gp_i v2, gp_r (some q3), gp_i v4, gp_i v5, gp_i v6, gp_i v7, gp_i v8]) (l2 := [gp_r (some 74), gp_i v1, gp_i v2, gp_r (some q3), gp_i v4, gp_i v5, gp_i v6, gp_i v7, gp_i v8]) (s1 := []) (s2 := []) rfl gs_b2 (fun hc => ?_) (fun hc => ?_)
      · replace H := H.2 hc
        exact H
      · replace H := H.1 (Decidable.byContradiction hc)
        refine gs_E.stp (pc' := 82) (ls' := [gp_r (some 74), gp_i v1, gp_i v2, gp_r (some q3), gp_i v4, gp_i v5, gp_i v6, gp_i v7, gp_i v8]) (st' := [gp_i (gp_wr ((gp_wr (v4 * v8)) + v5)), gp_r (some q3)]) (s' := s1) 6 rfl ?_
        refine gs_E.ck (pc' := 83) (ls' := [gp_r (some 74), gp_i v1, gp_i v2, gp_r (some q3), gp_i v4, gp_i v5, gp_i v6, gp_i v7, gp_i v8]) (st' := [gp_i (gp_I s1 q3 (gp_wr ((gp_wr (v4 * v8)) + v5)).toNat)]) (s' := s1) rfl (Or.inl H.1) ?_
        replace H := H.2
        refine gs_E.stp (pc' := 88) (ls' := [gp_r (some 74), gp_i v1, gp_i v2, gp_r (some q3), gp_i v4, gp_i v5, gp_i v6, gp_i v7, gp_i v8]) (st' := [gp_i (gp_I s1 q3 (gp_wr ((gp_wr (v4 * v8)) + v5)).toNat)]) (s' := s1) 1 rfl ?_
        exact H

set_option maxRecDepth 100000 in
/-- GatheredPointsModel.best, pc 86 -/
theorem s_3097_86 {L d : Nat} {K : Option gV → gH → Prop} {s : gH} (v1 : Int) (v2 : Int) (v3 : Option Nat) (v4 : Int) (v5 : Int) (v6 : Int) (v7 : Int) (v8 : Int) (H : gs_E L (d + 1) 3097 88 [gp_r (some 74), gp_i v1, gp_i v2, gp_r v3, gp_i v4, gp_i v5, gp_i v6, gp_i v7, gp_i v8] [gp_i v7] s K) : gs_E L (d + 1) 3097 86 [gp_r (some 74), gp_i v1, gp_i v2, gp_r v3, gp_i v4, gp_i v5, gp_i v6, gp_i v7, gp_i v8] [] s K := by
  refine gs_E.stp (pc' := 88) (ls' := [gp_r (some 74), gp_i v1, gp_i v2, gp_r v3, gp_i v4, gp_i v5, gp_i v6, gp_i v7, gp_i v8]) (st' := [gp_i v7]) (s' := s) 1 rfl ?_
  exact H

set_option maxRecDepth 100000 in
/-- GatheredPointsModel.best, pc 88 -/
theorem s_3097_88 {L d : Nat} {K : Option gV → gH → Prop} {s : gH} (v1 : Int) (v2 : Int) (v3 : Option Nat) (v4 : Int) (v5 : Int) (v6 : Int) (v7 : Int) (v8 : Int) (w0 : Int) (H : gs_E L (d + 1) 3097 37 [gp_r (some 74), gp_i v1, gp_i v2, gp_r v3, gp_i v4, gp_i v5, gp_i v6, gp_i w0, gp_i (gp_wr (v8 + 1))] [] s K) : gs_E L (d + 1) 3097 88 [gp_r (some 74), gp_i v1, gp_i v2, gp_r v3, gp_i v4, gp_i v5, gp_i v6, gp_i v7, gp_i v8] [gp_i w0] s K := by
  refine gs_E.stp (pc' := 37) (ls' := [gp_r (some 74), gp_i v1, gp_i v2, gp_r v3, gp_i v4, gp_i v5, gp_i v6, gp_i w0, gp_i (gp_wr (v8 + 1))]) (st' := []) (s' := s) 3 rfl ?_
  exact H

set_option maxRecDepth 100000 in
/-- GatheredPointsModel.worst, pc 0 -/
theorem s_3098_e {L d : Nat} {K : Option gV → gH → Prop} {s : gH} (p0 : Int) (p1 : Int) (p2 : Option Nat) (p3 : Int) (p4 : Int) (H : ((0 ≤ (gp_wr ((gp_wr (64 * p0)) + p1)) ∧ (gp_wr ((gp_wr (64 * p0)) + p1)) < 5440) ∧ (((gp_cmp (gp_L s 77 (gp_wr ((gp_wr (64 * p0)) + p1)).toNat) (0#64)) = 0 → ((0 ≤ (gp_wr ((gp_wr (64 * p0)) + p1)) ∧ (gp_wr ((gp_wr (64 * p0)) + p1)) < 5440) ∧ gs_E L (d + 1) 3098 32 [gp_r (some 74), gp_i p0, gp_i p1, gp_r p2, gp_i p3, gp_i p4, gp_i (gp_wr ((gp_wr (64 * p0)) + p1)), gp_n, gp_n] [gp_i (gp_I s 79 (gp_wr ((gp_wr (64 * p0)) + p1)).toNat)] s K)) ∧ (¬ (gp_cmp (gp_L s 77 (gp_wr ((gp_wr (64 * p0)) + p1)).toNat) (0#64)) = 0 → gs_E L (d + 1) 3098 32 [gp_r (some 74), gp_i p0, gp_i p1, gp_r p2, gp_i p3, gp_i p4, gp_i (gp_wr ((gp_wr (64 * p0)) + p1)), gp_n, gp_n] [gp_i 2147483647] s K)))) : gs_C L (d + 1) 3098 9 [gp_r (some 74), gp_i p0, gp_i p1, gp_r p2, gp_i p3, gp_i p4] s K := by
  show gs_E L (d + 1) 3098 0 [gp_r (some 74), gp_i p0, gp_i p1, gp_r p2, gp_i p3, gp_i p4, gp_n, gp_n, gp_n] [] s K
  refine gs_E.stp (pc' := 14) (ls' := [gp_r (some 74), gp_i p0, gp_i p1, gp_r p2, gp_i p3, gp_i p4, gp_i (gp_wr ((gp_wr (64 * p0)) + p1)), gp_n, gp_n]) (st' := [gp_i (gp_wr ((gp_wr (64 * p0)) + p1)), gp_r (some 77)]) (s' := s) 9 rfl ?_
  refine gs_E.ck (pc' := 15) (ls' := [gp_r (some 74), gp_i p0, gp_i p1, gp_r p2, gp_i p3, gp_i p4, gp_i (gp_wr ((gp_wr (64 * p0)) + p1)), gp_n, gp_n]) (st' := [gp_l (gp_L s 77 (gp_wr ((gp_wr (64 * p0)) + p1)).toNat)]) (s' := s) rfl ⟨rfl, H.1.1, H.1.2⟩ ?_
  replace H := H.2
  refine gs_E.stp (pc' := 17) (ls' := [gp_r (some 74), gp_i p0, gp_i p1, gp_r p2, gp_i p3, gp_i p4, gp_i (gp_wr ((gp_wr (64 * p0)) + p1)), gp_n, gp_n]) (st' := [gp_i (gp_cmp (gp_L s 77 (gp_wr ((gp_wr (64 * p0)) + p1)).toNat) (0#64))]) (s' := s) 2 rfl ?_
  refine gs_E.br (c := ¬ (gp_cmp (gp_L s 77 (gp_wr ((gp_wr (64 * p0)) + p1)).toNat) (0#64)) = 0) (p1 := 30) (p2 := 20) (l1 := [gp_r (some 74), gp_i p0, gp_i p1, gp_r p2, gp_i p3, gp_i p4, gp_i (gp_wr ((gp_wr (64 * p0)) + p1)), gp_n, gp_n]) (l2 := [gp_r (some 74), gp_i p0, gp_i p1, gp_r p2, gp_i p3, gp_i p4, gp_i (gp_wr ((gp_wr (64 * p0)) + p1)), gp_n, gp_n]) (s1 := []) (s2 := []) rfl gs_b2 (fun hc => ?_) (fun hc => ?_)
  · replace H := H.2 hc
    refine gs_E.stp (pc' := 32) (ls' := [gp_r (some 74), gp_i p0, gp_i p1, gp_r p2, gp_i p3, gp_i p4, gp_i (gp_wr ((gp_wr (64 * p0)) + p1)), gp_n, gp_n]) (st' := [gp_i 2147483647]) (s' := s) 1 rfl ?_
    exact H
  · replace H := H.1 (Decidable.byContradiction hc)
    refine gs_E.stp (pc' := 26) (ls' := [gp_r (some 74), gp_i p0, gp_i p1, gp_r p2, gp_i p3, gp_i p4, gp_i (gp_wr ((gp_wr (64 * p0)) + p1)), gp_n, gp_n]) (st' := [gp_i (gp_wr ((gp_wr (64 * p0)) + p1)), gp_r (some 79)]) (s' := s) 3 rfl ?_
    refine gs_E.ck (pc' := 27) (ls' := [gp_r (some 74), gp_i p0, gp_i p1, gp_r p2, gp_i p3, gp_i p4, gp_i (gp_wr ((gp_wr (64 * p0)) + p1)), gp_n, gp_n]) (st' := [gp_i (gp_I s 79 (gp_wr ((gp_wr (64 * p0)) + p1)).toNat)]) (s' := s) rfl (Or.inl ⟨rfl, H.1.1, H.1.2⟩) ?_
    replace H := H.2
    refine gs_E.stp (pc' := 32) (ls' := [gp_r (some 74), gp_i p0, gp_i p1, gp_r p2, gp_i p3, gp_i p4, gp_i (gp_wr ((gp_wr (64 * p0)) + p1)), gp_n, gp_n]) (st' := [gp_i (gp_I s 79 (gp_wr ((gp_wr (64 * p0)) + p1)).toNat)]) (s' := s) 1 rfl ?_
    exact H

set_option maxRecDepth 100000 in
/-- GatheredPointsModel.worst, pc 32 -/
theorem s_3098_32 {L d : Nat} {K : Option gV → gH → Prop} {s : gH} (v1 : Int) (v2 : Int) (v3 : Option Nat) (v4 : Int) (v5 : Int) (v6 : Int) (v7 : gV) (v8 : gV) (w0 : Int) (H : gs_E L (d + 1) 3098 37 [gp_r (some 74), gp_i v1, gp_i v2, gp_r v3, gp_i v4, gp_i v5, gp_i v6, gp_i w0, gp_i 0] [] s K) : gs_E L (d + 1) 3098 32 [gp_r (some 74), gp_i v1, gp_i v2, gp_r v3, gp_i v4, gp_i v5, gp_i v6, v7, v8] [gp_i w0] s K := by
  refine gs_E.stp (pc' := 37) (ls' := [gp_r (some 74), gp_i v1, gp_i v2, gp_r v3, gp_i v4, gp_i v5, gp_i v6, gp_i w0, gp_i 0]) (st' := []) (s' := s) 3 rfl ?_
  exact H

set_option maxRecDepth 100000 in
/-- GatheredPointsModel.worst, pc 37 -/
theorem s_3098_37 {L d : Nat} {K : Option gV → gH → Prop} {s : gH} (v1 : Int) (v2 : Int) (v3 : Option Nat) (v4 : Int) (v5 : Int) (v6 : Int) (v7 : Int) (v8 : Int) (H : ((v8 < v2 → ((0 ≤ v6 ∧ v6 < 5440) ∧ gs_C L d 3078 3 [gp_l (gp_L s 77 v6.toNat), gp_i v8] s (fun r s1 => ∃ x2, r = some (gp_i x2) ∧ ((x2 = 0 → gs_E L (d + 1) 3098 86 [gp_r (some 74), gp_i v1, gp_i v2, gp_r v3, gp_i v4, gp_i v5, gp_i v6, gp_i v7, gp_i v8] [] s1 K) ∧ (¬ x2 = 0 → (∃ q3, v3 = some q3 ∧ (gp_in (gp_mk L s1) 100 q3 (gp_wr ((gp_wr (v4 * v8)) + v5)) ∧ (((gp_I s1 q3 (gp_wr ((gp_wr (v4 * v8)) + v5)).toNat) < v7 → (gp_in (gp_mk L s1) 100 q3 (gp_wr ((gp_wr (v4 * v8)) + v5)) ∧ gs_E L (d + 1) 3098 88 [gp_r (some 74), gp_i v1, gp_i v2, gp_r (some q3), gp_i v4, gp_i v5, gp_i v6, gp_i v7, gp_i v8] [gp_i (gp_I s1 q3 (gp_wr ((gp_wr (v4 * v8)) + v5)).toNat)] s1 K)) ∧ (¬ (gp_I s1 q3 (gp_wr ((gp_wr (v4 * v8)) + v5)).toNat) < v7 → gs_E L (d + 1) 3098 86 [gp_r (some 74), gp_i v1, gp_i v2, gp_r (some q3), gp_i v4, gp_i v5, gp_i v6, gp_i v7, gp_i v8] [] s1 K))))))))) ∧ (¬ v8 < v2 → K (some (gp_i v7)) s))) : gs_E L (d + 1) 3098 37 [gp_r (some 74), gp_i v1, gp_i v2, gp_r v3, gp_i v4, gp_i v5, gp_i v6, gp_i v7, gp_i v8] [] s K := by
  refine gs_E.stp (pc' := 40) (ls' := [gp_r (some 74), gp_i v1, gp_i v2, gp_r v3, gp_i v4, gp_i v5, gp_i v6, gp_i v7, gp_i v8]) (st' := [gp_i v2, gp_i v8]) (s' := s) 2 rfl ?_
  refine gs_E.br (c := ¬ v8 < v2) (p1 := 96) (p2 := 43) (l1 := [gp_r (some 74), gp_i v1, gp_i v2, gp_r v3, gp_i v4, gp_i v5, gp_i v6, gp_i v7, gp_i v8]) (l2 := [gp_r (some 74), gp_i v1, gp_i v2, gp_r v3, gp_i v4, gp_i v5, gp_i v6, gp_i v7, gp_i v8]) (s1 := []) (s2 := []) rfl gs_b2 (fun hc => ?_) (fun hc => ?_)
  · replace H := H.2 hc
    refine gs_E.stp (pc' := 98) (ls' := [gp_r (some 74), gp_i v1, gp_i v2, gp_r v3, gp_i v4, gp_i v5, gp_i v6, gp_i v7, gp_i v8]) (st' := [gp_i v7]) (s' := s) 1 rfl ?_
    exact gs_E.ret (r := (some (gp_i v7))) rfl H
  · replace H := H.1 (Decidable.byContradiction hc)
    refine gs_E.stp (pc' := 49) (ls' := [gp_r (some 74), gp_i v1, gp_i v2, gp_r v3, gp_i v4, gp_i v5, gp_i v6, gp_i v7, gp_i v8]) (st' := [gp_i v6, gp_r (some 77)]) (s' := s) 3 rfl ?_
    refine gs_E.ck (pc' := 50) (ls' := [gp_r (some 74), gp_i v1, gp_i v2, gp_r v3, gp_i v4, gp_i v5, gp_i v6, gp_i v7, gp_i v8]) (st' := [gp_l (gp_L s 77 v6.toNat)]) (s' := s) rfl ⟨rfl, H.1.1, H.1.2⟩ ?_
    replace H := H.2
    refine gs_E.stp (pc' := 52) (ls' := [gp_r (some 74), gp_i v1, gp_i v2, gp_r v3, gp_i v4, gp_i v5, gp_i v6, gp_i v7, gp_i v8]) (st' := [gp_i v8, gp_l (gp_L s 77 v6.toNat)]) (s' := s) 1 rfl ?_
    refine gs_E.call (args := [gp_l (gp_L s 77 v6.toNat), gp_i v8]) (m := 3) (y' := 3078) (st' := []) rfl H (fun r s1 H => ?_)
    obtain ⟨x2, rfl, H⟩ := H
    show gs_E L (d + 1) 3098 55 [gp_r (some 74), gp_i v1, gp_i v2, gp_r v3, gp_i v4, gp_i v5, gp_i v6, gp_i v7, gp_i v8] [gp_i x2] s1 K
    refine gs_E.br (c := x2 = 0) (p1 := 86) (p2 := 58) (l1 := [gp_r (some 74), gp_i v1, gp_i v2, gp_r v3, gp_i v4, gp_i v5, gp_i v6, gp_i v7, gp_i v8]) (l2 := [gp_r (some 74), gp_i v1, gp_i v2, gp_r v3, gp_i v4, gp_i v5, gp_i v6, gp_i v7, gp_i v8]) (s1 := []) (s2 := []) rfl gs_b1 (fun hc => ?_) (fun hc => ?_)
    · replace H := H.1 hc
      exact H
    · replace H := H.2 hc
      refine gs_E.stp (pc' := 67) (ls' := [gp_r (some 74), gp_i v1, gp_i v2, gp_r v3, gp_i v4, gp_i v5, gp_i v6, gp_i v7, gp_i v8]) (st' := [gp_i (gp_wr ((gp_wr (v4 * v8)) + v5)), gp_r v3]) (s' := s1) 6 rfl ?_
      obtain ⟨q3, hq, H⟩ := H
      rw [hq]
      refine gs_E.ck (pc' := 68) (ls' := [gp_r (some 74), gp_i v1, gp_i v2, gp_r (some q3), gp_i v4, gp_i v5, gp_i v6, gp_i v7, gp_i v8]) (st' := [gp_i (gp_I s1 q3 (gp_wr ((gp_wr (v4 * v8)) + v5)).toNat)]) (s' := s1) rfl (Or.inl H.1) ?_
      replace H := H.2
      refine gs_E.stp (pc' := 70) (ls' := [gp_r (some 74), gp_i v1, gp_i v2, gp_r (some q3), gp_i v4, gp_i v5, gp_i v6, gp_i v7, gp_i v8]) (st' := [gp_i v7, gp_i (gp_I s1 q3 (gp_wr ((gp_wr (v4 * v8)) + v5)).toNat)]) (s' := s1) 1 rfl ?_
      refine gs_E.br (c := ¬ (gp_I s1 q3 (gp_wr ((gp_wr (v4 * v8)) + v5)).toNat) < v7) (p1 := 86) (p2 := 73) (l1 := [gp_r (some 74), gp_i v1, gp_i v2, gp_r (some q3), gp_i v4, gp_i v5, gp_i v6, gp_i v7, gp_i v8]) (l2 := [gp_r (some 74), gp_i v1, gp_i v2, gp_r (some q3), gp_i v4, gp_i v5, gp_i v6, gp_i v7, gp_i v8]) (s1 := []) (s2 := []) rfl gs_b2 (fun hc => ?_) (fun hc => ?_)
      · replace H := H.2 hc
        exact H
      · replace H := H.1 (Decidable.byContradiction hc)
        refine gs_E.stp (pc' := 82) (ls' := [gp_r (some 74), gp_i v1, gp_i v2, gp_r (some q3), gp_i v4, gp_i v5, gp_i v6, gp_i v7, gp_i v8]) (st' := [gp_i (gp_wr ((gp_wr (v4 * v8)) + v5)), gp_r (some q3)]) (s' := s1) 6 rfl ?_
        refine gs_E.ck (pc' := 83) (ls' := [gp_r (some 74), gp_i v1, gp_i v2, gp_r (some q3), gp_i v4, gp_i v5, gp_i v6, gp_i v7, gp_i v8]) (st' := [gp_i (gp_I s1 q3 (gp_wr ((gp_wr (v4 * v8)) + v5)).toNat)]) (s' := s1) rfl (Or.inl H.1) ?_
        replace H := H.2
        refine gs_E.stp (pc' := 88) (ls' := [gp_r (some 74), gp_i v1, gp_i v2, gp_r (some q3), gp_i v4, gp_i v5, gp_i v6, gp_i v7, gp_i v8]) (st' := [gp_i (gp_I s1 q3 (gp_wr ((gp_wr (v4 * v8)) + v5)).toNat)]) (s' := s1) 1 rfl ?_
        exact H

set_option maxRecDepth 100000 in
/-- GatheredPointsModel.worst, pc 86 -/
theorem s_3098_86 {L d : Nat} {K : Option gV → gH → Prop} {s : gH} (v1 : Int) (v2 : Int) (v3 : Option Nat) (v4 : Int) (v5 : Int) (v6 : Int) (v7 : Int) (v8 : Int) (H : gs_E L (d + 1) 3098 88 [gp_r (some 74), gp_i v1, gp_i v2, gp_r v3, gp_i v4, gp_i v5, gp_i v6, gp_i v7, gp_i v8] [gp_i v7] s K) : gs_E L (d + 1) 3098 86 [gp_r (some 74), gp_i v1, gp_i v2, gp_r v3, gp_i v4, gp_i v5, gp_i v6, gp_i v7, gp_i v8] [] s K := by
  refine gs_E.stp (pc' := 88) (ls' := [gp_r (some 74), gp_i v1, gp_i v2, gp_r v3, gp_i v4, gp_i v5, gp_i v6, gp_i v7, gp_i v8]) (st' := [gp_i v7]) (s' := s) 1 rfl ?_
  exact H

set_option maxRecDepth 100000 in
/-- GatheredPointsModel.worst, pc 88 -/
theorem s_3098_88 {L d : Nat} {K : Option gV → gH → Prop} {s : gH} (v1 : Int) (v2 : Int) (v3 : Option Nat) (v4 : Int) (v5 : Int) (v6 : Int) (v7 : Int) (v8 : Int) (w0 : Int) (H : gs_E L (d + 1) 3098 37 [gp_r (some 74), gp_i v1, gp_i v2, gp_r v3, gp_i v4, gp_i v5, gp_i v6, gp_i w0, gp_i (gp_wr (v8 + 1))] [] s K) : gs_E L (d + 1) 3098 88 [gp_r (some 74), gp_i v1, gp_i v2, gp_r v3, gp_i v4, gp_i v5, gp_i v6, gp_i v7, gp_i v8] [gp_i w0] s K := by
  refine gs_E.stp (pc' := 37) (ls' := [gp_r (some 74), gp_i v1, gp_i v2, gp_r v3, gp_i v4, gp_i v5, gp_i v6, gp_i w0, gp_i (gp_wr (v8 + 1))]) (st' := []) (s' := s) 3 rfl ?_
  exact H

set_option maxRecDepth 100000 in
/-- GatheredPointsModel.scores, pc 0 -/
theorem s_3099_e {L d : Nat} {K : Option gV → gH → Prop} {s : gH} (p0 : Int) (H : gs_E L (d + 1) 3099 2 [gp_r (some 74), gp_i p0, gp_i 0] [] s K) : gs_C L (d + 1) 3099 3 [gp_r (some 74), gp_i p0] s K := by
  show gs_E L (d + 1) 3099 0 [gp_r (some 74), gp_i p0, gp_n] [] s K
  refine gs_E.stp (pc' := 2) (ls' := [gp_r (some 74), gp_i p0, gp_i 0]) (st' := []) (s' := s) 2 rfl ?_
  exact H

set_option maxRecDepth 100000 in
/-- GatheredPointsModel.scores, pc 2 -/
theorem s_3099_2 {L d : Nat} {K : Option gV → gH → Prop} {s : gH} (v1 : Int) (v2 : Int) (H : ((0 ≤ v1 ∧ v1 < 85) ∧ ((v2 < (gp_I s 81 v1.toNat) → gs_C L d 3097 9 [gp_r (some 74), gp_i v1, gp_i v2, gp_r (some 91), gp_i 1, gp_i 0] s (fun r s1 => ∃ x2, r = some (gp_i x2) ∧ ((0 ≤ v2 ∧ v2 < 64) ∧ (∀ s3, s3 = gp_wI s1 90 v2.toNat x2 → gs_C L d 3098 9 [gp_r (some 74), gp_i v1, gp_i v2, gp_r (some 90), gp_i 1, gp_i 0] s3 (fun r s4 => ∃ x5, r = some (gp_i x5) ∧ ((0 ≤ v2 ∧ v2 < 64) ∧ (∀ s6, s6 = gp_wI s4 91 v2.toNat x5 → gs_E L (d + 1) 3099 2 [gp_r (some 74), gp_i v1, gp_i (gp_wr (v2 + 1))] [] s6 K))))))) ∧ (¬ v2 < (gp_I s 81 v1.toNat) → K none s)))) : gs_E L (d + 1) 3099 2 [gp_r (some 74), gp_i v1, gp_i v2] [] s K := by
  refine gs_E.stp (pc' := 8) (ls' := [gp_r (some 74), gp_i v1, gp_i v2]) (st' := [gp_i v1, gp_r (some 81), gp_i v2]) (s' := s) 4 rfl ?_
  refine gs_E.ck (pc' := 9) (ls' := [gp_r (some 74), gp_i v1, gp_i v2]) (st' := [gp_i (gp_I s 81 v1.toNat), gp_i v2]) (s' := s) rfl (Or.inl ⟨rfl, H.1.1, H.1.2⟩) ?_
  replace H := H.2
  refine gs_E.br (c := ¬ v2 < (gp_I s 81 v1.toNat)) (p1 := 54) (p2 := 12) (l1 := [gp_r (some 74), gp_i v1, gp_i v2]) (l2 := [gp_r (some 74), gp_i v1, gp_i v2]) (s1 := []) (s2 := []) rfl gs_b2 (fun hc => ?_) (fun hc => ?_)
  · replace H := H.2 hc
    exact gs_E.ret (r := none) rfl H
  · replace H := H.1 (Decidable.byContradiction hc)
    refine gs_E.stp (pc' := 26) (ls' := [gp_r (some 74), gp_i v1, gp_i v2]) (st' := [gp_i 0, gp_i 1, gp_r (some 91), gp_i v2, gp_i v1, gp_r (some 74), gp_i v2, gp_r (some 90)]) (s' := s) 10 rfl ?_
    refine gs_E.call (args := [gp_r (some 74), gp_i v1, gp_i v2, gp_r (some 91), gp_i 1, gp_i 0]) (m := 9) (y' := 3097) (st' := [gp_i v2, gp_r (some 90)]) rfl H (fun r s1 H => ?_)
    obtain ⟨x2, rfl, H⟩ := H
    show gs_E L (d + 1) 3099 29 [gp_r (some 74), gp_i v1, gp_i v2] [gp_i x2, gp_i v2, gp_r (some 90)] s1 K
    refine gs_E.ck (pc' := 30) (ls' := [gp_r (some 74), gp_i v1, gp_i v2]) (st' := []) (s' := gp_wI s1 90 v2.toNat x2) rfl ⟨rfl, H.1.1, H.1.2⟩ ?_
    replace H := H.2 _ rfl
    generalize gp_wI s1 90 v2.toNat x2 = s3 at H ⊢
    refine gs_E.stp (pc' := 44) (ls' := [gp_r (some 74), gp_i v1, gp_i v2]) (st' := [gp_i 0, gp_i 1, gp_r (some 90), gp_i v2, gp_i v1, gp_r (some 74), gp_i v2, gp_r (some 91)]) (s' := s3) 10 rfl ?_
    refine gs_E.call (args := [gp_r (some 74), gp_i v1, gp_i v2, gp_r (some 90), gp_i 1, gp_i 0]) (m := 9) (y' := 3098) (st' := [gp_i v2, gp_r (some 91)]) rfl H (fun r s4 H => ?_)
    obtain ⟨x5, rfl, H⟩ := H
    show gs_E L (d + 1) 3099 47 [gp_r (some 74), gp_i v1, gp_i v2] [gp_i x5, gp_i v2, gp_r (some 91)] s4 K
    refine gs_E.ck (pc' := 48) (ls' := [gp_r (some 74), gp_i v1, gp_i v2]) (st' := []) (s' := gp_wI s4 91 v2.toNat x5) rfl ⟨rfl, H.1.1, H.1.2⟩ ?_
    replace H := H.2 _ rfl
    generalize gp_wI s4 91 v2.toNat x5 = s6 at H ⊢
    refine gs_E.stp (pc' := 2) (ls' := [gp_r (some 74), gp_i v1, gp_i (gp_wr (v2 + 1))]) (st' := []) (s' := s6) 2 rfl ?_
    exact H

set_option maxRecDepth 100000 in
/-- GatheredPointsModel.bound, pc 0 -/
theorem s_3100_e {L d : Nat} {K : Option gV → gH → Prop} {s : gH} (p0 : Int) (p1 : Int) (H : gs_E L (d + 1) 3100 10 [gp_r (some 74), gp_i p0, gp_i p1, gp_i (gp_wr ((gp_wr (64 * p0)) + p1)), gp_i 0, gp_n, gp_n, gp_n] [] s K) : gs_C L (d + 1) 3100 8 [gp_r (some 74), gp_i p0, gp_i p1] s K := by
  show gs_E L (d + 1) 3100 0 [gp_r (some 74), gp_i p0, gp_i p1, gp_n, gp_n, gp_n, gp_n, gp_n] [] s K
  refine gs_E.stp (pc' := 10) (ls' := [gp_r (some 74), gp_i p0, gp_i p1, gp_i (gp_wr ((gp_wr (64 * p0)) + p1)), gp_i 0, gp_n, gp_n, gp_n]) (st' := []) (s' := s) 8 rfl ?_
  exact H

set_option maxRecDepth 100000 in
/-- GatheredPointsModel.bound, pc 10 -/
theorem s_3100_10 {L d : Nat} {K : Option gV → gH → Prop} {s : gH} (v1 : Int) (v2 : Int) (v3 : Int) (v4 : Int) (v5 : gV) (v6 : gV) (v7 : gV) (H : ((60 < v4 → ((0 ≤ (gp_wr (64 * v2)) ∧ (gp_wr (64 * v2)) < 4096) ∧ ((0 ≤ v2 ∧ v2 < 64) ∧ (∀ s1, s1 = gp_wI s 92 v2.toNat (gp_I s 96 (gp_wr (64 * v2)).toNat) → ((0 ≤ (gp_wr (64 * v2)) ∧ (gp_wr (64 * v2)) < 4096) ∧ ((0 ≤ v2 ∧ v2 < 64) ∧ (∀ s2, s2 = gp_wI s1 93 v2.toNat (gp_I s1 95 (gp_wr (64 * v2)).toNat) → gs_E L (d + 1) 3100 275 [gp_r (some 74), gp_i v1, gp_i v2, gp_i v3, gp_i 1, v5, v6, v7] [] s2 K))))))) ∧ (¬ 60 < v4 → gs_C L d 3098 9 [gp_r (some 74), gp_i v1, gp_i v2, gp_r (some 94), gp_i 64, gp_i v4] s (fun r s3 => ∃ x4, r = some (gp_i x4) ∧ ((0 ≤ (gp_wr ((gp_wr (64 * v2)) + v4)) ∧ (gp_wr ((gp_wr (64 * v2)) + v4)) < 4096) ∧ (∀ s5, s5 = gp_wI s3 95 (gp_wr ((gp_wr (64 * v2)) + v4)).toNat x4 → gs_C L d 3097 9 [gp_r (some 74), gp_i v1, gp_i v2, gp_r (some 97), gp_i 64, gp_i v4] s5 (fun r s6 => ∃ x7, r = some (gp_i x7) ∧ ((0 ≤ (gp_wr ((gp_wr (64 * v2)) + v4)) ∧ (gp_wr ((gp_wr (64 * v2)) + v4)) < 4096) ∧ (∀ s8, s8 = gp_wI s6 96 (gp_wr ((gp_wr (64 * v2)) + v4)).toNat x7 → ((0 ≤ v3 ∧ v3 < 5440) ∧ (((gp_cmp (gp_L s8 76 v3.toNat) (0#64)) = 0 → ((0 < v4 → ((0 ≤ (gp_wr ((gp_wr ((gp_wr (64 * v2)) + v4)) - 1)) ∧ (gp_wr ((gp_wr ((gp_wr (64 * v2)) + v4)) - 1)) < 4096) ∧ gs_E L (d + 1) 3100 110 [gp_r (some 74), gp_i v1, gp_i v2, gp_i v3, gp_i v4, gp_i (gp_wr ((gp_wr (64 * v2)) + v4)), v6, v7] [gp_i (gp_I s8 95 (gp_wr ((gp_wr ((gp_wr (64 * v2)) + v4)) - 1)).toNat)] s8 K)) ∧ (¬ 0 < v4 → gs_E L (d + 1) 3100 96 [gp_r (some 74), gp_i v1, gp_i v2, gp_i v3, gp_i v4, gp_i (gp_wr ((gp_wr (64 * v2)) + v4)), v6, v7] [] s8 K))) ∧ (¬ (gp_cmp (gp_L s8 76 v3.toNat) (0#64)) = 0 → gs_E L (d + 1) 3100 96 [gp_r (some 74), gp_i v1, gp_i v2, gp_i v3, gp_i v4, gp_i (gp_wr ((gp_wr (64 * v2)) + v4)), v6, v7] [] s8 K)))))))))))) : gs_E L (d + 1) 3100 10 [gp_r (some 74), gp_i v1, gp_i v2, gp_i v3, gp_i v4, v5, v6, v7] [] s K := by
  refine gs_E.stp (pc' := 14) (ls' := [gp_r (some 74), gp_i v1, gp_i v2, gp_i v3, gp_i v4, v5, v6, v7]) (st' := [gp_i 60, gp_i v4]) (s' := s) 2 rfl ?_
  refine gs_E.br (c := 60 < v4) (p1 := 242) (p2 := 17) (l1 := [gp_r (some 74), gp_i v1, gp_i v2, gp_i v3, gp_i v4, v5, v6, v7]) (l2 := [gp_r (some 74), gp_i v1, gp_i v2, gp_i v3, gp_i v4, v5, v6, v7]) (s1 := []) (s2 := []) rfl gs_b1 (fun hc => ?_) (fun hc => ?_)
  · replace H := H.1 hc
    refine gs_E.stp (pc' := 255) (ls' := [gp_r (some 74), gp_i v1, gp_i v2, gp_i v3, gp_i v4, v5, v6, v7]) (st' := [gp_i (gp_wr (64 * v2)), gp_r (some 96), gp_i v2, gp_r (some 92)]) (s' := s) 8 rfl ?_
    refine gs_E.ck (pc' := 256) (ls' := [gp_r (some 74), gp_i v1, gp_i v2, gp_i v3, gp_i v4, v5, v6, v7]) (st' := [gp_i (gp_I s 96 (gp_wr (64 * v2)).toNat), gp_i v2, gp_r (some 92)]) (s' := s) rfl (Or.inl ⟨rfl, H.1.1, H.1.2⟩) ?_
    replace H := H.2
    refine gs_E.ck (pc' := 257) (ls' := [gp_r (some 74), gp_i v1, gp_i v2, gp_i v3, gp_i v4, v5, v6, v7]) (st' := []) (s' := gp_wI s 92 v2.toNat (gp_I s 96 (gp_wr (64 * v2)).toNat)) rfl ⟨rfl, H.1.1, H.1.2⟩ ?_
    replace H := H.2 _ rfl
    generalize gp_wI s 92 v2.toNat (gp_I s 96 (gp_wr (64 * v2)).toNat) = s1 at H ⊢
    refine gs_E.stp (pc' := 270) (ls' := [gp_r (some 74), gp_i v1, gp_i v2, gp_i v3, gp_i v4, v5, v6, v7]) (st' := [gp_i (gp_wr (64 * v2)), gp_r (some 95), gp_i v2, gp_r (some 93)]) (s' := s1) 8 rfl ?_
    refine gs_E.ck (pc' := 271) (ls' := [gp_r (some 74), gp_i v1, gp_i v2, gp_i v3, gp_i v4, v5, v6, v7]) (st' := [gp_i (gp_I s1 95 (gp_wr (64 * v2)).toNat), gp_i v2, gp_r (some 93)]) (s' := s1) rfl (Or.inl ⟨rfl, H.1.1, H.1.2⟩) ?_
    replace H := H.2
    refine gs_E.ck (pc' := 272) (ls' := [gp_r (some 74), gp_i v1, gp_i v2, gp_i v3, gp_i v4, v5, v6, v7]) (st' := []) (s' := gp_wI s1 93 v2.toNat (gp_I s1 95 (gp_wr (64 * v2)).toNat)) rfl ⟨rfl, H.1.1, H.1.2⟩ ?_
    replace H := H.2 _ rfl
    generalize gp_wI s1 93 v2.toNat (gp_I s1 95 (gp_wr (64 * v2)).toNat) = s2 at H ⊢
    refine gs_E.stp (pc' := 275) (ls' := [gp_r (some 74), gp_i v1, gp_i v2, gp_i v3, gp_i 1, v5, v6, v7]) (st' := []) (s' := s2) 2 rfl ?_
    exact H
  · replace H := H.2 hc
    refine gs_E.stp (pc' := 43) (ls' := [gp_r (some 74), gp_i v1, gp_i v2, gp_i v3, gp_i v4, gp_i (gp_wr ((gp_wr (64 * v2)) + v4)), v6, v7]) (st' := [gp_i v4, gp_i 64, gp_r (some 94), gp_i v2, gp_i v1, gp_r (some 74), gp_i (gp_wr ((gp_wr (64 * v2)) + v4)), gp_r (some 95)]) (s' := s) 16 rfl ?_
    refine gs_E.call (args := [gp_r (some 74), gp_i v1, gp_i v2, gp_r (some 94), gp_i 64, gp_i v4]) (m := 9) (y' := 3098) (st' := [gp_i (gp_wr ((gp_wr (64 * v2)) + v4)), gp_r (some 95)]) rfl H (fun r s3 H => ?_)
    obtain ⟨x4, rfl, H⟩ := H
    show gs_E L (d + 1) 3100 46 [gp_r (some 74), gp_i v1, gp_i v2, gp_i v3, gp_i v4, gp_i (gp_wr ((gp_wr (64 * v2)) + v4)), v6, v7] [gp_i x4, gp_i (gp_wr ((gp_wr (64 * v2)) + v4)), gp_r (some 95)] s3 K
    refine gs_E.ck (pc' := 47) (ls' := [gp_r (some 74), gp_i v1, gp_i v2, gp_i v3, gp_i v4, gp_i (gp_wr ((gp_wr (64 * v2)) + v4)), v6, v7]) (st' := []) (s' := gp_wI s3 95 (gp_wr ((gp_wr (64 * v2)) + v4)).toNat x4) rfl ⟨rfl, H.1.1, H.1.2⟩ ?_
    replace H := H.2 _ rfl
    generalize gp_wI s3 95 (gp_wr ((gp_wr (64 * v2)) + v4)).toNat x4 = s5 at H ⊢
    refine gs_E.stp (pc' := 64) (ls' := [gp_r (some 74), gp_i v1, gp_i v2, gp_i v3, gp_i v4, gp_i (gp_wr ((gp_wr (64 * v2)) + v4)), v6, v7]) (st' := [gp_i v4, gp_i 64, gp_r (some 97), gp_i v2, gp_i v1, gp_r (some 74), gp_i (gp_wr ((gp_wr (64 * v2)) + v4)), gp_r (some 96)]) (s' := s5) 10 rfl ?_
    refine gs_E.call (args := [gp_r (some 74), gp_i v1, gp_i v2, gp_r (some 97), gp_i 64, gp_i v4]) (m := 9) (y' := 3097) (st' := [gp_i (gp_wr ((gp_wr (64 * v2)) + v4)), gp_r (some 96)]) rfl H (fun r s6 H => ?_)
    obtain ⟨x7, rfl, H⟩ := H
    show gs_E L (d + 1) 3100 67 [gp_r (some 74), gp_i v1, gp_i v2, gp_i v3, gp_i v4, gp_i (gp_wr ((gp_wr (64 * v2)) + v4)), v6, v7] [gp_i x7, gp_i (gp_wr ((gp_wr (64 * v2)) + v4)), gp_r (some 96)] s6 K
    refine gs_E.ck (pc' := 68) (ls' := [gp_r (some 74), gp_i v1, gp_i v2, gp_i v3, gp_i v4, gp_i (gp_wr ((gp_wr (64 * v2)) + v4)), v6, v7]) (st' := []) (s' := gp_wI s6 96 (gp_wr ((gp_wr (64 * v2)) + v4)).toNat x7) rfl ⟨rfl, H.1.1, H.1.2⟩ ?_
    replace H := H.2 _ rfl
    generalize gp_wI s6 96 (gp_wr ((gp_wr (64 * v2)) + v4)).toNat x7 = s8 at H ⊢
    refine gs_E.stp (pc' := 73) (ls' := [gp_r (some 74), gp_i v1, gp_i v2, gp_i v3, gp_i v4, gp_i (gp_wr ((gp_wr (64 * v2)) + v4)), v6, v7]) (st' := [gp_i v3, gp_r (some 76)]) (s' := s8) 3 rfl ?_
    refine gs_E.ck (pc' := 74) (ls' := [gp_r (some 74), gp_i v1, gp_i v2, gp_i v3, gp_i v4, gp_i (gp_wr ((gp_wr (64 * v2)) + v4)), v6, v7]) (st' := [gp_l (gp_L s8 76 v3.toNat)]) (s' := s8) rfl ⟨rfl, H.1.1, H.1.2⟩ ?_
    replace H := H.2
    refine gs_E.stp (pc' := 76) (ls' := [gp_r (some 74), gp_i v1, gp_i v2, gp_i v3, gp_i v4, gp_i (gp_wr ((gp_wr (64 * v2)) + v4)), v6, v7]) (st' := [gp_i (gp_cmp (gp_L s8 76 v3.toNat) (0#64))]) (s' := s8) 2 rfl ?_
    refine gs_E.br (c := ¬ (gp_cmp (gp_L s8 76 v3.toNat) (0#64)) = 0) (p1 := 96) (p2 := 79) (l1 := [gp_r (some 74), gp_i v1, gp_i v2, gp_i v3, gp_i v4, gp_i (gp_wr ((gp_wr (64 * v2)) + v4)), v6, v7]) (l2 := [gp_r (some 74), gp_i v1, gp_i v2, gp_i v3, gp_i v4, gp_i (gp_wr ((gp_wr (64 * v2)) + v4)), v6, v7]) (s1 := []) (s2 := []) rfl gs_b2 (fun hc => ?_) (fun hc => ?_)
    · replace H := H.2 hc
      exact H
    · replace H := H.1 (Decidable.byContradiction hc)
      refine gs_E.stp (pc' := 81) (ls' := [gp_r (some 74), gp_i v1, gp_i v2, gp_i v3, gp_i v4, gp_i (gp_wr ((gp_wr (64 * v2)) + v4)), v6, v7]) (st' := [gp_i v4]) (s' := s8) 1 rfl ?_
      refine gs_E.br (c := ¬ 0 < v4) (p1 := 96) (p2 := 84) (l1 := [gp_r (some 74), gp_i v1, gp_i v2, gp_i v3, gp_i v4, gp_i (gp_wr ((gp_wr (64 * v2)) + v4)), v6, v7]) (l2 := [gp_r (some 74), gp_i v1, gp_i v2, gp_i v3, gp_i v4, gp_i (gp_wr ((gp_wr (64 * v2)) + v4)), v6, v7]) (s1 := []) (s2 := []) rfl gs_b2 (fun hc => ?_) (fun hc => ?_)
      · replace H := H.2 hc
        exact H
      · replace H := H.1 (Decidable.byContradiction hc)
        refine gs_E.stp (pc' := 92) (ls' := [gp_r (some 74), gp_i v1, gp_i v2, gp_i v3, gp_i v4, gp_i (gp_wr ((gp_wr (64 * v2)) + v4)), v6, v7]) (st' := [gp_i (gp_wr ((gp_wr ((gp_wr (64 * v2)) + v4)) - 1)), gp_r (some 95)]) (s' := s8) 5 rfl ?_
        refine gs_E.ck (pc' := 93) (ls' := [gp_r (some 74), gp_i v1, gp_i v2, gp_i v3, gp_i v4, gp_i (gp_wr ((gp_wr (64 * v2)) + v4)), v6, v7]) (st' := [gp_i (gp_I s8 95 (gp_wr ((gp_wr ((gp_wr (64 * v2)) + v4)) - 1)).toNat)]) (s' := s8) rfl (Or.inl ⟨rfl, H.1.1, H.1.2⟩) ?_
        replace H := H.2
        refine gs_E.stp (pc' := 110) (ls' := [gp_r (some 74), gp_i v1, gp_i v2, gp_i v3, gp_i v4, gp_i (gp_wr ((gp_wr (64 * v2)) + v4)), v6, v7]) (st' := [gp_i (gp_I s8 95 (gp_wr ((gp_wr ((gp_wr (64 * v2)) + v4)) - 1)).toNat)]) (s' := s8) 1 rfl ?_
        exact H

set_option maxRecDepth 100000 in
/-- GatheredPointsModel.bound, pc 96 -/
theorem s_3100_96 {L d : Nat} {K : Option gV → gH → Prop} {s : gH} (v1 : Int) (v2 : Int) (v3 : Int) (v4 : Int) (v5 : Int) (v6 : gV) (v7 : gV) (H : gs_C L d 3097 9 [gp_r (some 74), gp_i v1, gp_i v2, gp_r (some 95), gp_i 64, gp_i v4] s (fun r s1 => ∃ x2, r = some (gp_i x2) ∧ gs_E L (d + 1) 3100 110 [gp_r (some 74), gp_i v1, gp_i v2, gp_i v3, gp_i v4, gp_i v5, v6, v7] [gp_i x2] s1 K)) : gs_E L (d + 1) 3100 96 [gp_r (some 74), gp_i v1, gp_i v2, gp_i v3, gp_i v4, gp_i v5, v6, v7] [] s K := by
  refine gs_E.stp (pc' := 107) (ls' := [gp_r (some 74), gp_i v1, gp_i v2, gp_i v3, gp_i v4, gp_i v5, v6, v7]) (st' := [gp_i v4, gp_i 64, gp_r (some 95), gp_i v2, gp_i v1, gp_r (some 74)]) (s' := s) 7 rfl ?_
  refine gs_E.call (args := [gp_r (some 74), gp_i v1, gp_i v2, gp_r (some 95), gp_i 64, gp_i v4]) (m := 9) (y' := 3097) (st' := []) rfl H (fun r s1 H => ?_)
  obtain ⟨x2, rfl, H⟩ := H
  show gs_E L (d + 1) 3100 110 [gp_r (some 74), gp_i v1, gp_i v2, gp_i v3, gp_i v4, gp_i v5, v6, v7] [gp_i x2] s1 K
  exact H

set_option maxRecDepth 100000 in
/-- GatheredPointsModel.bound, pc 110 -/
theorem s_3100_110 {L d : Nat} {K : Option gV → gH → Prop} {s : gH} (v1 : Int) (v2 : Int) (v3 : Int) (v4 : Int) (v5 : Int) (v6 : gV) (v7 : gV) (w0 : Int) (H : ((0 ≤ v3 ∧ v3 < 5440) ∧ (((gp_cmp (gp_L s 77 v3.toNat) (0#64)) = 0 → ((0 < v4 → ((0 ≤ (gp_wr (v5 - 1)) ∧ (gp_wr (v5 - 1)) < 4096) ∧ gs_E L (d + 1) 3100 154 [gp_r (some 74), gp_i v1, gp_i v2, gp_i v3, gp_i v4, gp_i v5, gp_i w0, v7] [gp_i (gp_I s 96 (gp_wr (v5 - 1)).toNat)] s K)) ∧ (¬ 0 < v4 → gs_E L (d + 1) 3100 140 [gp_r (some 74), gp_i v1, gp_i v2, gp_i v3, gp_i v4, gp_i v5, gp_i w0, v7] [] s K))) ∧ (¬ (gp_cmp (gp_L s 77 v3.toNat) (0#64)) = 0 → gs_E L (d + 1) 3100 140 [gp_r (some 74), gp_i v1, gp_i v2, gp_i v3, gp_i v4, gp_i v5, gp_i w0, v7] [] s K)))) : gs_E L (d + 1) 3100 110 [gp_r (some 74), gp_i v1, gp_i v2, gp_i v3, gp_i v4, gp_i v5, v6, v7] [gp_i w0] s K := by
  refine gs_E.stp (pc' := 117) (ls' := [gp_r (some 74), gp_i v1, gp_i v2, gp_i v3, gp_i v4, gp_i v5, gp_i w0, v7]) (st' := [gp_i v3, gp_r (some 77)]) (s' := s) 4 rfl ?_
  refine gs_E.ck (pc' := 118) (ls' := [gp_r (some 74), gp_i v1, gp_i v2, gp_i v3, gp_i v4, gp_i v5, gp_i w0, v7]) (st' := [gp_l (gp_L s 77 v3.toNat)]) (s' := s) rfl ⟨rfl, H.1.1, H.1.2⟩ ?_
  replace H := H.2
  refine gs_E.stp (pc' := 120) (ls' := [gp_r (some 74), gp_i v1, gp_i v2, gp_i v3, gp_i v4, gp_i v5, gp_i w0, v7]) (st' := [gp_i (gp_cmp (gp_L s 77 v3.toNat) (0#64))]) (s' := s) 2 rfl ?_
  refine gs_E.br (c := ¬ (gp_cmp (gp_L s 77 v3.toNat) (0#64)) = 0) (p1 := 140) (p2 := 123) (l1 := [gp_r (some 74), gp_i v1, gp_i v2, gp_i v3, gp_i v4, gp_i v5, gp_i w0, v7]) (l2 := [gp_r (some 74), gp_i v1, gp_i v2, gp_i v3, gp_i v4, gp_i v5, gp_i w0, v7]) (s1 := []) (s2 := []) rfl gs_b2 (fun hc => ?_) (fun hc => ?_)
  · replace H := H.2 hc
    exact H
  · replace H := H.1 (Decidable.byContradiction hc)
    refine gs_E.stp (pc' := 125) (ls' := [gp_r (some 74), gp_i v1, gp_i v2, gp_i v3, gp_i v4, gp_i v5, gp_i w0, v7]) (st' := [gp_i v4]) (s' := s) 1 rfl ?_
    refine gs_E.br (c := ¬ 0 < v4) (p1 := 140) (p2 := 128) (l1 := [gp_r (some 74), gp_i v1, gp_i v2, gp_i v3, gp_i v4, gp_i v5, gp_i w0, v7]) (l2 := [gp_r (some 74), gp_i v1, gp_i v2, gp_i v3, gp_i v4, gp_i v5, gp_i w0, v7]) (s1 := []) (s2 := []) rfl gs_b2 (fun hc => ?_) (fun hc => ?_)
    · replace H := H.2 hc
      exact H
    · replace H := H.1 (Decidable.byContradiction hc)
      refine gs_E.stp (pc' := 136) (ls' := [gp_r (some 74), gp_i v1, gp_i v2, gp_i v3, gp_i v4, gp_i v5, gp_i w0, v7]) (st' := [gp_i (gp_wr (v5 - 1)), gp_r (some 96)]) (s' := s) 5 rfl ?_
      refine gs_E.ck (pc' := 137) (ls' := [gp_r (some 74), gp_i v1, gp_i v2, gp_i v3, gp_i v4, gp_i v5, gp_i w0, v7]) (st' := [gp_i (gp_I s 96 (gp_wr (v5 - 1)).toNat)]) (s' := s) rfl (Or.inl ⟨rfl, H.1.1, H.1.2⟩) ?_
      replace H := H.2
      refine gs_E.stp (pc' := 154) (ls' := [gp_r (some 74), gp_i v1, gp_i v2, gp_i v3, gp_i v4, gp_i v5, gp_i w0, v7]) (st' := [gp_i (gp_I s 96 (gp_wr (v5 - 1)).toNat)]) (s' := s) 1 rfl ?_
      exact H

set_option maxRecDepth 100000 in
/-- GatheredPointsModel.bound, pc 140 -/
theorem s_3100_140 {L d : Nat} {K : Option gV → gH → Prop} {s : gH} (v1 : Int) (v2 : Int) (v3 : Int) (v4 : Int) (v5 : Int) (v6 : Int) (v7 : gV) (H : gs_C L d 3098 9 [gp_r (some 74), gp_i v1, gp_i v2, gp_r (some 96), gp_i 64, gp_i v4] s (fun r s1 => ∃ x2, r = some (gp_i x2) ∧ gs_E L (d + 1) 3100 154 [gp_r (some 74), gp_i v1, gp_i v2, gp_i v3, gp_i v4, gp_i v5, gp_i v6, v7] [gp_i x2] s1 K)) : gs_E L (d + 1) 3100 140 [gp_r (some 74), gp_i v1, gp_i v2, gp_i v3, gp_i v4, gp_i v5, gp_i v6, v7] [] s K := by
  refine gs_E.stp (pc' := 151) (ls' := [gp_r (some 74), gp_i v1, gp_i v2, gp_i v3, gp_i v4, gp_i v5, gp_i v6, v7]) (st' := [gp_i v4, gp_i 64, gp_r (some 96), gp_i v2, gp_i v1, gp_r (some 74)]) (s' := s) 7 rfl ?_
  refine gs_E.call (args := [gp_r (some 74), gp_i v1, gp_i v2, gp_r (some 96), gp_i 64, gp_i v4]) (m := 9) (y' := 3098) (st' := []) rfl H (fun r s1 H => ?_)
  obtain ⟨x2, rfl, H⟩ := H
  show gs_E L (d + 1) 3100 154 [gp_r (some 74), gp_i v1, gp_i v2, gp_i v3, gp_i v4, gp_i v5, gp_i v6, v7] [gp_i x2] s1 K
  exact H

set_option maxRecDepth 100000 in
/-- GatheredPointsModel.bound, pc 154 -/
theorem s_3100_154 {L d : Nat} {K : Option gV → gH → Prop} {s : gH} (v1 : Int) (v2 : Int) (v3 : Int) (v4 : Int) (v5 : Int) (v6 : Int) (v7 : gV) (w0 : Int) (H : ((0 < v4 → ((0 ≤ (gp_wr (v5 - 1)) ∧ (gp_wr (v5 - 1)) < 4096) ∧ ((v6 < (gp_I s 95 (gp_wr (v5 - 1)).toNat) → ((0 ≤ (gp_wr (v5 - 1)) ∧ (gp_wr (v5 - 1)) < 4096) ∧ gs_E L (d + 1) 3100 195 [gp_r (some 74), gp_i v1, gp_i v2, gp_i v3, gp_i v4, gp_i v5, gp_i v6, gp_i w0] [gp_i (gp_I s 95 (gp_wr (v5 - 1)).toNat), gp_i v5, gp_r (some 94)] s K)) ∧ (¬ v6 < (gp_I s 95 (gp_wr (v5 - 1)).toNat) → gs_E L (d + 1) 3100 193 [gp_r (some 74), gp_i v1, gp_i v2, gp_i v3, gp_i v4, gp_i v5, gp_i v6, gp_i w0] [gp_i v5, gp_r (some 94)] s K)))) ∧ (¬ 0 < v4 → gs_E L (d + 1) 3100 193 [gp_r (some 74), gp_i v1, gp_i v2, gp_i v3, gp_i v4, gp_i v5, gp_i v6, gp_i w0] [gp_i v5, gp_r (some 94)] s K))) : gs_E L (d + 1) 3100 154 [gp_r (some 74), gp_i v1, gp_i v2, gp_i v3, gp_i v4, gp_i v5, gp_i v6, v7] [gp_i w0] s K := by
  refine gs_E.stp (pc' := 164) (ls' := [gp_r (some 74), gp_i v1, gp_i v2, gp_i v3, gp_i v4, gp_i v5, gp_i v6, gp_i w0]) (st' := [gp_i v4, gp_i v5, gp_r (some 94)]) (s' := s) 5 rfl ?_
  refine gs_E.br (c := ¬ 0 < v4) (p1 := 193) (p2 := 167) (l1 := [gp_r (some 74), gp_i v1, gp_i v2, gp_i v3, gp_i v4, gp_i v5, gp_i v6, gp_i w0]) (l2 := [gp_r (some 74), gp_i v1, gp_i v2, gp_i v3, gp_i v4, gp_i v5, gp_i v6, gp_i w0]) (s1 := [gp_i v5, gp_r (some 94)]) (s2 := [gp_i v5, gp_r (some 94)]) rfl gs_b2 (fun hc => ?_) (fun hc => ?_)
  · replace H := H.2 hc
    exact H
  · replace H := H.1 (Decidable.byContradiction hc)
    refine gs_E.stp (pc' := 175) (ls' := [gp_r (some 74), gp_i v1, gp_i v2, gp_i v3, gp_i v4, gp_i v5, gp_i v6, gp_i w0]) (st' := [gp_i (gp_wr (v5 - 1)), gp_r (some 95), gp_i v5, gp_r (some 94)]) (s' := s) 5 rfl ?_
    refine gs_E.ck (pc' := 176) (ls' := [gp_r (some 74), gp_i v1, gp_i v2, gp_i v3, gp_i v4, gp_i v5, gp_i v6, gp_i w0]) (st' := [gp_i (gp_I s 95 (gp_wr (v5 - 1)).toNat), gp_i v5, gp_r (some 94)]) (s' := s) rfl (Or.inl ⟨rfl, H.1.1, H.1.2⟩) ?_
    replace H := H.2
    refine gs_E.stp (pc' := 178) (ls' := [gp_r (some 74), gp_i v1, gp_i v2, gp_i v3, gp_i v4, gp_i v5, gp_i v6, gp_i w0]) (st' := [gp_i v6, gp_i (gp_I s 95 (gp_wr (v5 - 1)).toNat), gp_i v5, gp_r (some 94)]) (s' := s) 1 rfl ?_
    refine gs_E.br (c := ¬ v6 < (gp_I s 95 (gp_wr (v5 - 1)).toNat)) (p1 := 193) (p2 := 181) (l1 := [gp_r (some 74), gp_i v1, gp_i v2, gp_i v3, gp_i v4, gp_i v5, gp_i v6, gp_i w0]) (l2 := [gp_r (some 74), gp_i v1, gp_i v2, gp_i v3, gp_i v4, gp_i v5, gp_i v6, gp_i w0]) (s1 := [gp_i v5, gp_r (some 94)]) (s2 := [gp_i v5, gp_r (some 94)]) rfl gs_b2 (fun hc => ?_) (fun hc => ?_)
    · replace H := H.2 hc
      exact H
    · replace H := H.1 (Decidable.byContradiction hc)
      refine gs_E.stp (pc' := 189) (ls' := [gp_r (some 74), gp_i v1, gp_i v2, gp_i v3, gp_i v4, gp_i v5, gp_i v6, gp_i w0]) (st' := [gp_i (gp_wr (v5 - 1)), gp_r (some 95), gp_i v5, gp_r (some 94)]) (s' := s) 5 rfl ?_
      refine gs_E.ck (pc' := 190) (ls' := [gp_r (some 74), gp_i v1, gp_i v2, gp_i v3, gp_i v4, gp_i v5, gp_i v6, gp_i w0]) (st' := [gp_i (gp_I s 95 (gp_wr (v5 - 1)).toNat), gp_i v5, gp_r (some 94)]) (s' := s) rfl (Or.inl ⟨rfl, H.1.1, H.1.2⟩) ?_
      replace H := H.2
      refine gs_E.stp (pc' := 195) (ls' := [gp_r (some 74), gp_i v1, gp_i v2, gp_i v3, gp_i v4, gp_i v5, gp_i v6, gp_i w0]) (st' := [gp_i (gp_I s 95 (gp_wr (v5 - 1)).toNat), gp_i v5, gp_r (some 94)]) (s' := s) 1 rfl ?_
      exact H

set_option maxRecDepth 100000 in
/-- GatheredPointsModel.bound, pc 193 -/
theorem s_3100_193 {L d : Nat} {K : Option gV → gH → Prop} {s : gH} (v1 : Int) (v2 : Int) (v3 : Int) (v4 : Int) (v5 : Int) (v6 : Int) (v7 : Int) (w1 : Int) (H : gs_E L (d + 1) 3100 195 [gp_r (some 74), gp_i v1, gp_i v2, gp_i v3, gp_i v4, gp_i v5, gp_i v6, gp_i v7] [gp_i v6, gp_i w1, gp_r (some 94)] s K) : gs_E L (d + 1) 3100 193 [gp_r (some 74), gp_i v1, gp_i v2, gp_i v3, gp_i v4, gp_i v5, gp_i v6, gp_i v7] [gp_i w1, gp_r (some 94)] s K := by
  refine gs_E.stp (pc' := 195) (ls' := [gp_r (some 74), gp_i v1, gp_i v2, gp_i v3, gp_i v4, gp_i v5, gp_i v6, gp_i v7]) (st' := [gp_i v6, gp_i w1, gp_r (some 94)]) (s' := s) 1 rfl ?_
  exact H

set_option maxRecDepth 100000 in
/-- GatheredPointsModel.bound, pc 195 -/
theorem s_3100_195 {L d : Nat} {K : Option gV → gH → Prop} {s : gH} (v1 : Int) (v2 : Int) (v3 : Int) (v4 : Int) (v5 : Int) (v6 : Int) (v7 : Int) (w1 : Int) (w2 : Int) (H : ((0 ≤ w1 ∧ w1 < 4096) ∧ (∀ s1, s1 = gp_wI s 94 w1.toNat w2 → ((0 < v4 → ((0 ≤ (gp_wr (v5 - 1)) ∧ (gp_wr (v5 - 1)) < 4096) ∧ (((gp_I s1 96 (gp_wr (v5 - 1)).toNat) < v7 → ((0 ≤ (gp_wr (v5 - 1)) ∧ (gp_wr (v5 - 1)) < 4096) ∧ gs_E L (d + 1) 3100 235 [gp_r (some 74), gp_i v1, gp_i v2, gp_i v3, gp_i v4, gp_i v5, gp_i v6, gp_i v7] [gp_i (gp_I s1 96 (gp_wr (v5 - 1)).toNat), gp_i v5, gp_r (some 97)] s1 K)) ∧ (¬ (gp_I s1 96 (gp_wr (v5 - 1)).toNat) < v7 → gs_E L (d + 1) 3100 233 [gp_r (some 74), gp_i v1, gp_i v2, gp_i v3, gp_i v4, gp_i v5, gp_i v6, gp_i v7] [gp_i v5, gp_r (some 97)] s1 K)))) ∧ (¬ 0 < v4 → gs_E L (d + 1) 3100 233 [gp_r (some 74), gp_i v1, gp_i v2, gp_i v3, gp_i v4, gp_i v5, gp_i v6, gp_i v7] [gp_i v5, gp_r (some 97)] s1 K))))) : gs_E L (d + 1) 3100 195 [gp_r (some 74), gp_i v1, gp_i v2, gp_i v3, gp_i v4, gp_i v5, gp_i v6, gp_i v7] [gp_i w2, gp_i w1, gp_r (some 94)] s K := by
  refine gs_E.ck (pc' := 196) (ls' := [gp_r (some 74), gp_i v1, gp_i v2, gp_i v3, gp_i v4, gp_i v5, gp_i v6, gp_i v7]) (st' := []) (s' := gp_wI s 94 w1.toNat w2) rfl ⟨rfl, H.1.1, H.1.2⟩ ?_
  replace H := H.2 _ rfl
  generalize gp_wI s 94 w1.toNat w2 = s1 at H ⊢
  refine gs_E.stp (pc' := 204) (ls' := [gp_r (some 74), gp_i v1, gp_i v2, gp_i v3, gp_i v4, gp_i v5, gp_i v6, gp_i v7]) (st' := [gp_i v4, gp_i v5, gp_r (some 97)]) (s' := s1) 4 rfl ?_
  refine gs_E.br (c := ¬ 0 < v4) (p1 := 233) (p2 := 207) (l1 := [gp_r (some 74), gp_i v1, gp_i v2, gp_i v3, gp_i v4, gp_i v5, gp_i v6, gp_i v7]) (l2 := [gp_r (some 74), gp_i v1, gp_i v2, gp_i v3, gp_i v4, gp_i v5, gp_i v6, gp_i v7]) (s1 := [gp_i v5, gp_r (some 97)]) (s2 := [gp_i v5, gp_r (some 97)]) rfl gs_b2 (fun hc => ?_) (fun hc => ?_)
  · replace H := H.2 hc
    exact H
  · replace H := H.1 (Decidable.byContradiction hc)
    refine gs_E.stp (pc' := 215) (ls' := [gp_r (some 74), gp_i v1, gp_i v2, gp_i v3, gp_i v4, gp_i v5, gp_i v6, gp_i v7]) (st' := [gp_i (gp_wr (v5 - 1)), gp_r (some 96), gp_i v5, gp_r (some 97)]) (s' := s1) 5 rfl ?_
    refine gs_E.ck (pc' := 216) (ls' := [gp_r (some 74), gp_i v1, gp_i v2, gp_i v3, gp_i v4, gp_i v5, gp_i v6, gp_i v7]) (st' := [gp_i (gp_I s1 96 (gp_wr (v5 - 1)).toNat), gp_i v5, gp_r (some 97)]) (s' := s1) rfl (Or.inl ⟨rfl, H.1.1, H.1.2⟩) ?_
    replace H := H.2
    refine gs_E.stp (pc' := 218) (ls' := [gp_r (some 74), gp_i v1, gp_i v2, gp_i v3, gp_i v4, gp_i v5, gp_i v6, gp_i v7]) (st' := [gp_i v7, gp_i (gp_I s1 96 (gp_wr (v5 - 1)).toNat), gp_i v5, gp_r (some 97)]) (s' := s1) 1 rfl ?_
    refine gs_E.br (c := ¬ (gp_I s1 96 (gp_wr (v5 - 1)).toNat) < v7) (p1 := 233) (p2 := 221) (l1 := [gp_r (some 74), gp_i v1, gp_i v2, gp_i v3, gp_i v4, gp_i v5, gp_i v6, gp_i v7]) (l2 := [gp_r (some 74), gp_i v1, gp_i v2, gp_i v3, gp_i v4, gp_i v5, gp_i v6, gp_i v7]) (s1 := [gp_i v5, gp_r (some 97)]) (s2 := [gp_i v5, gp_r (some 97)]) rfl gs_b2 (fun hc => ?_) (fun hc => ?_)
    · replace H := H.2 hc
      exact H
    · replace H := H.1 (Decidable.byContradiction hc)
      refine gs_E.stp (pc' := 229) (ls' := [gp_r (some 74), gp_i v1, gp_i v2, gp_i v3, gp_i v4, gp_i v5, gp_i v6, gp_i v7]) (st' := [gp_i (gp_wr (v5 - 1)), gp_r (some 96), gp_i v5, gp_r (some 97)]) (s' := s1) 5 rfl ?_
      refine gs_E.ck (pc' := 230) (ls' := [gp_r (some 74), gp_i v1, gp_i v2, gp_i v3, gp_i v4, gp_i v5, gp_i v6, gp_i v7]) (st' := [gp_i (gp_I s1 96 (gp_wr (v5 - 1)).toNat), gp_i v5, gp_r (some 97)]) (s' := s1) rfl (Or.inl ⟨rfl, H.1.1, H.1.2⟩) ?_
      replace H := H.2
      refine gs_E.stp (pc' := 235) (ls' := [gp_r (some 74), gp_i v1, gp_i v2, gp_i v3, gp_i v4, gp_i v5, gp_i v6, gp_i v7]) (st' := [gp_i (gp_I s1 96 (gp_wr (v5 - 1)).toNat), gp_i v5, gp_r (some 97)]) (s' := s1) 1 rfl ?_
      exact H

set_option maxRecDepth 100000 in
/-- GatheredPointsModel.bound, pc 233 -/
theorem s_3100_233 {L d : Nat} {K : Option gV → gH → Prop} {s : gH} (v1 : Int) (v2 : Int) (v3 : Int) (v4 : Int) (v5 : Int) (v6 : Int) (v7 : Int) (w1 : Int) (H : gs_E L (d + 1) 3100 235 [gp_r (some 74), gp_i v1, gp_i v2, gp_i v3, gp_i v4, gp_i v5, gp_i v6, gp_i v7] [gp_i v7, gp_i w1, gp_r (some 97)] s K) : gs_E L (d + 1) 3100 233 [gp_r (some 74), gp_i v1, gp_i v2, gp_i v3, gp_i v4, gp_i v5, gp_i v6, gp_i v7] [gp_i w1, gp_r (some 97)] s K := by
  refine gs_E.stp (pc' := 235) (ls' := [gp_r (some 74), gp_i v1, gp_i v2, gp_i v3, gp_i v4, gp_i v5, gp_i v6, gp_i v7]) (st' := [gp_i v7, gp_i w1, gp_r (some 97)]) (s' := s) 1 rfl ?_
  exact H

set_option maxRecDepth 100000 in
/-- GatheredPointsModel.bound, pc 235 -/
theorem s_3100_235 {L d : Nat} {K : Option gV → gH → Prop} {s : gH} (v1 : Int) (v2 : Int) (v3 : Int) (v4 : Int) (v5 : Int) (v6 : Int) (v7 : Int) (w1 : Int) (w2 : Int) (H : ((0 ≤ w1 ∧ w1 < 4096) ∧ (∀ s1, s1 = gp_wI s 97 w1.toNat w2 → gs_E L (d + 1) 3100 10 [gp_r (some 74), gp_i v1, gp_i v2, gp_i v3, gp_i (gp_wr (v4 + 1)), gp_i v5, gp_i v6, gp_i v7] [] s1 K))) : gs_E L (d + 1) 3100 235 [gp_r (some 74), gp_i v1, gp_i v2, gp_i v3, gp_i v4, gp_i v5, gp_i v6, gp_i v7] [gp_i w2, gp_i w1, gp_r (some 97)] s K := by
  refine gs_E.ck (pc' := 236) (ls' := [gp_r (some 74), gp_i v1, gp_i v2, gp_i v3, gp_i v4, gp_i v5, gp_i v6, gp_i v7]) (st' := []) (s' := gp_wI s 97 w1.toNat w2) rfl ⟨rfl, H.1.1, H.1.2⟩ ?_
  replace H := H.2 _ rfl
  generalize gp_wI s 97 w1.toNat w2 = s1 at H ⊢
  refine gs_E.stp (pc' := 10) (ls' := [gp_r (some 74), gp_i v1, gp_i v2, gp_i v3, gp_i (gp_wr (v4 + 1)), gp_i v5, gp_i v6, gp_i v7]) (st' := []) (s' := s1) 2 rfl ?_
  exact H

set_option maxRecDepth 100000 in
/-- GatheredPointsModel.bound, pc 275 -/
theorem s_3100_275 {L d : Nat} {K : Option gV → gH → Prop} {s : gH} (v1 : Int) (v2 : Int) (v3 : Int) (v4 : Int) (v5 : gV) (v6 : gV) (v7 : gV) (H : ((0 ≤ v3 ∧ v3 < 5440) ∧ (((gp_wr ((gp_I s 80 v3.toNat) + 1)) < v4 → K none s) ∧ (¬ (gp_wr ((gp_I s 80 v3.toNat) + 1)) < v4 → ((0 ≤ (gp_wr ((gp_wr (64 * v2)) + v4)) ∧ (gp_wr ((gp_wr (64 * v2)) + v4)) < 4096) ∧ ((0 ≤ v2 ∧ v2 < 64) ∧ (((gp_I s 96 (gp_wr ((gp_wr (64 * v2)) + v4)).toNat) < (gp_I s 92 v2.toNat) → ((0 ≤ (gp_wr ((gp_wr (64 * v2)) + v4)) ∧ (gp_wr ((gp_wr (64 * v2)) + v4)) < 4096) ∧ gs_E L (d + 1) 3100 335 [gp_r (some 74), gp_i v1, gp_i v2, gp_i v3, gp_i v4, v5, v6, v7] [gp_i (gp_I s 96 (gp_wr ((gp_wr (64 * v2)) + v4)).toNat), gp_i v2, gp_r (some 92)] s K)) ∧ (¬ (gp_I s 96 (gp_wr ((gp_wr (64 * v2)) + v4)).toNat) < (gp_I s 92 v2.toNat) → ((0 ≤ v2 ∧ v2 < 64) ∧ gs_E L (d + 1) 3100 335 [gp_r (some 74), gp_i v1, gp_i v2, gp_i v3, gp_i v4, v5, v6, v7] [gp_i (gp_I s 92 v2.toNat), gp_i v2, gp_r (some 92)] s K))))))))) : gs_E L (d + 1) 3100 275 [gp_r (some 74), gp_i v1, gp_i v2, gp_i v3, gp_i v4, v5, v6, v7] [] s K := by
  refine gs_E.stp (pc' := 282) (ls' := [gp_r (some 74), gp_i v1, gp_i v2, gp_i v3, gp_i v4, v5, v6, v7]) (st' := [gp_i v3, gp_r (some 80), gp_i v4]) (s' := s) 4 rfl ?_
  refine gs_E.ck (pc' := 283) (ls' := [gp_r (some 74), gp_i v1, gp_i v2, gp_i v3, gp_i v4, v5, v6, v7]) (st' := [gp_i (gp_I s 80 v3.toNat), gp_i v4]) (s' := s) rfl (Or.inl ⟨rfl, H.1.1, H.1.2⟩) ?_
  replace H := H.2
  refine gs_E.stp (pc' := 285) (ls' := [gp_r (some 74), gp_i v1, gp_i v2, gp_i v3, gp_i v4, v5, v6, v7]) (st' := [gp_i (gp_wr ((gp_I s 80 v3.toNat) + 1)), gp_i v4]) (s' := s) 2 rfl ?_
  refine gs_E.br (c := (gp_wr ((gp_I s 80 v3.toNat) + 1)) < v4) (p1 := 390) (p2 := 288) (l1 := [gp_r (some 74), gp_i v1, gp_i v2, gp_i v3, gp_i v4, v5, v6, v7]) (l2 := [gp_r (some 74), gp_i v1, gp_i v2, gp_i v3, gp_i v4, v5, v6, v7]) (s1 := []) (s2 := []) rfl gs_b1 (fun hc => ?_) (fun hc => ?_)
  · replace H := H.1 hc
    exact gs_E.ret (r := none) rfl H
  · replace H := H.2 hc
    refine gs_E.stp (pc' := 304) (ls' := [gp_r (some 74), gp_i v1, gp_i v2, gp_i v3, gp_i v4, v5, v6, v7]) (st' := [gp_i (gp_wr ((gp_wr (64 * v2)) + v4)), gp_r (some 96), gp_i v2, gp_r (some 92)]) (s' := s) 10 rfl ?_
    refine gs_E.ck (pc' := 305) (ls' := [gp_r (some 74), gp_i v1, gp_i v2, gp_i v3, gp_i v4, v5, v6, v7]) (st' := [gp_i (gp_I s 96 (gp_wr ((gp_wr (64 * v2)) + v4)).toNat), gp_i v2, gp_r (some 92)]) (s' := s) rfl (Or.inl ⟨rfl, H.1.1, H.1.2⟩) ?_
    replace H := H.2
    refine gs_E.stp (pc' := 310) (ls' := [gp_r (some 74), gp_i v1, gp_i v2, gp_i v3, gp_i v4, v5, v6, v7]) (st' := [gp_i v2, gp_r (some 92), gp_i (gp_I s 96 (gp_wr ((gp_wr (64 * v2)) + v4)).toNat), gp_i v2, gp_r (some 92)]) (s' := s) 3 rfl ?_
    refine gs_E.ck (pc' := 311) (ls' := [gp_r (some 74), gp_i v1, gp_i v2, gp_i v3, gp_i v4, v5, v6, v7]) (st' := [gp_i (gp_I s 92 v2.toNat), gp_i (gp_I s 96 (gp_wr ((gp_wr (64 * v2)) + v4)).toNat), gp_i v2, gp_r (some 92)]) (s' := s) rfl (Or.inl ⟨rfl, H.1.1, H.1.2⟩) ?_
    replace H := H.2
    refine gs_E.br (c := ¬ (gp_I s 96 (gp_wr ((gp_wr (64 * v2)) + v4)).toNat) < (gp_I s 92 v2.toNat)) (p1 := 329) (p2 := 314) (l1 := [gp_r (some 74), gp_i v1, gp_i v2, gp_i v3, gp_i v4, v5, v6, v7]) (l2 := [gp_r (some 74), gp_i v1, gp_i v2, gp_i v3, gp_i v4, v5, v6, v7]) (s1 := [gp_i v2, gp_r (some 92)]) (s2 := [gp_i v2, gp_r (some 92)]) rfl gs_b2 (fun hc => ?_) (fun hc => ?_)
    · replace H := H.2 hc
      refine gs_E.stp (pc' := 334) (ls' := [gp_r (some 74), gp_i v1, gp_i v2, gp_i v3, gp_i v4, v5, v6, v7]) (st' := [gp_i v2, gp_r (some 92), gp_i v2, gp_r (some 92)]) (s' := s) 3 rfl ?_
      refine gs_E.ck (pc' := 335) (ls' := [gp_r (some 74), gp_i v1, gp_i v2, gp_i v3, gp_i v4, v5, v6, v7]) (st' := [gp_i (gp_I s 92 v2.toNat), gp_i v2, gp_r (some 92)]) (s' := s) rfl (Or.inl ⟨rfl, H.1.1, H.1.2⟩) ?_
      replace H := H.2
      exact H
    · replace H := H.1 (Decidable.byContradiction hc)
      refine gs_E.stp (pc' := 325) (ls' := [gp_r (some 74), gp_i v1, gp_i v2, gp_i v3, gp_i v4, v5, v6, v7]) (st' := [gp_i (gp_wr ((gp_wr (64 * v2)) + v4)), gp_r (some 96), gp_i v2, gp_r (some 92)]) (s' := s) 7 rfl ?_
      refine gs_E.ck (pc' := 326) (ls' := [gp_r (some 74), gp_i v1, gp_i v2, gp_i v3, gp_i v4, v5, v6, v7]) (st' := [gp_i (gp_I s 96 (gp_wr ((gp_wr (64 * v2)) + v4)).toNat), gp_i v2, gp_r (some 92)]) (s' := s) rfl (Or.inl ⟨rfl, H.1.1, H.1.2⟩) ?_
      replace H := H.2
      refine gs_E.stp (pc' := 335) (ls' := [gp_r (some 74), gp_i v1, gp_i v2, gp_i v3, gp_i v4, v5, v6, v7]) (st' := [gp_i (gp_I s 96 (gp_wr ((gp_wr (64 * v2)) + v4)).toNat), gp_i v2, gp_r (some 92)]) (s' := s) 1 rfl ?_
      exact H

set_option maxRecDepth 100000 in
/-- GatheredPointsModel.bound, pc 335 -/
theorem s_3100_335 {L d : Nat} {K : Option gV → gH → Prop} {s : gH} (v1 : Int) (v2 : Int) (v3 : Int) (v4 : Int) (v5 : gV) (v6 : gV) (v7 : gV) (w1 : Int) (w2 : Int) (H : ((0 ≤ w1 ∧ w1 < 64) ∧ (∀ s1, s1 = gp_wI s 92 w1.toNat w2 → ((0 ≤ (gp_wr ((gp_wr (64 * v2)) + v4)) ∧ (gp_wr ((gp_wr (64 * v2)) + v4)) < 4096) ∧ ((0 ≤ v2 ∧ v2 < 64) ∧ (((gp_I s1 93 v2.toNat) < (gp_I s1 95 (gp_wr ((gp_wr (64 * v2)) + v4)).toNat) → ((0 ≤ (gp_wr ((gp_wr (64 * v2)) + v4)) ∧ (gp_wr ((gp_wr (64 * v2)) + v4)) < 4096) ∧ gs_E L (d + 1) 3100 383 [gp_r (some 74), gp_i v1, gp_i v2, gp_i v3, gp_i v4, v5, v6, v7] [gp_i (gp_I s1 95 (gp_wr ((gp_wr (64 * v2)) + v4)).toNat), gp_i v2, gp_r (some 93)] s1 K)) ∧ (¬ (gp_I s1 93 v2.toNat) < (gp_I s1 95 (gp_wr ((gp_wr (64 * v2)) + v4)).toNat) → ((0 ≤ v2 ∧ v2 < 64) ∧ gs_E L (d + 1) 3100 383 [gp_r (some 74), gp_i v1, gp_i v2, gp_i v3, gp_i v4, v5, v6, v7] [gp_i (gp_I s1 93 v2.toNat), gp_i v2, gp_r (some 93)] s1 K)))))))) : gs_E L (d + 1) 3100 335 [gp_r (some 74), gp_i v1, gp_i v2, gp_i v3, gp_i v4, v5, v6, v7] [gp_i w2, gp_i w1, gp_r (some 92)] s K := by
  refine gs_E.ck (pc' := 336) (ls' := [gp_r (some 74), gp_i v1, gp_i v2, gp_i v3, gp_i v4, v5, v6, v7]) (st' := []) (s' := gp_wI s 92 w1.toNat w2) rfl ⟨rfl, H.1.1, H.1.2⟩ ?_
  replace H := H.2 _ rfl
  generalize gp_wI s 92 w1.toNat w2 = s1 at H ⊢
  refine gs_E.stp (pc' := 352) (ls' := [gp_r (some 74), gp_i v1, gp_i v2, gp_i v3, gp_i v4, v5, v6, v7]) (st' := [gp_i (gp_wr ((gp_wr (64 * v2)) + v4)), gp_r (some 95), gp_i v2, gp_r (some 93)]) (s' := s1) 10 rfl ?_
  refine gs_E.ck (pc' := 353) (ls' := [gp_r (some 74), gp_i v1, gp_i v2, gp_i v3, gp_i v4, v5, v6, v7]) (st' := [gp_i (gp_I s1 95 (gp_wr ((gp_wr (64 * v2)) + v4)).toNat), gp_i v2, gp_r (some 93)]) (s' := s1) rfl (Or.inl ⟨rfl, H.1.1, H.1.2⟩) ?_
  replace H := H.2
  refine gs_E.stp (pc' := 358) (ls' := [gp_r (some 74), gp_i v1, gp_i v2, gp_i v3, gp_i v4, v5, v6, v7]) (st' := [gp_i v2, gp_r (some 93), gp_i (gp_I s1 95 (gp_wr ((gp_wr (64 * v2)) + v4)).toNat), gp_i v2, gp_r (some 93)]) (s' := s1) 3 rfl ?_
  refine gs_E.ck (pc' := 359) (ls' := [gp_r (some 74), gp_i v1, gp_i v2, gp_i v3, gp_i v4, v5, v6, v7]) (st' := [gp_i (gp_I s1 93 v2.toNat), gp_i (gp_I s1 95 (gp_wr ((gp_wr (64 * v2)) + v4)).toNat), gp_i v2, gp_r (some 93)]) (s' := s1) rfl (Or.inl ⟨rfl, H.1.1, H.1.2⟩) ?_
  replace H := H.2
  refine gs_E.br (c := ¬ (gp_I s1 93 v2.toNat) < (gp_I s1 95 (gp_wr ((gp_wr (64 * v2)) + v4)).toNat)) (p1 := 377) (p2 := 362) (l1 := [gp_r (some 74), gp_i v1, gp_i v2, gp_i v3, gp_i v4, v5, v6, v7]) (l2 := [gp_r (some 74), gp_i v1, gp_i v2, gp_i v3, gp_i v4, v5, v6, v7]) (s1 := [gp_i v2, gp_r (some 93)]) (s2 := [gp_i v2, gp_r (some 93)]) rfl gs_b2 (fun hc => ?_) (fun hc => ?_)
  · replace H := H.2 hc
    refine gs_E.stp (pc' := 382) (ls' := [gp_r (some 74), gp_i v1, gp_i v2, gp_i v3, gp_i v4, v5, v6, v7]) (st' := [gp_i v2, gp_r (some 93), gp_i v2, gp_r (some 93)]) (s' := s1) 3 rfl ?_
    refine gs_E.ck (pc' := 383) (ls' := [gp_r (some 74), gp_i v1, gp_i v2, gp_i v3, gp_i v4, v5, v6, v7]) (st' := [gp_i (gp_I s1 93 v2.toNat), gp_i v2, gp_r (some 93)]) (s' := s1) rfl (Or.inl ⟨rfl, H.1.1, H.1.2⟩) ?_
    replace H := H.2
    exact H
  · replace H := H.1 (Decidable.byContradiction hc)
    refine gs_E.stp (pc' := 373) (ls' := [gp_r (some 74), gp_i v1, gp_i v2, gp_i v3, gp_i v4, v5, v6, v7]) (st' := [gp_i (gp_wr ((gp_wr (64 * v2)) + v4)), gp_r (some 95), gp_i v2, gp_r (some 93)]) (s' := s1) 7 rfl ?_
    refine gs_E.ck (pc' := 374) (ls' := [gp_r (some 74), gp_i v1, gp_i v2, gp_i v3, gp_i v4, v5, v6, v7]) (st' := [gp_i (gp_I s1 95 (gp_wr ((gp_wr (64 * v2)) + v4)).toNat), gp_i v2, gp_r (some 93)]) (s' := s1) rfl (Or.inl ⟨rfl, H.1.1, H.1.2⟩) ?_
    replace H := H.2
    refine gs_E.stp (pc' := 383) (ls' := [gp_r (some 74), gp_i v1, gp_i v2, gp_i v3, gp_i v4, v5, v6, v7]) (st' := [gp_i (gp_I s1 95 (gp_wr ((gp_wr (64 * v2)) + v4)).toNat), gp_i v2, gp_r (some 93)]) (s' := s1) 1 rfl ?_
    exact H

set_option maxRecDepth 100000 in
/-- GatheredPointsModel.bound, pc 383 -/
theorem s_3100_383 {L d : Nat} {K : Option gV → gH → Prop} {s : gH} (v1 : Int) (v2 : Int) (v3 : Int) (v4 : Int) (v5 : gV) (v6 : gV) (v7 : gV) (w1 : Int) (w2 : Int) (H : ((0 ≤ w1 ∧ w1 < 64) ∧ (∀ s1, s1 = gp_wI s 93 w1.toNat w2 → gs_E L (d + 1) 3100 275 [gp_r (some 74), gp_i v1, gp_i v2, gp_i v3, gp_i (gp_wr (v4 + 1)), v5, v6, v7] [] s1 K))) : gs_E L (d + 1) 3100 383 [gp_r (some 74), gp_i v1, gp_i v2, gp_i v3, gp_i v4, v5, v6, v7] [gp_i w2, gp_i w1, gp_r (some 93)] s K := by
  refine gs_E.ck (pc' := 384) (ls' := [gp_r (some 74), gp_i v1, gp_i v2, gp_i v3, gp_i v4, v5, v6, v7]) (st' := []) (s' := gp_wI s 93 w1.toNat w2) rfl ⟨rfl, H.1.1, H.1.2⟩ ?_
  replace H := H.2 _ rfl
  generalize gp_wI s 93 w1.toNat w2 = s1 at H ⊢
  refine gs_E.stp (pc' := 275) (ls' := [gp_r (some 74), gp_i v1, gp_i v2, gp_i v3, gp_i (gp_wr (v4 + 1)), v5, v6, v7]) (st' := []) (s' := s1) 2 rfl ?_
  exact H

set_option maxRecDepth 100000 in
/-- GatheredPointsModel.bounds, pc 0 -/
theorem s_3101_e {L d : Nat} {K : Option gV → gH → Prop} {s : gH} (p0 : Int) (H : gs_E L (d + 1) 3101 2 [gp_r (some 74), gp_i p0, gp_i 0] [] s K) : gs_C L (d + 1) 3101 3 [gp_r (some 74), gp_i p0] s K := by
  show gs_E L (d + 1) 3101 0 [gp_r (some 74), gp_i p0, gp_n] [] s K
  refine gs_E.stp (pc' := 2) (ls' := [gp_r (some 74), gp_i p0, gp_i 0]) (st' := []) (s' := s) 2 rfl ?_
  exact H

set_option maxRecDepth 100000 in
/-- GatheredPointsModel.bounds, pc 2 -/
theorem s_3101_2 {L d : Nat} {K : Option gV → gH → Prop} {s : gH} (v1 : Int) (v2 : Int) (H : ((0 ≤ v1 ∧ v1 < 85) ∧ ((v2 < (gp_I s 81 v1.toNat) → gs_C L d 3100 8 [gp_r (some 74), gp_i v1, gp_i v2] s (fun r s1 => r = none ∧ gs_E L (d + 1) 3101 2 [gp_r (some 74), gp_i v1, gp_i (gp_wr (v2 + 1))] [] s1 K)) ∧ (¬ v2 < (gp_I s 81 v1.toNat) → K none s)))) : gs_E L (d + 1) 3101 2 [gp_r (some 74), gp_i v1, gp_i v2] [] s K := by
  refine gs_E.stp (pc' := 8) (ls' := [gp_r (some 74), gp_i v1, gp_i v2]) (st' := [gp_i v1, gp_r (some 81), gp_i v2]) (s' := s) 4 rfl ?_
  refine gs_E.ck (pc' := 9) (ls' := [gp_r (some 74), gp_i v1, gp_i v2]) (st' := [gp_i (gp_I s 81 v1.toNat), gp_i v2]) (s' := s) rfl (Or.inl ⟨rfl, H.1.1, H.1.2⟩) ?_
  replace H := H.2
  refine gs_E.br (c := ¬ v2 < (gp_I s 81 v1.toNat)) (p1 := 24) (p2 := 12) (l1 := [gp_r (some 74), gp_i v1, gp_i v2]) (l2 := [gp_r (some 74), gp_i v1, gp_i v2]) (s1 := []) (s2 := []) rfl gs_b2 (fun hc => ?_) (fun hc => ?_)
  · replace H := H.2 hc
    exact gs_E.ret (r := none) rfl H
  · replace H := H.1 (Decidable.byContradiction hc)
    refine gs_E.stp (pc' := 15) (ls' := [gp_r (some 74), gp_i v1, gp_i v2]) (st' := [gp_i v2, gp_i v1, gp_r (some 74)]) (s' := s) 3 rfl ?_
    refine gs_E.call (args := [gp_r (some 74), gp_i v1, gp_i v2]) (m := 8) (y' := 3100) (st' := []) rfl H (fun r s1 H => ?_)
    obtain ⟨rfl, H⟩ := H
    show gs_E L (d + 1) 3101 18 [gp_r (some 74), gp_i v1, gp_i v2] [] s1 K
    refine gs_E.stp (pc' := 2) (ls' := [gp_r (some 74), gp_i v1, gp_i (gp_wr (v2 + 1))]) (st' := []) (s' := s1) 2 rfl ?_
    exact H

set_option maxRecDepth 100000 in
/-- GatheredPointsModel.price, pc 0 -/
theorem s_3102_e {L d : Nat} {K : Option gV → gH → Prop} {s : gH} (p0 : Int) (p1 : Int) (H : gs_E L d 3102 2 [gp_r (some 74), gp_i p0, gp_i p1, gp_i 0] [] s K) : gs_C L d 3102 4 [gp_r (some 74), gp_i p0, gp_i p1] s K := by
  show gs_E L d 3102 0 [gp_r (some 74), gp_i p0, gp_i p1, gp_n] [] s K
  refine gs_E.stp (pc' := 2) (ls' := [gp_r (some 74), gp_i p0, gp_i p1, gp_i 0]) (st' := []) (s' := s) 2 rfl ?_
  exact H

set_option maxRecDepth 100000 in
/-- GatheredPointsModel.price, pc 2 -/
theorem s_3102_2 {L d : Nat} {K : Option gV → gH → Prop} {s : gH} (v1 : Int) (v2 : Int) (v3 : Int) (H : ((v2 = 0 → ((0 ≤ (gp_wr ((gp_wr (64 * v1)) + v3)) ∧ (gp_wr ((gp_wr (64 * v1)) + v3)) < 4096) ∧ ((0 ≤ v1 ∧ v1 < 64) ∧ (((gp_I s 95 (gp_wr ((gp_wr (64 * v1)) + v3)).toNat) = (gp_I s 93 v1.toNat) → gs_E L d 3102 55 [gp_r (some 74), gp_i v1, gp_i v2, gp_i v3] [] s K) ∧ (¬ (gp_I s 95 (gp_wr ((gp_wr (64 * v1)) + v3)).toNat) = (gp_I s 93 v1.toNat) → gs_E L d 3102 49 [gp_r (some 74), gp_i v1, gp_i v2, gp_i v3] [] s K))))) ∧ (¬ v2 = 0 → ((0 ≤ (gp_wr ((gp_wr (64 * v1)) + v3)) ∧ (gp_wr ((gp_wr (64 * v1)) + v3)) < 4096) ∧ ((0 ≤ v1 ∧ v1 < 64) ∧ (((gp_I s 96 (gp_wr ((gp_wr (64 * v1)) + v3)).toNat) = (gp_I s 92 v1.toNat) → gs_E L d 3102 55 [gp_r (some 74), gp_i v1, gp_i v2, gp_i v3] [] s K) ∧ (¬ (gp_I s 96 (gp_wr ((gp_wr (64 * v1)) + v3)).toNat) = (gp_I s 92 v1.toNat) → gs_E L d 3102 49 [gp_r (some 74), gp_i v1, gp_i v2, gp_i v3] [] s K))))))) : gs_E L d 3102 2 [gp_r (some 74), gp_i v1, gp_i v2, gp_i v3] [] s K := by
  refine gs_E.stp (pc' := 3) (ls' := [gp_r (some 74), gp_i v1, gp_i v2, gp_i v3]) (st' := [gp_i v2]) (s' := s) 1 rfl ?_
  refine gs_E.br (c := ¬ v2 = 0) (p1 := 29) (p2 := 6) (l1 := [gp_r (some 74), gp_i v1, gp_i v2, gp_i v3]) (l2 := [gp_r (some 74), gp_i v1, gp_i v2, gp_i v3]) (s1 := []) (s2 := []) rfl gs_b2 (fun hc => ?_) (fun hc => ?_)
  · replace H := H.2 hc
    refine gs_E.stp (pc' := 39) (ls' := [gp_r (some 74), gp_i v1, gp_i v2, gp_i v3]) (st' := [gp_i (gp_wr ((gp_wr (64 * v1)) + v3)), gp_r (some 96)]) (s' := s) 7 rfl ?_
    refine gs_E.ck (pc' := 40) (ls' := [gp_r (some 74), gp_i v1, gp_i v2, gp_i v3]) (st' := [gp_i (gp_I s 96 (gp_wr ((gp_wr (64 * v1)) + v3)).toNat)]) (s' := s) rfl (Or.inl ⟨rfl, H.1.1, H.1.2⟩) ?_
    replace H := H.2
    refine gs_E.stp (pc' := 45) (ls' := [gp_r (some 74), gp_i v1, gp_i v2, gp_i v3]) (st' := [gp_i v1, gp_r (some 92), gp_i (gp_I s 96 (gp_wr ((gp_wr (64 * v1)) + v3)).toNat)]) (s' := s) 3 rfl ?_
    refine gs_E.ck (pc' := 46) (ls' := [gp_r (some 74), gp_i v1, gp_i v2, gp_i v3]) (st' := [gp_i (gp_I s 92 v1.toNat), gp_i (gp_I s 96 (gp_wr ((gp_wr (64 * v1)) + v3)).toNat)]) (s' := s) rfl (Or.inl ⟨rfl, H.1.1, H.1.2⟩) ?_
    replace H := H.2
    refine gs_E.br (c := (gp_I s 96 (gp_wr ((gp_wr (64 * v1)) + v3)).toNat) = (gp_I s 92 v1.toNat)) (p1 := 55) (p2 := 49) (l1 := [gp_r (some 74), gp_i v1, gp_i v2, gp_i v3]) (l2 := [gp_r (some 74), gp_i v1, gp_i v2, gp_i v3]) (s1 := []) (s2 := []) rfl gs_b1 (fun hc => ?_) (fun hc => ?_)
    · replace H := H.1 hc
      exact H
    · replace H := H.2 hc
      exact H
  · replace H := H.1 (Decidable.byContradiction hc)
    refine gs_E.stp (pc' := 16) (ls' := [gp_r (some 74), gp_i v1, gp_i v2, gp_i v3]) (st' := [gp_i (gp_wr ((gp_wr (64 * v1)) + v3)), gp_r (some 95)]) (s' := s) 7 rfl ?_
    refine gs_E.ck (pc' := 17) (ls' := [gp_r (some 74), gp_i v1, gp_i v2, gp_i v3]) (st' := [gp_i (gp_I s 95 (gp_wr ((gp_wr (64 * v1)) + v3)).toNat)]) (s' := s) rfl (Or.inl ⟨rfl, H.1.1, H.1.2⟩) ?_
    replace H := H.2
    refine gs_E.stp (pc' := 22) (ls' := [gp_r (some 74), gp_i v1, gp_i v2, gp_i v3]) (st' := [gp_i v1, gp_r (some 93), gp_i (gp_I s 95 (gp_wr ((gp_wr (64 * v1)) + v3)).toNat)]) (s' := s) 3 rfl ?_
    refine gs_E.ck (pc' := 23) (ls' := [gp_r (some 74), gp_i v1, gp_i v2, gp_i v3]) (st' := [gp_i (gp_I s 93 v1.toNat), gp_i (gp_I s 95 (gp_wr ((gp_wr (64 * v1)) + v3)).toNat)]) (s' := s) rfl (Or.inl ⟨rfl, H.1.1, H.1.2⟩) ?_
    replace H := H.2
    refine gs_E.br (c := (gp_I s 95 (gp_wr ((gp_wr (64 * v1)) + v3)).toNat) = (gp_I s 93 v1.toNat)) (p1 := 55) (p2 := 26) (l1 := [gp_r (some 74), gp_i v1, gp_i v2, gp_i v3]) (l2 := [gp_r (some 74), gp_i v1, gp_i v2, gp_i v3]) (s1 := []) (s2 := []) rfl gs_b1 (fun hc => ?_) (fun hc => ?_)
    · replace H := H.1 hc
      exact H
    · replace H := H.2 hc
      refine gs_E.stp (pc' := 49) (ls' := [gp_r (some 74), gp_i v1, gp_i v2, gp_i v3]) (st' := []) (s' := s) 1 rfl ?_
      exact H

set_option maxRecDepth 100000 in
/-- GatheredPointsModel.price, pc 49 -/
theorem s_3102_49 {L d : Nat} {K : Option gV → gH → Prop} {s : gH} (v1 : Int) (v2 : Int) (v3 : Int) (H : gs_E L d 3102 2 [gp_r (some 74), gp_i v1, gp_i v2, gp_i (gp_wr (v3 + 1))] [] s K) : gs_E L d 3102 49 [gp_r (some 74), gp_i v1, gp_i v2, gp_i v3] [] s K := by
  refine gs_E.stp (pc' := 2) (ls' := [gp_r (some 74), gp_i v1, gp_i v2, gp_i (gp_wr (v3 + 1))]) (st' := []) (s' := s) 2 rfl ?_
  exact H

set_option maxRecDepth 100000 in
/-- GatheredPointsModel.price, pc 55 -/
theorem s_3102_55 {L d : Nat} {K : Option gV → gH → Prop} {s : gH} (v1 : Int) (v2 : Int) (v3 : Int) (H : K (some (gp_i v3)) s) : gs_E L d 3102 55 [gp_r (some 74), gp_i v1, gp_i v2, gp_i v3] [] s K := by
  refine gs_E.stp (pc' := 56) (ls' := [gp_r (some 74), gp_i v1, gp_i v2, gp_i v3]) (st' := [gp_i v3]) (s' := s) 1 rfl ?_
  exact gs_E.ret (r := (some (gp_i v3))) rfl H

set_option maxRecDepth 100000 in
/-- GatheredPointsModel.isSure, pc 0 -/
theorem s_3103_e {L d : Nat} {K : Option gV → gH → Prop} {s : gH} (p0 : Int) (H : gs_E L (d + 1) 3103 2 [gp_r (some 74), gp_i p0, gp_i 0, gp_n, gp_n, gp_n, gp_n, gp_n, gp_n] [] s K) : gs_C L (d + 1) 3103 9 [gp_r (some 74), gp_i p0] s K := by
  show gs_E L (d + 1) 3103 0 [gp_r (some 74), gp_i p0, gp_n, gp_n, gp_n, gp_n, gp_n, gp_n, gp_n] [] s K
  refine gs_E.stp (pc' := 2) (ls' := [gp_r (some 74), gp_i p0, gp_i 0, gp_n, gp_n, gp_n, gp_n, gp_n, gp_n]) (st' := []) (s' := s) 2 rfl ?_
  exact H

set_option maxRecDepth 100000 in
/-- GatheredPointsModel.isSure, pc 2 -/
theorem s_3103_2 {L d : Nat} {K : Option gV → gH → Prop} {s : gH} (v1 : Int) (v2 : Int) (v3 : gV) (v4 : gV) (v5 : gV) (v6 : gV) (v7 : gV) (v8 : gV) (H : ((0 ≤ v1 ∧ v1 < 85) ∧ ((v2 < (gp_I s 81 v1.toNat) → gs_E L (d + 1) 3103 27 [gp_r (some 74), gp_i v1, gp_i v2, gp_i (gp_wr ((gp_wr (64 * v1)) + v2)), gp_l ((1#64) <<< (v2 % 64).toNat), gp_n, gp_i v2, v7, v8] [] s K) ∧ (¬ v2 < (gp_I s 81 v1.toNat) → K (some (gp_i 1)) s)))) : gs_E L (d + 1) 3103 2 [gp_r (some 74), gp_i v1, gp_i v2, v3, v4, v5, v6, v7, v8] [] s K := by
  refine gs_E.stp (pc' := 8) (ls' := [gp_r (some 74), gp_i v1, gp_i v2, v3, v4, v5, v6, v7, v8]) (st' := [gp_i v1, gp_r (some 81), gp_i v2]) (s' := s) 4 rfl ?_
  refine gs_E.ck (pc' := 9) (ls' := [gp_r (some 74), gp_i v1, gp_i v2, v3, v4, v5, v6, v7, v8]) (st' := [gp_i (gp_I s 81 v1.toNat), gp_i v2]) (s' := s) rfl (Or.inl ⟨rfl, H.1.1, H.1.2⟩) ?_
  replace H := H.2
  refine gs_E.br (c := ¬ v2 < (gp_I s 81 v1.toNat)) (p1 := 214) (p2 := 12) (l1 := [gp_r (some 74), gp_i v1, gp_i v2, v3, v4, v5, v6, v7, v8]) (l2 := [gp_r (some 74), gp_i v1, gp_i v2, v3, v4, v5, v6, v7, v8]) (s1 := []) (s2 := []) rfl gs_b2 (fun hc => ?_) (fun hc => ?_)
  · replace H := H.2 hc
    refine gs_E.stp (pc' := 215) (ls' := [gp_r (some 74), gp_i v1, gp_i v2, v3, v4, v5, v6, v7, v8]) (st' := [gp_i 1]) (s' := s) 1 rfl ?_
    exact gs_E.ret (r := (some (gp_i 1))) rfl H
  · replace H := H.1 (Decidable.byContradiction hc)
    refine gs_E.stp (pc' := 27) (ls' := [gp_r (some 74), gp_i v1, gp_i v2, gp_i (gp_wr ((gp_wr (64 * v1)) + v2)), gp_l ((1#64) <<< (v2 % 64).toNat), gp_n, gp_i v2, v7, v8]) (st' := []) (s' := s) 12 rfl ?_
    exact H

set_option maxRecDepth 100000 in
/-- GatheredPointsModel.isSure, pc 27 -/
theorem s_3103_27 {L d : Nat} {K : Option gV → gH → Prop} {s : gH} (v1 : Int) (v2 : Int) (v3 : Int) (v4 : BitVec 64) (v6 : Int) (v7 : gV) (v8 : gV) (H : ((v6 < 0 → gs_E L (d + 1) 3103 85 [gp_r (some 74), gp_i v1, gp_i v2, gp_i v3, gp_l v4, gp_n, gp_i 0, v7, v8] [] s K) ∧ (¬ v6 < 0 → gs_C L d 3078 3 [gp_l v4, gp_i v6] s (fun r s1 => ∃ x2, r = some (gp_i x2) ∧ ((x2 = 0 → gs_E L (d + 1) 3103 73 [gp_r (some 74), gp_i v1, gp_i v2, gp_i v3, gp_l v4, gp_n, gp_i v6, v7, v8] [gp_l (0#64), gp_l v4] s1 K) ∧ (¬ x2 = 0 → ((0 ≤ (gp_wr ((gp_wr (64 * v1)) + v6)) ∧ (gp_wr ((gp_wr (64 * v1)) + v6)) < 5440) ∧ ((0 ≤ (gp_wr ((gp_wr (64 * v1)) + v6)) ∧ (gp_wr ((gp_wr (64 * v1)) + v6)) < 5440) ∧ gs_E L (d + 1) 3103 73 [gp_r (some 74), gp_i v1, gp_i v2, gp_i v3, gp_l v4, gp_n, gp_i v6, v7, v8] [gp_l ((gp_L s1 76 (gp_wr ((gp_wr (64 * v1)) + v6)).toNat) ||| (gp_L s1 77 (gp_wr ((gp_wr (64 * v1)) + v6)).toNat)), gp_l v4] s1 K)))))))) : gs_E L (d + 1) 3103 27 [gp_r (some 74), gp_i v1, gp_i v2, gp_i v3, gp_l v4, gp_n, gp_i v6, v7, v8] [] s K := by
  refine gs_E.stp (pc' := 29) (ls' := [gp_r (some 74), gp_i v1, gp_i v2, gp_i v3, gp_l v4, gp_n, gp_i v6, v7, v8]) (st' := [gp_i v6]) (s' := s) 1 rfl ?_
  refine gs_E.br (c := v6 < 0) (p1 := 82) (p2 := 32) (l1 := [gp_r (some 74), gp_i v1, gp_i v2, gp_i v3, gp_l v4, gp_n, gp_i v6, v7, v8]) (l2 := [gp_r (some 74), gp_i v1, gp_i v2, gp_i v3, gp_l v4, gp_n, gp_i v6, v7, v8]) (s1 := []) (s2 := []) rfl gs_b1 (fun hc => ?_) (fun hc => ?_)
  · replace H := H.1 hc
    refine gs_E.stp (pc' := 85) (ls' := [gp_r (some 74), gp_i v1, gp_i v2, gp_i v3, gp_l v4, gp_n, gp_i 0, v7, v8]) (st' := []) (s' := s) 2 rfl ?_
    exact H
  · replace H := H.2 hc
    refine gs_E.stp (pc' := 38) (ls' := [gp_r (some 74), gp_i v1, gp_i v2, gp_i v3, gp_l v4, gp_n, gp_i v6, v7, v8]) (st' := [gp_i v6, gp_l v4, gp_l v4]) (s' := s) 3 rfl ?_
    refine gs_E.call (args := [gp_l v4, gp_i v6]) (m := 3) (y' := 3078) (st' := [gp_l v4]) rfl H (fun r s1 H => ?_)
    obtain ⟨x2, rfl, H⟩ := H
    show gs_E L (d + 1) 3103 41 [gp_r (some 74), gp_i v1, gp_i v2, gp_i v3, gp_l v4, gp_n, gp_i v6, v7, v8] [gp_i x2, gp_l v4] s1 K
    refine gs_E.br (c := x2 = 0) (p1 := 72) (p2 := 44) (l1 := [gp_r (some 74), gp_i v1, gp_i v2, gp_i v3, gp_l v4, gp_n, gp_i v6, v7, v8]) (l2 := [gp_r (some 74), gp_i v1, gp_i v2, gp_i v3, gp_l v4, gp_n, gp_i v6, v7, v8]) (s1 := [gp_l v4]) (s2 := [gp_l v4]) rfl gs_b1 (fun hc => ?_) (fun hc => ?_)
    · replace H := H.1 hc
      refine gs_E.stp (pc' := 73) (ls' := [gp_r (some 74), gp_i v1, gp_i v2, gp_i v3, gp_l v4, gp_n, gp_i v6, v7, v8]) (st' := [gp_l (0#64), gp_l v4]) (s' := s1) 1 rfl ?_
      exact H
    · replace H := H.2 hc
      refine gs_E.stp (pc' := 55) (ls' := [gp_r (some 74), gp_i v1, gp_i v2, gp_i v3, gp_l v4, gp_n, gp_i v6, v7, v8]) (st' := [gp_i (gp_wr ((gp_wr (64 * v1)) + v6)), gp_r (some 76), gp_l v4]) (s' := s1) 7 rfl ?_
      refine gs_E.ck (pc' := 56) (ls' := [gp_r (some 74), gp_i v1, gp_i v2, gp_i v3, gp_l v4, gp_n, gp_i v6, v7, v8]) (st' := [gp_l (gp_L s1 76 (gp_wr ((gp_wr (64 * v1)) + v6)).toNat), gp_l v4]) (s' := s1) rfl ⟨rfl, H.1.1, H.1.2⟩ ?_
      replace H := H.2
      refine gs_E.stp (pc' := 67) (ls' := [gp_r (some 74), gp_i v1, gp_i v2, gp_i v3, gp_l v4, gp_n, gp_i v6, v7, v8]) (st' := [gp_i (gp_wr ((gp_wr (64 * v1)) + v6)), gp_r (some 77), gp_l (gp_L s1 76 (gp_wr ((gp_wr (64 * v1)) + v6)).toNat), gp_l v4]) (s' := s1) 7 rfl ?_
      refine gs_E.ck (pc' := 68) (ls' := [gp_r (some 74), gp_i v1, gp_i v2, gp_i v3, gp_l v4, gp_n, gp_i v6, v7, v8]) (st' := [gp_l (gp_L s1 77 (gp_wr ((gp_wr (64 * v1)) + v6)).toNat), gp_l (gp_L s1 76 (gp_wr ((gp_wr (64 * v1)) + v6)).toNat), gp_l v4]) (s' := s1) rfl ⟨rfl, H.1.1, H.1.2⟩ ?_
      replace H := H.2
      refine gs_E.stp (pc' := 73) (ls' := [gp_r (some 74), gp_i v1, gp_i v2, gp_i v3, gp_l v4, gp_n, gp_i v6, v7, v8]) (st' := [gp_l ((gp_L s1 76 (gp_wr ((gp_wr (64 * v1)) + v6)).toNat) ||| (gp_L s1 77 (gp_wr ((gp_wr (64 * v1)) + v6)).toNat)), gp_l v4]) (s' := s1) 2 rfl ?_
      exact H

set_option maxRecDepth 100000 in
/-- GatheredPointsModel.isSure, pc 73 -/
theorem s_3103_73 {L d : Nat} {K : Option gV → gH → Prop} {s : gH} (v1 : Int) (v2 : Int) (v3 : Int) (v4 : BitVec 64) (v6 : Int) (v7 : gV) (v8 : gV) (w0 : BitVec 64) (w1 : BitVec 64) (H : gs_E L (d + 1) 3103 27 [gp_r (some 74), gp_i v1, gp_i v2, gp_i v3, gp_l (w0 ||| w1), gp_n, gp_i (gp_wr (v6 + (-1))), v7, v8] [] s K) : gs_E L (d + 1) 3103 73 [gp_r (some 74), gp_i v1, gp_i v2, gp_i v3, gp_l v4, gp_n, gp_i v6, v7, v8] [gp_l w1, gp_l w0] s K := by
  refine gs_E.stp (pc' := 27) (ls' := [gp_r (some 74), gp_i v1, gp_i v2, gp_i v3, gp_l (w0 ||| w1), gp_n, gp_i (gp_wr (v6 + (-1))), v7, v8]) (st' := []) (s' := s) 4 rfl ?_
  exact H

set_option maxRecDepth 100000 in
/-- GatheredPointsModel.isSure, pc 85 -/
theorem s_3103_85 {L d : Nat} {K : Option gV → gH → Prop} {s : gH} (v1 : Int) (v2 : Int) (v3 : Int) (v4 : BitVec 64) (v6 : Int) (v7 : gV) (v8 : gV) (H : ((v2 < v6 → gs_E L (d + 1) 3103 2 [gp_r (some 74), gp_i v1, gp_i (gp_wr (v2 + 1)), gp_i v3, gp_l v4, gp_n, gp_i v6, v7, v8] [] s K) ∧ (¬ v2 < v6 → gs_E L (d + 1) 3103 94 [gp_r (some 74), gp_i v1, gp_i v2, gp_i v3, gp_l v4, gp_n, gp_i v6, gp_i 0, v8] [] s K))) : gs_E L (d + 1) 3103 85 [gp_r (some 74), gp_i v1, gp_i v2, gp_i v3, gp_l v4, gp_n, gp_i v6, v7, v8] [] s K := by
  refine gs_E.stp (pc' := 88) (ls' := [gp_r (some 74), gp_i v1, gp_i v2, gp_i v3, gp_l v4, gp_n, gp_i v6, v7, v8]) (st' := [gp_i v2, gp_i v6]) (s' := s) 2 rfl ?_
  refine gs_E.br (c := v2 < v6) (p1 := 208) (p2 := 91) (l1 := [gp_r (some 74), gp_i v1, gp_i v2, gp_i v3, gp_l v4, gp_n, gp_i v6, v7, v8]) (l2 := [gp_r (some 74), gp_i v1, gp_i v2, gp_i v3, gp_l v4, gp_n, gp_i v6, v7, v8]) (s1 := []) (s2 := []) rfl gs_b1 (fun hc => ?_) (fun hc => ?_)
  · replace H := H.1 hc
    refine gs_E.stp (pc' := 2) (ls' := [gp_r (some 74), gp_i v1, gp_i (gp_wr (v2 + 1)), gp_i v3, gp_l v4, gp_n, gp_i v6, v7, v8]) (st' := []) (s' := s) 2 rfl ?_
    exact H
  · replace H := H.2 hc
    refine gs_E.stp (pc' := 94) (ls' := [gp_r (some 74), gp_i v1, gp_i v2, gp_i v3, gp_l v4, gp_n, gp_i v6, gp_i 0, v8]) (st' := []) (s' := s) 2 rfl ?_
    exact H

set_option maxRecDepth 100000 in
/-- GatheredPointsModel.isSure, pc 94 -/
theorem s_3103_94 {L d : Nat} {K : Option gV → gH → Prop} {s : gH} (v1 : Int) (v2 : Int) (v3 : Int) (v4 : BitVec 64) (v6 : Int) (v7 : Int) (v8 : gV) (H : ((v7 < 2 → gs_C L d 3078 3 [gp_l v4, gp_i v6] s (fun r s1 => ∃ x2, r = some (gp_i x2) ∧ ((x2 = 0 → gs_E L (d + 1) 3103 202 [gp_r (some 74), gp_i v1, gp_i v2, gp_i v3, gp_l v4, gp_n, gp_i v6, gp_i v7, v8] [] s1 K) ∧ (¬ x2 = 0 → gs_C L d 3082 4 [gp_r (some 74), gp_i v1, gp_i v6, gp_i v7] s1 (fun r s3 => ∃ m4, r = some (gp_l m4) ∧ (((gp_cmp m4 (0#64)) = 0 → gs_E L (d + 1) 3103 129 [gp_r (some 74), gp_i v1, gp_i v2, gp_i v3, gp_l v4, gp_n, gp_i v6, gp_i v7, v8] [gp_i 1] s3 K) ∧ (¬ (gp_cmp m4 (0#64)) = 0 → gs_E L (d + 1) 3103 129 [gp_r (some 74), gp_i v1, gp_i v2, gp_i v3, gp_l v4, gp_n, gp_i v6, gp_i v7, v8] [gp_i 0] s3 K))))))) ∧ (¬ v7 < 2 → gs_E L (d + 1) 3103 202 [gp_r (some 74), gp_i v1, gp_i v2, gp_i v3, gp_l v4, gp_n, gp_i v6, gp_i v7, v8] [] s K))) : gs_E L (d + 1) 3103 94 [gp_r (some 74), gp_i v1, gp_i v2, gp_i v3, gp_l v4, gp_n, gp_i v6, gp_i v7, v8] [] s K := by
  refine gs_E.stp (pc' := 97) (ls' := [gp_r (some 74), gp_i v1, gp_i v2, gp_i v3, gp_l v4, gp_n, gp_i v6, gp_i v7, v8]) (st' := [gp_i 2, gp_i v7]) (s' := s) 2 rfl ?_
  refine gs_E.br (c := ¬ v7 < 2) (p1 := 202) (p2 := 100) (l1 := [gp_r (some 74), gp_i v1, gp_i v2, gp_i v3, gp_l v4, gp_n, gp_i v6, gp_i v7, v8]) (l2 := [gp_r (some 74), gp_i v1, gp_i v2, gp_i v3, gp_l v4, gp_n, gp_i v6, gp_i v7, v8]) (s1 := []) (s2 := []) rfl gs_b2 (fun hc => ?_) (fun hc => ?_)
  · replace H := H.2 hc
    exact H
  · replace H := H.1 (Decidable.byContradiction hc)
    refine gs_E.stp (pc' := 104) (ls' := [gp_r (some 74), gp_i v1, gp_i v2, gp_i v3, gp_l v4, gp_n, gp_i v6, gp_i v7, v8]) (st' := [gp_i v6, gp_l v4]) (s' := s) 2 rfl ?_
    refine gs_E.call (args := [gp_l v4, gp_i v6]) (m := 3) (y' := 3078) (st' := []) rfl H (fun r s1 H => ?_)
    obtain ⟨x2, rfl, H⟩ := H
    show gs_E L (d + 1) 3103 107 [gp_r (some 74), gp_i v1, gp_i v2, gp_i v3, gp_l v4, gp_n, gp_i v6, gp_i v7, v8] [gp_i x2] s1 K
    refine gs_E.br (c := x2 = 0) (p1 := 202) (p2 := 110) (l1 := [gp_r (some 74), gp_i v1, gp_i v2, gp_i v3, gp_l v4, gp_n, gp_i v6, gp_i v7, v8]) (l2 := [gp_r (some 74), gp_i v1, gp_i v2, gp_i v3, gp_l v4, gp_n, gp_i v6, gp_i v7, v8]) (s1 := []) (s2 := []) rfl gs_b1 (fun hc => ?_) (fun hc => ?_)
    · replace H := H.1 hc
      exact H
    · replace H := H.2 hc
      refine gs_E.stp (pc' := 116) (ls' := [gp_r (some 74), gp_i v1, gp_i v2, gp_i v3, gp_l v4, gp_n, gp_i v6, gp_i v7, v8]) (st' := [gp_i v7, gp_i v6, gp_i v1, gp_r (some 74)]) (s' := s1) 4 rfl ?_
      refine gs_E.call (args := [gp_r (some 74), gp_i v1, gp_i v6, gp_i v7]) (m := 4) (y' := 3082) (st' := []) rfl H (fun r s3 H => ?_)
      obtain ⟨m4, rfl, H⟩ := H
      show gs_E L (d + 1) 3103 119 [gp_r (some 74), gp_i v1, gp_i v2, gp_i v3, gp_l v4, gp_n, gp_i v6, gp_i v7, v8] [gp_l m4] s3 K
      refine gs_E.stp (pc' := 121) (ls' := [gp_r (some 74), gp_i v1, gp_i v2, gp_i v3, gp_l v4, gp_n, gp_i v6, gp_i v7, v8]) (st' := [gp_i (gp_cmp m4 (0#64))]) (s' := s3) 2 rfl ?_
      refine gs_E.br (c := ¬ (gp_cmp m4 (0#64)) = 0) (p1 := 128) (p2 := 124) (l1 := [gp_r (some 74), gp_i v1, gp_i v2, gp_i v3, gp_l v4, gp_n, gp_i v6, gp_i v7, v8]) (l2 := [gp_r (some 74), gp_i v1, gp_i v2, gp_i v3, gp_l v4, gp_n, gp_i v6, gp_i v7, v8]) (s1 := []) (s2 := []) rfl gs_b2 (fun hc => ?_) (fun hc => ?_)
      · replace H := H.2 hc
        refine gs_E.stp (pc' := 129) (ls' := [gp_r (some 74), gp_i v1, gp_i v2, gp_i v3, gp_l v4, gp_n, gp_i v6, gp_i v7, v8]) (st' := [gp_i 0]) (s' := s3) 1 rfl ?_
        exact H
      · replace H := H.1 (Decidable.byContradiction hc)
        refine gs_E.stp (pc' := 129) (ls' := [gp_r (some 74), gp_i v1, gp_i v2, gp_i v3, gp_l v4, gp_n, gp_i v6, gp_i v7, v8]) (st' := [gp_i 1]) (s' := s3) 2 rfl ?_
        exact H

set_option maxRecDepth 100000 in
/-- GatheredPointsModel.isSure, pc 129 -/
theorem s_3103_129 {L d : Nat} {K : Option gV → gH → Prop} {s : gH} (v1 : Int) (v2 : Int) (v3 : Int) (v4 : BitVec 64) (v6 : Int) (v7 : Int) (v8 : gV) (w0 : Int) (H : ((w0 = 0 → gs_E L (d + 1) 3103 196 [gp_r (some 74), gp_i v1, gp_i v2, gp_i v3, gp_l v4, gp_n, gp_i v6, gp_i v7, gp_i w0] [] s K) ∧ (¬ w0 = 0 → ((0 ≤ v3 ∧ v3 < 5440) ∧ (((gp_cmp (gp_L s 76 v3.toNat) (0#64)) = 0 → gs_C L d 3083 4 [gp_r (some 74), gp_i v1, gp_i v6, gp_i v7] s (fun r s1 => ∃ x2, r = some (gp_i x2) ∧ ((0 ≤ v3 ∧ v3 < 5440) ∧ ((x2 < (gp_I s1 78 v3.toNat) → gs_E L (d + 1) 3103 194 [gp_r (some 74), gp_i v1, gp_i v2, gp_i v3, gp_l v4, gp_n, gp_i v6, gp_i v7, gp_i w0] [] s1 K) ∧ (¬ x2 < (gp_I s1 78 v3.toNat) → gs_E L (d + 1) 3103 165 [gp_r (some 74), gp_i v1, gp_i v2, gp_i v3, gp_l v4, gp_n, gp_i v6, gp_i v7, gp_i w0] [] s1 K))))) ∧ (¬ (gp_cmp (gp_L s 76 v3.toNat) (0#64)) = 0 → gs_E L (d + 1) 3103 165 [gp_r (some 74), gp_i v1, gp_i v2, gp_i v3, gp_l v4, gp_n, gp_i v6, gp_i v7, gp_i w0] [] s K)))))) : gs_E L (d + 1) 3103 129 [gp_r (some 74), gp_i v1, gp_i v2, gp_i v3, gp_l v4, gp_n, gp_i v6, gp_i v7, v8] [gp_i w0] s K := by
  refine gs_E.stp (pc' := 133) (ls' := [gp_r (some 74), gp_i v1, gp_i v2, gp_i v3, gp_l v4, gp_n, gp_i v6, gp_i v7, gp_i w0]) (st' := [gp_i w0]) (s' := s) 2 rfl ?_
  refine gs_E.br (c := w0 = 0) (p1 := 196) (p2 := 136) (l1 := [gp_r (some 74), gp_i v1, gp_i v2, gp_i v3, gp_l v4, gp_n, gp_i v6, gp_i v7, gp_i w0]) (l2 := [gp_r (some 74), gp_i v1, gp_i v2, gp_i v3, gp_l v4, gp_n, gp_i v6, gp_i v7, gp_i w0]) (s1 := []) (s2 := []) rfl gs_b1 (fun hc => ?_) (fun hc => ?_)
  · replace H := H.1 hc
    exact H
  · replace H := H.2 hc
    refine gs_E.stp (pc' := 141) (ls' := [gp_r (some 74), gp_i v1, gp_i v2, gp_i v3, gp_l v4, gp_n, gp_i v6, gp_i v7, gp_i w0]) (st' := [gp_i v3, gp_r (some 76)]) (s' := s) 3 rfl ?_
    refine gs_E.ck (pc' := 142) (ls' := [gp_r (some 74), gp_i v1, gp_i v2, gp_i v3, gp_l v4, gp_n, gp_i v6, gp_i v7, gp_i w0]) (st' := [gp_l (gp_L s 76 v3.toNat)]) (s' := s) rfl ⟨rfl, H.1.1, H.1.2⟩ ?_
    replace H := H.2
    refine gs_E.stp (pc' := 144) (ls' := [gp_r (some 74), gp_i v1, gp_i v2, gp_i v3, gp_l v4, gp_n, gp_i v6, gp_i v7, gp_i w0]) (st' := [gp_i (gp_cmp (gp_L s 76 v3.toNat) (0#64))]) (s' := s) 2 rfl ?_
    refine gs_E.br (c := ¬ (gp_cmp (gp_L s 76 v3.toNat) (0#64)) = 0) (p1 := 165) (p2 := 147) (l1 := [gp_r (some 74), gp_i v1, gp_i v2, gp_i v3, gp_l v4, gp_n, gp_i v6, gp_i v7, gp_i w0]) (l2 := [gp_r (some 74), gp_i v1, gp_i v2, gp_i v3, gp_l v4, gp_n, gp_i v6, gp_i v7, gp_i w0]) (s1 := []) (s2 := []) rfl gs_b2 (fun hc => ?_) (fun hc => ?_)
    · replace H := H.2 hc
      exact H
    · replace H := H.1 (Decidable.byContradiction hc)
      refine gs_E.stp (pc' := 153) (ls' := [gp_r (some 74), gp_i v1, gp_i v2, gp_i v3, gp_l v4, gp_n, gp_i v6, gp_i v7, gp_i w0]) (st' := [gp_i v7, gp_i v6, gp_i v1, gp_r (some 74)]) (s' := s) 4 rfl ?_
      refine gs_E.call (args := [gp_r (some 74), gp_i v1, gp_i v6, gp_i v7]) (m := 4) (y' := 3083) (st' := []) rfl H (fun r s1 H => ?_)
      obtain ⟨x2, rfl, H⟩ := H
      show gs_E L (d + 1) 3103 156 [gp_r (some 74), gp_i v1, gp_i v2, gp_i v3, gp_l v4, gp_n, gp_i v6, gp_i v7, gp_i w0] [gp_i x2] s1 K
      refine gs_E.stp (pc' := 161) (ls' := [gp_r (some 74), gp_i v1, gp_i v2, gp_i v3, gp_l v4, gp_n, gp_i v6, gp_i v7, gp_i w0]) (st' := [gp_i v3, gp_r (some 78), gp_i x2]) (s' := s1) 3 rfl ?_
      refine gs_E.ck (pc' := 162) (ls' := [gp_r (some 74), gp_i v1, gp_i v2, gp_i v3, gp_l v4, gp_n, gp_i v6, gp_i v7, gp_i w0]) (st' := [gp_i (gp_I s1 78 v3.toNat), gp_i x2]) (s' := s1) rfl (Or.inl ⟨rfl, H.1.1, H.1.2⟩) ?_
      replace H := H.2
      refine gs_E.br (c := x2 < (gp_I s1 78 v3.toNat)) (p1 := 194) (p2 := 165) (l1 := [gp_r (some 74), gp_i v1, gp_i v2, gp_i v3, gp_l v4, gp_n, gp_i v6, gp_i v7, gp_i w0]) (l2 := [gp_r (some 74), gp_i v1, gp_i v2, gp_i v3, gp_l v4, gp_n, gp_i v6, gp_i v7, gp_i w0]) (s1 := []) (s2 := []) rfl gs_b1 (fun hc => ?_) (fun hc => ?_)
      · replace H := H.1 hc
        exact H
      · replace H := H.2 hc
        exact H

set_option maxRecDepth 100000 in
/-- GatheredPointsModel.isSure, pc 165 -/
theorem s_3103_165 {L d : Nat} {K : Option gV → gH → Prop} {s : gH} (v1 : Int) (v2 : Int) (v3 : Int) (v4 : BitVec 64) (v6 : Int) (v7 : Int) (v8 : Int) (H : ((0 ≤ v3 ∧ v3 < 5440) ∧ (((gp_cmp (gp_L s 77 v3.toNat) (0#64)) = 0 → gs_C L d 3083 4 [gp_r (some 74), gp_i v1, gp_i v6, gp_i v7] s (fun r s1 => ∃ x2, r = some (gp_i x2) ∧ ((0 ≤ v3 ∧ v3 < 5440) ∧ (((gp_I s1 79 v3.toNat) < x2 → gs_E L (d + 1) 3103 194 [gp_r (some 74), gp_i v1, gp_i v2, gp_i v3, gp_l v4, gp_n, gp_i v6, gp_i v7, gp_i v8] [] s1 K) ∧ (¬ (gp_I s1 79 v3.toNat) < x2 → gs_E L (d + 1) 3103 196 [gp_r (some 74), gp_i v1, gp_i v2, gp_i v3, gp_l v4, gp_n, gp_i v6, gp_i v7, gp_i v8] [] s1 K))))) ∧ (¬ (gp_cmp (gp_L s 77 v3.toNat) (0#64)) = 0 → gs_E L (d + 1) 3103 196 [gp_r (some 74), gp_i v1, gp_i v2, gp_i v3, gp_l v4, gp_n, gp_i v6, gp_i v7, gp_i v8] [] s K)))) : gs_E L (d + 1) 3103 165 [gp_r (some 74), gp_i v1, gp_i v2, gp_i v3, gp_l v4, gp_n, gp_i v6, gp_i v7, gp_i v8] [] s K := by
  refine gs_E.stp (pc' := 170) (ls' := [gp_r (some 74), gp_i v1, gp_i v2, gp_i v3, gp_l v4, gp_n, gp_i v6, gp_i v7, gp_i v8]) (st' := [gp_i v3, gp_r (some 77)]) (s' := s) 3 rfl ?_
  refine gs_E.ck (pc' := 171) (ls' := [gp_r (some 74), gp_i v1, gp_i v2, gp_i v3, gp_l v4, gp_n, gp_i v6, gp_i v7, gp_i v8]) (st' := [gp_l (gp_L s 77 v3.toNat)]) (s' := s) rfl ⟨rfl, H.1.1, H.1.2⟩ ?_
  replace H := H.2
  refine gs_E.stp (pc' := 173) (ls' := [gp_r (some 74), gp_i v1, gp_i v2, gp_i v3, gp_l v4, gp_n, gp_i v6, gp_i v7, gp_i v8]) (st' := [gp_i (gp_cmp (gp_L s 77 v3.toNat) (0#64))]) (s' := s) 2 rfl ?_
  refine gs_E.br (c := ¬ (gp_cmp (gp_L s 77 v3.toNat) (0#64)) = 0) (p1 := 196) (p2 := 176) (l1 := [gp_r (some 74), gp_i v1, gp_i v2, gp_i v3, gp_l v4, gp_n, gp_i v6, gp_i v7, gp_i v8]) (l2 := [gp_r (some 74), gp_i v1, gp_i v2, gp_i v3, gp_l v4, gp_n, gp_i v6, gp_i v7, gp_i v8]) (s1 := []) (s2 := []) rfl gs_b2 (fun hc => ?_) (fun hc => ?_)
  · replace H := H.2 hc
    exact H
  · replace H := H.1 (Decidable.byContradiction hc)
    refine gs_E.stp (pc' := 182) (ls' := [gp_r (some 74), gp_i v1, gp_i v2, gp_i v3, gp_l v4, gp_n, gp_i v6, gp_i v7, gp_i v8]) (st' := [gp_i v7, gp_i v6, gp_i v1, gp_r (some 74)]) (s' := s) 4 rfl ?_
    refine gs_E.call (args := [gp_r (some 74), gp_i v1, gp_i v6, gp_i v7]) (m := 4) (y' := 3083) (st' := []) rfl H (fun r s1 H => ?_)
    obtain ⟨x2, rfl, H⟩ := H
    show gs_E L (d + 1) 3103 185 [gp_r (some 74), gp_i v1, gp_i v2, gp_i v3, gp_l v4, gp_n, gp_i v6, gp_i v7, gp_i v8] [gp_i x2] s1 K
    refine gs_E.stp (pc' := 190) (ls' := [gp_r (some 74), gp_i v1, gp_i v2, gp_i v3, gp_l v4, gp_n, gp_i v6, gp_i v7, gp_i v8]) (st' := [gp_i v3, gp_r (some 79), gp_i x2]) (s' := s1) 3 rfl ?_
    refine gs_E.ck (pc' := 191) (ls' := [gp_r (some 74), gp_i v1, gp_i v2, gp_i v3, gp_l v4, gp_n, gp_i v6, gp_i v7, gp_i v8]) (st' := [gp_i (gp_I s1 79 v3.toNat), gp_i x2]) (s' := s1) rfl (Or.inl ⟨rfl, H.1.1, H.1.2⟩) ?_
    replace H := H.2
    refine gs_E.br (c := ¬ (gp_I s1 79 v3.toNat) < x2) (p1 := 196) (p2 := 194) (l1 := [gp_r (some 74), gp_i v1, gp_i v2, gp_i v3, gp_l v4, gp_n, gp_i v6, gp_i v7, gp_i v8]) (l2 := [gp_r (some 74), gp_i v1, gp_i v2, gp_i v3, gp_l v4, gp_n, gp_i v6, gp_i v7, gp_i v8]) (s1 := []) (s2 := []) rfl gs_b2 (fun hc => ?_) (fun hc => ?_)
    · replace H := H.2 hc
      exact H
    · replace H := H.1 (Decidable.byContradiction hc)
      exact H

set_option maxRecDepth 100000 in
/-- GatheredPointsModel.isSure, pc 194 -/
theorem s_3103_194 {L d : Nat} {K : Option gV → gH → Prop} {s : gH} (v1 : Int) (v2 : Int) (v3 : Int) (v4 : BitVec 64) (v6 : Int) (v7 : Int) (v8 : Int) (H : K (some (gp_i 0)) s) : gs_E L (d + 1) 3103 194 [gp_r (some 74), gp_i v1, gp_i v2, gp_i v3, gp_l v4, gp_n, gp_i v6, gp_i v7, gp_i v8] [] s K := by
  refine gs_E.stp (pc' := 195) (ls' := [gp_r (some 74), gp_i v1, gp_i v2, gp_i v3, gp_l v4, gp_n, gp_i v6, gp_i v7, gp_i v8]) (st' := [gp_i 0]) (s' := s) 1 rfl ?_
  exact gs_E.ret (r := (some (gp_i 0))) rfl H

set_option maxRecDepth 100000 in
/-- GatheredPointsModel.isSure, pc 196 -/
theorem s_3103_196 {L d : Nat} {K : Option gV → gH → Prop} {s : gH} (v1 : Int) (v2 : Int) (v3 : Int) (v4 : BitVec 64) (v6 : Int) (v7 : Int) (v8 : Int) (H : gs_E L (d + 1) 3103 94 [gp_r (some 74), gp_i v1, gp_i v2, gp_i v3, gp_l v4, gp_n, gp_i v6, gp_i (gp_wr (v7 + 1)), gp_i v8] [] s K) : gs_E L (d + 1) 3103 196 [gp_r (some 74), gp_i v1, gp_i v2, gp_i v3, gp_l v4, gp_n, gp_i v6, gp_i v7, gp_i v8] [] s K := by
  refine gs_E.stp (pc' := 94) (ls' := [gp_r (some 74), gp_i v1, gp_i v2, gp_i v3, gp_l v4, gp_n, gp_i v6, gp_i (gp_wr (v7 + 1)), gp_i v8]) (st' := []) (s' := s) 2 rfl ?_
  exact H

set_option maxRecDepth 100000 in
/-- GatheredPointsModel.isSure, pc 202 -/
theorem s_3103_202 {L d : Nat} {K : Option gV → gH → Prop} {s : gH} (v1 : Int) (v2 : Int) (v3 : Int) (v4 : BitVec 64) (v6 : Int) (v7 : Int) (v8 : gV) (H : gs_E L (d + 1) 3103 85 [gp_r (some 74), gp_i v1, gp_i v2, gp_i v3, gp_l v4, gp_n, gp_i (gp_wr (v6 + 1)), gp_i v7, v8] [] s K) : gs_E L (d + 1) 3103 202 [gp_r (some 74), gp_i v1, gp_i v2, gp_i v3, gp_l v4, gp_n, gp_i v6, gp_i v7, v8] [] s K := by
  refine gs_E.stp (pc' := 85) (ls' := [gp_r (some 74), gp_i v1, gp_i v2, gp_i v3, gp_l v4, gp_n, gp_i (gp_wr (v6 + 1)), gp_i v7, v8]) (st' := []) (s' := s) 2 rfl ?_
  exact H

set_option maxRecDepth 100000 in
/-- GatheredPointsModel.compares, pc 0 -/
theorem s_3104_e {L d : Nat} {K : Option gV → gH → Prop} {s : gH} (p0 : Int) (p1 : Int) (H : gs_C L d 3101 3 [gp_r (some 74), gp_i p0] s (fun r s1 => r = none ∧ gs_E L (d + 1) 3104 7 [gp_r (some 74), gp_i p0, gp_i p1, gp_i 0] [] s1 K)) : gs_C L (d + 1) 3104 4 [gp_r (some 74), gp_i p0, gp_i p1] s K := by
  show gs_E L (d + 1) 3104 0 [gp_r (some 74), gp_i p0, gp_i p1, gp_n] [] s K
  refine gs_E.stp (pc' := 2) (ls' := [gp_r (some 74), gp_i p0, gp_i p1, gp_n]) (st' := [gp_i p0, gp_r (some 74)]) (s' := s) 2 rfl ?_
  refine gs_E.call (args := [gp_r (some 74), gp_i p0]) (m := 3) (y' := 3101) (st' := []) rfl H (fun r s1 H => ?_)
  obtain ⟨rfl, H⟩ := H
  show gs_E L (d + 1) 3104 5 [gp_r (some 74), gp_i p0, gp_i p1, gp_n] [] s1 K
  refine gs_E.stp (pc' := 7) (ls' := [gp_r (some 74), gp_i p0, gp_i p1, gp_i 0]) (st' := []) (s' := s1) 2 rfl ?_
  exact H

set_option maxRecDepth 100000 in
/-- GatheredPointsModel.compares, pc 7 -/
theorem s_3104_7 {L d : Nat} {K : Option gV → gH → Prop} {s : gH} (v1 : Int) (v2 : Int) (v3 : Int) (H : ((0 ≤ v1 ∧ v1 < 85) ∧ ((v3 < (gp_I s 81 v1.toNat) → ((0 ≤ v3 ∧ v3 < 64) ∧ ((0 ≤ v3 ∧ v3 < 64) ∧ (∀ s2, s2 = gp_wI s 100 v3.toNat (gp_I s 92 v3.toNat) → ((0 ≤ v3 ∧ v3 < 64) ∧ ((0 ≤ v3 ∧ v3 < 64) ∧ (∀ s3, s3 = gp_wI s2 101 v3.toNat (gp_I s2 93 v3.toNat) → gs_E L (d + 1) 3104 7 [gp_r (some 74), gp_i v1, gp_i v2, gp_i (gp_wr (v3 + 1))] [] s3 K))))))) ∧ (¬ v3 < (gp_I s 81 v1.toNat) → gs_C L d 3101 3 [gp_r (some 74), gp_i v2] s (fun r s1 => r = none ∧ gs_E L (d + 1) 3104 54 [gp_r (some 74), gp_i v1, gp_i v2, gp_i 0] [] s1 K))))) : gs_E L (d + 1) 3104 7 [gp_r (some 74), gp_i v1, gp_i v2, gp_i v3] [] s K := by
  refine gs_E.stp (pc' := 13) (ls' := [gp_r (some 74), gp_i v1, gp_i v2, gp_i v3]) (st' := [gp_i v1, gp_r (some 81), gp_i v3]) (s' := s) 4 rfl ?_
  refine gs_E.ck (pc' := 14) (ls' := [gp_r (some 74), gp_i v1, gp_i v2, gp_i v3]) (st' := [gp_i (gp_I s 81 v1.toNat), gp_i v3]) (s' := s) rfl (Or.inl ⟨rfl, H.1.1, H.1.2⟩) ?_
  replace H := H.2
  refine gs_E.br (c := ¬ v3 < (gp_I s 81 v1.toNat)) (p1 := 47) (p2 := 17) (l1 := [gp_r (some 74), gp_i v1, gp_i v2, gp_i v3]) (l2 := [gp_r (some 74), gp_i v1, gp_i v2, gp_i v3]) (s1 := []) (s2 := []) rfl gs_b2 (fun hc => ?_) (fun hc => ?_)
  · replace H := H.2 hc
    refine gs_E.stp (pc' := 49) (ls' := [gp_r (some 74), gp_i v1, gp_i v2, gp_i v3]) (st' := [gp_i v2, gp_r (some 74)]) (s' := s) 2 rfl ?_
    refine gs_E.call (args := [gp_r (some 74), gp_i v2]) (m := 3) (y' := 3101) (st' := []) rfl H (fun r s1 H => ?_)
    obtain ⟨rfl, H⟩ := H
    show gs_E L (d + 1) 3104 52 [gp_r (some 74), gp_i v1, gp_i v2, gp_i v3] [] s1 K
    refine gs_E.stp (pc' := 54) (ls' := [gp_r (some 74), gp_i v1, gp_i v2, gp_i 0]) (st' := []) (s' := s1) 2 rfl ?_
    exact H
  · replace H := H.1 (Decidable.byContradiction hc)
    refine gs_E.stp (pc' := 27) (ls' := [gp_r (some 74), gp_i v1, gp_i v2, gp_i v3]) (st' := [gp_i v3, gp_r (some 92), gp_i v3, gp_r (some 100)]) (s' := s) 6 rfl ?_
    refine gs_E.ck (pc' := 28) (ls' := [gp_r (some 74), gp_i v1, gp_i v2, gp_i v3]) (st' := [gp_i (gp_I s 92 v3.toNat), gp_i v3, gp_r (some 100)]) (s' := s) rfl (Or.inl ⟨rfl, H.1.1, H.1.2⟩) ?_
    replace H := H.2
    refine gs_E.ck (pc' := 29) (ls' := [gp_r (some 74), gp_i v1, gp_i v2, gp_i v3]) (st' := []) (s' := gp_wI s 100 v3.toNat (gp_I s 92 v3.toNat)) rfl ⟨rfl, H.1.1, H.1.2⟩ ?_
    replace H := H.2 _ rfl
    generalize gp_wI s 100 v3.toNat (gp_I s 92 v3.toNat) = s2 at H ⊢
    refine gs_E.stp (pc' := 39) (ls' := [gp_r (some 74), gp_i v1, gp_i v2, gp_i v3]) (st' := [gp_i v3, gp_r (some 93), gp_i v3, gp_r (some 101)]) (s' := s2) 6 rfl ?_
    refine gs_E.ck (pc' := 40) (ls' := [gp_r (some 74), gp_i v1, gp_i v2, gp_i v3]) (st' := [gp_i (gp_I s2 93 v3.toNat), gp_i v3, gp_r (some 101)]) (s' := s2) rfl (Or.inl ⟨rfl, H.1.1, H.1.2⟩) ?_
    replace H := H.2
    refine gs_E.ck (pc' := 41) (ls' := [gp_r (some 74), gp_i v1, gp_i v2, gp_i v3]) (st' := []) (s' := gp_wI s2 101 v3.toNat (gp_I s2 93 v3.toNat)) rfl ⟨rfl, H.1.1, H.1.2⟩ ?_
    replace H := H.2 _ rfl
    generalize gp_wI s2 101 v3.toNat (gp_I s2 93 v3.toNat) = s3 at H ⊢
    refine gs_E.stp (pc' := 7) (ls' := [gp_r (some 74), gp_i v1, gp_i v2, gp_i (gp_wr (v3 + 1))]) (st' := []) (s' := s3) 2 rfl ?_
    exact H

set_option maxRecDepth 100000 in
/-- GatheredPointsModel.compares, pc 54 -/
theorem s_3104_54 {L d : Nat} {K : Option gV → gH → Prop} {s : gH} (v1 : Int) (v2 : Int) (v3 : Int) (H : ((0 ≤ v2 ∧ v2 < 85) ∧ ((v3 < (gp_I s 81 v2.toNat) → ((0 ≤ v3 ∧ v3 < 64) ∧ ((0 ≤ v3 ∧ v3 < 64) ∧ (∀ s1, s1 = gp_wI s 102 v3.toNat (gp_I s 92 v3.toNat) → ((0 ≤ v3 ∧ v3 < 64) ∧ ((0 ≤ v3 ∧ v3 < 64) ∧ (∀ s2, s2 = gp_wI s1 103 v3.toNat (gp_I s1 93 v3.toNat) → gs_E L (d + 1) 3104 54 [gp_r (some 74), gp_i v1, gp_i v2, gp_i (gp_wr (v3 + 1))] [] s2 K))))))) ∧ (¬ v3 < (gp_I s 81 v2.toNat) → gs_E L (d + 1) 3104 96 [gp_r (some 74), gp_i v1, gp_i v2, gp_i 0] [] s K)))) : gs_E L (d + 1) 3104 54 [gp_r (some 74), gp_i v1, gp_i v2, gp_i v3] [] s K := by
  refine gs_E.stp (pc' := 60) (ls' := [gp_r (some 74), gp_i v1, gp_i v2, gp_i v3]) (st' := [gp_i v2, gp_r (some 81), gp_i v3]) (s' := s) 4 rfl ?_
  refine gs_E.ck (pc' := 61) (ls' := [gp_r (some 74), gp_i v1, gp_i v2, gp_i v3]) (st' := [gp_i (gp_I s 81 v2.toNat), gp_i v3]) (s' := s) rfl (Or.inl ⟨rfl, H.1.1, H.1.2⟩) ?_
  replace H := H.2
  refine gs_E.br (c := ¬ v3 < (gp_I s 81 v2.toNat)) (p1 := 94) (p2 := 64) (l1 := [gp_r (some 74), gp_i v1, gp_i v2, gp_i v3]) (l2 := [gp_r (some 74), gp_i v1, gp_i v2, gp_i v3]) (s1 := []) (s2 := []) rfl gs_b2 (fun hc => ?_) (fun hc => ?_)
  · replace H := H.2 hc
    refine gs_E.stp (pc' := 96) (ls' := [gp_r (some 74), gp_i v1, gp_i v2, gp_i 0]) (st' := []) (s' := s) 2 rfl ?_
    exact H
  · replace H := H.1 (Decidable.byContradiction hc)
    refine gs_E.stp (pc' := 74) (ls' := [gp_r (some 74), gp_i v1, gp_i v2, gp_i v3]) (st' := [gp_i v3, gp_r (some 92), gp_i v3, gp_r (some 102)]) (s' := s) 6 rfl ?_
    refine gs_E.ck (pc' := 75) (ls' := [gp_r (some 74), gp_i v1, gp_i v2, gp_i v3]) (st' := [gp_i (gp_I s 92 v3.toNat), gp_i v3, gp_r (some 102)]) (s' := s) rfl (Or.inl ⟨rfl, H.1.1, H.1.2⟩) ?_
    replace H := H.2
    refine gs_E.ck (pc' := 76) (ls' := [gp_r (some 74), gp_i v1, gp_i v2, gp_i v3]) (st' := []) (s' := gp_wI s 102 v3.toNat (gp_I s 92 v3.toNat)) rfl ⟨rfl, H.1.1, H.1.2⟩ ?_
    replace H := H.2 _ rfl
    generalize gp_wI s 102 v3.toNat (gp_I s 92 v3.toNat) = s1 at H ⊢
    refine gs_E.stp (pc' := 86) (ls' := [gp_r (some 74), gp_i v1, gp_i v2, gp_i v3]) (st' := [gp_i v3, gp_r (some 93), gp_i v3, gp_r (some 103)]) (s' := s1) 6 rfl ?_
    refine gs_E.ck (pc' := 87) (ls' := [gp_r (some 74), gp_i v1, gp_i v2, gp_i v3]) (st' := [gp_i (gp_I s1 93 v3.toNat), gp_i v3, gp_r (some 103)]) (s' := s1) rfl (Or.inl ⟨rfl, H.1.1, H.1.2⟩) ?_
    replace H := H.2
    refine gs_E.ck (pc' := 88) (ls' := [gp_r (some 74), gp_i v1, gp_i v2, gp_i v3]) (st' := []) (s' := gp_wI s1 103 v3.toNat (gp_I s1 93 v3.toNat)) rfl ⟨rfl, H.1.1, H.1.2⟩ ?_
    replace H := H.2 _ rfl
    generalize gp_wI s1 103 v3.toNat (gp_I s1 93 v3.toNat) = s2 at H ⊢
    refine gs_E.stp (pc' := 54) (ls' := [gp_r (some 74), gp_i v1, gp_i v2, gp_i (gp_wr (v3 + 1))]) (st' := []) (s' := s2) 2 rfl ?_
    exact H

set_option maxRecDepth 100000 in
/-- GatheredPointsModel.compares, pc 96 -/
theorem s_3104_96 {L d : Nat} {K : Option gV → gH → Prop} {s : gH} (v1 : Int) (v2 : Int) (v3 : Int) (H : ((v3 < 4096 → ((0 ≤ v3 ∧ v3 < 4096) ∧ (∀ s1, s1 = gp_wI s 98 v3.toNat 0 → ((0 ≤ v3 ∧ v3 < 4096) ∧ (∀ s2, s2 = gp_wI s1 99 v3.toNat 0 → gs_E L (d + 1) 3104 96 [gp_r (some 74), gp_i v1, gp_i v2, gp_i (gp_wr (v3 + 1))] [] s2 K))))) ∧ (¬ v3 < 4096 → K none s))) : gs_E L (d + 1) 3104 96 [gp_r (some 74), gp_i v1, gp_i v2, gp_i v3] [] s K := by
  refine gs_E.stp (pc' := 100) (ls' := [gp_r (some 74), gp_i v1, gp_i v2, gp_i v3]) (st' := [gp_i 4096, gp_i v3]) (s' := s) 2 rfl ?_
  refine gs_E.br (c := ¬ v3 < 4096) (p1 := 123) (p2 := 103) (l1 := [gp_r (some 74), gp_i v1, gp_i v2, gp_i v3]) (l2 := [gp_r (some 74), gp_i v1, gp_i v2, gp_i v3]) (s1 := []) (s2 := []) rfl gs_b2 (fun hc => ?_) (fun hc => ?_)
  · replace H := H.2 hc
    exact gs_E.ret (r := none) rfl H
  · replace H := H.1 (Decidable.byContradiction hc)
    refine gs_E.stp (pc' := 109) (ls' := [gp_r (some 74), gp_i v1, gp_i v2, gp_i v3]) (st' := [gp_i 0, gp_i v3, gp_r (some 98)]) (s' := s) 4 rfl ?_
    refine gs_E.ck (pc' := 110) (ls' := [gp_r (some 74), gp_i v1, gp_i v2, gp_i v3]) (st' := []) (s' := gp_wI s 98 v3.toNat 0) rfl ⟨rfl, H.1.1, H.1.2⟩ ?_
    replace H := H.2 _ rfl
    generalize gp_wI s 98 v3.toNat 0 = s1 at H ⊢
    refine gs_E.stp (pc' := 116) (ls' := [gp_r (some 74), gp_i v1, gp_i v2, gp_i v3]) (st' := [gp_i 0, gp_i v3, gp_r (some 99)]) (s' := s1) 4 rfl ?_
    refine gs_E.ck (pc' := 117) (ls' := [gp_r (some 74), gp_i v1, gp_i v2, gp_i v3]) (st' := []) (s' := gp_wI s1 99 v3.toNat 0) rfl ⟨rfl, H.1.1, H.1.2⟩ ?_
    replace H := H.2 _ rfl
    generalize gp_wI s1 99 v3.toNat 0 = s2 at H ⊢
    refine gs_E.stp (pc' := 96) (ls' := [gp_r (some 74), gp_i v1, gp_i v2, gp_i (gp_wr (v3 + 1))]) (st' := []) (s' := s2) 2 rfl ?_
    exact H

set_option maxRecDepth 100000 in
/-- GatheredPointsModel.atLeast, pc 0 -/
theorem s_3105_e {L d : Nat} {K : Option gV → gH → Prop} {s : gH} (p0 : Int) (p1 : Int) (p2 : Int) (p3 : Int) (p4 : Int) (H : ((p4 = 0 → gs_E L (d + 1) 3105 16 [gp_r (some 74), gp_i p0, gp_i p1, gp_i p2, gp_i p3, gp_i p4, gp_n] [gp_r (some 98)] s K) ∧ (¬ p4 = 0 → gs_E L (d + 1) 3105 16 [gp_r (some 74), gp_i p0, gp_i p1, gp_i p2, gp_i p3, gp_i p4, gp_n] [gp_r (some 99)] s K))) : gs_C L (d + 1) 3105 7 [gp_r (some 74), gp_i p0, gp_i p1, gp_i p2, gp_i p3, gp_i p4] s K := by
  show gs_E L (d + 1) 3105 0 [gp_r (some 74), gp_i p0, gp_i p1, gp_i p2, gp_i p3, gp_i p4, gp_n] [] s K
  refine gs_E.stp (pc' := 2) (ls' := [gp_r (some 74), gp_i p0, gp_i p1, gp_i p2, gp_i p3, gp_i p4, gp_n]) (st' := [gp_i p4]) (s' := s) 1 rfl ?_
  refine gs_E.br (c := p4 = 0) (p1 := 12) (p2 := 5) (l1 := [gp_r (some 74), gp_i p0, gp_i p1, gp_i p2, gp_i p3, gp_i p4, gp_n]) (l2 := [gp_r (some 74), gp_i p0, gp_i p1, gp_i p2, gp_i p3, gp_i p4, gp_n]) (s1 := []) (s2 := []) rfl gs_b1 (fun hc => ?_) (fun hc => ?_)
  · replace H := H.1 hc
    refine gs_E.stp (pc' := 16) (ls' := [gp_r (some 74), gp_i p0, gp_i p1, gp_i p2, gp_i p3, gp_i p4, gp_n]) (st' := [gp_r (some 98)]) (s' := s) 2 rfl ?_
    exact H
  · replace H := H.2 hc
    refine gs_E.stp (pc' := 16) (ls' := [gp_r (some 74), gp_i p0, gp_i p1, gp_i p2, gp_i p3, gp_i p4, gp_n]) (st' := [gp_r (some 99)]) (s' := s) 3 rfl ?_
    exact H

set_option maxRecDepth 100000 in
/-- GatheredPointsModel.atLeast, pc 16 -/
theorem s_3105_16 {L d : Nat} {K : Option gV → gH → Prop} {s : gH} (v1 : Int) (v2 : Int) (v3 : Int) (v4 : Int) (v5 : Int) (v6 : gV) (w0 : Option Nat) (H : (∃ q1, w0 = some q1 ∧ (gp_in (gp_mk L s) 100 q1 (gp_wr ((gp_wr (64 * v2)) + v4)) ∧ (((gp_I s q1 (gp_wr ((gp_wr (64 * v2)) + v4)).toNat) = 0 → gs_C L d 3106 9 [gp_r (some 74), gp_i v1, gp_i v2, gp_i v3, gp_i v4, gp_i v5] s (fun r s2 => ∃ x3, r = some (gp_i x3) ∧ ((x3 = 0 → gs_E L (d + 1) 3105 59 [gp_r (some 74), gp_i v1, gp_i v2, gp_i v3, gp_i v4, gp_i v5, gp_r (some q1)] [gp_i 2, gp_i (gp_wr ((gp_wr (64 * v2)) + v4)), gp_r (some q1)] s2 K) ∧ (¬ x3 = 0 → gs_E L (d + 1) 3105 59 [gp_r (some 74), gp_i v1, gp_i v2, gp_i v3, gp_i v4, gp_i v5, gp_r (some q1)] [gp_i 1, gp_i (gp_wr ((gp_wr (64 * v2)) + v4)), gp_r (some q1)] s2 K)))) ∧ (¬ (gp_I s q1 (gp_wr ((gp_wr (64 * v2)) + v4)).toNat) = 0 → gs_E L (d + 1) 3105 60 [gp_r (some 74), gp_i v1, gp_i v2, gp_i v3, gp_i v4, gp_i v5, gp_r (some q1)] [] s K))))) : gs_E L (d + 1) 3105 16 [gp_r (some 74), gp_i v1, gp_i v2, gp_i v3, gp_i v4, gp_i v5, v6] [gp_r w0] s K := by
  refine gs_E.stp (pc' := 27) (ls' := [gp_r (some 74), gp_i v1, gp_i v2, gp_i v3, gp_i v4, gp_i v5, gp_r w0]) (st' := [gp_i (gp_wr ((gp_wr (64 * v2)) + v4)), gp_r w0]) (s' := s) 7 rfl ?_
  obtain ⟨q1, hq, H⟩ := H
  rw [hq]
  refine gs_E.ck (pc' := 28) (ls' := [gp_r (some 74), gp_i v1, gp_i v2, gp_i v3, gp_i v4, gp_i v5, gp_r (some q1)]) (st' := [gp_i (gp_I s q1 (gp_wr ((gp_wr (64 * v2)) + v4)).toNat)]) (s' := s) rfl (Or.inl H.1) ?_
  replace H := H.2
  refine gs_E.br (c := ¬ (gp_I s q1 (gp_wr ((gp_wr (64 * v2)) + v4)).toNat) = 0) (p1 := 60) (p2 := 31) (l1 := [gp_r (some 74), gp_i v1, gp_i v2, gp_i v3, gp_i v4, gp_i v5, gp_r (some q1)]) (l2 := [gp_r (some 74), gp_i v1, gp_i v2, gp_i v3, gp_i v4, gp_i v5, gp_r (some q1)]) (s1 := []) (s2 := []) rfl gs_b2 (fun hc => ?_) (fun hc => ?_)
  · replace H := H.2 hc
    exact H
  · replace H := H.1 (Decidable.byContradiction hc)
    refine gs_E.stp (pc' := 48) (ls' := [gp_r (some 74), gp_i v1, gp_i v2, gp_i v3, gp_i v4, gp_i v5, gp_r (some q1)]) (st' := [gp_i v5, gp_i v4, gp_i v3, gp_i v2, gp_i v1, gp_r (some 74), gp_i (gp_wr ((gp_wr (64 * v2)) + v4)), gp_r (some q1)]) (s' := s) 12 rfl ?_
    refine gs_E.call (args := [gp_r (some 74), gp_i v1, gp_i v2, gp_i v3, gp_i v4, gp_i v5]) (m := 9) (y' := 3106) (st' := [gp_i (gp_wr ((gp_wr (64 * v2)) + v4)), gp_r (some q1)]) rfl H (fun r s2 H => ?_)
    obtain ⟨x3, rfl, H⟩ := H
    show gs_E L (d + 1) 3105 51 [gp_r (some 74), gp_i v1, gp_i v2, gp_i v3, gp_i v4, gp_i v5, gp_r (some q1)] [gp_i x3, gp_i (gp_wr ((gp_wr (64 * v2)) + v4)), gp_r (some q1)] s2 K
    refine gs_E.br (c := x3 = 0) (p1 := 58) (p2 := 54) (l1 := [gp_r (some 74), gp_i v1, gp_i v2, gp_i v3, gp_i v4, gp_i v5, gp_r (some q1)]) (l2 := [gp_r (some 74), gp_i v1, gp_i v2, gp_i v3, gp_i v4, gp_i v5, gp_r (some q1)]) (s1 := [gp_i (gp_wr ((gp_wr (64 * v2)) + v4)), gp_r (some q1)]) (s2 := [gp_i (gp_wr ((gp_wr (64 * v2)) + v4)), gp_r (some q1)]) rfl gs_b1 (fun hc => ?_) (fun hc => ?_)
    · replace H := H.1 hc
      refine gs_E.stp (pc' := 59) (ls' := [gp_r (some 74), gp_i v1, gp_i v2, gp_i v3, gp_i v4, gp_i v5, gp_r (some q1)]) (st' := [gp_i 2, gp_i (gp_wr ((gp_wr (64 * v2)) + v4)), gp_r (some q1)]) (s' := s2) 1 rfl ?_
      exact H
    · replace H := H.2 hc
      refine gs_E.stp (pc' := 59) (ls' := [gp_r (some 74), gp_i v1, gp_i v2, gp_i v3, gp_i v4, gp_i v5, gp_r (some q1)]) (st' := [gp_i 1, gp_i (gp_wr ((gp_wr (64 * v2)) + v4)), gp_r (some q1)]) (s' := s2) 2 rfl ?_
      exact H

set_option maxRecDepth 100000 in
/-- GatheredPointsModel.atLeast, pc 59 -/
theorem s_3105_59 {L d : Nat} {K : Option gV → gH → Prop} {s : gH} (v1 : Int) (v2 : Int) (v3 : Int) (v4 : Int) (v5 : Int) (v6 : Option Nat) (w0 : Option Nat) (w1 : Int) (w2 : Int) (H : (∃ q1, w0 = some q1 ∧ (gp_in (gp_mk L s) 100 q1 w1 ∧ ∀ s2, s2 = gp_wI s q1 w1.toNat w2 → gs_E L (d + 1) 3105 60 [gp_r (some 74), gp_i v1, gp_i v2, gp_i v3, gp_i v4, gp_i v5, gp_r v6] [] s2 K))) : gs_E L (d + 1) 3105 59 [gp_r (some 74), gp_i v1, gp_i v2, gp_i v3, gp_i v4, gp_i v5, gp_r v6] [gp_i w2, gp_i w1, gp_r w0] s K := by
  obtain ⟨q1, hq, H⟩ := H
  rw [hq]
  refine gs_E.ck (pc' := 60) (ls' := [gp_r (some 74), gp_i v1, gp_i v2, gp_i v3, gp_i v4, gp_i v5, gp_r v6]) (st' := []) (s' := gp_wI s q1 w1.toNat w2) rfl H.1 ?_
  replace H := H.2 _ rfl
  generalize gp_wI s q1 w1.toNat w2 = s2 at H ⊢
  exact H

set_option maxRecDepth 100000 in
/-- GatheredPointsModel.atLeast, pc 60 -/
theorem s_3105_60 {L d : Nat} {K : Option gV → gH → Prop} {s : gH} (v1 : Int) (v2 : Int) (v3 : Int) (v4 : Int) (v5 : Int) (v6 : Option Nat) (H : (∃ q1, v6 = some q1 ∧ (gp_in (gp_mk L s) 100 q1 (gp_wr ((gp_wr (64 * v2)) + v4)) ∧ (((gp_I s q1 (gp_wr ((gp_wr (64 * v2)) + v4)).toNat) = 1 → gs_E L (d + 1) 3105 79 [gp_r (some 74), gp_i v1, gp_i v2, gp_i v3, gp_i v4, gp_i v5, gp_r (some q1)] [gp_i 1] s K) ∧ (¬ (gp_I s q1 (gp_wr ((gp_wr (64 * v2)) + v4)).toNat) = 1 → gs_E L (d + 1) 3105 79 [gp_r (some 74), gp_i v1, gp_i v2, gp_i v3, gp_i v4, gp_i v5, gp_r (some q1)] [gp_i 0] s K))))) : gs_E L (d + 1) 3105 60 [gp_r (some 74), gp_i v1, gp_i v2, gp_i v3, gp_i v4, gp_i v5, gp_r v6] [] s K := by
  refine gs_E.stp (pc' := 69) (ls' := [gp_r (some 74), gp_i v1, gp_i v2, gp_i v3, gp_i v4, gp_i v5, gp_r v6]) (st' := [gp_i (gp_wr ((gp_wr (64 * v2)) + v4)), gp_r v6]) (s' := s) 6 rfl ?_
  obtain ⟨q1, hq, H⟩ := H
  rw [hq]
  refine gs_E.ck (pc' := 70) (ls' := [gp_r (some 74), gp_i v1, gp_i v2, gp_i v3, gp_i v4, gp_i v5, gp_r (some q1)]) (st' := [gp_i (gp_I s q1 (gp_wr ((gp_wr (64 * v2)) + v4)).toNat)]) (s' := s) rfl (Or.inl H.1) ?_
  replace H := H.2
  refine gs_E.stp (pc' := 71) (ls' := [gp_r (some 74), gp_i v1, gp_i v2, gp_i v3, gp_i v4, gp_i v5, gp_r (some q1)]) (st' := [gp_i 1, gp_i (gp_I s q1 (gp_wr ((gp_wr (64 * v2)) + v4)).toNat)]) (s' := s) 1 rfl ?_
  refine gs_E.br (c := ¬ (gp_I s q1 (gp_wr ((gp_wr (64 * v2)) + v4)).toNat) = 1) (p1 := 78) (p2 := 74) (l1 := [gp_r (some 74), gp_i v1, gp_i v2, gp_i v3, gp_i v4, gp_i v5, gp_r (some q1)]) (l2 := [gp_r (some 74), gp_i v1, gp_i v2, gp_i v3, gp_i v4, gp_i v5, gp_r (some q1)]) (s1 := []) (s2 := []) rfl gs_b2 (fun hc => ?_) (fun hc => ?_)
  · replace H := H.2 hc
    refine gs_E.stp (pc' := 79) (ls' := [gp_r (some 74), gp_i v1, gp_i v2, gp_i v3, gp_i v4, gp_i v5, gp_r (some q1)]) (st' := [gp_i 0]) (s' := s) 1 rfl ?_
    exact H
  · replace H := H.1 (Decidable.byContradiction hc)
    refine gs_E.stp (pc' := 79) (ls' := [gp_r (some 74), gp_i v1, gp_i v2, gp_i v3, gp_i v4, gp_i v5, gp_r (some q1)]) (st' := [gp_i 1]) (s' := s) 2 rfl ?_
    exact H

set_option maxRecDepth 100000 in
/-- GatheredPointsModel.atLeast, pc 79 -/
theorem s_3105_79 {L d : Nat} {K : Option gV → gH → Prop} {s : gH} (v1 : Int) (v2 : Int) (v3 : Int) (v4 : Int) (v5 : Int) (v6 : Option Nat) (w0 : Int) (H : ((w0 = 0 ∨ w0 = 1) ∧ K (some (gp_i w0)) s)) : gs_E L (d + 1) 3105 79 [gp_r (some 74), gp_i v1, gp_i v2, gp_i v3, gp_i v4, gp_i v5, gp_r v6] [gp_i w0] s K := by
  exact gs_E.retz (r := (some (gp_i w0))) rfl H.1 H.2

set_option maxRecDepth 100000 in
/-- GatheredPointsModel.isAtLeast, pc 0 -/
theorem s_3106_e {L d : Nat} {K : Option gV → gH → Prop} {s : gH} (p0 : Int) (p1 : Int) (p2 : Int) (p3 : Int) (p4 : Int) (H : ((p4 = 0 → ((0 ≤ p1 ∧ p1 < 64) ∧ ((0 ≤ p3 ∧ p3 < 64) ∧ (((gp_I s 100 p1.toNat) < (gp_I s 102 p3.toNat) → gs_E L (d + 1) 3106 50 [gp_r (some 74), gp_i p0, gp_i p1, gp_i p2, gp_i p3, gp_i p4, gp_n, gp_n, gp_n] [gp_i 1] s K) ∧ (¬ (gp_I s 100 p1.toNat) < (gp_I s 102 p3.toNat) → gs_E L (d + 1) 3106 50 [gp_r (some 74), gp_i p0, gp_i p1, gp_i p2, gp_i p3, gp_i p4, gp_n, gp_n, gp_n] [gp_i 0] s K))))) ∧ (¬ p4 = 0 → ((0 ≤ p1 ∧ p1 < 64) ∧ ((0 ≤ p3 ∧ p3 < 64) ∧ (((gp_I s 102 p1.toNat) < (gp_I s 100 p3.toNat) → gs_E L (d + 1) 3106 50 [gp_r (some 74), gp_i p0, gp_i p1, gp_i p2, gp_i p3, gp_i p4, gp_n, gp_n, gp_n] [gp_i 1] s K) ∧ (¬ (gp_I s 102 p1.toNat) < (gp_I s 100 p3.toNat) → gs_E L (d + 1) 3106 50 [gp_r (some 74), gp_i p0, gp_i p1, gp_i p2, gp_i p3, gp_i p4, gp_n, gp_n, gp_n] [gp_i 0] s K))))))) : gs_C L (d + 1) 3106 9 [gp_r (some 74), gp_i p0, gp_i p1, gp_i p2, gp_i p3, gp_i p4] s K := by
  show gs_E L (d + 1) 3106 0 [gp_r (some 74), gp_i p0, gp_i p1, gp_i p2, gp_i p3, gp_i p4, gp_n, gp_n, gp_n] [] s K
  refine gs_E.stp (pc' := 2) (ls' := [gp_r (some 74), gp_i p0, gp_i p1, gp_i p2, gp_i p3, gp_i p4, gp_n, gp_n, gp_n]) (st' := [gp_i p4]) (s' := s) 1 rfl ?_
  refine gs_E.br (c := p4 = 0) (p1 := 29) (p2 := 5) (l1 := [gp_r (some 74), gp_i p0, gp_i p1, gp_i p2, gp_i p3, gp_i p4, gp_n, gp_n, gp_n]) (l2 := [gp_r (some 74), gp_i p0, gp_i p1, gp_i p2, gp_i p3, gp_i p4, gp_n, gp_n, gp_n]) (s1 := []) (s2 := []) rfl gs_b1 (fun hc => ?_) (fun hc => ?_)
  · replace H := H.1 hc
    refine gs_E.stp (pc' := 34) (ls' := [gp_r (some 74), gp_i p0, gp_i p1, gp_i p2, gp_i p3, gp_i p4, gp_n, gp_n, gp_n]) (st' := [gp_i p1, gp_r (some 100)]) (s' := s) 3 rfl ?_
    refine gs_E.ck (pc' := 35) (ls' := [gp_r (some 74), gp_i p0, gp_i p1, gp_i p2, gp_i p3, gp_i p4, gp_n, gp_n, gp_n]) (st' := [gp_i (gp_I s 100 p1.toNat)]) (s' := s) rfl (Or.inl ⟨rfl, H.1.1, H.1.2⟩) ?_
    replace H := H.2
    refine gs_E.stp (pc' := 41) (ls' := [gp_r (some 74), gp_i p0, gp_i p1, gp_i p2, gp_i p3, gp_i p4, gp_n, gp_n, gp_n]) (st' := [gp_i p3, gp_r (some 102), gp_i (gp_I s 100 p1.toNat)]) (s' := s) 3 rfl ?_
    refine gs_E.ck (pc' := 42) (ls' := [gp_r (some 74), gp_i p0, gp_i p1, gp_i p2, gp_i p3, gp_i p4, gp_n, gp_n, gp_n]) (st' := [gp_i (gp_I s 102 p3.toNat), gp_i (gp_I s 100 p1.toNat)]) (s' := s) rfl (Or.inl ⟨rfl, H.1.1, H.1.2⟩) ?_
    replace H := H.2
    refine gs_E.br (c := ¬ (gp_I s 100 p1.toNat) < (gp_I s 102 p3.toNat)) (p1 := 49) (p2 := 45) (l1 := [gp_r (some 74), gp_i p0, gp_i p1, gp_i p2, gp_i p3, gp_i p4, gp_n, gp_n, gp_n]) (l2 := [gp_r (some 74), gp_i p0, gp_i p1, gp_i p2, gp_i p3, gp_i p4, gp_n, gp_n, gp_n]) (s1 := []) (s2 := []) rfl gs_b2 (fun hc => ?_) (fun hc => ?_)
    · replace H := H.2 hc
      refine gs_E.stp (pc' := 50) (ls' := [gp_r (some 74), gp_i p0, gp_i p1, gp_i p2, gp_i p3, gp_i p4, gp_n, gp_n, gp_n]) (st' := [gp_i 0]) (s' := s) 1 rfl ?_
      exact H
    · replace H := H.1 (Decidable.byContradiction hc)
      refine gs_E.stp (pc' := 50) (ls' := [gp_r (some 74), gp_i p0, gp_i p1, gp_i p2, gp_i p3, gp_i p4, gp_n, gp_n, gp_n]) (st' := [gp_i 1]) (s' := s) 2 rfl ?_
      exact H
  · replace H := H.2 hc
    refine gs_E.stp (pc' := 10) (ls' := [gp_r (some 74), gp_i p0, gp_i p1, gp_i p2, gp_i p3, gp_i p4, gp_n, gp_n, gp_n]) (st' := [gp_i p1, gp_r (some 102)]) (s' := s) 3 rfl ?_
    refine gs_E.ck (pc' := 11) (ls' := [gp_r (some 74), gp_i p0, gp_i p1, gp_i p2, gp_i p3, gp_i p4, gp_n, gp_n, gp_n]) (st' := [gp_i (gp_I s 102 p1.toNat)]) (s' := s) rfl (Or.inl ⟨rfl, H.1.1, H.1.2⟩) ?_
    replace H := H.2
    refine gs_E.stp (pc' := 17) (ls' := [gp_r (some 74), gp_i p0, gp_i p1, gp_i p2, gp_i p3, gp_i p4, gp_n, gp_n, gp_n]) (st' := [gp_i p3, gp_r (some 100), gp_i (gp_I s 102 p1.toNat)]) (s' := s) 3 rfl ?_
    refine gs_E.ck (pc' := 18) (ls' := [gp_r (some 74), gp_i p0, gp_i p1, gp_i p2, gp_i p3, gp_i p4, gp_n, gp_n, gp_n]) (st' := [gp_i (gp_I s 100 p3.toNat), gp_i (gp_I s 102 p1.toNat)]) (s' := s) rfl (Or.inl ⟨rfl, H.1.1, H.1.2⟩) ?_
    replace H := H.2
    refine gs_E.br (c := ¬ (gp_I s 102 p1.toNat) < (gp_I s 100 p3.toNat)) (p1 := 25) (p2 := 21) (l1 := [gp_r (some 74), gp_i p0, gp_i p1, gp_i p2, gp_i p3, gp_i p4, gp_n, gp_n, gp_n]) (l2 := [gp_r (some 74), gp_i p0, gp_i p1, gp_i p2, gp_i p3, gp_i p4, gp_n, gp_n, gp_n]) (s1 := []) (s2 := []) rfl gs_b2 (fun hc => ?_) (fun hc => ?_)
    · replace H := H.2 hc
      refine gs_E.stp (pc' := 50) (ls' := [gp_r (some 74), gp_i p0, gp_i p1, gp_i p2, gp_i p3, gp_i p4, gp_n, gp_n, gp_n]) (st' := [gp_i 0]) (s' := s) 2 rfl ?_
      exact H
    · replace H := H.1 (Decidable.byContradiction hc)
      refine gs_E.stp (pc' := 50) (ls' := [gp_r (some 74), gp_i p0, gp_i p1, gp_i p2, gp_i p3, gp_i p4, gp_n, gp_n, gp_n]) (st' := [gp_i 1]) (s' := s) 2 rfl ?_
      exact H

set_option maxRecDepth 100000 in
/-- GatheredPointsModel.isAtLeast, pc 50 -/
theorem s_3106_50 {L d : Nat} {K : Option gV → gH → Prop} {s : gH} (v1 : Int) (v2 : Int) (v3 : Int) (v4 : Int) (v5 : Int) (v6 : gV) (v7 : gV) (v8 : gV) (w0 : Int) (H : ((v5 = 0 → ((0 ≤ v2 ∧ v2 < 64) ∧ ((0 ≤ v4 ∧ v4 < 64) ∧ (((gp_I s 101 v2.toNat) < (gp_I s 103 v4.toNat) → gs_E L (d + 1) 3106 102 [gp_r (some 74), gp_i v1, gp_i v2, gp_i v3, gp_i v4, gp_i v5, gp_i w0, v7, v8] [gp_i 1] s K) ∧ (¬ (gp_I s 101 v2.toNat) < (gp_I s 103 v4.toNat) → gs_E L (d + 1) 3106 102 [gp_r (some 74), gp_i v1, gp_i v2, gp_i v3, gp_i v4, gp_i v5, gp_i w0, v7, v8] [gp_i 0] s K))))) ∧ (¬ v5 = 0 → ((0 ≤ v2 ∧ v2 < 64) ∧ ((0 ≤ v4 ∧ v4 < 64) ∧ (((gp_I s 103 v2.toNat) < (gp_I s 101 v4.toNat) → gs_E L (d + 1) 3106 102 [gp_r (some 74), gp_i v1, gp_i v2, gp_i v3, gp_i v4, gp_i v5, gp_i w0, v7, v8] [gp_i 1] s K) ∧ (¬ (gp_I s 103 v2.toNat) < (gp_I s 101 v4.toNat) → gs_E L (d + 1) 3106 102 [gp_r (some 74), gp_i v1, gp_i v2, gp_i v3, gp_i v4, gp_i v5, gp_i w0, v7, v8] [gp_i 0] s K))))))) : gs_E L (d + 1) 3106 50 [gp_r (some 74), gp_i v1, gp_i v2, gp_i v3, gp_i v4, gp_i v5, v6, v7, v8] [gp_i w0] s K := by
  refine gs_E.stp (pc' := 54) (ls' := [gp_r (some 74), gp_i v1, gp_i v2, gp_i v3, gp_i v4, gp_i v5, gp_i w0, v7, v8]) (st' := [gp_i v5]) (s' := s) 2 rfl ?_
  refine gs_E.br (c := v5 = 0) (p1 := 81) (p2 := 57) (l1 := [gp_r (some 74), gp_i v1, gp_i v2, gp_i v3, gp_i v4, gp_i v5, gp_i w0, v7, v8]) (l2 := [gp_r (some 74), gp_i v1, gp_i v2, gp_i v3, gp_i v4, gp_i v5, gp_i w0, v7, v8]) (s1 := []) (s2 := []) rfl gs_b1 (fun hc => ?_) (fun hc => ?_)
  · replace H := H.1 hc
    refine gs_E.stp (pc' := 86) (ls' := [gp_r (some 74), gp_i v1, gp_i v2, gp_i v3, gp_i v4, gp_i v5, gp_i w0, v7, v8]) (st' := [gp_i v2, gp_r (some 101)]) (s' := s) 3 rfl ?_
    refine gs_E.ck (pc' := 87) (ls' := [gp_r (some 74), gp_i v1, gp_i v2, gp_i v3, gp_i v4, gp_i v5, gp_i w0, v7, v8]) (st' := [gp_i (gp_I s 101 v2.toNat)]) (s' := s) rfl (Or.inl ⟨rfl, H.1.1, H.1.2⟩) ?_
    replace H := H.2
    refine gs_E.stp (pc' := 93) (ls' := [gp_r (some 74), gp_i v1, gp_i v2, gp_i v3, gp_i v4, gp_i v5, gp_i w0, v7, v8]) (st' := [gp_i v4, gp_r (some 103), gp_i (gp_I s 101 v2.toNat)]) (s' := s) 3 rfl ?_
    refine gs_E.ck (pc' := 94) (ls' := [gp_r (some 74), gp_i v1, gp_i v2, gp_i v3, gp_i v4, gp_i v5, gp_i w0, v7, v8]) (st' := [gp_i (gp_I s 103 v4.toNat), gp_i (gp_I s 101 v2.toNat)]) (s' := s) rfl (Or.inl ⟨rfl, H.1.1, H.1.2⟩) ?_
    replace H := H.2
    refine gs_E.br (c := ¬ (gp_I s 101 v2.toNat) < (gp_I s 103 v4.toNat)) (p1 := 101) (p2 := 97) (l1 := [gp_r (some 74), gp_i v1, gp_i v2, gp_i v3, gp_i v4, gp_i v5, gp_i w0, v7, v8]) (l2 := [gp_r (some 74), gp_i v1, gp_i v2, gp_i v3, gp_i v4, gp_i v5, gp_i w0, v7, v8]) (s1 := []) (s2 := []) rfl gs_b2 (fun hc => ?_) (fun hc => ?_)
    · replace H := H.2 hc
      refine gs_E.stp (pc' := 102) (ls' := [gp_r (some 74), gp_i v1, gp_i v2, gp_i v3, gp_i v4, gp_i v5, gp_i w0, v7, v8]) (st' := [gp_i 0]) (s' := s) 1 rfl ?_
      exact H
    · replace H := H.1 (Decidable.byContradiction hc)
      refine gs_E.stp (pc' := 102) (ls' := [gp_r (some 74), gp_i v1, gp_i v2, gp_i v3, gp_i v4, gp_i v5, gp_i w0, v7, v8]) (st' := [gp_i 1]) (s' := s) 2 rfl ?_
      exact H
  · replace H := H.2 hc
    refine gs_E.stp (pc' := 62) (ls' := [gp_r (some 74), gp_i v1, gp_i v2, gp_i v3, gp_i v4, gp_i v5, gp_i w0, v7, v8]) (st' := [gp_i v2, gp_r (some 103)]) (s' := s) 3 rfl ?_
    refine gs_E.ck (pc' := 63) (ls' := [gp_r (some 74), gp_i v1, gp_i v2, gp_i v3, gp_i v4, gp_i v5, gp_i w0, v7, v8]) (st' := [gp_i (gp_I s 103 v2.toNat)]) (s' := s) rfl (Or.inl ⟨rfl, H.1.1, H.1.2⟩) ?_
    replace H := H.2
    refine gs_E.stp (pc' := 69) (ls' := [gp_r (some 74), gp_i v1, gp_i v2, gp_i v3, gp_i v4, gp_i v5, gp_i w0, v7, v8]) (st' := [gp_i v4, gp_r (some 101), gp_i (gp_I s 103 v2.toNat)]) (s' := s) 3 rfl ?_
    refine gs_E.ck (pc' := 70) (ls' := [gp_r (some 74), gp_i v1, gp_i v2, gp_i v3, gp_i v4, gp_i v5, gp_i w0, v7, v8]) (st' := [gp_i (gp_I s 101 v4.toNat), gp_i (gp_I s 103 v2.toNat)]) (s' := s) rfl (Or.inl ⟨rfl, H.1.1, H.1.2⟩) ?_
    replace H := H.2
    refine gs_E.br (c := ¬ (gp_I s 103 v2.toNat) < (gp_I s 101 v4.toNat)) (p1 := 77) (p2 := 73) (l1 := [gp_r (some 74), gp_i v1, gp_i v2, gp_i v3, gp_i v4, gp_i v5, gp_i w0, v7, v8]) (l2 := [gp_r (some 74), gp_i v1, gp_i v2, gp_i v3, gp_i v4, gp_i v5, gp_i w0, v7, v8]) (s1 := []) (s2 := []) rfl gs_b2 (fun hc => ?_) (fun hc => ?_)
    · replace H := H.2 hc
      refine gs_E.stp (pc' := 102) (ls' := [gp_r (some 74), gp_i v1, gp_i v2, gp_i v3, gp_i v4, gp_i v5, gp_i w0, v7, v8]) (st' := [gp_i 0]) (s' := s) 2 rfl ?_
      exact H
    · replace H := H.1 (Decidable.byContradiction hc)
      refine gs_E.stp (pc' := 102) (ls' := [gp_r (some 74), gp_i v1, gp_i v2, gp_i v3, gp_i v4, gp_i v5, gp_i w0, v7, v8]) (st' := [gp_i 1]) (s' := s) 2 rfl ?_
      exact H

set_option maxRecDepth 100000 in
/-- GatheredPointsModel.isAtLeast, pc 102 -/
theorem s_3106_102 {L d : Nat} {K : Option gV → gH → Prop} {s : gH} (v1 : Int) (v2 : Int) (v3 : Int) (v4 : Int) (v5 : Int) (v6 : Int) (v7 : gV) (v8 : gV) (w0 : Int) (H : ((v6 = 0 → ((w0 = 0 → gs_E L (d + 1) 3106 119 [gp_r (some 74), gp_i v1, gp_i v2, gp_i v3, gp_i v4, gp_i v5, gp_i v6, gp_i w0, gp_i 0] [] s K) ∧ (¬ w0 = 0 → gs_E L (d + 1) 3106 114 [gp_r (some 74), gp_i v1, gp_i v2, gp_i v3, gp_i v4, gp_i v5, gp_i v6, gp_i w0, v8] [] s K))) ∧ (¬ v6 = 0 → gs_E L (d + 1) 3106 114 [gp_r (some 74), gp_i v1, gp_i v2, gp_i v3, gp_i v4, gp_i v5, gp_i v6, gp_i w0, v8] [] s K))) : gs_E L (d + 1) 3106 102 [gp_r (some 74), gp_i v1, gp_i v2, gp_i v3, gp_i v4, gp_i v5, gp_i v6, v7, v8] [gp_i w0] s K := by
  refine gs_E.stp (pc' := 106) (ls' := [gp_r (some 74), gp_i v1, gp_i v2, gp_i v3, gp_i v4, gp_i v5, gp_i v6, gp_i w0, v8]) (st' := [gp_i v6]) (s' := s) 2 rfl ?_
  refine gs_E.br (c := ¬ v6 = 0) (p1 := 114) (p2 := 109) (l1 := [gp_r (some 74), gp_i v1, gp_i v2, gp_i v3, gp_i v4, gp_i v5, gp_i v6, gp_i w0, v8]) (l2 := [gp_r (some 74), gp_i v1, gp_i v2, gp_i v3, gp_i v4, gp_i v5, gp_i v6, gp_i w0, v8]) (s1 := []) (s2 := []) rfl gs_b2 (fun hc => ?_) (fun hc => ?_)
  · replace H := H.2 hc
    exact H
  · replace H := H.1 (Decidable.byContradiction hc)
    refine gs_E.stp (pc' := 111) (ls' := [gp_r (some 74), gp_i v1, gp_i v2, gp_i v3, gp_i v4, gp_i v5, gp_i v6, gp_i w0, v8]) (st' := [gp_i w0]) (s' := s) 1 rfl ?_
    refine gs_E.br (c := w0 = 0) (p1 := 116) (p2 := 114) (l1 := [gp_r (some 74), gp_i v1, gp_i v2, gp_i v3, gp_i v4, gp_i v5, gp_i v6, gp_i w0, v8]) (l2 := [gp_r (some 74), gp_i v1, gp_i v2, gp_i v3, gp_i v4, gp_i v5, gp_i v6, gp_i w0, v8]) (s1 := []) (s2 := []) rfl gs_b1 (fun hc => ?_) (fun hc => ?_)
    · replace H := H.1 hc
      refine gs_E.stp (pc' := 119) (ls' := [gp_r (some 74), gp_i v1, gp_i v2, gp_i v3, gp_i v4, gp_i v5, gp_i v6, gp_i w0, gp_i 0]) (st' := []) (s' := s) 2 rfl ?_
      exact H
    · replace H := H.2 hc
      exact H

set_option maxRecDepth 100000 in
/-- GatheredPointsModel.isAtLeast, pc 114 -/
theorem s_3106_114 {L d : Nat} {K : Option gV → gH → Prop} {s : gH} (v1 : Int) (v2 : Int) (v3 : Int) (v4 : Int) (v5 : Int) (v6 : Int) (v7 : Int) (v8 : gV) (H : K (some (gp_i 0)) s) : gs_E L (d + 1) 3106 114 [gp_r (some 74), gp_i v1, gp_i v2, gp_i v3, gp_i v4, gp_i v5, gp_i v6, gp_i v7, v8] [] s K := by
  refine gs_E.stp (pc' := 115) (ls' := [gp_r (some 74), gp_i v1, gp_i v2, gp_i v3, gp_i v4, gp_i v5, gp_i v6, gp_i v7, v8]) (st' := [gp_i 0]) (s' := s) 1 rfl ?_
  exact gs_E.ret (r := (some (gp_i 0))) rfl H

set_option maxRecDepth 100000 in
/-- GatheredPointsModel.isAtLeast, pc 119 -/
theorem s_3106_119 {L d : Nat} {K : Option gV → gH → Prop} {s : gH} (v1 : Int) (v2 : Int) (v3 : Int) (v4 : Int) (v5 : Int) (v6 : Int) (v7 : Int) (v8 : Int) (H : ((v8 < v4 → ((0 ≤ (gp_wr ((gp_wr (64 * v3)) + v4)) ∧ (gp_wr ((gp_wr (64 * v3)) + v4)) < 5440) ∧ gs_C L d 3078 3 [gp_l (gp_L s 76 (gp_wr ((gp_wr (64 * v3)) + v4)).toNat), gp_i v8] s (fun r s1 => ∃ x2, r = some (gp_i x2) ∧ ((x2 = 0 → gs_E L (d + 1) 3106 162 [gp_r (some 74), gp_i v1, gp_i v2, gp_i v3, gp_i v4, gp_i v5, gp_i v6, gp_i v7, gp_i v8] [] s1 K) ∧ (¬ x2 = 0 → gs_C L d 3107 11 [gp_r (some 74), gp_i v1, gp_i v2, gp_i v3, gp_i v8, gp_i v5] s1 (fun r s3 => ∃ x4, r = some (gp_i x4) ∧ ((x4 < 0 → K (some (gp_i 0)) s3) ∧ (¬ x4 < 0 → gs_E L (d + 1) 3106 162 [gp_r (some 74), gp_i v1, gp_i v2, gp_i v3, gp_i v4, gp_i v5, gp_i v6, gp_i v7, gp_i v8] [] s3 K)))))))) ∧ (¬ v8 < v4 → gs_E L (d + 1) 3106 171 [gp_r (some 74), gp_i v1, gp_i v2, gp_i v3, gp_i v4, gp_i v5, gp_i v6, gp_i v7, gp_i 0] [] s K))) : gs_E L (d + 1) 3106 119 [gp_r (some 74), gp_i v1, gp_i v2, gp_i v3, gp_i v4, gp_i v5, gp_i v6, gp_i v7, gp_i v8] [] s K := by
  refine gs_E.stp (pc' := 123) (ls' := [gp_r (some 74), gp_i v1, gp_i v2, gp_i v3, gp_i v4, gp_i v5, gp_i v6, gp_i v7, gp_i v8]) (st' := [gp_i v4, gp_i v8]) (s' := s) 2 rfl ?_
  refine gs_E.br (c := ¬ v8 < v4) (p1 := 168) (p2 := 126) (l1 := [gp_r (some 74), gp_i v1, gp_i v2, gp_i v3, gp_i v4, gp_i v5, gp_i v6, gp_i v7, gp_i v8]) (l2 := [gp_r (some 74), gp_i v1, gp_i v2, gp_i v3, gp_i v4, gp_i v5, gp_i v6, gp_i v7, gp_i v8]) (s1 := []) (s2 := []) rfl gs_b2 (fun hc => ?_) (fun hc => ?_)
  · replace H := H.2 hc
    refine gs_E.stp (pc' := 171) (ls' := [gp_r (some 74), gp_i v1, gp_i v2, gp_i v3, gp_i v4, gp_i v5, gp_i v6, gp_i v7, gp_i 0]) (st' := []) (s' := s) 2 rfl ?_
    exact H
  · replace H := H.1 (Decidable.byContradiction hc)
    refine gs_E.stp (pc' := 137) (ls' := [gp_r (some 74), gp_i v1, gp_i v2, gp_i v3, gp_i v4, gp_i v5, gp_i v6, gp_i v7, gp_i v8]) (st' := [gp_i (gp_wr ((gp_wr (64 * v3)) + v4)), gp_r (some 76)]) (s' := s) 7 rfl ?_
    refine gs_E.ck (pc' := 138) (ls' := [gp_r (some 74), gp_i v1, gp_i v2, gp_i v3, gp_i v4, gp_i v5, gp_i v6, gp_i v7, gp_i v8]) (st' := [gp_l (gp_L s 76 (gp_wr ((gp_wr (64 * v3)) + v4)).toNat)]) (s' := s) rfl ⟨rfl, H.1.1, H.1.2⟩ ?_
    replace H := H.2
    refine gs_E.stp (pc' := 140) (ls' := [gp_r (some 74), gp_i v1, gp_i v2, gp_i v3, gp_i v4, gp_i v5, gp_i v6, gp_i v7, gp_i v8]) (st' := [gp_i v8, gp_l (gp_L s 76 (gp_wr ((gp_wr (64 * v3)) + v4)).toNat)]) (s' := s) 1 rfl ?_
    refine gs_E.call (args := [gp_l (gp_L s 76 (gp_wr ((gp_wr (64 * v3)) + v4)).toNat), gp_i v8]) (m := 3) (y' := 3078) (st' := []) rfl H (fun r s1 H => ?_)
    obtain ⟨x2, rfl, H⟩ := H
    show gs_E L (d + 1) 3106 143 [gp_r (some 74), gp_i v1, gp_i v2, gp_i v3, gp_i v4, gp_i v5, gp_i v6, gp_i v7, gp_i v8] [gp_i x2] s1 K
    refine gs_E.br (c := x2 = 0) (p1 := 162) (p2 := 146) (l1 := [gp_r (some 74), gp_i v1, gp_i v2, gp_i v3, gp_i v4, gp_i v5, gp_i v6, gp_i v7, gp_i v8]) (l2 := [gp_r (some 74), gp_i v1, gp_i v2, gp_i v3, gp_i v4, gp_i v5, gp_i v6, gp_i v7, gp_i v8]) (s1 := []) (s2 := []) rfl gs_b1 (fun hc => ?_) (fun hc => ?_)
    · replace H := H.1 hc
      exact H
    · replace H := H.2 hc
      refine gs_E.stp (pc' := 154) (ls' := [gp_r (some 74), gp_i v1, gp_i v2, gp_i v3, gp_i v4, gp_i v5, gp_i v6, gp_i v7, gp_i v8]) (st' := [gp_i v5, gp_i v8, gp_i v3, gp_i v2, gp_i v1, gp_r (some 74)]) (s' := s1) 6 rfl ?_
      refine gs_E.call (args := [gp_r (some 74), gp_i v1, gp_i v2, gp_i v3, gp_i v8, gp_i v5]) (m := 11) (y' := 3107) (st' := []) rfl H (fun r s3 H => ?_)
      obtain ⟨x4, rfl, H⟩ := H
      show gs_E L (d + 1) 3106 157 [gp_r (some 74), gp_i v1, gp_i v2, gp_i v3, gp_i v4, gp_i v5, gp_i v6, gp_i v7, gp_i v8] [gp_i x4] s3 K
      refine gs_E.br (c := ¬ x4 < 0) (p1 := 162) (p2 := 160) (l1 := [gp_r (some 74), gp_i v1, gp_i v2, gp_i v3, gp_i v4, gp_i v5, gp_i v6, gp_i v7, gp_i v8]) (l2 := [gp_r (some 74), gp_i v1, gp_i v2, gp_i v3, gp_i v4, gp_i v5, gp_i v6, gp_i v7, gp_i v8]) (s1 := []) (s2 := []) rfl gs_b2 (fun hc => ?_) (fun hc => ?_)
      · replace H := H.2 hc
        exact H
      · replace H := H.1 (Decidable.byContradiction hc)
        refine gs_E.stp (pc' := 161) (ls' := [gp_r (some 74), gp_i v1, gp_i v2, gp_i v3, gp_i v4, gp_i v5, gp_i v6, gp_i v7, gp_i v8]) (st' := [gp_i 0]) (s' := s3) 1 rfl ?_
        exact gs_E.ret (r := (some (gp_i 0))) rfl H

set_option maxRecDepth 100000 in
/-- GatheredPointsModel.isAtLeast, pc 162 -/
theorem s_3106_162 {L d : Nat} {K : Option gV → gH → Prop} {s : gH} (v1 : Int) (v2 : Int) (v3 : Int) (v4 : Int) (v5 : Int) (v6 : Int) (v7 : Int) (v8 : Int) (H : gs_E L (d + 1) 3106 119 [gp_r (some 74), gp_i v1, gp_i v2, gp_i v3, gp_i v4, gp_i v5, gp_i v6, gp_i v7, gp_i (gp_wr (v8 + 1))] [] s K) : gs_E L (d + 1) 3106 162 [gp_r (some 74), gp_i v1, gp_i v2, gp_i v3, gp_i v4, gp_i v5, gp_i v6, gp_i v7, gp_i v8] [] s K := by
  refine gs_E.stp (pc' := 119) (ls' := [gp_r (some 74), gp_i v1, gp_i v2, gp_i v3, gp_i v4, gp_i v5, gp_i v6, gp_i v7, gp_i (gp_wr (v8 + 1))]) (st' := []) (s' := s) 2 rfl ?_
  exact H

set_option maxRecDepth 100000 in
/-- GatheredPointsModel.isAtLeast, pc 171 -/
theorem s_3106_171 {L d : Nat} {K : Option gV → gH → Prop} {s : gH} (v1 : Int) (v2 : Int) (v3 : Int) (v4 : Int) (v5 : Int) (v6 : Int) (v7 : Int) (v8 : Int) (H : ((v8 < v2 → ((0 ≤ (gp_wr ((gp_wr (64 * v1)) + v2)) ∧ (gp_wr ((gp_wr (64 * v1)) + v2)) < 5440) ∧ gs_C L d 3078 3 [gp_l (gp_L s 77 (gp_wr ((gp_wr (64 * v1)) + v2)).toNat), gp_i v8] s (fun r s1 => ∃ x2, r = some (gp_i x2) ∧ ((x2 = 0 → gs_E L (d + 1) 3106 213 [gp_r (some 74), gp_i v1, gp_i v2, gp_i v3, gp_i v4, gp_i v5, gp_i v6, gp_i v7, gp_i v8] [] s1 K) ∧ (¬ x2 = 0 → gs_C L d 3108 11 [gp_r (some 74), gp_i v1, gp_i v8, gp_i v3, gp_i v4, gp_i v5] s1 (fun r s3 => ∃ x4, r = some (gp_i x4) ∧ ((x4 < 0 → K (some (gp_i 0)) s3) ∧ (¬ x4 < 0 → gs_E L (d + 1) 3106 213 [gp_r (some 74), gp_i v1, gp_i v2, gp_i v3, gp_i v4, gp_i v5, gp_i v6, gp_i v7, gp_i v8] [] s3 K)))))))) ∧ (¬ v8 < v2 → K (some (gp_i 1)) s))) : gs_E L (d + 1) 3106 171 [gp_r (some 74), gp_i v1, gp_i v2, gp_i v3, gp_i v4, gp_i v5, gp_i v6, gp_i v7, gp_i v8] [] s K := by
  refine gs_E.stp (pc' := 174) (ls' := [gp_r (some 74), gp_i v1, gp_i v2, gp_i v3, gp_i v4, gp_i v5, gp_i v6, gp_i v7, gp_i v8]) (st' := [gp_i v2, gp_i v8]) (s' := s) 2 rfl ?_
  refine gs_E.br (c := ¬ v8 < v2) (p1 := 219) (p2 := 177) (l1 := [gp_r (some 74), gp_i v1, gp_i v2, gp_i v3, gp_i v4, gp_i v5, gp_i v6, gp_i v7, gp_i v8]) (l2 := [gp_r (some 74), gp_i v1, gp_i v2, gp_i v3, gp_i v4, gp_i v5, gp_i v6, gp_i v7, gp_i v8]) (s1 := []) (s2 := []) rfl gs_b2 (fun hc => ?_) (fun hc => ?_)
  · replace H := H.2 hc
    refine gs_E.stp (pc' := 220) (ls' := [gp_r (some 74), gp_i v1, gp_i v2, gp_i v3, gp_i v4, gp_i v5, gp_i v6, gp_i v7, gp_i v8]) (st' := [gp_i 1]) (s' := s) 1 rfl ?_
    exact gs_E.ret (r := (some (gp_i 1))) rfl H
  · replace H := H.1 (Decidable.byContradiction hc)
    refine gs_E.stp (pc' := 187) (ls' := [gp_r (some 74), gp_i v1, gp_i v2, gp_i v3, gp_i v4, gp_i v5, gp_i v6, gp_i v7, gp_i v8]) (st' := [gp_i (gp_wr ((gp_wr (64 * v1)) + v2)), gp_r (some 77)]) (s' := s) 7 rfl ?_
    refine gs_E.ck (pc' := 188) (ls' := [gp_r (some 74), gp_i v1, gp_i v2, gp_i v3, gp_i v4, gp_i v5, gp_i v6, gp_i v7, gp_i v8]) (st' := [gp_l (gp_L s 77 (gp_wr ((gp_wr (64 * v1)) + v2)).toNat)]) (s' := s) rfl ⟨rfl, H.1.1, H.1.2⟩ ?_
    replace H := H.2
    refine gs_E.stp (pc' := 190) (ls' := [gp_r (some 74), gp_i v1, gp_i v2, gp_i v3, gp_i v4, gp_i v5, gp_i v6, gp_i v7, gp_i v8]) (st' := [gp_i v8, gp_l (gp_L s 77 (gp_wr ((gp_wr (64 * v1)) + v2)).toNat)]) (s' := s) 1 rfl ?_
    refine gs_E.call (args := [gp_l (gp_L s 77 (gp_wr ((gp_wr (64 * v1)) + v2)).toNat), gp_i v8]) (m := 3) (y' := 3078) (st' := []) rfl H (fun r s1 H => ?_)
    obtain ⟨x2, rfl, H⟩ := H
    show gs_E L (d + 1) 3106 193 [gp_r (some 74), gp_i v1, gp_i v2, gp_i v3, gp_i v4, gp_i v5, gp_i v6, gp_i v7, gp_i v8] [gp_i x2] s1 K
    refine gs_E.br (c := x2 = 0) (p1 := 213) (p2 := 196) (l1 := [gp_r (some 74), gp_i v1, gp_i v2, gp_i v3, gp_i v4, gp_i v5, gp_i v6, gp_i v7, gp_i v8]) (l2 := [gp_r (some 74), gp_i v1, gp_i v2, gp_i v3, gp_i v4, gp_i v5, gp_i v6, gp_i v7, gp_i v8]) (s1 := []) (s2 := []) rfl gs_b1 (fun hc => ?_) (fun hc => ?_)
    · replace H := H.1 hc
      exact H
    · replace H := H.2 hc
      refine gs_E.stp (pc' := 205) (ls' := [gp_r (some 74), gp_i v1, gp_i v2, gp_i v3, gp_i v4, gp_i v5, gp_i v6, gp_i v7, gp_i v8]) (st' := [gp_i v5, gp_i v4, gp_i v3, gp_i v8, gp_i v1, gp_r (some 74)]) (s' := s1) 6 rfl ?_
      refine gs_E.call (args := [gp_r (some 74), gp_i v1, gp_i v8, gp_i v3, gp_i v4, gp_i v5]) (m := 11) (y' := 3108) (st' := []) rfl H (fun r s3 H => ?_)
      obtain ⟨x4, rfl, H⟩ := H
      show gs_E L (d + 1) 3106 208 [gp_r (some 74), gp_i v1, gp_i v2, gp_i v3, gp_i v4, gp_i v5, gp_i v6, gp_i v7, gp_i v8] [gp_i x4] s3 K
      refine gs_E.br (c := ¬ x4 < 0) (p1 := 213) (p2 := 211) (l1 := [gp_r (some 74), gp_i v1, gp_i v2, gp_i v3, gp_i v4, gp_i v5, gp_i v6, gp_i v7, gp_i v8]) (l2 := [gp_r (some 74), gp_i v1, gp_i v2, gp_i v3, gp_i v4, gp_i v5, gp_i v6, gp_i v7, gp_i v8]) (s1 := []) (s2 := []) rfl gs_b2 (fun hc => ?_) (fun hc => ?_)
      · replace H := H.2 hc
        exact H
      · replace H := H.1 (Decidable.byContradiction hc)
        refine gs_E.stp (pc' := 212) (ls' := [gp_r (some 74), gp_i v1, gp_i v2, gp_i v3, gp_i v4, gp_i v5, gp_i v6, gp_i v7, gp_i v8]) (st' := [gp_i 0]) (s' := s3) 1 rfl ?_
        exact gs_E.ret (r := (some (gp_i 0))) rfl H

set_option maxRecDepth 100000 in
/-- GatheredPointsModel.isAtLeast, pc 213 -/
theorem s_3106_213 {L d : Nat} {K : Option gV → gH → Prop} {s : gH} (v1 : Int) (v2 : Int) (v3 : Int) (v4 : Int) (v5 : Int) (v6 : Int) (v7 : Int) (v8 : Int) (H : gs_E L (d + 1) 3106 171 [gp_r (some 74), gp_i v1, gp_i v2, gp_i v3, gp_i v4, gp_i v5, gp_i v6, gp_i v7, gp_i (gp_wr (v8 + 1))] [] s K) : gs_E L (d + 1) 3106 213 [gp_r (some 74), gp_i v1, gp_i v2, gp_i v3, gp_i v4, gp_i v5, gp_i v6, gp_i v7, gp_i v8] [] s K := by
  refine gs_E.stp (pc' := 171) (ls' := [gp_r (some 74), gp_i v1, gp_i v2, gp_i v3, gp_i v4, gp_i v5, gp_i v6, gp_i v7, gp_i (gp_wr (v8 + 1))]) (st' := []) (s' := s) 2 rfl ?_
  exact H

set_option maxRecDepth 100000 in
/-- GatheredPointsModel.answerLeft, pc 0 -/
theorem s_3107_e {L d : Nat} {K : Option gV → gH → Prop} {s : gH} (p0 : Int) (p1 : Int) (p2 : Int) (p3 : Int) (p4 : Int) (H : ((0 ≤ (gp_wr ((gp_wr (64 * p0)) + p1)) ∧ (gp_wr ((gp_wr (64 * p0)) + p1)) < 5440) ∧ gs_E L (d + 1) 3107 16 [gp_r (some 74), gp_i p0, gp_i p1, gp_i p2, gp_i p3, gp_i p4, gp_l (gp_L s 76 (gp_wr ((gp_wr (64 * p0)) + p1)).toNat), gp_n, gp_i 0, gp_n, gp_n] [] s K)) : gs_C L (d + 1) 3107 11 [gp_r (some 74), gp_i p0, gp_i p1, gp_i p2, gp_i p3, gp_i p4] s K := by
  show gs_E L (d + 1) 3107 0 [gp_r (some 74), gp_i p0, gp_i p1, gp_i p2, gp_i p3, gp_i p4, gp_n, gp_n, gp_n, gp_n, gp_n] [] s K
  refine gs_E.stp (pc' := 10) (ls' := [gp_r (some 74), gp_i p0, gp_i p1, gp_i p2, gp_i p3, gp_i p4, gp_n, gp_n, gp_n, gp_n, gp_n]) (st' := [gp_i (gp_wr ((gp_wr (64 * p0)) + p1)), gp_r (some 76)]) (s' := s) 7 rfl ?_
  refine gs_E.ck (pc' := 11) (ls' := [gp_r (some 74), gp_i p0, gp_i p1, gp_i p2, gp_i p3, gp_i p4, gp_n, gp_n, gp_n, gp_n, gp_n]) (st' := [gp_l (gp_L s 76 (gp_wr ((gp_wr (64 * p0)) + p1)).toNat)]) (s' := s) rfl ⟨rfl, H.1.1, H.1.2⟩ ?_
  replace H := H.2
  refine gs_E.stp (pc' := 16) (ls' := [gp_r (some 74), gp_i p0, gp_i p1, gp_i p2, gp_i p3, gp_i p4, gp_l (gp_L s 76 (gp_wr ((gp_wr (64 * p0)) + p1)).toNat), gp_n, gp_i 0, gp_n, gp_n]) (st' := []) (s' := s) 3 rfl ?_
  exact H

set_option maxRecDepth 100000 in
/-- GatheredPointsModel.answerLeft, pc 16 -/
theorem s_3107_16 {L d : Nat} {K : Option gV → gH → Prop} {s : gH} (v1 : Int) (v2 : Int) (v3 : Int) (v4 : Int) (v5 : Int) (v6 : BitVec 64) (v8 : Int) (v9 : gV) (v10 : gV) (H : gs_C L d 3079 4 [gp_l v6] s (fun r s1 => ∃ x2, r = some (gp_i x2) ∧ ((v8 < x2 → gs_C L d 3092 8 [gp_r (some 74), gp_i v1, gp_l v6, gp_i v8] s1 (fun r s3 => ∃ x4, r = some (gp_i x4) ∧ gs_C L d 3105 7 [gp_r (some 74), gp_i v1, gp_i x4, gp_i v3, gp_i v4, gp_i v5] s3 (fun r s5 => ∃ x6, r = some (gp_i x6) ∧ ((x6 = 0 → gs_E L (d + 1) 3107 16 [gp_r (some 74), gp_i v1, gp_i v2, gp_i v3, gp_i v4, gp_i v5, gp_l v6, gp_n, gp_i (gp_wr (v8 + 1)), v9, v10] [] s5 K) ∧ (¬ x6 = 0 → K (some (gp_i v8)) s5))))) ∧ (¬ v8 < x2 → ((0 ≤ (gp_wr ((gp_wr (64 * v3)) + v4)) ∧ (gp_wr ((gp_wr (64 * v3)) + v4)) < 5440) ∧ gs_E L (d + 1) 3107 74 [gp_r (some 74), gp_i v1, gp_i v2, gp_i v3, gp_i v4, gp_i v5, gp_l v6, gp_n, gp_l (gp_L s1 77 (gp_wr ((gp_wr (64 * v3)) + v4)).toNat), gp_n, gp_i 0] [] s1 K))))) : gs_E L (d + 1) 3107 16 [gp_r (some 74), gp_i v1, gp_i v2, gp_i v3, gp_i v4, gp_i v5, gp_l v6, gp_n, gp_i v8, v9, v10] [] s K := by
  refine gs_E.stp (pc' := 20) (ls' := [gp_r (some 74), gp_i v1, gp_i v2, gp_i v3, gp_i v4, gp_i v5, gp_l v6, gp_n, gp_i v8, v9, v10]) (st' := [gp_l v6, gp_i v8]) (s' := s) 2 rfl ?_
  refine gs_E.call (args := [gp_l v6]) (m := 4) (y' := 3079) (st' := [gp_i v8]) rfl H (fun r s1 H => ?_)
  obtain ⟨x2, rfl, H⟩ := H
  show gs_E L (d + 1) 3107 23 [gp_r (some 74), gp_i v1, gp_i v2, gp_i v3, gp_i v4, gp_i v5, gp_l v6, gp_n, gp_i v8, v9, v10] [gp_i x2, gp_i v8] s1 K
  refine gs_E.br (c := ¬ v8 < x2) (p1 := 57) (p2 := 26) (l1 := [gp_r (some 74), gp_i v1, gp_i v2, gp_i v3, gp_i v4, gp_i v5, gp_l v6, gp_n, gp_i v8, v9, v10]) (l2 := [gp_r (some 74), gp_i v1, gp_i v2, gp_i v3, gp_i v4, gp_i v5, gp_l v6, gp_n, gp_i v8, v9, v10]) (s1 := []) (s2 := []) rfl gs_b2 (fun hc => ?_) (fun hc => ?_)
  · replace H := H.2 hc
    refine gs_E.stp (pc' := 68) (ls' := [gp_r (some 74), gp_i v1, gp_i v2, gp_i v3, gp_i v4, gp_i v5, gp_l v6, gp_n, gp_i v8, v9, v10]) (st' := [gp_i (gp_wr ((gp_wr (64 * v3)) + v4)), gp_r (some 77)]) (s' := s1) 7 rfl ?_
    refine gs_E.ck (pc' := 69) (ls' := [gp_r (some 74), gp_i v1, gp_i v2, gp_i v3, gp_i v4, gp_i v5, gp_l v6, gp_n, gp_i v8, v9, v10]) (st' := [gp_l (gp_L s1 77 (gp_wr ((gp_wr (64 * v3)) + v4)).toNat)]) (s' := s1) rfl ⟨rfl, H.1.1, H.1.2⟩ ?_
    replace H := H.2
    refine gs_E.stp (pc' := 74) (ls' := [gp_r (some 74), gp_i v1, gp_i v2, gp_i v3, gp_i v4, gp_i v5, gp_l v6, gp_n, gp_l (gp_L s1 77 (gp_wr ((gp_wr (64 * v3)) + v4)).toNat), gp_n, gp_i 0]) (st' := []) (s' := s1) 3 rfl ?_
    exact H
  · replace H := H.1 (Decidable.byContradiction hc)
    refine gs_E.stp (pc' := 34) (ls' := [gp_r (some 74), gp_i v1, gp_i v2, gp_i v3, gp_i v4, gp_i v5, gp_l v6, gp_n, gp_i v8, v9, v10]) (st' := [gp_i v8, gp_l v6, gp_i v1, gp_r (some 74), gp_i v1, gp_r (some 74)]) (s' := s1) 6 rfl ?_
    refine gs_E.call (args := [gp_r (some 74), gp_i v1, gp_l v6, gp_i v8]) (m := 8) (y' := 3092) (st' := [gp_i v1, gp_r (some 74)]) rfl H (fun r s3 H => ?_)
    obtain ⟨x4, rfl, H⟩ := H
    show gs_E L (d + 1) 3107 37 [gp_r (some 74), gp_i v1, gp_i v2, gp_i v3, gp_i v4, gp_i v5, gp_l v6, gp_n, gp_i v8, v9, v10] [gp_i x4, gp_i v1, gp_r (some 74)] s3 K
    refine gs_E.stp (pc' := 42) (ls' := [gp_r (some 74), gp_i v1, gp_i v2, gp_i v3, gp_i v4, gp_i v5, gp_l v6, gp_n, gp_i v8, v9, v10]) (st' := [gp_i v5, gp_i v4, gp_i v3, gp_i x4, gp_i v1, gp_r (some 74)]) (s' := s3) 3 rfl ?_
    refine gs_E.call (args := [gp_r (some 74), gp_i v1, gp_i x4, gp_i v3, gp_i v4, gp_i v5]) (m := 7) (y' := 3105) (st' := []) rfl H (fun r s5 H => ?_)
    obtain ⟨x6, rfl, H⟩ := H
    show gs_E L (d + 1) 3107 45 [gp_r (some 74), gp_i v1, gp_i v2, gp_i v3, gp_i v4, gp_i v5, gp_l v6, gp_n, gp_i v8, v9, v10] [gp_i x6] s5 K
    refine gs_E.br (c := x6 = 0) (p1 := 51) (p2 := 48) (l1 := [gp_r (some 74), gp_i v1, gp_i v2, gp_i v3, gp_i v4, gp_i v5, gp_l v6, gp_n, gp_i v8, v9, v10]) (l2 := [gp_r (some 74), gp_i v1, gp_i v2, gp_i v3, gp_i v4, gp_i v5, gp_l v6, gp_n, gp_i v8, v9, v10]) (s1 := []) (s2 := []) rfl gs_b1 (fun hc => ?_) (fun hc => ?_)
    · replace H := H.1 hc
      refine gs_E.stp (pc' := 16) (ls' := [gp_r (some 74), gp_i v1, gp_i v2, gp_i v3, gp_i v4, gp_i v5, gp_l v6, gp_n, gp_i (gp_wr (v8 + 1)), v9, v10]) (st' := []) (s' := s5) 2 rfl ?_
      exact H
    · replace H := H.2 hc
      refine gs_E.stp (pc' := 50) (ls' := [gp_r (some 74), gp_i v1, gp_i v2, gp_i v3, gp_i v4, gp_i v5, gp_l v6, gp_n, gp_i v8, v9, v10]) (st' := [gp_i v8]) (s' := s5) 1 rfl ?_
      exact gs_E.ret (r := (some (gp_i v8))) rfl H

set_option maxRecDepth 100000 in
/-- GatheredPointsModel.answerLeft, pc 74 -/
theorem s_3107_74 {L d : Nat} {K : Option gV → gH → Prop} {s : gH} (v1 : Int) (v2 : Int) (v3 : Int) (v4 : Int) (v5 : Int) (v6 : BitVec 64) (v8 : BitVec 64) (v10 : Int) (H : gs_C L d 3079 4 [gp_l v8] s (fun r s1 => ∃ x2, r = some (gp_i x2) ∧ ((v10 < x2 → gs_C L d 3092 8 [gp_r (some 74), gp_i v3, gp_l v8, gp_i v10] s1 (fun r s3 => ∃ x4, r = some (gp_i x4) ∧ gs_C L d 3105 7 [gp_r (some 74), gp_i v1, gp_i v2, gp_i v3, gp_i x4, gp_i v5] s3 (fun r s5 => ∃ x6, r = some (gp_i x6) ∧ ((x6 = 0 → gs_E L (d + 1) 3107 74 [gp_r (some 74), gp_i v1, gp_i v2, gp_i v3, gp_i v4, gp_i v5, gp_l v6, gp_n, gp_l v8, gp_n, gp_i (gp_wr (v10 + 1))] [] s5 K) ∧ (¬ x6 = 0 → K (some (gp_i (gp_wr (100 + v10)))) s5))))) ∧ (¬ v10 < x2 → K (some (gp_i (-1))) s1)))) : gs_E L (d + 1) 3107 74 [gp_r (some 74), gp_i v1, gp_i v2, gp_i v3, gp_i v4, gp_i v5, gp_l v6, gp_n, gp_l v8, gp_n, gp_i v10] [] s K := by
  refine gs_E.stp (pc' := 78) (ls' := [gp_r (some 74), gp_i v1, gp_i v2, gp_i v3, gp_i v4, gp_i v5, gp_l v6, gp_n, gp_l v8, gp_n, gp_i v10]) (st' := [gp_l v8, gp_i v10]) (s' := s) 2 rfl ?_
  refine gs_E.call (args := [gp_l v8]) (m := 4) (y' := 3079) (st' := [gp_i v10]) rfl H (fun r s1 H => ?_)
  obtain ⟨x2, rfl, H⟩ := H
  show gs_E L (d + 1) 3107 81 [gp_r (some 74), gp_i v1, gp_i v2, gp_i v3, gp_i v4, gp_i v5, gp_l v6, gp_n, gp_l v8, gp_n, gp_i v10] [gp_i x2, gp_i v10] s1 K
  refine gs_E.br (c := ¬ v10 < x2) (p1 := 117) (p2 := 84) (l1 := [gp_r (some 74), gp_i v1, gp_i v2, gp_i v3, gp_i v4, gp_i v5, gp_l v6, gp_n, gp_l v8, gp_n, gp_i v10]) (l2 := [gp_r (some 74), gp_i v1, gp_i v2, gp_i v3, gp_i v4, gp_i v5, gp_l v6, gp_n, gp_l v8, gp_n, gp_i v10]) (s1 := []) (s2 := []) rfl gs_b2 (fun hc => ?_) (fun hc => ?_)
  · replace H := H.2 hc
    refine gs_E.stp (pc' := 118) (ls' := [gp_r (some 74), gp_i v1, gp_i v2, gp_i v3, gp_i v4, gp_i v5, gp_l v6, gp_n, gp_l v8, gp_n, gp_i v10]) (st' := [gp_i (-1)]) (s' := s1) 1 rfl ?_
    exact gs_E.ret (r := (some (gp_i (-1)))) rfl H
  · replace H := H.1 (Decidable.byContradiction hc)
    refine gs_E.stp (pc' := 94) (ls' := [gp_r (some 74), gp_i v1, gp_i v2, gp_i v3, gp_i v4, gp_i v5, gp_l v6, gp_n, gp_l v8, gp_n, gp_i v10]) (st' := [gp_i v10, gp_l v8, gp_i v3, gp_r (some 74), gp_i v3, gp_i v2, gp_i v1, gp_r (some 74)]) (s' := s1) 8 rfl ?_
    refine gs_E.call (args := [gp_r (some 74), gp_i v3, gp_l v8, gp_i v10]) (m := 8) (y' := 3092) (st' := [gp_i v3, gp_i v2, gp_i v1, gp_r (some 74)]) rfl H (fun r s3 H => ?_)
    obtain ⟨x4, rfl, H⟩ := H
    show gs_E L (d + 1) 3107 97 [gp_r (some 74), gp_i v1, gp_i v2, gp_i v3, gp_i v4, gp_i v5, gp_l v6, gp_n, gp_l v8, gp_n, gp_i v10] [gp_i x4, gp_i v3, gp_i v2, gp_i v1, gp_r (some 74)] s3 K
    refine gs_E.stp (pc' := 99) (ls' := [gp_r (some 74), gp_i v1, gp_i v2, gp_i v3, gp_i v4, gp_i v5, gp_l v6, gp_n, gp_l v8, gp_n, gp_i v10]) (st' := [gp_i v5, gp_i x4, gp_i v3, gp_i v2, gp_i v1, gp_r (some 74)]) (s' := s3) 1 rfl ?_
    refine gs_E.call (args := [gp_r (some 74), gp_i v1, gp_i v2, gp_i v3, gp_i x4, gp_i v5]) (m := 7) (y' := 3105) (st' := []) rfl H (fun r s5 H => ?_)
    obtain ⟨x6, rfl, H⟩ := H
    show gs_E L (d + 1) 3107 102 [gp_r (some 74), gp_i v1, gp_i v2, gp_i v3, gp_i v4, gp_i v5, gp_l v6, gp_n, gp_l v8, gp_n, gp_i v10] [gp_i x6] s5 K
    refine gs_E.br (c := x6 = 0) (p1 := 111) (p2 := 105) (l1 := [gp_r (some 74), gp_i v1, gp_i v2, gp_i v3, gp_i v4, gp_i v5, gp_l v6, gp_n, gp_l v8, gp_n, gp_i v10]) (l2 := [gp_r (some 74), gp_i v1, gp_i v2, gp_i v3, gp_i v4, gp_i v5, gp_l v6, gp_n, gp_l v8, gp_n, gp_i v10]) (s1 := []) (s2 := []) rfl gs_b1 (fun hc => ?_) (fun hc => ?_)
    · replace H := H.1 hc
      refine gs_E.stp (pc' := 74) (ls' := [gp_r (some 74), gp_i v1, gp_i v2, gp_i v3, gp_i v4, gp_i v5, gp_l v6, gp_n, gp_l v8, gp_n, gp_i (gp_wr (v10 + 1))]) (st' := []) (s' := s5) 2 rfl ?_
      exact H
    · replace H := H.2 hc
      refine gs_E.stp (pc' := 110) (ls' := [gp_r (some 74), gp_i v1, gp_i v2, gp_i v3, gp_i v4, gp_i v5, gp_l v6, gp_n, gp_l v8, gp_n, gp_i v10]) (st' := [gp_i (gp_wr (100 + v10))]) (s' := s5) 3 rfl ?_
      exact gs_E.ret (r := (some (gp_i (gp_wr (100 + v10))))) rfl H

set_option maxRecDepth 100000 in
/-- GatheredPointsModel.answerRight, pc 0 -/
theorem s_3108_e {L d : Nat} {K : Option gV → gH → Prop} {s : gH} (p0 : Int) (p1 : Int) (p2 : Int) (p3 : Int) (p4 : Int) (H : ((0 ≤ (gp_wr ((gp_wr (64 * p2)) + p3)) ∧ (gp_wr ((gp_wr (64 * p2)) + p3)) < 5440) ∧ gs_E L (d + 1) 3108 17 [gp_r (some 74), gp_i p0, gp_i p1, gp_i p2, gp_i p3, gp_i p4, gp_l (gp_L s 77 (gp_wr ((gp_wr (64 * p2)) + p3)).toNat), gp_n, gp_i 0, gp_n, gp_n] [] s K)) : gs_C L (d + 1) 3108 11 [gp_r (some 74), gp_i p0, gp_i p1, gp_i p2, gp_i p3, gp_i p4] s K := by
  show gs_E L (d + 1) 3108 0 [gp_r (some 74), gp_i p0, gp_i p1, gp_i p2, gp_i p3, gp_i p4, gp_n, gp_n, gp_n, gp_n, gp_n] [] s K
  refine gs_E.stp (pc' := 11) (ls' := [gp_r (some 74), gp_i p0, gp_i p1, gp_i p2, gp_i p3, gp_i p4, gp_n, gp_n, gp_n, gp_n, gp_n]) (st' := [gp_i (gp_wr ((gp_wr (64 * p2)) + p3)), gp_r (some 77)]) (s' := s) 7 rfl ?_
  refine gs_E.ck (pc' := 12) (ls' := [gp_r (some 74), gp_i p0, gp_i p1, gp_i p2, gp_i p3, gp_i p4, gp_n, gp_n, gp_n, gp_n, gp_n]) (st' := [gp_l (gp_L s 77 (gp_wr ((gp_wr (64 * p2)) + p3)).toNat)]) (s' := s) rfl ⟨rfl, H.1.1, H.1.2⟩ ?_
  replace H := H.2
  refine gs_E.stp (pc' := 17) (ls' := [gp_r (some 74), gp_i p0, gp_i p1, gp_i p2, gp_i p3, gp_i p4, gp_l (gp_L s 77 (gp_wr ((gp_wr (64 * p2)) + p3)).toNat), gp_n, gp_i 0, gp_n, gp_n]) (st' := []) (s' := s) 3 rfl ?_
  exact H

set_option maxRecDepth 100000 in
/-- GatheredPointsModel.answerRight, pc 17 -/
theorem s_3108_17 {L d : Nat} {K : Option gV → gH → Prop} {s : gH} (v1 : Int) (v2 : Int) (v3 : Int) (v4 : Int) (v5 : Int) (v6 : BitVec 64) (v8 : Int) (v9 : gV) (v10 : gV) (H : gs_C L d 3079 4 [gp_l v6] s (fun r s1 => ∃ x2, r = some (gp_i x2) ∧ ((v8 < x2 → gs_C L d 3092 8 [gp_r (some 74), gp_i v3, gp_l v6, gp_i v8] s1 (fun r s3 => ∃ x4, r = some (gp_i x4) ∧ gs_C L d 3105 7 [gp_r (some 74), gp_i v1, gp_i v2, gp_i v3, gp_i x4, gp_i v5] s3 (fun r s5 => ∃ x6, r = some (gp_i x6) ∧ ((x6 = 0 → gs_E L (d + 1) 3108 17 [gp_r (some 74), gp_i v1, gp_i v2, gp_i v3, gp_i v4, gp_i v5, gp_l v6, gp_n, gp_i (gp_wr (v8 + 1)), v9, v10] [] s5 K) ∧ (¬ x6 = 0 → K (some (gp_i v8)) s5))))) ∧ (¬ v8 < x2 → ((0 ≤ (gp_wr ((gp_wr (64 * v1)) + v2)) ∧ (gp_wr ((gp_wr (64 * v1)) + v2)) < 5440) ∧ gs_E L (d + 1) 3108 73 [gp_r (some 74), gp_i v1, gp_i v2, gp_i v3, gp_i v4, gp_i v5, gp_l v6, gp_n, gp_l (gp_L s1 76 (gp_wr ((gp_wr (64 * v1)) + v2)).toNat), gp_n, gp_i 0] [] s1 K))))) : gs_E L (d + 1) 3108 17 [gp_r (some 74), gp_i v1, gp_i v2, gp_i v3, gp_i v4, gp_i v5, gp_l v6, gp_n, gp_i v8, v9, v10] [] s K := by
  refine gs_E.stp (pc' := 21) (ls' := [gp_r (some 74), gp_i v1, gp_i v2, gp_i v3, gp_i v4, gp_i v5, gp_l v6, gp_n, gp_i v8, v9, v10]) (st' := [gp_l v6, gp_i v8]) (s' := s) 2 rfl ?_
  refine gs_E.call (args := [gp_l v6]) (m := 4) (y' := 3079) (st' := [gp_i v8]) rfl H (fun r s1 H => ?_)
  obtain ⟨x2, rfl, H⟩ := H
  show gs_E L (d + 1) 3108 24 [gp_r (some 74), gp_i v1, gp_i v2, gp_i v3, gp_i v4, gp_i v5, gp_l v6, gp_n, gp_i v8, v9, v10] [gp_i x2, gp_i v8] s1 K
  refine gs_E.br (c := ¬ v8 < x2) (p1 := 57) (p2 := 27) (l1 := [gp_r (some 74), gp_i v1, gp_i v2, gp_i v3, gp_i v4, gp_i v5, gp_l v6, gp_n, gp_i v8, v9, v10]) (l2 := [gp_r (some 74), gp_i v1, gp_i v2, gp_i v3, gp_i v4, gp_i v5, gp_l v6, gp_n, gp_i v8, v9, v10]) (s1 := []) (s2 := []) rfl gs_b2 (fun hc => ?_) (fun hc => ?_)
  · replace H := H.2 hc
    refine gs_E.stp (pc' := 67) (ls' := [gp_r (some 74), gp_i v1, gp_i v2, gp_i v3, gp_i v4, gp_i v5, gp_l v6, gp_n, gp_i v8, v9, v10]) (st' := [gp_i (gp_wr ((gp_wr (64 * v1)) + v2)), gp_r (some 76)]) (s' := s1) 7 rfl ?_
    refine gs_E.ck (pc' := 68) (ls' := [gp_r (some 74), gp_i v1, gp_i v2, gp_i v3, gp_i v4, gp_i v5, gp_l v6, gp_n, gp_i v8, v9, v10]) (st' := [gp_l (gp_L s1 76 (gp_wr ((gp_wr (64 * v1)) + v2)).toNat)]) (s' := s1) rfl ⟨rfl, H.1.1, H.1.2⟩ ?_
    replace H := H.2
    refine gs_E.stp (pc' := 73) (ls' := [gp_r (some 74), gp_i v1, gp_i v2, gp_i v3, gp_i v4, gp_i v5, gp_l v6, gp_n, gp_l (gp_L s1 76 (gp_wr ((gp_wr (64 * v1)) + v2)).toNat), gp_n, gp_i 0]) (st' := []) (s' := s1) 3 rfl ?_
    exact H
  · replace H := H.1 (Decidable.byContradiction hc)
    refine gs_E.stp (pc' := 37) (ls' := [gp_r (some 74), gp_i v1, gp_i v2, gp_i v3, gp_i v4, gp_i v5, gp_l v6, gp_n, gp_i v8, v9, v10]) (st' := [gp_i v8, gp_l v6, gp_i v3, gp_r (some 74), gp_i v3, gp_i v2, gp_i v1, gp_r (some 74)]) (s' := s1) 8 rfl ?_
    refine gs_E.call (args := [gp_r (some 74), gp_i v3, gp_l v6, gp_i v8]) (m := 8) (y' := 3092) (st' := [gp_i v3, gp_i v2, gp_i v1, gp_r (some 74)]) rfl H (fun r s3 H => ?_)
    obtain ⟨x4, rfl, H⟩ := H
    show gs_E L (d + 1) 3108 40 [gp_r (some 74), gp_i v1, gp_i v2, gp_i v3, gp_i v4, gp_i v5, gp_l v6, gp_n, gp_i v8, v9, v10] [gp_i x4, gp_i v3, gp_i v2, gp_i v1, gp_r (some 74)] s3 K
    refine gs_E.stp (pc' := 42) (ls' := [gp_r (some 74), gp_i v1, gp_i v2, gp_i v3, gp_i v4, gp_i v5, gp_l v6, gp_n, gp_i v8, v9, v10]) (st' := [gp_i v5, gp_i x4, gp_i v3, gp_i v2, gp_i v1, gp_r (some 74)]) (s' := s3) 1 rfl ?_
    refine gs_E.call (args := [gp_r (some 74), gp_i v1, gp_i v2, gp_i v3, gp_i x4, gp_i v5]) (m := 7) (y' := 3105) (st' := []) rfl H (fun r s5 H => ?_)
    obtain ⟨x6, rfl, H⟩ := H
    show gs_E L (d + 1) 3108 45 [gp_r (some 74), gp_i v1, gp_i v2, gp_i v3, gp_i v4, gp_i v5, gp_l v6, gp_n, gp_i v8, v9, v10] [gp_i x6] s5 K
    refine gs_E.br (c := x6 = 0) (p1 := 51) (p2 := 48) (l1 := [gp_r (some 74), gp_i v1, gp_i v2, gp_i v3, gp_i v4, gp_i v5, gp_l v6, gp_n, gp_i v8, v9, v10]) (l2 := [gp_r (some 74), gp_i v1, gp_i v2, gp_i v3, gp_i v4, gp_i v5, gp_l v6, gp_n, gp_i v8, v9, v10]) (s1 := []) (s2 := []) rfl gs_b1 (fun hc => ?_) (fun hc => ?_)
    · replace H := H.1 hc
      refine gs_E.stp (pc' := 17) (ls' := [gp_r (some 74), gp_i v1, gp_i v2, gp_i v3, gp_i v4, gp_i v5, gp_l v6, gp_n, gp_i (gp_wr (v8 + 1)), v9, v10]) (st' := []) (s' := s5) 2 rfl ?_
      exact H
    · replace H := H.2 hc
      refine gs_E.stp (pc' := 50) (ls' := [gp_r (some 74), gp_i v1, gp_i v2, gp_i v3, gp_i v4, gp_i v5, gp_l v6, gp_n, gp_i v8, v9, v10]) (st' := [gp_i v8]) (s' := s5) 1 rfl ?_
      exact gs_E.ret (r := (some (gp_i v8))) rfl H

set_option maxRecDepth 100000 in
/-- GatheredPointsModel.answerRight, pc 73 -/
theorem s_3108_73 {L d : Nat} {K : Option gV → gH → Prop} {s : gH} (v1 : Int) (v2 : Int) (v3 : Int) (v4 : Int) (v5 : Int) (v6 : BitVec 64) (v8 : BitVec 64) (v10 : Int) (H : gs_C L d 3079 4 [gp_l v8] s (fun r s1 => ∃ x2, r = some (gp_i x2) ∧ ((v10 < x2 → gs_C L d 3092 8 [gp_r (some 74), gp_i v1, gp_l v8, gp_i v10] s1 (fun r s3 => ∃ x4, r = some (gp_i x4) ∧ gs_C L d 3105 7 [gp_r (some 74), gp_i v1, gp_i x4, gp_i v3, gp_i v4, gp_i v5] s3 (fun r s5 => ∃ x6, r = some (gp_i x6) ∧ ((x6 = 0 → gs_E L (d + 1) 3108 73 [gp_r (some 74), gp_i v1, gp_i v2, gp_i v3, gp_i v4, gp_i v5, gp_l v6, gp_n, gp_l v8, gp_n, gp_i (gp_wr (v10 + 1))] [] s5 K) ∧ (¬ x6 = 0 → K (some (gp_i (gp_wr (100 + v10)))) s5))))) ∧ (¬ v10 < x2 → K (some (gp_i (-1))) s1)))) : gs_E L (d + 1) 3108 73 [gp_r (some 74), gp_i v1, gp_i v2, gp_i v3, gp_i v4, gp_i v5, gp_l v6, gp_n, gp_l v8, gp_n, gp_i v10] [] s K := by
  refine gs_E.stp (pc' := 77) (ls' := [gp_r (some 74), gp_i v1, gp_i v2, gp_i v3, gp_i v4, gp_i v5, gp_l v6, gp_n, gp_l v8, gp_n, gp_i v10]) (st' := [gp_l v8, gp_i v10]) (s' := s) 2 rfl ?_
  refine gs_E.call (args := [gp_l v8]) (m := 4) (y' := 3079) (st' := [gp_i v10]) rfl H (fun r s1 H => ?_)
  obtain ⟨x2, rfl, H⟩ := H
  show gs_E L (d + 1) 3108 80 [gp_r (some 74), gp_i v1, gp_i v2, gp_i v3, gp_i v4, gp_i v5, gp_l v6, gp_n, gp_l v8, gp_n, gp_i v10] [gp_i x2, gp_i v10] s1 K
  refine gs_E.br (c := ¬ v10 < x2) (p1 := 117) (p2 := 83) (l1 := [gp_r (some 74), gp_i v1, gp_i v2, gp_i v3, gp_i v4, gp_i v5, gp_l v6, gp_n, gp_l v8, gp_n, gp_i v10]) (l2 := [gp_r (some 74), gp_i v1, gp_i v2, gp_i v3, gp_i v4, gp_i v5, gp_l v6, gp_n, gp_l v8, gp_n, gp_i v10]) (s1 := []) (s2 := []) rfl gs_b2 (fun hc => ?_) (fun hc => ?_)
  · replace H := H.2 hc
    refine gs_E.stp (pc' := 118) (ls' := [gp_r (some 74), gp_i v1, gp_i v2, gp_i v3, gp_i v4, gp_i v5, gp_l v6, gp_n, gp_l v8, gp_n, gp_i v10]) (st' := [gp_i (-1)]) (s' := s1) 1 rfl ?_
    exact gs_E.ret (r := (some (gp_i (-1)))) rfl H
  · replace H := H.1 (Decidable.byContradiction hc)
    refine gs_E.stp (pc' := 91) (ls' := [gp_r (some 74), gp_i v1, gp_i v2, gp_i v3, gp_i v4, gp_i v5, gp_l v6, gp_n, gp_l v8, gp_n, gp_i v10]) (st' := [gp_i v10, gp_l v8, gp_i v1, gp_r (some 74), gp_i v1, gp_r (some 74)]) (s' := s1) 6 rfl ?_
    refine gs_E.call (args := [gp_r (some 74), gp_i v1, gp_l v8, gp_i v10]) (m := 8) (y' := 3092) (st' := [gp_i v1, gp_r (some 74)]) rfl H (fun r s3 H => ?_)
    obtain ⟨x4, rfl, H⟩ := H
    show gs_E L (d + 1) 3108 94 [gp_r (some 74), gp_i v1, gp_i v2, gp_i v3, gp_i v4, gp_i v5, gp_l v6, gp_n, gp_l v8, gp_n, gp_i v10] [gp_i x4, gp_i v1, gp_r (some 74)] s3 K
    refine gs_E.stp (pc' := 99) (ls' := [gp_r (some 74), gp_i v1, gp_i v2, gp_i v3, gp_i v4, gp_i v5, gp_l v6, gp_n, gp_l v8, gp_n, gp_i v10]) (st' := [gp_i v5, gp_i v4, gp_i v3, gp_i x4, gp_i v1, gp_r (some 74)]) (s' := s3) 3 rfl ?_
    refine gs_E.call (args := [gp_r (some 74), gp_i v1, gp_i x4, gp_i v3, gp_i v4, gp_i v5]) (m := 7) (y' := 3105) (st' := []) rfl H (fun r s5 H => ?_)
    obtain ⟨x6, rfl, H⟩ := H
    show gs_E L (d + 1) 3108 102 [gp_r (some 74), gp_i v1, gp_i v2, gp_i v3, gp_i v4, gp_i v5, gp_l v6, gp_n, gp_l v8, gp_n, gp_i v10] [gp_i x6] s5 K
    refine gs_E.br (c := x6 = 0) (p1 := 111) (p2 := 105) (l1 := [gp_r (some 74), gp_i v1, gp_i v2, gp_i v3, gp_i v4, gp_i v5, gp_l v6, gp_n, gp_l v8, gp_n, gp_i v10]) (l2 := [gp_r (some 74), gp_i v1, gp_i v2, gp_i v3, gp_i v4, gp_i v5, gp_l v6, gp_n, gp_l v8, gp_n, gp_i v10]) (s1 := []) (s2 := []) rfl gs_b1 (fun hc => ?_) (fun hc => ?_)
    · replace H := H.1 hc
      refine gs_E.stp (pc' := 73) (ls' := [gp_r (some 74), gp_i v1, gp_i v2, gp_i v3, gp_i v4, gp_i v5, gp_l v6, gp_n, gp_l v8, gp_n, gp_i (gp_wr (v10 + 1))]) (st' := []) (s' := s5) 2 rfl ?_
      exact H
    · replace H := H.2 hc
      refine gs_E.stp (pc' := 110) (ls' := [gp_r (some 74), gp_i v1, gp_i v2, gp_i v3, gp_i v4, gp_i v5, gp_l v6, gp_n, gp_l v8, gp_n, gp_i v10]) (st' := [gp_i (gp_wr (100 + v10))]) (s' := s5) 3 rfl ?_
      exact gs_E.ret (r := (some (gp_i (gp_wr (100 + v10))))) rfl H

set_option maxRecDepth 100000 in
/-- GatheredPointsModel.reduces, pc 0 -/
theorem s_3109_e {L d : Nat} {K : Option gV → gH → Prop} {s : gH} (p0 : Int) (H : gs_C L d 3085 1 [gp_r (some 74)] s (fun r s1 => r = none ∧ gs_E L (d + 1) 3109 6 [gp_r (some 74), gp_i p0, gp_i 0, gp_n, gp_n, gp_n, gp_n] [] s1 K)) : gs_C L (d + 1) 3109 7 [gp_r (some 74), gp_i p0] s K := by
  show gs_E L (d + 1) 3109 0 [gp_r (some 74), gp_i p0, gp_n, gp_n, gp_n, gp_n, gp_n] [] s K
  refine gs_E.stp (pc' := 1) (ls' := [gp_r (some 74), gp_i p0, gp_n, gp_n, gp_n, gp_n, gp_n]) (st' := [gp_r (some 74)]) (s' := s) 1 rfl ?_
  refine gs_E.call (args := [gp_r (some 74)]) (m := 1) (y' := 3085) (st' := []) rfl H (fun r s1 H => ?_)
  obtain ⟨rfl, H⟩ := H
  show gs_E L (d + 1) 3109 4 [gp_r (some 74), gp_i p0, gp_n, gp_n, gp_n, gp_n, gp_n] [] s1 K
  refine gs_E.stp (pc' := 6) (ls' := [gp_r (some 74), gp_i p0, gp_i 0, gp_n, gp_n, gp_n, gp_n]) (st' := []) (s' := s1) 2 rfl ?_
  exact H

set_option maxRecDepth 100000 in
/-- GatheredPointsModel.reduces, pc 6 -/
theorem s_3109_6 {L d : Nat} {K : Option gV → gH → Prop} {s : gH} (v1 : Int) (v2 : Int) (v3 : gV) (v4 : gV) (v5 : gV) (v6 : gV) (H : ((v2 < 4096 → ((0 ≤ v2 ∧ v2 < 4096) ∧ (∀ s1, s1 = gp_wI s 98 v2.toNat 0 → gs_E L (d + 1) 3109 6 [gp_r (some 74), gp_i v1, gp_i (gp_wr (v2 + 1)), v3, v4, v5, v6] [] s1 K))) ∧ (¬ v2 < 4096 → gs_E L (d + 1) 3109 28 [gp_r (some 74), gp_i v1, gp_i 0, v3, v4, v5, v6] [] s K))) : gs_E L (d + 1) 3109 6 [gp_r (some 74), gp_i v1, gp_i v2, v3, v4, v5, v6] [] s K := by
  refine gs_E.stp (pc' := 10) (ls' := [gp_r (some 74), gp_i v1, gp_i v2, v3, v4, v5, v6]) (st' := [gp_i 4096, gp_i v2]) (s' := s) 2 rfl ?_
  refine gs_E.br (c := ¬ v2 < 4096) (p1 := 26) (p2 := 13) (l1 := [gp_r (some 74), gp_i v1, gp_i v2, v3, v4, v5, v6]) (l2 := [gp_r (some 74), gp_i v1, gp_i v2, v3, v4, v5, v6]) (s1 := []) (s2 := []) rfl gs_b2 (fun hc => ?_) (fun hc => ?_)
  · replace H := H.2 hc
    refine gs_E.stp (pc' := 28) (ls' := [gp_r (some 74), gp_i v1, gp_i 0, v3, v4, v5, v6]) (st' := []) (s' := s) 2 rfl ?_
    exact H
  · replace H := H.1 (Decidable.byContradiction hc)
    refine gs_E.stp (pc' := 19) (ls' := [gp_r (some 74), gp_i v1, gp_i v2, v3, v4, v5, v6]) (st' := [gp_i 0, gp_i v2, gp_r (some 98)]) (s' := s) 4 rfl ?_
    refine gs_E.ck (pc' := 20) (ls' := [gp_r (some 74), gp_i v1, gp_i v2, v3, v4, v5, v6]) (st' := []) (s' := gp_wI s 98 v2.toNat 0) rfl ⟨rfl, H.1.1, H.1.2⟩ ?_
    replace H := H.2 _ rfl
    generalize gp_wI s 98 v2.toNat 0 = s1 at H ⊢
    refine gs_E.stp (pc' := 6) (ls' := [gp_r (some 74), gp_i v1, gp_i (gp_wr (v2 + 1)), v3, v4, v5, v6]) (st' := []) (s' := s1) 2 rfl ?_
    exact H

set_option maxRecDepth 100000 in
/-- GatheredPointsModel.reduces, pc 28 -/
theorem s_3109_28 {L d : Nat} {K : Option gV → gH → Prop} {s : gH} (v1 : Int) (v2 : Int) (v3 : gV) (v4 : gV) (v5 : gV) (v6 : gV) (H : ((0 ≤ v1 ∧ v1 < 85) ∧ ((v2 < (gp_I s 81 v1.toNat) → ((0 ≤ (gp_wr ((gp_wr (64 * v1)) + v2)) ∧ (gp_wr ((gp_wr (64 * v1)) + v2)) < 5440) ∧ gs_C L d 3110 7 [gp_r (some 74), gp_l (gp_L s 76 (gp_wr ((gp_wr (64 * v1)) + v2)).toNat), gp_i v2] s (fun r s2 => ∃ m3, r = some (gp_l m3) ∧ ((0 ≤ (gp_wr ((gp_wr (64 * v1)) + v2)) ∧ (gp_wr ((gp_wr (64 * v1)) + v2)) < 5440) ∧ gs_C L d 3110 7 [gp_r (some 74), gp_l (gp_L s2 77 (gp_wr ((gp_wr (64 * v1)) + v2)).toNat), gp_i v2] s2 (fun r s4 => ∃ m5, r = some (gp_l m5) ∧ ((0 ≤ (gp_wr ((gp_wr (64 * v1)) + v2)) ∧ (gp_wr ((gp_wr (64 * v1)) + v2)) < 5440) ∧ ((0 ≤ (gp_wr ((gp_wr (64 * v1)) + v2)) ∧ (gp_wr ((gp_wr (64 * v1)) + v2)) < 5440) ∧ gs_C L d 3113 10 [gp_r (some 74), gp_l m3, gp_l m5, gp_i (gp_I s4 78 (gp_wr ((gp_wr (64 * v1)) + v2)).toNat), gp_i (gp_I s4 79 (gp_wr ((gp_wr (64 * v1)) + v2)).toNat)] s4 (fun r s6 => ∃ x7, r = some (gp_i x7) ∧ ((0 ≤ v2 ∧ v2 < 64) ∧ (∀ s8, s8 = gp_wI s6 104 v2.toNat x7 → gs_E L (d + 1) 3109 28 [gp_r (some 74), gp_i v1, gp_i (gp_wr (v2 + 1)), gp_l m3, gp_n, gp_l m5, gp_n] [] s8 K)))))))))) ∧ (¬ v2 < (gp_I s 81 v1.toNat) → ((0 ≤ v1 ∧ v1 < 85) ∧ ((0 ≤ (gp_wr ((gp_I s 81 v1.toNat) - 1)) ∧ (gp_wr ((gp_I s 81 v1.toNat) - 1)) < 64) ∧ gs_C L d 3093 9 [gp_r (some 74), gp_i (gp_I s 104 (gp_wr ((gp_I s 81 v1.toNat) - 1)).toNat), gp_i 19] s (fun r s1 => r = none ∧ K none s1))))))) : gs_E L (d + 1) 3109 28 [gp_r (some 74), gp_i v1, gp_i v2, v3, v4, v5, v6] [] s K := by
  refine gs_E.stp (pc' := 34) (ls' := [gp_r (some 74), gp_i v1, gp_i v2, v3, v4, v5, v6]) (st' := [gp_i v1, gp_r (some 81), gp_i v2]) (s' := s) 4 rfl ?_
  refine gs_E.ck (pc' := 35) (ls' := [gp_r (some 74), gp_i v1, gp_i v2, v3, v4, v5, v6]) (st' := [gp_i (gp_I s 81 v1.toNat), gp_i v2]) (s' := s) rfl (Or.inl ⟨rfl, H.1.1, H.1.2⟩) ?_
  replace H := H.2
  refine gs_E.br (c := ¬ v2 < (gp_I s 81 v1.toNat)) (p1 := 114) (p2 := 38) (l1 := [gp_r (some 74), gp_i v1, gp_i v2, v3, v4, v5, v6]) (l2 := [gp_r (some 74), gp_i v1, gp_i v2, v3, v4, v5, v6]) (s1 := []) (s2 := []) rfl gs_b2 (fun hc => ?_) (fun hc => ?_)
  · replace H := H.2 hc
    refine gs_E.stp (pc' := 124) (ls' := [gp_r (some 74), gp_i v1, gp_i v2, v3, v4, v5, v6]) (st' := [gp_i v1, gp_r (some 81), gp_r (some 104), gp_r (some 74)]) (s' := s) 6 rfl ?_
    refine gs_E.ck (pc' := 125) (ls' := [gp_r (some 74), gp_i v1, gp_i v2, v3, v4, v5, v6]) (st' := [gp_i (gp_I s 81 v1.toNat), gp_r (some 104), gp_r (some 74)]) (s' := s) rfl (Or.inl ⟨rfl, H.1.1, H.1.2⟩) ?_
    replace H := H.2
    refine gs_E.stp (pc' := 127) (ls' := [gp_r (some 74), gp_i v1, gp_i v2, v3, v4, v5, v6]) (st' := [gp_i (gp_wr ((gp_I s 81 v1.toNat) - 1)), gp_r (some 104), gp_r (some 74)]) (s' := s) 2 rfl ?_
    refine gs_E.ck (pc' := 128) (ls' := [gp_r (some 74), gp_i v1, gp_i v2, v3, v4, v5, v6]) (st' := [gp_i (gp_I s 104 (gp_wr ((gp_I s 81 v1.toNat) - 1)).toNat), gp_r (some 74)]) (s' := s) rfl (Or.inl ⟨rfl, H.1.1, H.1.2⟩) ?_
    replace H := H.2
    refine gs_E.stp (pc' := 130) (ls' := [gp_r (some 74), gp_i v1, gp_i v2, v3, v4, v5, v6]) (st' := [gp_i 19, gp_i (gp_I s 104 (gp_wr ((gp_I s 81 v1.toNat) - 1)).toNat), gp_r (some 74)]) (s' := s) 1 rfl ?_
    refine gs_E.call (args := [gp_r (some 74), gp_i (gp_I s 104 (gp_wr ((gp_I s 81 v1.toNat) - 1)).toNat), gp_i 19]) (m := 9) (y' := 3093) (st' := []) rfl H (fun r s1 H => ?_)
    obtain ⟨rfl, H⟩ := H
    show gs_E L (d + 1) 3109 133 [gp_r (some 74), gp_i v1, gp_i v2, v3, v4, v5, v6] [] s1 K
    exact gs_E.ret (r := none) rfl H
  · replace H := H.1 (Decidable.byContradiction hc)
    refine gs_E.stp (pc' := 49) (ls' := [gp_r (some 74), gp_i v1, gp_i v2, v3, v4, v5, v6]) (st' := [gp_i (gp_wr ((gp_wr (64 * v1)) + v2)), gp_r (some 76), gp_r (some 74)]) (s' := s) 8 rfl ?_
    refine gs_E.ck (pc' := 50) (ls' := [gp_r (some 74), gp_i v1, gp_i v2, v3, v4, v5, v6]) (st' := [gp_l (gp_L s 76 (gp_wr ((gp_wr (64 * v1)) + v2)).toNat), gp_r (some 74)]) (s' := s) rfl ⟨rfl, H.1.1, H.1.2⟩ ?_
    replace H := H.2
    refine gs_E.stp (pc' := 51) (ls' := [gp_r (some 74), gp_i v1, gp_i v2, v3, v4, v5, v6]) (st' := [gp_i v2, gp_l (gp_L s 76 (gp_wr ((gp_wr (64 * v1)) + v2)).toNat), gp_r (some 74)]) (s' := s) 1 rfl ?_
    refine gs_E.call (args := [gp_r (some 74), gp_l (gp_L s 76 (gp_wr ((gp_wr (64 * v1)) + v2)).toNat), gp_i v2]) (m := 7) (y' := 3110) (st' := []) rfl H (fun r s2 H => ?_)
    obtain ⟨m3, rfl, H⟩ := H
    show gs_E L (d + 1) 3109 54 [gp_r (some 74), gp_i v1, gp_i v2, v3, v4, v5, v6] [gp_l m3] s2 K
    refine gs_E.stp (pc' := 66) (ls' := [gp_r (some 74), gp_i v1, gp_i v2, gp_l m3, gp_n, v5, v6]) (st' := [gp_i (gp_wr ((gp_wr (64 * v1)) + v2)), gp_r (some 77), gp_r (some 74)]) (s' := s2) 9 rfl ?_
    refine gs_E.ck (pc' := 67) (ls' := [gp_r (some 74), gp_i v1, gp_i v2, gp_l m3, gp_n, v5, v6]) (st' := [gp_l (gp_L s2 77 (gp_wr ((gp_wr (64 * v1)) + v2)).toNat), gp_r (some 74)]) (s' := s2) rfl ⟨rfl, H.1.1, H.1.2⟩ ?_
    replace H := H.2
    refine gs_E.stp (pc' := 68) (ls' := [gp_r (some 74), gp_i v1, gp_i v2, gp_l m3, gp_n, v5, v6]) (st' := [gp_i v2, gp_l (gp_L s2 77 (gp_wr ((gp_wr (64 * v1)) + v2)).toNat), gp_r (some 74)]) (s' := s2) 1 rfl ?_
    refine gs_E.call (args := [gp_r (some 74), gp_l (gp_L s2 77 (gp_wr ((gp_wr (64 * v1)) + v2)).toNat), gp_i v2]) (m := 7) (y' := 3110) (st' := []) rfl H (fun r s4 H => ?_)
    obtain ⟨m5, rfl, H⟩ := H
    show gs_E L (d + 1) 3109 71 [gp_r (some 74), gp_i v1, gp_i v2, gp_l m3, gp_n, v5, v6] [gp_l m5] s4 K
    refine gs_E.stp (pc' := 92) (ls' := [gp_r (some 74), gp_i v1, gp_i v2, gp_l m3, gp_n, gp_l m5, gp_n]) (st' := [gp_i (gp_wr ((gp_wr (64 * v1)) + v2)), gp_r (some 78), gp_l m5, gp_l m3, gp_r (some 74), gp_i v2, gp_r (some 104)]) (s' := s4) 14 rfl ?_
    refine gs_E.ck (pc' := 93) (ls' := [gp_r (some 74), gp_i v1, gp_i v2, gp_l m3, gp_n, gp_l m5, gp_n]) (st' := [gp_i (gp_I s4 78 (gp_wr ((gp_wr (64 * v1)) + v2)).toNat), gp_l m5, gp_l m3, gp_r (some 74), gp_i v2, gp_r (some 104)]) (s' := s4) rfl (Or.inl ⟨rfl, H.1.1, H.1.2⟩) ?_
    replace H := H.2
    refine gs_E.stp (pc' := 103) (ls' := [gp_r (some 74), gp_i v1, gp_i v2, gp_l m3, gp_n, gp_l m5, gp_n]) (st' := [gp_i (gp_wr ((gp_wr (64 * v1)) + v2)), gp_r (some 79), gp_i (gp_I s4 78 (gp_wr ((gp_wr (64 * v1)) + v2)).toNat), gp_l m5, gp_l m3, gp_r (some 74), gp_i v2, gp_r (some 104)]) (s' := s4) 7 rfl ?_
    refine gs_E.ck (pc' := 104) (ls' := [gp_r (some 74), gp_i v1, gp_i v2, gp_l m3, gp_n, gp_l m5, gp_n]) (st' := [gp_i (gp_I s4 79 (gp_wr ((gp_wr (64 * v1)) + v2)).toNat), gp_i (gp_I s4 78 (gp_wr ((gp_wr (64 * v1)) + v2)).toNat), gp_l m5, gp_l m3, gp_r (some 74), gp_i v2, gp_r (some 104)]) (s' := s4) rfl (Or.inl ⟨rfl, H.1.1, H.1.2⟩) ?_
    replace H := H.2
    refine gs_E.call (args := [gp_r (some 74), gp_l m3, gp_l m5, gp_i (gp_I s4 78 (gp_wr ((gp_wr (64 * v1)) + v2)).toNat), gp_i (gp_I s4 79 (gp_wr ((gp_wr (64 * v1)) + v2)).toNat)]) (m := 10) (y' := 3113) (st' := [gp_i v2, gp_r (some 104)]) rfl H (fun r s6 H => ?_)
    obtain ⟨x7, rfl, H⟩ := H
    show gs_E L (d + 1) 3109 107 [gp_r (some 74), gp_i v1, gp_i v2, gp_l m3, gp_n, gp_l m5, gp_n] [gp_i x7, gp_i v2, gp_r (some 104)] s6 K
    refine gs_E.ck (pc' := 108) (ls' := [gp_r (some 74), gp_i v1, gp_i v2, gp_l m3, gp_n, gp_l m5, gp_n]) (st' := []) (s' := gp_wI s6 104 v2.toNat x7) rfl ⟨rfl, H.1.1, H.1.2⟩ ?_
    replace H := H.2 _ rfl
    generalize gp_wI s6 104 v2.toNat x7 = s8 at H ⊢
    refine gs_E.stp (pc' := 28) (ls' := [gp_r (some 74), gp_i v1, gp_i (gp_wr (v2 + 1)), gp_l m3, gp_n, gp_l m5, gp_n]) (st' := []) (s' := s8) 2 rfl ?_
    exact H

set_option maxRecDepth 100000 in
/-- GatheredPointsModel.reducedSet, pc 0 -/
theorem s_3110_e {L d : Nat} {K : Option gV → gH → Prop} {s : gH} (p0 : BitVec 64) (p1 : Int) (H : gs_E L (d + 1) 3110 6 [gp_r (some 74), gp_l p0, gp_n, gp_i p1, gp_l (0#64), gp_n, gp_i 0] [] s K) : gs_C L (d + 1) 3110 7 [gp_r (some 74), gp_l p0, gp_i p1] s K := by
  show gs_E L (d + 1) 3110 0 [gp_r (some 74), gp_l p0, gp_n, gp_i p1, gp_n, gp_n, gp_n] [] s K
  refine gs_E.stp (pc' := 6) (ls' := [gp_r (some 74), gp_l p0, gp_n, gp_i p1, gp_l (0#64), gp_n, gp_i 0]) (st' := []) (s' := s) 4 rfl ?_
  exact H

set_option maxRecDepth 100000 in
/-- GatheredPointsModel.reducedSet, pc 6 -/
theorem s_3110_6 {L d : Nat} {K : Option gV → gH → Prop} {s : gH} (v1 : BitVec 64) (v3 : Int) (v4 : BitVec 64) (v6 : Int) (H : ((v6 < v3 → gs_C L d 3078 3 [gp_l v1, gp_i v6] s (fun r s1 => ∃ x2, r = some (gp_i x2) ∧ ((x2 = 0 → gs_E L (d + 1) 3110 36 [gp_r (some 74), gp_l v1, gp_n, gp_i v3, gp_l v4, gp_n, gp_i v6] [gp_l (0#64), gp_l v4] s1 K) ∧ (¬ x2 = 0 → ((0 ≤ v6 ∧ v6 < 64) ∧ gs_E L (d + 1) 3110 36 [gp_r (some 74), gp_l v1, gp_n, gp_i v3, gp_l v4, gp_n, gp_i v6] [gp_l ((1#64) <<< ((gp_I s1 104 v6.toNat) % 64).toNat), gp_l v4] s1 K))))) ∧ (¬ v6 < v3 → K (some (gp_l v4)) s))) : gs_E L (d + 1) 3110 6 [gp_r (some 74), gp_l v1, gp_n, gp_i v3, gp_l v4, gp_n, gp_i v6] [] s K := by
  refine gs_E.stp (pc' := 9) (ls' := [gp_r (some 74), gp_l v1, gp_n, gp_i v3, gp_l v4, gp_n, gp_i v6]) (st' := [gp_i v3, gp_i v6]) (s' := s) 2 rfl ?_
  refine gs_E.br (c := ¬ v6 < v3) (p1 := 45) (p2 := 12) (l1 := [gp_r (some 74), gp_l v1, gp_n, gp_i v3, gp_l v4, gp_n, gp_i v6]) (l2 := [gp_r (some 74), gp_l v1, gp_n, gp_i v3, gp_l v4, gp_n, gp_i v6]) (s1 := []) (s2 := []) rfl gs_b2 (fun hc => ?_) (fun hc => ?_)
  · replace H := H.2 hc
    refine gs_E.stp (pc' := 47) (ls' := [gp_r (some 74), gp_l v1, gp_n, gp_i v3, gp_l v4, gp_n, gp_i v6]) (st' := [gp_l v4]) (s' := s) 1 rfl ?_
    exact gs_E.ret (r := (some (gp_l v4))) rfl H
  · replace H := H.1 (Decidable.byContradiction hc)
    refine gs_E.stp (pc' := 17) (ls' := [gp_r (some 74), gp_l v1, gp_n, gp_i v3, gp_l v4, gp_n, gp_i v6]) (st' := [gp_i v6, gp_l v1, gp_l v4]) (s' := s) 3 rfl ?_
    refine gs_E.call (args := [gp_l v1, gp_i v6]) (m := 3) (y' := 3078) (st' := [gp_l v4]) rfl H (fun r s1 H => ?_)
    obtain ⟨x2, rfl, H⟩ := H
    show gs_E L (d + 1) 3110 20 [gp_r (some 74), gp_l v1, gp_n, gp_i v3, gp_l v4, gp_n, gp_i v6] [gp_i x2, gp_l v4] s1 K
    refine gs_E.br (c := x2 = 0) (p1 := 35) (p2 := 23) (l1 := [gp_r (some 74), gp_l v1, gp_n, gp_i v3, gp_l v4, gp_n, gp_i v6]) (l2 := [gp_r (some 74), gp_l v1, gp_n, gp_i v3, gp_l v4, gp_n, gp_i v6]) (s1 := [gp_l v4]) (s2 := [gp_l v4]) rfl gs_b1 (fun hc => ?_) (fun hc => ?_)
    · replace H := H.1 hc
      refine gs_E.stp (pc' := 36) (ls' := [gp_r (some 74), gp_l v1, gp_n, gp_i v3, gp_l v4, gp_n, gp_i v6]) (st' := [gp_l (0#64), gp_l v4]) (s' := s1) 1 rfl ?_
      exact H
    · replace H := H.2 hc
      refine gs_E.stp (pc' := 30) (ls' := [gp_r (some 74), gp_l v1, gp_n, gp_i v3, gp_l v4, gp_n, gp_i v6]) (st' := [gp_i v6, gp_r (some 104), gp_l (1#64), gp_l v4]) (s' := s1) 4 rfl ?_
      refine gs_E.ck (pc' := 31) (ls' := [gp_r (some 74), gp_l v1, gp_n, gp_i v3, gp_l v4, gp_n, gp_i v6]) (st' := [gp_i (gp_I s1 104 v6.toNat), gp_l (1#64), gp_l v4]) (s' := s1) rfl (Or.inl ⟨rfl, H.1.1, H.1.2⟩) ?_
      replace H := H.2
      refine gs_E.stp (pc' := 36) (ls' := [gp_r (some 74), gp_l v1, gp_n, gp_i v3, gp_l v4, gp_n, gp_i v6]) (st' := [gp_l ((1#64) <<< ((gp_I s1 104 v6.toNat) % 64).toNat), gp_l v4]) (s' := s1) 2 rfl ?_
      exact H

set_option maxRecDepth 100000 in
/-- GatheredPointsModel.reducedSet, pc 36 -/
theorem s_3110_36 {L d : Nat} {K : Option gV → gH → Prop} {s : gH} (v1 : BitVec 64) (v3 : Int) (v4 : BitVec 64) (v6 : Int) (w0 : BitVec 64) (w1 : BitVec 64) (H : gs_E L (d + 1) 3110 6 [gp_r (some 74), gp_l v1, gp_n, gp_i v3, gp_l (w0 ||| w1), gp_n, gp_i (gp_wr (v6 + 1))] [] s K) : gs_E L (d + 1) 3110 36 [gp_r (some 74), gp_l v1, gp_n, gp_i v3, gp_l v4, gp_n, gp_i v6] [gp_l w1, gp_l w0] s K := by
  refine gs_E.stp (pc' := 6) (ls' := [gp_r (some 74), gp_l v1, gp_n, gp_i v3, gp_l (w0 ||| w1), gp_n, gp_i (gp_wr (v6 + 1))]) (st' := []) (s' := s) 4 rfl ?_
  exact H

set_option maxRecDepth 100000 in
/-- GatheredPointsModel.knows, pc 0 -/
theorem s_3111_e {L d : Nat} {K : Option gV → gH → Prop} {s : gH} (p0 : Int) (H : gs_C L d 3100 8 [gp_r (some 74), gp_i 20, gp_i p0] s (fun r s1 => r = none ∧ ((0 ≤ p0 ∧ p0 < 64) ∧ ((0 ≤ p0 ∧ p0 < 64) ∧ (∀ s2, s2 = gp_wI s1 100 p0.toNat (gp_I s1 92 p0.toNat) → ((0 ≤ p0 ∧ p0 < 64) ∧ ((0 ≤ p0 ∧ p0 < 64) ∧ (∀ s3, s3 = gp_wI s2 102 p0.toNat (gp_I s2 92 p0.toNat) → ((0 ≤ p0 ∧ p0 < 64) ∧ ((0 ≤ p0 ∧ p0 < 64) ∧ (∀ s4, s4 = gp_wI s3 101 p0.toNat (gp_I s3 93 p0.toNat) → ((0 ≤ p0 ∧ p0 < 64) ∧ ((0 ≤ p0 ∧ p0 < 64) ∧ (∀ s5, s5 = gp_wI s4 103 p0.toNat (gp_I s4 93 p0.toNat) → K none s5)))))))))))))) : gs_C L (d + 1) 3111 2 [gp_r (some 74), gp_i p0] s K := by
  show gs_E L (d + 1) 3111 0 [gp_r (some 74), gp_i p0] [] s K
  refine gs_E.stp (pc' := 4) (ls' := [gp_r (some 74), gp_i p0]) (st' := [gp_i p0, gp_i 20, gp_r (some 74)]) (s' := s) 3 rfl ?_
  refine gs_E.call (args := [gp_r (some 74), gp_i 20, gp_i p0]) (m := 8) (y' := 3100) (st' := []) rfl H (fun r s1 H => ?_)
  obtain ⟨rfl, H⟩ := H
  show gs_E L (d + 1) 3111 7 [gp_r (some 74), gp_i p0] [] s1 K
  refine gs_E.stp (pc' := 17) (ls' := [gp_r (some 74), gp_i p0]) (st' := [gp_i p0, gp_r (some 92), gp_i p0, gp_r (some 100)]) (s' := s1) 6 rfl ?_
  refine gs_E.ck (pc' := 18) (ls' := [gp_r (some 74), gp_i p0]) (st' := [gp_i (gp_I s1 92 p0.toNat), gp_i p0, gp_r (some 100)]) (s' := s1) rfl (Or.inl ⟨rfl, H.1.1, H.1.2⟩) ?_
  replace H := H.2
  refine gs_E.ck (pc' := 19) (ls' := [gp_r (some 74), gp_i p0]) (st' := []) (s' := gp_wI s1 100 p0.toNat (gp_I s1 92 p0.toNat)) rfl ⟨rfl, H.1.1, H.1.2⟩ ?_
  replace H := H.2 _ rfl
  generalize gp_wI s1 100 p0.toNat (gp_I s1 92 p0.toNat) = s2 at H ⊢
  refine gs_E.stp (pc' := 29) (ls' := [gp_r (some 74), gp_i p0]) (st' := [gp_i p0, gp_r (some 92), gp_i p0, gp_r (some 102)]) (s' := s2) 6 rfl ?_
  refine gs_E.ck (pc' := 30) (ls' := [gp_r (some 74), gp_i p0]) (st' := [gp_i (gp_I s2 92 p0.toNat), gp_i p0, gp_r (some 102)]) (s' := s2) rfl (Or.inl ⟨rfl, H.1.1, H.1.2⟩) ?_
  replace H := H.2
  refine gs_E.ck (pc' := 31) (ls' := [gp_r (some 74), gp_i p0]) (st' := []) (s' := gp_wI s2 102 p0.toNat (gp_I s2 92 p0.toNat)) rfl ⟨rfl, H.1.1, H.1.2⟩ ?_
  replace H := H.2 _ rfl
  generalize gp_wI s2 102 p0.toNat (gp_I s2 92 p0.toNat) = s3 at H ⊢
  refine gs_E.stp (pc' := 41) (ls' := [gp_r (some 74), gp_i p0]) (st' := [gp_i p0, gp_r (some 93), gp_i p0, gp_r (some 101)]) (s' := s3) 6 rfl ?_
  refine gs_E.ck (pc' := 42) (ls' := [gp_r (some 74), gp_i p0]) (st' := [gp_i (gp_I s3 93 p0.toNat), gp_i p0, gp_r (some 101)]) (s' := s3) rfl (Or.inl ⟨rfl, H.1.1, H.1.2⟩) ?_
  replace H := H.2
  refine gs_E.ck (pc' := 43) (ls' := [gp_r (some 74), gp_i p0]) (st' := []) (s' := gp_wI s3 101 p0.toNat (gp_I s3 93 p0.toNat)) rfl ⟨rfl, H.1.1, H.1.2⟩ ?_
  replace H := H.2 _ rfl
  generalize gp_wI s3 101 p0.toNat (gp_I s3 93 p0.toNat) = s4 at H ⊢
  refine gs_E.stp (pc' := 53) (ls' := [gp_r (some 74), gp_i p0]) (st' := [gp_i p0, gp_r (some 93), gp_i p0, gp_r (some 103)]) (s' := s4) 6 rfl ?_
  refine gs_E.ck (pc' := 54) (ls' := [gp_r (some 74), gp_i p0]) (st' := [gp_i (gp_I s4 93 p0.toNat), gp_i p0, gp_r (some 103)]) (s' := s4) rfl (Or.inl ⟨rfl, H.1.1, H.1.2⟩) ?_
  replace H := H.2
  refine gs_E.ck (pc' := 55) (ls' := [gp_r (some 74), gp_i p0]) (st' := []) (s' := gp_wI s4 103 p0.toNat (gp_I s4 93 p0.toNat)) rfl ⟨rfl, H.1.1, H.1.2⟩ ?_
  replace H := H.2 _ rfl
  generalize gp_wI s4 103 p0.toNat (gp_I s4 93 p0.toNat) = s5 at H ⊢
  exact gs_E.ret (r := none) rfl H

set_option maxRecDepth 100000 in
/-- GatheredPointsModel.isOver, pc 0 -/
theorem s_3112_e {L d : Nat} {K : Option gV → gH → Prop} {s : gH} (p0 : Int) (p1 : Int) (H : gs_C L d 3105 7 [gp_r (some 74), gp_i 20, gp_i p0, gp_i 20, gp_i p1, gp_i 0] s (fun r s1 => ∃ x2, r = some (gp_i x2) ∧ ((x2 = 0 ∨ x2 = 1) ∧ K (some (gp_i x2)) s1))) : gs_C L (d + 1) 3112 3 [gp_r (some 74), gp_i p0, gp_i p1] s K := by
  show gs_E L (d + 1) 3112 0 [gp_r (some 74), gp_i p0, gp_i p1] [] s K
  refine gs_E.stp (pc' := 8) (ls' := [gp_r (some 74), gp_i p0, gp_i p1]) (st' := [gp_i 0, gp_i p1, gp_i 20, gp_i p0, gp_i 20, gp_r (some 74)]) (s' := s) 6 rfl ?_
  refine gs_E.call (args := [gp_r (some 74), gp_i 20, gp_i p0, gp_i 20, gp_i p1, gp_i 0]) (m := 7) (y' := 3105) (st' := []) rfl H (fun r s1 H => ?_)
  obtain ⟨x2, rfl, H⟩ := H
  show gs_E L (d + 1) 3112 11 [gp_r (some 74), gp_i p0, gp_i p1] [gp_i x2] s1 K
  exact gs_E.retz (r := (some (gp_i x2))) rfl H.1 H.2

set_option maxRecDepth 100000 in
/-- GatheredPointsModel.reduced, pc 0 -/
theorem s_3113_e {L d : Nat} {K : Option gV → gH → Prop} {s : gH} (p0 : BitVec 64) (p1 : BitVec 64) (p2 : Int) (p3 : Int) (H : (∀ s1, s1 = gp_wL s 74 35 p0 → (∀ s2, s2 = gp_wL s1 74 36 p1 → gs_E L (d + 1) 3113 22 [gp_r (some 74), gp_l p0, gp_n, gp_l p1, gp_n, gp_i p2, gp_i p3, gp_i (gp_I s 81 20), gp_i 1, gp_n] [] s2 K))) : gs_C L (d + 1) 3113 10 [gp_r (some 74), gp_l p0, gp_l p1, gp_i p2, gp_i p3] s K := by
  show gs_E L (d + 1) 3113 0 [gp_r (some 74), gp_l p0, gp_n, gp_l p1, gp_n, gp_i p2, gp_i p3, gp_n, gp_n, gp_n] [] s K
  refine gs_E.stp (pc' := 14) (ls' := [gp_r (some 74), gp_l p0, gp_n, gp_l p1, gp_n, gp_i p2, gp_i p3, gp_i (gp_I s 81 20), gp_n, gp_n]) (st' := []) (s' := gp_wL s 74 35 p0) 8 rfl ?_
  replace H := H _ rfl
  generalize gp_wL s 74 35 p0 = s1 at H ⊢
  refine gs_E.stp (pc' := 19) (ls' := [gp_r (some 74), gp_l p0, gp_n, gp_l p1, gp_n, gp_i p2, gp_i p3, gp_i (gp_I s 81 20), gp_n, gp_n]) (st' := []) (s' := gp_wL s1 74 36 p1) 3 rfl ?_
  replace H := H _ rfl
  generalize gp_wL s1 74 36 p1 = s2 at H ⊢
  refine gs_E.stp (pc' := 22) (ls' := [gp_r (some 74), gp_l p0, gp_n, gp_l p1, gp_n, gp_i p2, gp_i p3, gp_i (gp_I s 81 20), gp_i 1, gp_n]) (st' := []) (s' := s2) 2 rfl ?_
  exact H

set_option maxRecDepth 100000 in
/-- GatheredPointsModel.reduced, pc 22 -/
theorem s_3113_22 {L d : Nat} {K : Option gV → gH → Prop} {s : gH} (v1 : BitVec 64) (v3 : BitVec 64) (v5 : Int) (v6 : Int) (v7 : Int) (v8 : Int) (v9 : gV) (H : ((v8 = 0 → gs_C L d 3088 9 [gp_r (some 74), gp_l (gp_L s 74 35), gp_l (gp_L s 74 36), gp_i v5, gp_i v6] s (fun r s1 => ∃ x2, r = some (gp_i x2) ∧ gs_C L d 3111 2 [gp_r (some 74), gp_i x2] s1 (fun r s3 => r = none ∧ K (some (gp_i x2)) s3))) ∧ (¬ v8 = 0 → gs_C L d 3087 9 [gp_r (some 74), gp_i v7, gp_l (gp_L s 74 35), gp_l (gp_L s 74 36), gp_i v5, gp_i v6] s (fun r s4 => r = none ∧ gs_C L d 3111 2 [gp_r (some 74), gp_i v7] s4 (fun r s5 => r = none ∧ gs_E L (d + 1) 3113 54 [gp_r (some 74), gp_l v1, gp_n, gp_l v3, gp_n, gp_i v5, gp_i v6, gp_i v7, gp_i v8, gp_i 0] [] s5 K))))) : gs_E L (d + 1) 3113 22 [gp_r (some 74), gp_l v1, gp_n, gp_l v3, gp_n, gp_i v5, gp_i v6, gp_i v7, gp_i v8, v9] [] s K := by
  refine gs_E.stp (pc' := 24) (ls' := [gp_r (some 74), gp_l v1, gp_n, gp_l v3, gp_n, gp_i v5, gp_i v6, gp_i v7, gp_i v8, v9]) (st' := [gp_i v8]) (s' := s) 1 rfl ?_
  refine gs_E.br (c := v8 = 0) (p1 := 137) (p2 := 27) (l1 := [gp_r (some 74), gp_l v1, gp_n, gp_l v3, gp_n, gp_i v5, gp_i v6, gp_i v7, gp_i v8, v9]) (l2 := [gp_r (some 74), gp_l v1, gp_n, gp_l v3, gp_n, gp_i v5, gp_i v6, gp_i v7, gp_i v8, v9]) (s1 := []) (s2 := []) rfl gs_b1 (fun hc => ?_) (fun hc => ?_)
  · replace H := H.1 hc
    refine gs_E.stp (pc' := 150) (ls' := [gp_r (some 74), gp_l v1, gp_n, gp_l v3, gp_n, gp_i v5, gp_i v6, gp_i v7, gp_i v8, v9]) (st' := [gp_i v6, gp_i v5, gp_l (gp_L s 74 36), gp_l (gp_L s 74 35), gp_r (some 74)]) (s' := s) 7 rfl ?_
    refine gs_E.call (args := [gp_r (some 74), gp_l (gp_L s 74 35), gp_l (gp_L s 74 36), gp_i v5, gp_i v6]) (m := 9) (y' := 3088) (st' := []) rfl H (fun r s1 H => ?_)
    obtain ⟨x2, rfl, H⟩ := H
    show gs_E L (d + 1) 3113 153 [gp_r (some 74), gp_l v1, gp_n, gp_l v3, gp_n, gp_i v5, gp_i v6, gp_i v7, gp_i v8, v9] [gp_i x2] s1 K
    refine gs_E.stp (pc' := 158) (ls' := [gp_r (some 74), gp_l v1, gp_n, gp_l v3, gp_n, gp_i v5, gp_i v6, gp_i v7, gp_i v8, gp_i x2]) (st' := [gp_i x2, gp_r (some 74)]) (s' := s1) 3 rfl ?_
    refine gs_E.call (args := [gp_r (some 74), gp_i x2]) (m := 2) (y' := 3111) (st' := []) rfl H (fun r s3 H => ?_)
    obtain ⟨rfl, H⟩ := H
    show gs_E L (d + 1) 3113 161 [gp_r (some 74), gp_l v1, gp_n, gp_l v3, gp_n, gp_i v5, gp_i v6, gp_i v7, gp_i v8, gp_i x2] [] s3 K
    refine gs_E.stp (pc' := 163) (ls' := [gp_r (some 74), gp_l v1, gp_n, gp_l v3, gp_n, gp_i v5, gp_i v6, gp_i v7, gp_i v8, gp_i x2]) (st' := [gp_i x2]) (s' := s3) 1 rfl ?_
    exact gs_E.ret (r := (some (gp_i x2))) rfl H
  · replace H := H.2 hc
    refine gs_E.stp (pc' := 42) (ls' := [gp_r (some 74), gp_l v1, gp_n, gp_l v3, gp_n, gp_i v5, gp_i v6, gp_i v7, gp_i v8, v9]) (st' := [gp_i v6, gp_i v5, gp_l (gp_L s 74 36), gp_l (gp_L s 74 35), gp_i v7, gp_r (some 74)]) (s' := s) 8 rfl ?_
    refine gs_E.call (args := [gp_r (some 74), gp_i v7, gp_l (gp_L s 74 35), gp_l (gp_L s 74 36), gp_i v5, gp_i v6]) (m := 9) (y' := 3087) (st' := []) rfl H (fun r s4 H => ?_)
    obtain ⟨rfl, H⟩ := H
    show gs_E L (d + 1) 3113 45 [gp_r (some 74), gp_l v1, gp_n, gp_l v3, gp_n, gp_i v5, gp_i v6, gp_i v7, gp_i v8, v9] [] s4 K
    refine gs_E.stp (pc' := 48) (ls' := [gp_r (some 74), gp_l v1, gp_n, gp_l v3, gp_n, gp_i v5, gp_i v6, gp_i v7, gp_i v8, v9]) (st' := [gp_i v7, gp_r (some 74)]) (s' := s4) 2 rfl ?_
    refine gs_E.call (args := [gp_r (some 74), gp_i v7]) (m := 2) (y' := 3111) (st' := []) rfl H (fun r s5 H => ?_)
    obtain ⟨rfl, H⟩ := H
    show gs_E L (d + 1) 3113 51 [gp_r (some 74), gp_l v1, gp_n, gp_l v3, gp_n, gp_i v5, gp_i v6, gp_i v7, gp_i v8, v9] [] s5 K
    refine gs_E.stp (pc' := 54) (ls' := [gp_r (some 74), gp_l v1, gp_n, gp_l v3, gp_n, gp_i v5, gp_i v6, gp_i v7, gp_i v8, gp_i 0]) (st' := []) (s' := s5) 2 rfl ?_
    exact H

set_option maxRecDepth 100000 in
/-- GatheredPointsModel.reduced, pc 54 -/
theorem s_3113_54 {L d : Nat} {K : Option gV → gH → Prop} {s : gH} (v1 : BitVec 64) (v3 : BitVec 64) (v5 : Int) (v6 : Int) (v7 : Int) (v8 : Int) (v9 : Int) (H : ((v9 < 64 → ((0 ≤ (gp_wr ((gp_wr (64 * v7)) + v9)) ∧ (gp_wr ((gp_wr (64 * v7)) + v9)) < 4096) ∧ (∀ s9, s9 = gp_wI s 98 (gp_wr ((gp_wr (64 * v7)) + v9)).toNat 0 → ((0 ≤ (gp_wr ((gp_wr (64 * v9)) + v7)) ∧ (gp_wr ((gp_wr (64 * v9)) + v7)) < 4096) ∧ (∀ s10, s10 = gp_wI s9 98 (gp_wr ((gp_wr (64 * v9)) + v7)).toNat 0 → gs_E L (d + 1) 3113 54 [gp_r (some 74), gp_l v1, gp_n, gp_l v3, gp_n, gp_i v5, gp_i v6, gp_i v7, gp_i v8, gp_i (gp_wr (v9 + 1))] [] s10 K))))) ∧ (¬ v9 < 64 → gs_C L d 3114 8 [gp_r (some 74), gp_i v7] s (fun r s1 => ∃ x2, r = some (gp_i x2) ∧ ((x2 = 0 → gs_C L d 3115 8 [gp_r (some 74), gp_i v7] s1 (fun r s3 => ∃ x4, r = some (gp_i x4) ∧ ((x4 = 0 → gs_C L d 3116 5 [gp_r (some 74)] s3 (fun r s5 => ∃ x6, r = some (gp_i x6) ∧ ((x6 = 0 → gs_C L d 3117 5 [gp_r (some 74)] s5 (fun r s7 => ∃ x8, r = some (gp_i x8) ∧ ((x8 = 0 → gs_E L (d + 1) 3113 132 [gp_r (some 74), gp_l v1, gp_n, gp_l v3, gp_n, gp_i v5, gp_i v6, gp_i v7, gp_i v8, gp_i v9] [gp_i 0] s7 K) ∧ (¬ x8 = 0 → gs_E L (d + 1) 3113 127 [gp_r (some 74), gp_l v1, gp_n, gp_l v3, gp_n, gp_i v5, gp_i v6, gp_i v7, gp_i v8, gp_i v9] [] s7 K)))) ∧ (¬ x6 = 0 → gs_E L (d + 1) 3113 127 [gp_r (some 74), gp_l v1, gp_n, gp_l v3, gp_n, gp_i v5, gp_i v6, gp_i v7, gp_i v8, gp_i v9] [] s5 K)))) ∧ (¬ x4 = 0 → gs_E L (d + 1) 3113 127 [gp_r (some 74), gp_l v1, gp_n, gp_l v3, gp_n, gp_i v5, gp_i v6, gp_i v7, gp_i v8, gp_i v9] [] s3 K)))) ∧ (¬ x2 = 0 → gs_E L (d + 1) 3113 127 [gp_r (some 74), gp_l v1, gp_n, gp_l v3, gp_n, gp_i v5, gp_i v6, gp_i v7, gp_i v8, gp_i v9] [] s1 K)))))) : gs_E L (d + 1) 3113 54 [gp_r (some 74), gp_l v1, gp_n, gp_l v3, gp_n, gp_i v5, gp_i v6, gp_i v7, gp_i v8, gp_i v9] [] s K := by
  refine gs_E.stp (pc' := 58) (ls' := [gp_r (some 74), gp_l v1, gp_n, gp_l v3, gp_n, gp_i v5, gp_i v6, gp_i v7, gp_i v8, gp_i v9]) (st' := [gp_i 64, gp_i v9]) (s' := s) 2 rfl ?_
  refine gs_E.br (c := ¬ v9 < 64) (p1 := 95) (p2 := 61) (l1 := [gp_r (some 74), gp_l v1, gp_n, gp_l v3, gp_n, gp_i v5, gp_i v6, gp_i v7, gp_i v8, gp_i v9]) (l2 := [gp_r (some 74), gp_l v1, gp_n, gp_l v3, gp_n, gp_i v5, gp_i v6, gp_i v7, gp_i v8, gp_i v9]) (s1 := []) (s2 := []) rfl gs_b2 (fun hc => ?_) (fun hc => ?_)
  · replace H := H.2 hc
    refine gs_E.stp (pc' := 98) (ls' := [gp_r (some 74), gp_l v1, gp_n, gp_l v3, gp_n, gp_i v5, gp_i v6, gp_i v7, gp_i v8, gp_i v9]) (st' := [gp_i v7, gp_r (some 74)]) (s' := s) 2 rfl ?_
    refine gs_E.call (args := [gp_r (some 74), gp_i v7]) (m := 8) (y' := 3114) (st' := []) rfl H (fun r s1 H => ?_)
    obtain ⟨x2, rfl, H⟩ := H
    show gs_E L (d + 1) 3113 101 [gp_r (some 74), gp_l v1, gp_n, gp_l v3, gp_n, gp_i v5, gp_i v6, gp_i v7, gp_i v8, gp_i v9] [gp_i x2] s1 K
    refine gs_E.br (c := ¬ x2 = 0) (p1 := 127) (p2 := 104) (l1 := [gp_r (some 74), gp_l v1, gp_n, gp_l v3, gp_n, gp_i v5, gp_i v6, gp_i v7, gp_i v8, gp_i v9]) (l2 := [gp_r (some 74), gp_l v1, gp_n, gp_l v3, gp_n, gp_i v5, gp_i v6, gp_i v7, gp_i v8, gp_i v9]) (s1 := []) (s2 := []) rfl gs_b2 (fun hc => ?_) (fun hc => ?_)
    · replace H := H.2 hc
      exact H
    · replace H := H.1 (Decidable.byContradiction hc)
      refine gs_E.stp (pc' := 107) (ls' := [gp_r (some 74), gp_l v1, gp_n, gp_l v3, gp_n, gp_i v5, gp_i v6, gp_i v7, gp_i v8, gp_i v9]) (st' := [gp_i v7, gp_r (some 74)]) (s' := s1) 2 rfl ?_
      refine gs_E.call (args := [gp_r (some 74), gp_i v7]) (m := 8) (y' := 3115) (st' := []) rfl H (fun r s3 H => ?_)
      obtain ⟨x4, rfl, H⟩ := H
      show gs_E L (d + 1) 3113 110 [gp_r (some 74), gp_l v1, gp_n, gp_l v3, gp_n, gp_i v5, gp_i v6, gp_i v7, gp_i v8, gp_i v9] [gp_i x4] s3 K
      refine gs_E.br (c := ¬ x4 = 0) (p1 := 127) (p2 := 113) (l1 := [gp_r (some 74), gp_l v1, gp_n, gp_l v3, gp_n, gp_i v5, gp_i v6, gp_i v7, gp_i v8, gp_i v9]) (l2 := [gp_r (some 74), gp_l v1, gp_n, gp_l v3, gp_n, gp_i v5, gp_i v6, gp_i v7, gp_i v8, gp_i v9]) (s1 := []) (s2 := []) rfl gs_b2 (fun hc => ?_) (fun hc => ?_)
      · replace H := H.2 hc
        exact H
      · replace H := H.1 (Decidable.byContradiction hc)
        refine gs_E.stp (pc' := 114) (ls' := [gp_r (some 74), gp_l v1, gp_n, gp_l v3, gp_n, gp_i v5, gp_i v6, gp_i v7, gp_i v8, gp_i v9]) (st' := [gp_r (some 74)]) (s' := s3) 1 rfl ?_
        refine gs_E.call (args := [gp_r (some 74)]) (m := 5) (y' := 3116) (st' := []) rfl H (fun r s5 H => ?_)
        obtain ⟨x6, rfl, H⟩ := H
        show gs_E L (d + 1) 3113 117 [gp_r (some 74), gp_l v1, gp_n, gp_l v3, gp_n, gp_i v5, gp_i v6, gp_i v7, gp_i v8, gp_i v9] [gp_i x6] s5 K
        refine gs_E.br (c := ¬ x6 = 0) (p1 := 127) (p2 := 120) (l1 := [gp_r (some 74), gp_l v1, gp_n, gp_l v3, gp_n, gp_i v5, gp_i v6, gp_i v7, gp_i v8, gp_i v9]) (l2 := [gp_r (some 74), gp_l v1, gp_n, gp_l v3, gp_n, gp_i v5, gp_i v6, gp_i v7, gp_i v8, gp_i v9]) (s1 := []) (s2 := []) rfl gs_b2 (fun hc => ?_) (fun hc => ?_)
        · replace H := H.2 hc
          exact H
        · replace H := H.1 (Decidable.byContradiction hc)
          refine gs_E.stp (pc' := 121) (ls' := [gp_r (some 74), gp_l v1, gp_n, gp_l v3, gp_n, gp_i v5, gp_i v6, gp_i v7, gp_i v8, gp_i v9]) (st' := [gp_r (some 74)]) (s' := s5) 1 rfl ?_
          refine gs_E.call (args := [gp_r (some 74)]) (m := 5) (y' := 3117) (st' := []) rfl H (fun r s7 H => ?_)
          obtain ⟨x8, rfl, H⟩ := H
          show gs_E L (d + 1) 3113 124 [gp_r (some 74), gp_l v1, gp_n, gp_l v3, gp_n, gp_i v5, gp_i v6, gp_i v7, gp_i v8, gp_i v9] [gp_i x8] s7 K
          refine gs_E.br (c := x8 = 0) (p1 := 131) (p2 := 127) (l1 := [gp_r (some 74), gp_l v1, gp_n, gp_l v3, gp_n, gp_i v5, gp_i v6, gp_i v7, gp_i v8, gp_i v9]) (l2 := [gp_r (some 74), gp_l v1, gp_n, gp_l v3, gp_n, gp_i v5, gp_i v6, gp_i v7, gp_i v8, gp_i v9]) (s1 := []) (s2 := []) rfl gs_b1 (fun hc => ?_) (fun hc => ?_)
          · replace H := H.1 hc
            refine gs_E.stp (pc' := 132) (ls' := [gp_r (some 74), gp_l v1, gp_n, gp_l v3, gp_n, gp_i v5, gp_i v6, gp_i v7, gp_i v8, gp_i v9]) (st' := [gp_i 0]) (s' := s7) 1 rfl ?_
            exact H
          · replace H := H.2 hc
            exact H
  · replace H := H.1 (Decidable.byContradiction hc)
    refine gs_E.stp (pc' := 74) (ls' := [gp_r (some 74), gp_l v1, gp_n, gp_l v3, gp_n, gp_i v5, gp_i v6, gp_i v7, gp_i v8, gp_i v9]) (st' := [gp_i 0, gp_i (gp_wr ((gp_wr (64 * v7)) + v9)), gp_r (some 98)]) (s' := s) 8 rfl ?_
    refine gs_E.ck (pc' := 75) (ls' := [gp_r (some 74), gp_l v1, gp_n, gp_l v3, gp_n, gp_i v5, gp_i v6, gp_i v7, gp_i v8, gp_i v9]) (st' := []) (s' := gp_wI s 98 (gp_wr ((gp_wr (64 * v7)) + v9)).toNat 0) rfl ⟨rfl, H.1.1, H.1.2⟩ ?_
    replace H := H.2 _ rfl
    generalize gp_wI s 98 (gp_wr ((gp_wr (64 * v7)) + v9)).toNat 0 = s9 at H ⊢
    refine gs_E.stp (pc' := 88) (ls' := [gp_r (some 74), gp_l v1, gp_n, gp_l v3, gp_n, gp_i v5, gp_i v6, gp_i v7, gp_i v8, gp_i v9]) (st' := [gp_i 0, gp_i (gp_wr ((gp_wr (64 * v9)) + v7)), gp_r (some 98)]) (s' := s9) 8 rfl ?_
    refine gs_E.ck (pc' := 89) (ls' := [gp_r (some 74), gp_l v1, gp_n, gp_l v3, gp_n, gp_i v5, gp_i v6, gp_i v7, gp_i v8, gp_i v9]) (st' := []) (s' := gp_wI s9 98 (gp_wr ((gp_wr (64 * v9)) + v7)).toNat 0) rfl ⟨rfl, H.1.1, H.1.2⟩ ?_
    replace H := H.2 _ rfl
    generalize gp_wI s9 98 (gp_wr ((gp_wr (64 * v9)) + v7)).toNat 0 = s10 at H ⊢
    refine gs_E.stp (pc' := 54) (ls' := [gp_r (some 74), gp_l v1, gp_n, gp_l v3, gp_n, gp_i v5, gp_i v6, gp_i v7, gp_i v8, gp_i (gp_wr (v9 + 1))]) (st' := []) (s' := s10) 2 rfl ?_
    exact H

set_option maxRecDepth 100000 in
/-- GatheredPointsModel.reduced, pc 127 -/
theorem s_3113_127 {L d : Nat} {K : Option gV → gH → Prop} {s : gH} (v1 : BitVec 64) (v3 : BitVec 64) (v5 : Int) (v6 : Int) (v7 : Int) (v8 : Int) (v9 : Int) (H : gs_E L (d + 1) 3113 132 [gp_r (some 74), gp_l v1, gp_n, gp_l v3, gp_n, gp_i v5, gp_i v6, gp_i v7, gp_i v8, gp_i v9] [gp_i 1] s K) : gs_E L (d + 1) 3113 127 [gp_r (some 74), gp_l v1, gp_n, gp_l v3, gp_n, gp_i v5, gp_i v6, gp_i v7, gp_i v8, gp_i v9] [] s K := by
  refine gs_E.stp (pc' := 132) (ls' := [gp_r (some 74), gp_l v1, gp_n, gp_l v3, gp_n, gp_i v5, gp_i v6, gp_i v7, gp_i v8, gp_i v9]) (st' := [gp_i 1]) (s' := s) 2 rfl ?_
  exact H

set_option maxRecDepth 100000 in
/-- GatheredPointsModel.reduced, pc 132 -/
theorem s_3113_132 {L d : Nat} {K : Option gV → gH → Prop} {s : gH} (v1 : BitVec 64) (v3 : BitVec 64) (v5 : Int) (v6 : Int) (v7 : Int) (v8 : Int) (v9 : Int) (w0 : Int) (H : gs_E L (d + 1) 3113 22 [gp_r (some 74), gp_l v1, gp_n, gp_l v3, gp_n, gp_i v5, gp_i v6, gp_i v7, gp_i w0, gp_i v9] [] s K) : gs_E L (d + 1) 3113 132 [gp_r (some 74), gp_l v1, gp_n, gp_l v3, gp_n, gp_i v5, gp_i v6, gp_i v7, gp_i v8, gp_i v9] [gp_i w0] s K := by
  refine gs_E.stp (pc' := 22) (ls' := [gp_r (some 74), gp_l v1, gp_n, gp_l v3, gp_n, gp_i v5, gp_i v6, gp_i v7, gp_i w0, gp_i v9]) (st' := []) (s' := s) 2 rfl ?_
  exact H

set_option maxRecDepth 100000 in
/-- GatheredPointsModel.turnsLeft, pc 0 -/
theorem s_3114_e {L d : Nat} {K : Option gV → gH → Prop} {s : gH} (p0 : Int) (H : gs_E L (d + 1) 3114 2 [gp_r (some 74), gp_i p0, gp_i 0, gp_n, gp_n, gp_n, gp_n, gp_n] [] s K) : gs_C L (d + 1) 3114 8 [gp_r (some 74), gp_i p0] s K := by
  show gs_E L (d + 1) 3114 0 [gp_r (some 74), gp_i p0, gp_n, gp_n, gp_n, gp_n, gp_n, gp_n] [] s K
  refine gs_E.stp (pc' := 2) (ls' := [gp_r (some 74), gp_i p0, gp_i 0, gp_n, gp_n, gp_n, gp_n, gp_n]) (st' := []) (s' := s) 2 rfl ?_
  exact H

set_option maxRecDepth 100000 in
/-- GatheredPointsModel.turnsLeft, pc 2 -/
theorem s_3114_2 {L d : Nat} {K : Option gV → gH → Prop} {s : gH} (v1 : Int) (v2 : Int) (v3 : gV) (v4 : gV) (v5 : gV) (v6 : gV) (v7 : gV) (H : gs_C L d 3079 4 [gp_l (gp_L s 74 35)] s (fun r s1 => ∃ x2, r = some (gp_i x2) ∧ ((v2 < x2 → gs_C L d 3092 8 [gp_r (some 74), gp_i 20, gp_l (gp_L s1 74 35), gp_i v2] s1 (fun r s3 => ∃ x4, r = some (gp_i x4) ∧ ((0 ≤ (gp_wr (1280 + x4)) ∧ (gp_wr (1280 + x4)) < 5440) ∧ gs_E L (d + 1) 3114 40 [gp_r (some 74), gp_i v1, gp_i v2, gp_i x4, gp_l (gp_L s3 77 (gp_wr (1280 + x4)).toNat), gp_n, gp_i 0, v7] [] s3 K))) ∧ (¬ v2 < x2 → K (some (gp_i 0)) s1)))) : gs_E L (d + 1) 3114 2 [gp_r (some 74), gp_i v1, gp_i v2, v3, v4, v5, v6, v7] [] s K := by
  refine gs_E.stp (pc' := 7) (ls' := [gp_r (some 74), gp_i v1, gp_i v2, v3, v4, v5, v6, v7]) (st' := [gp_l (gp_L s 74 35), gp_i v2]) (s' := s) 3 rfl ?_
  refine gs_E.call (args := [gp_l (gp_L s 74 35)]) (m := 4) (y' := 3079) (st' := [gp_i v2]) rfl H (fun r s1 H => ?_)
  obtain ⟨x2, rfl, H⟩ := H
  show gs_E L (d + 1) 3114 10 [gp_r (some 74), gp_i v1, gp_i v2, v3, v4, v5, v6, v7] [gp_i x2, gp_i v2] s1 K
  refine gs_E.br (c := ¬ v2 < x2) (p1 := 130) (p2 := 13) (l1 := [gp_r (some 74), gp_i v1, gp_i v2, v3, v4, v5, v6, v7]) (l2 := [gp_r (some 74), gp_i v1, gp_i v2, v3, v4, v5, v6, v7]) (s1 := []) (s2 := []) rfl gs_b2 (fun hc => ?_) (fun hc => ?_)
  · replace H := H.2 hc
    refine gs_E.stp (pc' := 131) (ls' := [gp_r (some 74), gp_i v1, gp_i v2, v3, v4, v5, v6, v7]) (st' := [gp_i 0]) (s' := s1) 1 rfl ?_
    exact gs_E.ret (r := (some (gp_i 0))) rfl H
  · replace H := H.1 (Decidable.byContradiction hc)
    refine gs_E.stp (pc' := 21) (ls' := [gp_r (some 74), gp_i v1, gp_i v2, v3, v4, v5, v6, v7]) (st' := [gp_i v2, gp_l (gp_L s1 74 35), gp_i 20, gp_r (some 74)]) (s' := s1) 5 rfl ?_
    refine gs_E.call (args := [gp_r (some 74), gp_i 20, gp_l (gp_L s1 74 35), gp_i v2]) (m := 8) (y' := 3092) (st' := []) rfl H (fun r s3 H => ?_)
    obtain ⟨x4, rfl, H⟩ := H
    show gs_E L (d + 1) 3114 24 [gp_r (some 74), gp_i v1, gp_i v2, v3, v4, v5, v6, v7] [gp_i x4] s3 K
    refine gs_E.stp (pc' := 34) (ls' := [gp_r (some 74), gp_i v1, gp_i v2, gp_i x4, v4, v5, v6, v7]) (st' := [gp_i (gp_wr (1280 + x4)), gp_r (some 77)]) (s' := s3) 6 rfl ?_
    refine gs_E.ck (pc' := 35) (ls' := [gp_r (some 74), gp_i v1, gp_i v2, gp_i x4, v4, v5, v6, v7]) (st' := [gp_l (gp_L s3 77 (gp_wr (1280 + x4)).toNat)]) (s' := s3) rfl ⟨rfl, H.1.1, H.1.2⟩ ?_
    replace H := H.2
    refine gs_E.stp (pc' := 40) (ls' := [gp_r (some 74), gp_i v1, gp_i v2, gp_i x4, gp_l (gp_L s3 77 (gp_wr (1280 + x4)).toNat), gp_n, gp_i 0, v7]) (st' := []) (s' := s3) 3 rfl ?_
    exact H

set_option maxRecDepth 100000 in
/-- GatheredPointsModel.turnsLeft, pc 40 -/
theorem s_3114_40 {L d : Nat} {K : Option gV → gH → Prop} {s : gH} (v1 : Int) (v2 : Int) (v3 : Int) (v4 : BitVec 64) (v6 : Int) (v7 : gV) (H : gs_C L d 3079 4 [gp_l v4] s (fun r s1 => ∃ x2, r = some (gp_i x2) ∧ ((v6 < x2 → gs_C L d 3092 8 [gp_r (some 74), gp_i 20, gp_l v4, gp_i v6] s1 (fun r s3 => ∃ x4, r = some (gp_i x4) ∧ ((0 ≤ (gp_wr (1280 + x4)) ∧ (gp_wr (1280 + x4)) < 5440) ∧ (((gp_cmp (gp_L s3 76 (gp_wr (1280 + x4)).toNat) (0#64)) = 0 → gs_E L (d + 1) 3114 118 [gp_r (some 74), gp_i v1, gp_i v2, gp_i v3, gp_l v4, gp_n, gp_i v6, gp_i x4] [] s3 K) ∧ (¬ (gp_cmp (gp_L s3 76 (gp_wr (1280 + x4)).toNat) (0#64)) = 0 → gs_C L d 3112 3 [gp_r (some 74), gp_i v1, gp_i x4] s3 (fun r s5 => ∃ x6, r = some (gp_i x6) ∧ ((x6 = 0 → gs_E L (d + 1) 3114 118 [gp_r (some 74), gp_i v1, gp_i v2, gp_i v3, gp_l v4, gp_n, gp_i v6, gp_i x4] [] s5 K) ∧ (¬ x6 = 0 → ((0 ≤ (gp_wr (1280 + x4)) ∧ (gp_wr (1280 + x4)) < 5440) ∧ (∀ s7, s7 = gp_wL s5 74 35 (((gp_L s5 74 35) &&& (((1#64) <<< (v3 % 64).toNat) ^^^ (BitVec.ofInt 64 (-1)))) ||| (gp_L s5 76 (gp_wr (1280 + x4)).toNat)) → K (some (gp_i 1)) s7)))))))))) ∧ (¬ v6 < x2 → gs_E L (d + 1) 3114 2 [gp_r (some 74), gp_i v1, gp_i (gp_wr (v2 + 1)), gp_i v3, gp_l v4, gp_n, gp_i v6, v7] [] s1 K)))) : gs_E L (d + 1) 3114 40 [gp_r (some 74), gp_i v1, gp_i v2, gp_i v3, gp_l v4, gp_n, gp_i v6, v7] [] s K := by
  refine gs_E.stp (pc' := 44) (ls' := [gp_r (some 74), gp_i v1, gp_i v2, gp_i v3, gp_l v4, gp_n, gp_i v6, v7]) (st' := [gp_l v4, gp_i v6]) (s' := s) 2 rfl ?_
  refine gs_E.call (args := [gp_l v4]) (m := 4) (y' := 3079) (st' := [gp_i v6]) rfl H (fun r s1 H => ?_)
  obtain ⟨x2, rfl, H⟩ := H
  show gs_E L (d + 1) 3114 47 [gp_r (some 74), gp_i v1, gp_i v2, gp_i v3, gp_l v4, gp_n, gp_i v6, v7] [gp_i x2, gp_i v6] s1 K
  refine gs_E.br (c := ¬ v6 < x2) (p1 := 124) (p2 := 50) (l1 := [gp_r (some 74), gp_i v1, gp_i v2, gp_i v3, gp_l v4, gp_n, gp_i v6, v7]) (l2 := [gp_r (some 74), gp_i v1, gp_i v2, gp_i v3, gp_l v4, gp_n, gp_i v6, v7]) (s1 := []) (s2 := []) rfl gs_b2 (fun hc => ?_) (fun hc => ?_)
  · replace H := H.2 hc
    refine gs_E.stp (pc' := 2) (ls' := [gp_r (some 74), gp_i v1, gp_i (gp_wr (v2 + 1)), gp_i v3, gp_l v4, gp_n, gp_i v6, v7]) (st' := []) (s' := s1) 2 rfl ?_
    exact H
  · replace H := H.1 (Decidable.byContradiction hc)
    refine gs_E.stp (pc' := 57) (ls' := [gp_r (some 74), gp_i v1, gp_i v2, gp_i v3, gp_l v4, gp_n, gp_i v6, v7]) (st' := [gp_i v6, gp_l v4, gp_i 20, gp_r (some 74)]) (s' := s1) 4 rfl ?_
    refine gs_E.call (args := [gp_r (some 74), gp_i 20, gp_l v4, gp_i v6]) (m := 8) (y' := 3092) (st' := []) rfl H (fun r s3 H => ?_)
    obtain ⟨x4, rfl, H⟩ := H
    show gs_E L (d + 1) 3114 60 [gp_r (some 74), gp_i v1, gp_i v2, gp_i v3, gp_l v4, gp_n, gp_i v6, v7] [gp_i x4] s3 K
    refine gs_E.stp (pc' := 72) (ls' := [gp_r (some 74), gp_i v1, gp_i v2, gp_i v3, gp_l v4, gp_n, gp_i v6, gp_i x4]) (st' := [gp_i (gp_wr (1280 + x4)), gp_r (some 76)]) (s' := s3) 6 rfl ?_
    refine gs_E.ck (pc' := 73) (ls' := [gp_r (some 74), gp_i v1, gp_i v2, gp_i v3, gp_l v4, gp_n, gp_i v6, gp_i x4]) (st' := [gp_l (gp_L s3 76 (gp_wr (1280 + x4)).toNat)]) (s' := s3) rfl ⟨rfl, H.1.1, H.1.2⟩ ?_
    replace H := H.2
    refine gs_E.stp (pc' := 75) (ls' := [gp_r (some 74), gp_i v1, gp_i v2, gp_i v3, gp_l v4, gp_n, gp_i v6, gp_i x4]) (st' := [gp_i (gp_cmp (gp_L s3 76 (gp_wr (1280 + x4)).toNat) (0#64))]) (s' := s3) 2 rfl ?_
    refine gs_E.br (c := (gp_cmp (gp_L s3 76 (gp_wr (1280 + x4)).toNat) (0#64)) = 0) (p1 := 118) (p2 := 78) (l1 := [gp_r (some 74), gp_i v1, gp_i v2, gp_i v3, gp_l v4, gp_n, gp_i v6, gp_i x4]) (l2 := [gp_r (some 74), gp_i v1, gp_i v2, gp_i v3, gp_l v4, gp_n, gp_i v6, gp_i x4]) (s1 := []) (s2 := []) rfl gs_b1 (fun hc => ?_) (fun hc => ?_)
    · replace H := H.1 hc
      exact H
    · replace H := H.2 hc
      refine gs_E.stp (pc' := 82) (ls' := [gp_r (some 74), gp_i v1, gp_i v2, gp_i v3, gp_l v4, gp_n, gp_i v6, gp_i x4]) (st' := [gp_i x4, gp_i v1, gp_r (some 74)]) (s' := s3) 3 rfl ?_
      refine gs_E.call (args := [gp_r (some 74), gp_i v1, gp_i x4]) (m := 3) (y' := 3112) (st' := []) rfl H (fun r s5 H => ?_)
      obtain ⟨x6, rfl, H⟩ := H
      show gs_E L (d + 1) 3114 85 [gp_r (some 74), gp_i v1, gp_i v2, gp_i v3, gp_l v4, gp_n, gp_i v6, gp_i x4] [gp_i x6] s5 K
      refine gs_E.br (c := x6 = 0) (p1 := 118) (p2 := 88) (l1 := [gp_r (some 74), gp_i v1, gp_i v2, gp_i v3, gp_l v4, gp_n, gp_i v6, gp_i x4]) (l2 := [gp_r (some 74), gp_i v1, gp_i v2, gp_i v3, gp_l v4, gp_n, gp_i v6, gp_i x4]) (s1 := []) (s2 := []) rfl gs_b1 (fun hc => ?_) (fun hc => ?_)
      · replace H := H.1 hc
        exact H
      · replace H := H.2 hc
        refine gs_E.stp (pc' := 111) (ls' := [gp_r (some 74), gp_i v1, gp_i v2, gp_i v3, gp_l v4, gp_n, gp_i v6, gp_i x4]) (st' := [gp_i (gp_wr (1280 + x4)), gp_r (some 76), gp_l ((gp_L s5 74 35) &&& (((1#64) <<< (v3 % 64).toNat) ^^^ (BitVec.ofInt 64 (-1)))), gp_r (some 74)]) (s' := s5) 14 rfl ?_
        refine gs_E.ck (pc' := 112) (ls' := [gp_r (some 74), gp_i v1, gp_i v2, gp_i v3, gp_l v4, gp_n, gp_i v6, gp_i x4]) (st' := [gp_l (gp_L s5 76 (gp_wr (1280 + x4)).toNat), gp_l ((gp_L s5 74 35) &&& (((1#64) <<< (v3 % 64).toNat) ^^^ (BitVec.ofInt 64 (-1)))), gp_r (some 74)]) (s' := s5) rfl ⟨rfl, H.1.1, H.1.2⟩ ?_
        replace H := H.2
        refine gs_E.stp (pc' := 116) (ls' := [gp_r (some 74), gp_i v1, gp_i v2, gp_i v3, gp_l v4, gp_n, gp_i v6, gp_i x4]) (st' := []) (s' := gp_wL s5 74 35 (((gp_L s5 74 35) &&& (((1#64) <<< (v3 % 64).toNat) ^^^ (BitVec.ofInt 64 (-1)))) ||| (gp_L s5 76 (gp_wr (1280 + x4)).toNat))) 2 rfl ?_
        replace H := H _ rfl
        generalize gp_wL s5 74 35 (((gp_L s5 74 35) &&& (((1#64) <<< (v3 % 64).toNat) ^^^ (BitVec.ofInt 64 (-1)))) ||| (gp_L s5 76 (gp_wr (1280 + x4)).toNat)) = s7 at H ⊢
        refine gs_E.stp (pc' := 117) (ls' := [gp_r (some 74), gp_i v1, gp_i v2, gp_i v3, gp_l v4, gp_n, gp_i v6, gp_i x4]) (st' := [gp_i 1]) (s' := s7) 1 rfl ?_
        exact gs_E.ret (r := (some (gp_i 1))) rfl H

set_option maxRecDepth 100000 in
/-- GatheredPointsModel.turnsLeft, pc 118 -/
theorem s_3114_118 {L d : Nat} {K : Option gV → gH → Prop} {s : gH} (v1 : Int) (v2 : Int) (v3 : Int) (v4 : BitVec 64) (v6 : Int) (v7 : Int) (H : gs_E L (d + 1) 3114 40 [gp_r (some 74), gp_i v1, gp_i v2, gp_i v3, gp_l v4, gp_n, gp_i (gp_wr (v6 + 1)), gp_i v7] [] s K) : gs_E L (d + 1) 3114 118 [gp_r (some 74), gp_i v1, gp_i v2, gp_i v3, gp_l v4, gp_n, gp_i v6, gp_i v7] [] s K := by
  refine gs_E.stp (pc' := 40) (ls' := [gp_r (some 74), gp_i v1, gp_i v2, gp_i v3, gp_l v4, gp_n, gp_i (gp_wr (v6 + 1)), gp_i v7]) (st' := []) (s' := s) 2 rfl ?_
  exact H

set_option maxRecDepth 100000 in
/-- GatheredPointsModel.turnsRight, pc 0 -/
theorem s_3115_e {L d : Nat} {K : Option gV → gH → Prop} {s : gH} (p0 : Int) (H : gs_E L (d + 1) 3115 2 [gp_r (some 74), gp_i p0, gp_i 0, gp_n, gp_n, gp_n, gp_n, gp_n] [] s K) : gs_C L (d + 1) 3115 8 [gp_r (some 74), gp_i p0] s K := by
  show gs_E L (d + 1) 3115 0 [gp_r (some 74), gp_i p0, gp_n, gp_n, gp_n, gp_n, gp_n, gp_n] [] s K
  refine gs_E.stp (pc' := 2) (ls' := [gp_r (some 74), gp_i p0, gp_i 0, gp_n, gp_n, gp_n, gp_n, gp_n]) (st' := []) (s' := s) 2 rfl ?_
  exact H

set_option maxRecDepth 100000 in
/-- GatheredPointsModel.turnsRight, pc 2 -/
theorem s_3115_2 {L d : Nat} {K : Option gV → gH → Prop} {s : gH} (v1 : Int) (v2 : Int) (v3 : gV) (v4 : gV) (v5 : gV) (v6 : gV) (v7 : gV) (H : gs_C L d 3079 4 [gp_l (gp_L s 74 36)] s (fun r s1 => ∃ x2, r = some (gp_i x2) ∧ ((v2 < x2 → gs_C L d 3092 8 [gp_r (some 74), gp_i 20, gp_l (gp_L s1 74 36), gp_i v2] s1 (fun r s3 => ∃ x4, r = some (gp_i x4) ∧ ((0 ≤ (gp_wr (1280 + x4)) ∧ (gp_wr (1280 + x4)) < 5440) ∧ gs_E L (d + 1) 3115 40 [gp_r (some 74), gp_i v1, gp_i v2, gp_i x4, gp_l (gp_L s3 76 (gp_wr (1280 + x4)).toNat), gp_n, gp_i 0, v7] [] s3 K))) ∧ (¬ v2 < x2 → K (some (gp_i 0)) s1)))) : gs_E L (d + 1) 3115 2 [gp_r (some 74), gp_i v1, gp_i v2, v3, v4, v5, v6, v7] [] s K := by
  refine gs_E.stp (pc' := 7) (ls' := [gp_r (some 74), gp_i v1, gp_i v2, v3, v4, v5, v6, v7]) (st' := [gp_l (gp_L s 74 36), gp_i v2]) (s' := s) 3 rfl ?_
  refine gs_E.call (args := [gp_l (gp_L s 74 36)]) (m := 4) (y' := 3079) (st' := [gp_i v2]) rfl H (fun r s1 H => ?_)
  obtain ⟨x2, rfl, H⟩ := H
  show gs_E L (d + 1) 3115 10 [gp_r (some 74), gp_i v1, gp_i v2, v3, v4, v5, v6, v7] [gp_i x2, gp_i v2] s1 K
  refine gs_E.br (c := ¬ v2 < x2) (p1 := 130) (p2 := 13) (l1 := [gp_r (some 74), gp_i v1, gp_i v2, v3, v4, v5, v6, v7]) (l2 := [gp_r (some 74), gp_i v1, gp_i v2, v3, v4, v5, v6, v7]) (s1 := []) (s2 := []) rfl gs_b2 (fun hc => ?_) (fun hc => ?_)
  · replace H := H.2 hc
    refine gs_E.stp (pc' := 131) (ls' := [gp_r (some 74), gp_i v1, gp_i v2, v3, v4, v5, v6, v7]) (st' := [gp_i 0]) (s' := s1) 1 rfl ?_
    exact gs_E.ret (r := (some (gp_i 0))) rfl H
  · replace H := H.1 (Decidable.byContradiction hc)
    refine gs_E.stp (pc' := 21) (ls' := [gp_r (some 74), gp_i v1, gp_i v2, v3, v4, v5, v6, v7]) (st' := [gp_i v2, gp_l (gp_L s1 74 36), gp_i 20, gp_r (some 74)]) (s' := s1) 5 rfl ?_
    refine gs_E.call (args := [gp_r (some 74), gp_i 20, gp_l (gp_L s1 74 36), gp_i v2]) (m := 8) (y' := 3092) (st' := []) rfl H (fun r s3 H => ?_)
    obtain ⟨x4, rfl, H⟩ := H
    show gs_E L (d + 1) 3115 24 [gp_r (some 74), gp_i v1, gp_i v2, v3, v4, v5, v6, v7] [gp_i x4] s3 K
    refine gs_E.stp (pc' := 34) (ls' := [gp_r (some 74), gp_i v1, gp_i v2, gp_i x4, v4, v5, v6, v7]) (st' := [gp_i (gp_wr (1280 + x4)), gp_r (some 76)]) (s' := s3) 6 rfl ?_
    refine gs_E.ck (pc' := 35) (ls' := [gp_r (some 74), gp_i v1, gp_i v2, gp_i x4, v4, v5, v6, v7]) (st' := [gp_l (gp_L s3 76 (gp_wr (1280 + x4)).toNat)]) (s' := s3) rfl ⟨rfl, H.1.1, H.1.2⟩ ?_
    replace H := H.2
    refine gs_E.stp (pc' := 40) (ls' := [gp_r (some 74), gp_i v1, gp_i v2, gp_i x4, gp_l (gp_L s3 76 (gp_wr (1280 + x4)).toNat), gp_n, gp_i 0, v7]) (st' := []) (s' := s3) 3 rfl ?_
    exact H

set_option maxRecDepth 100000 in
/-- GatheredPointsModel.turnsRight, pc 40 -/
theorem s_3115_40 {L d : Nat} {K : Option gV → gH → Prop} {s : gH} (v1 : Int) (v2 : Int) (v3 : Int) (v4 : BitVec 64) (v6 : Int) (v7 : gV) (H : gs_C L d 3079 4 [gp_l v4] s (fun r s1 => ∃ x2, r = some (gp_i x2) ∧ ((v6 < x2 → gs_C L d 3092 8 [gp_r (some 74), gp_i 20, gp_l v4, gp_i v6] s1 (fun r s3 => ∃ x4, r = some (gp_i x4) ∧ ((0 ≤ (gp_wr (1280 + x4)) ∧ (gp_wr (1280 + x4)) < 5440) ∧ (((gp_cmp (gp_L s3 77 (gp_wr (1280 + x4)).toNat) (0#64)) = 0 → gs_E L (d + 1) 3115 118 [gp_r (some 74), gp_i v1, gp_i v2, gp_i v3, gp_l v4, gp_n, gp_i v6, gp_i x4] [] s3 K) ∧ (¬ (gp_cmp (gp_L s3 77 (gp_wr (1280 + x4)).toNat) (0#64)) = 0 → gs_C L d 3112 3 [gp_r (some 74), gp_i x4, gp_i v1] s3 (fun r s5 => ∃ x6, r = some (gp_i x6) ∧ ((x6 = 0 → gs_E L (d + 1) 3115 118 [gp_r (some 74), gp_i v1, gp_i v2, gp_i v3, gp_l v4, gp_n, gp_i v6, gp_i x4] [] s5 K) ∧ (¬ x6 = 0 → ((0 ≤ (gp_wr (1280 + x4)) ∧ (gp_wr (1280 + x4)) < 5440) ∧ (∀ s7, s7 = gp_wL s5 74 36 (((gp_L s5 74 36) &&& (((1#64) <<< (v3 % 64).toNat) ^^^ (BitVec.ofInt 64 (-1)))) ||| (gp_L s5 77 (gp_wr (1280 + x4)).toNat)) → K (some (gp_i 1)) s7)))))))))) ∧ (¬ v6 < x2 → gs_E L (d + 1) 3115 2 [gp_r (some 74), gp_i v1, gp_i (gp_wr (v2 + 1)), gp_i v3, gp_l v4, gp_n, gp_i v6, v7] [] s1 K)))) : gs_E L (d + 1) 3115 40 [gp_r (some 74), gp_i v1, gp_i v2, gp_i v3, gp_l v4, gp_n, gp_i v6, v7] [] s K := by
  refine gs_E.stp (pc' := 44) (ls' := [gp_r (some 74), gp_i v1, gp_i v2, gp_i v3, gp_l v4, gp_n, gp_i v6, v7]) (st' := [gp_l v4, gp_i v6]) (s' := s) 2 rfl ?_
  refine gs_E.call (args := [gp_l v4]) (m := 4) (y' := 3079) (st' := [gp_i v6]) rfl H (fun r s1 H => ?_)
  obtain ⟨x2, rfl, H⟩ := H
  show gs_E L (d + 1) 3115 47 [gp_r (some 74), gp_i v1, gp_i v2, gp_i v3, gp_l v4, gp_n, gp_i v6, v7] [gp_i x2, gp_i v6] s1 K
  refine gs_E.br (c := ¬ v6 < x2) (p1 := 124) (p2 := 50) (l1 := [gp_r (some 74), gp_i v1, gp_i v2, gp_i v3, gp_l v4, gp_n, gp_i v6, v7]) (l2 := [gp_r (some 74), gp_i v1, gp_i v2, gp_i v3, gp_l v4, gp_n, gp_i v6, v7]) (s1 := []) (s2 := []) rfl gs_b2 (fun hc => ?_) (fun hc => ?_)
  · replace H := H.2 hc
    refine gs_E.stp (pc' := 2) (ls' := [gp_r (some 74), gp_i v1, gp_i (gp_wr (v2 + 1)), gp_i v3, gp_l v4, gp_n, gp_i v6, v7]) (st' := []) (s' := s1) 2 rfl ?_
    exact H
  · replace H := H.1 (Decidable.byContradiction hc)
    refine gs_E.stp (pc' := 57) (ls' := [gp_r (some 74), gp_i v1, gp_i v2, gp_i v3, gp_l v4, gp_n, gp_i v6, v7]) (st' := [gp_i v6, gp_l v4, gp_i 20, gp_r (some 74)]) (s' := s1) 4 rfl ?_
    refine gs_E.call (args := [gp_r (some 74), gp_i 20, gp_l v4, gp_i v6]) (m := 8) (y' := 3092) (st' := []) rfl H (fun r s3 H => ?_)
    obtain ⟨x4, rfl, H⟩ := H
    show gs_E L (d + 1) 3115 60 [gp_r (some 74), gp_i v1, gp_i v2, gp_i v3, gp_l v4, gp_n, gp_i v6, v7] [gp_i x4] s3 K
    refine gs_E.stp (pc' := 72) (ls' := [gp_r (some 74), gp_i v1, gp_i v2, gp_i v3, gp_l v4, gp_n, gp_i v6, gp_i x4]) (st' := [gp_i (gp_wr (1280 + x4)), gp_r (some 77)]) (s' := s3) 6 rfl ?_
    refine gs_E.ck (pc' := 73) (ls' := [gp_r (some 74), gp_i v1, gp_i v2, gp_i v3, gp_l v4, gp_n, gp_i v6, gp_i x4]) (st' := [gp_l (gp_L s3 77 (gp_wr (1280 + x4)).toNat)]) (s' := s3) rfl ⟨rfl, H.1.1, H.1.2⟩ ?_
    replace H := H.2
    refine gs_E.stp (pc' := 75) (ls' := [gp_r (some 74), gp_i v1, gp_i v2, gp_i v3, gp_l v4, gp_n, gp_i v6, gp_i x4]) (st' := [gp_i (gp_cmp (gp_L s3 77 (gp_wr (1280 + x4)).toNat) (0#64))]) (s' := s3) 2 rfl ?_
    refine gs_E.br (c := (gp_cmp (gp_L s3 77 (gp_wr (1280 + x4)).toNat) (0#64)) = 0) (p1 := 118) (p2 := 78) (l1 := [gp_r (some 74), gp_i v1, gp_i v2, gp_i v3, gp_l v4, gp_n, gp_i v6, gp_i x4]) (l2 := [gp_r (some 74), gp_i v1, gp_i v2, gp_i v3, gp_l v4, gp_n, gp_i v6, gp_i x4]) (s1 := []) (s2 := []) rfl gs_b1 (fun hc => ?_) (fun hc => ?_)
    · replace H := H.1 hc
      exact H
    · replace H := H.2 hc
      refine gs_E.stp (pc' := 82) (ls' := [gp_r (some 74), gp_i v1, gp_i v2, gp_i v3, gp_l v4, gp_n, gp_i v6, gp_i x4]) (st' := [gp_i v1, gp_i x4, gp_r (some 74)]) (s' := s3) 3 rfl ?_
      refine gs_E.call (args := [gp_r (some 74), gp_i x4, gp_i v1]) (m := 3) (y' := 3112) (st' := []) rfl H (fun r s5 H => ?_)
      obtain ⟨x6, rfl, H⟩ := H
      show gs_E L (d + 1) 3115 85 [gp_r (some 74), gp_i v1, gp_i v2, gp_i v3, gp_l v4, gp_n, gp_i v6, gp_i x4] [gp_i x6] s5 K
      refine gs_E.br (c := x6 = 0) (p1 := 118) (p2 := 88) (l1 := [gp_r (some 74), gp_i v1, gp_i v2, gp_i v3, gp_l v4, gp_n, gp_i v6, gp_i x4]) (l2 := [gp_r (some 74), gp_i v1, gp_i v2, gp_i v3, gp_l v4, gp_n, gp_i v6, gp_i x4]) (s1 := []) (s2 := []) rfl gs_b1 (fun hc => ?_) (fun hc => ?_)
      · replace H := H.1 hc
        exact H
      · replace H := H.2 hc
        refine gs_E.stp (pc' := 111) (ls' := [gp_r (some 74), gp_i v1, gp_i v2, gp_i v3, gp_l v4, gp_n, gp_i v6, gp_i x4]) (st' := [gp_i (gp_wr (1280 + x4)), gp_r (some 77), gp_l ((gp_L s5 74 36) &&& (((1#64) <<< (v3 % 64).toNat) ^^^ (BitVec.ofInt 64 (-1)))), gp_r (some 74)]) (s' := s5) 14 rfl ?_
        refine gs_E.ck (pc' := 112) (ls' := [gp_r (some 74), gp_i v1, gp_i v2, gp_i v3, gp_l v4, gp_n, gp_i v6, gp_i x4]) (st' := [gp_l (gp_L s5 77 (gp_wr (1280 + x4)).toNat), gp_l ((gp_L s5 74 36) &&& (((1#64) <<< (v3 % 64).toNat) ^^^ (BitVec.ofInt 64 (-1)))), gp_r (some 74)]) (s' := s5) rfl ⟨rfl, H.1.1, H.1.2⟩ ?_
        replace H := H.2
        refine gs_E.stp (pc' := 116) (ls' := [gp_r (some 74), gp_i v1, gp_i v2, gp_i v3, gp_l v4, gp_n, gp_i v6, gp_i x4]) (st' := []) (s' := gp_wL s5 74 36 (((gp_L s5 74 36) &&& (((1#64) <<< (v3 % 64).toNat) ^^^ (BitVec.ofInt 64 (-1)))) ||| (gp_L s5 77 (gp_wr (1280 + x4)).toNat))) 2 rfl ?_
        replace H := H _ rfl
        generalize gp_wL s5 74 36 (((gp_L s5 74 36) &&& (((1#64) <<< (v3 % 64).toNat) ^^^ (BitVec.ofInt 64 (-1)))) ||| (gp_L s5 77 (gp_wr (1280 + x4)).toNat)) = s7 at H ⊢
        refine gs_E.stp (pc' := 117) (ls' := [gp_r (some 74), gp_i v1, gp_i v2, gp_i v3, gp_l v4, gp_n, gp_i v6, gp_i x4]) (st' := [gp_i 1]) (s' := s7) 1 rfl ?_
        exact gs_E.ret (r := (some (gp_i 1))) rfl H

set_option maxRecDepth 100000 in
/-- GatheredPointsModel.turnsRight, pc 118 -/
theorem s_3115_118 {L d : Nat} {K : Option gV → gH → Prop} {s : gH} (v1 : Int) (v2 : Int) (v3 : Int) (v4 : BitVec 64) (v6 : Int) (v7 : Int) (H : gs_E L (d + 1) 3115 40 [gp_r (some 74), gp_i v1, gp_i v2, gp_i v3, gp_l v4, gp_n, gp_i (gp_wr (v6 + 1)), gp_i v7] [] s K) : gs_E L (d + 1) 3115 118 [gp_r (some 74), gp_i v1, gp_i v2, gp_i v3, gp_l v4, gp_n, gp_i v6, gp_i v7] [] s K := by
  refine gs_E.stp (pc' := 40) (ls' := [gp_r (some 74), gp_i v1, gp_i v2, gp_i v3, gp_l v4, gp_n, gp_i (gp_wr (v6 + 1)), gp_i v7]) (st' := []) (s' := s) 2 rfl ?_
  exact H

set_option maxRecDepth 100000 in
/-- GatheredPointsModel.dropsLeft, pc 0 -/
theorem s_3116_e {L d : Nat} {K : Option gV → gH → Prop} {s : gH}  (H : gs_E L (d + 1) 3116 2 [gp_r (some 74), gp_i 0, gp_n, gp_n, gp_n] [] s K) : gs_C L (d + 1) 3116 5 [gp_r (some 74)] s K := by
  show gs_E L (d + 1) 3116 0 [gp_r (some 74), gp_n, gp_n, gp_n, gp_n] [] s K
  refine gs_E.stp (pc' := 2) (ls' := [gp_r (some 74), gp_i 0, gp_n, gp_n, gp_n]) (st' := []) (s' := s) 2 rfl ?_
  exact H

set_option maxRecDepth 100000 in
/-- GatheredPointsModel.dropsLeft, pc 2 -/
theorem s_3116_2 {L d : Nat} {K : Option gV → gH → Prop} {s : gH} (v1 : Int) (v2 : gV) (v3 : gV) (v4 : gV) (H : gs_C L d 3079 4 [gp_l (gp_L s 74 35)] s (fun r s1 => ∃ x2, r = some (gp_i x2) ∧ ((v1 < x2 → gs_C L d 3092 8 [gp_r (some 74), gp_i 20, gp_l (gp_L s1 74 35), gp_i v1] s1 (fun r s3 => ∃ x4, r = some (gp_i x4) ∧ gs_E L (d + 1) 3116 27 [gp_r (some 74), gp_i v1, gp_i x4, gp_i 0, v4] [] s3 K)) ∧ (¬ v1 < x2 → K (some (gp_i 0)) s1)))) : gs_E L (d + 1) 3116 2 [gp_r (some 74), gp_i v1, v2, v3, v4] [] s K := by
  refine gs_E.stp (pc' := 7) (ls' := [gp_r (some 74), gp_i v1, v2, v3, v4]) (st' := [gp_l (gp_L s 74 35), gp_i v1]) (s' := s) 3 rfl ?_
  refine gs_E.call (args := [gp_l (gp_L s 74 35)]) (m := 4) (y' := 3079) (st' := [gp_i v1]) rfl H (fun r s1 H => ?_)
  obtain ⟨x2, rfl, H⟩ := H
  show gs_E L (d + 1) 3116 10 [gp_r (some 74), gp_i v1, v2, v3, v4] [gp_i x2, gp_i v1] s1 K
  refine gs_E.br (c := ¬ v1 < x2) (p1 := 111) (p2 := 13) (l1 := [gp_r (some 74), gp_i v1, v2, v3, v4]) (l2 := [gp_r (some 74), gp_i v1, v2, v3, v4]) (s1 := []) (s2 := []) rfl gs_b2 (fun hc => ?_) (fun hc => ?_)
  · replace H := H.2 hc
    refine gs_E.stp (pc' := 112) (ls' := [gp_r (some 74), gp_i v1, v2, v3, v4]) (st' := [gp_i 0]) (s' := s1) 1 rfl ?_
    exact gs_E.ret (r := (some (gp_i 0))) rfl H
  · replace H := H.1 (Decidable.byContradiction hc)
    refine gs_E.stp (pc' := 21) (ls' := [gp_r (some 74), gp_i v1, v2, v3, v4]) (st' := [gp_i v1, gp_l (gp_L s1 74 35), gp_i 20, gp_r (some 74)]) (s' := s1) 5 rfl ?_
    refine gs_E.call (args := [gp_r (some 74), gp_i 20, gp_l (gp_L s1 74 35), gp_i v1]) (m := 8) (y' := 3092) (st' := []) rfl H (fun r s3 H => ?_)
    obtain ⟨x4, rfl, H⟩ := H
    show gs_E L (d + 1) 3116 24 [gp_r (some 74), gp_i v1, v2, v3, v4] [gp_i x4] s3 K
    refine gs_E.stp (pc' := 27) (ls' := [gp_r (some 74), gp_i v1, gp_i x4, gp_i 0, v4]) (st' := []) (s' := s3) 3 rfl ?_
    exact H

set_option maxRecDepth 100000 in
/-- GatheredPointsModel.dropsLeft, pc 27 -/
theorem s_3116_27 {L d : Nat} {K : Option gV → gH → Prop} {s : gH} (v1 : Int) (v2 : Int) (v3 : Int) (v4 : gV) (H : gs_C L d 3079 4 [gp_l (gp_L s 74 35)] s (fun r s1 => ∃ x2, r = some (gp_i x2) ∧ ((v3 < x2 → gs_C L d 3092 8 [gp_r (some 74), gp_i 20, gp_l (gp_L s1 74 35), gp_i v3] s1 (fun r s3 => ∃ x4, r = some (gp_i x4) ∧ ((v3 = v1 → gs_E L (d + 1) 3116 99 [gp_r (some 74), gp_i v1, gp_i v2, gp_i v3, gp_i x4] [] s3 K) ∧ (¬ v3 = v1 → gs_C L d 3112 3 [gp_r (some 74), gp_i x4, gp_i v2] s3 (fun r s5 => ∃ x6, r = some (gp_i x6) ∧ ((x6 = 0 → gs_E L (d + 1) 3116 99 [gp_r (some 74), gp_i v1, gp_i v2, gp_i v3, gp_i x4] [] s5 K) ∧ (¬ x6 = 0 → gs_C L d 3112 3 [gp_r (some 74), gp_i v2, gp_i x4] s5 (fun r s7 => ∃ x8, r = some (gp_i x8) ∧ ((x8 = 0 → gs_E L (d + 1) 3116 81 [gp_r (some 74), gp_i v1, gp_i v2, gp_i v3, gp_i x4] [] s7 K) ∧ (¬ x8 = 0 → ((v3 < v1 → gs_E L (d + 1) 3116 81 [gp_r (some 74), gp_i v1, gp_i v2, gp_i v3, gp_i x4] [] s7 K) ∧ (¬ v3 < v1 → gs_E L (d + 1) 3116 99 [gp_r (some 74), gp_i v1, gp_i v2, gp_i v3, gp_i x4] [] s7 K)))))))))))) ∧ (¬ v3 < x2 → gs_E L (d + 1) 3116 2 [gp_r (some 74), gp_i (gp_wr (v1 + 1)), gp_i v2, gp_i v3, v4] [] s1 K)))) : gs_E L (d + 1) 3116 27 [gp_r (some 74), gp_i v1, gp_i v2, gp_i v3, v4] [] s K := by
  refine gs_E.stp (pc' := 32) (ls' := [gp_r (some 74), gp_i v1, gp_i v2, gp_i v3, v4]) (st' := [gp_l (gp_L s 74 35), gp_i v3]) (s' := s) 3 rfl ?_
  refine gs_E.call (args := [gp_l (gp_L s 74 35)]) (m := 4) (y' := 3079) (st' := [gp_i v3]) rfl H (fun r s1 H => ?_)
  obtain ⟨x2, rfl, H⟩ := H
  show gs_E L (d + 1) 3116 35 [gp_r (some 74), gp_i v1, gp_i v2, gp_i v3, v4] [gp_i x2, gp_i v3] s1 K
  refine gs_E.br (c := ¬ v3 < x2) (p1 := 105) (p2 := 38) (l1 := [gp_r (some 74), gp_i v1, gp_i v2, gp_i v3, v4]) (l2 := [gp_r (some 74), gp_i v1, gp_i v2, gp_i v3, v4]) (s1 := []) (s2 := []) rfl gs_b2 (fun hc => ?_) (fun hc => ?_)
  · replace H := H.2 hc
    refine gs_E.stp (pc' := 2) (ls' := [gp_r (some 74), gp_i (gp_wr (v1 + 1)), gp_i v2, gp_i v3, v4]) (st' := []) (s' := s1) 2 rfl ?_
    exact H
  · replace H := H.1 (Decidable.byContradiction hc)
    refine gs_E.stp (pc' := 46) (ls' := [gp_r (some 74), gp_i v1, gp_i v2, gp_i v3, v4]) (st' := [gp_i v3, gp_l (gp_L s1 74 35), gp_i 20, gp_r (some 74)]) (s' := s1) 5 rfl ?_
    refine gs_E.call (args := [gp_r (some 74), gp_i 20, gp_l (gp_L s1 74 35), gp_i v3]) (m := 8) (y' := 3092) (st' := []) rfl H (fun r s3 H => ?_)
    obtain ⟨x4, rfl, H⟩ := H
    show gs_E L (d + 1) 3116 49 [gp_r (some 74), gp_i v1, gp_i v2, gp_i v3, v4] [gp_i x4] s3 K
    refine gs_E.stp (pc' := 53) (ls' := [gp_r (some 74), gp_i v1, gp_i v2, gp_i v3, gp_i x4]) (st' := [gp_i v1, gp_i v3]) (s' := s3) 3 rfl ?_
    refine gs_E.br (c := v3 = v1) (p1 := 99) (p2 := 56) (l1 := [gp_r (some 74), gp_i v1, gp_i v2, gp_i v3, gp_i x4]) (l2 := [gp_r (some 74), gp_i v1, gp_i v2, gp_i v3, gp_i x4]) (s1 := []) (s2 := []) rfl gs_b1 (fun hc => ?_) (fun hc => ?_)
    · replace H := H.1 hc
      exact H
    · replace H := H.2 hc
      refine gs_E.stp (pc' := 60) (ls' := [gp_r (some 74), gp_i v1, gp_i v2, gp_i v3, gp_i x4]) (st' := [gp_i v2, gp_i x4, gp_r (some 74)]) (s' := s3) 3 rfl ?_
      refine gs_E.call (args := [gp_r (some 74), gp_i x4, gp_i v2]) (m := 3) (y' := 3112) (st' := []) rfl H (fun r s5 H => ?_)
      obtain ⟨x6, rfl, H⟩ := H
      show gs_E L (d + 1) 3116 63 [gp_r (some 74), gp_i v1, gp_i v2, gp_i v3, gp_i x4] [gp_i x6] s5 K
      refine gs_E.br (c := x6 = 0) (p1 := 99) (p2 := 66) (l1 := [gp_r (some 74), gp_i v1, gp_i v2, gp_i v3, gp_i x4]) (l2 := [gp_r (some 74), gp_i v1, gp_i v2, gp_i v3, gp_i x4]) (s1 := []) (s2 := []) rfl gs_b1 (fun hc => ?_) (fun hc => ?_)
      · replace H := H.1 hc
        exact H
      · replace H := H.2 hc
        refine gs_E.stp (pc' := 70) (ls' := [gp_r (some 74), gp_i v1, gp_i v2, gp_i v3, gp_i x4]) (st' := [gp_i x4, gp_i v2, gp_r (some 74)]) (s' := s5) 3 rfl ?_
        refine gs_E.call (args := [gp_r (some 74), gp_i v2, gp_i x4]) (m := 3) (y' := 3112) (st' := []) rfl H (fun r s7 H => ?_)
        obtain ⟨x8, rfl, H⟩ := H
        show gs_E L (d + 1) 3116 73 [gp_r (some 74), gp_i v1, gp_i v2, gp_i v3, gp_i x4] [gp_i x8] s7 K
        refine gs_E.br (c := x8 = 0) (p1 := 81) (p2 := 76) (l1 := [gp_r (some 74), gp_i v1, gp_i v2, gp_i v3, gp_i x4]) (l2 := [gp_r (some 74), gp_i v1, gp_i v2, gp_i v3, gp_i x4]) (s1 := []) (s2 := []) rfl gs_b1 (fun hc => ?_) (fun hc => ?_)
        · replace H := H.1 hc
          exact H
        · replace H := H.2 hc
          refine gs_E.stp (pc' := 78) (ls' := [gp_r (some 74), gp_i v1, gp_i v2, gp_i v3, gp_i x4]) (st' := [gp_i v1, gp_i v3]) (s' := s7) 2 rfl ?_
          refine gs_E.br (c := ¬ v3 < v1) (p1 := 99) (p2 := 81) (l1 := [gp_r (some 74), gp_i v1, gp_i v2, gp_i v3, gp_i x4]) (l2 := [gp_r (some 74), gp_i v1, gp_i v2, gp_i v3, gp_i x4]) (s1 := []) (s2 := []) rfl gs_b2 (fun hc => ?_) (fun hc => ?_)
          · replace H := H.2 hc
            exact H
          · replace H := H.1 (Decidable.byContradiction hc)
            exact H

set_option maxRecDepth 100000 in
/-- GatheredPointsModel.dropsLeft, pc 81 -/
theorem s_3116_81 {L d : Nat} {K : Option gV → gH → Prop} {s : gH} (v1 : Int) (v2 : Int) (v3 : Int) (v4 : Int) (H : (∀ s1, s1 = gp_wL s 74 35 ((gp_L s 74 35) &&& (((1#64) <<< (v2 % 64).toNat) ^^^ (BitVec.ofInt 64 (-1)))) → K (some (gp_i 1)) s1)) : gs_E L (d + 1) 3116 81 [gp_r (some 74), gp_i v1, gp_i v2, gp_i v3, gp_i v4] [] s K := by
  refine gs_E.stp (pc' := 97) (ls' := [gp_r (some 74), gp_i v1, gp_i v2, gp_i v3, gp_i v4]) (st' := []) (s' := gp_wL s 74 35 ((gp_L s 74 35) &&& (((1#64) <<< (v2 % 64).toNat) ^^^ (BitVec.ofInt 64 (-1))))) 10 rfl ?_
  replace H := H _ rfl
  generalize gp_wL s 74 35 ((gp_L s 74 35) &&& (((1#64) <<< (v2 % 64).toNat) ^^^ (BitVec.ofInt 64 (-1)))) = s1 at H ⊢
  refine gs_E.stp (pc' := 98) (ls' := [gp_r (some 74), gp_i v1, gp_i v2, gp_i v3, gp_i v4]) (st' := [gp_i 1]) (s' := s1) 1 rfl ?_
  exact gs_E.ret (r := (some (gp_i 1))) rfl H

set_option maxRecDepth 100000 in
/-- GatheredPointsModel.dropsLeft, pc 99 -/
theorem s_3116_99 {L d : Nat} {K : Option gV → gH → Prop} {s : gH} (v1 : Int) (v2 : Int) (v3 : Int) (v4 : Int) (H : gs_E L (d + 1) 3116 27 [gp_r (some 74), gp_i v1, gp_i v2, gp_i (gp_wr (v3 + 1)), gp_i v4] [] s K) : gs_E L (d + 1) 3116 99 [gp_r (some 74), gp_i v1, gp_i v2, gp_i v3, gp_i v4] [] s K := by
  refine gs_E.stp (pc' := 27) (ls' := [gp_r (some 74), gp_i v1, gp_i v2, gp_i (gp_wr (v3 + 1)), gp_i v4]) (st' := []) (s' := s) 2 rfl ?_
  exact H

set_option maxRecDepth 100000 in
/-- GatheredPointsModel.dropsRight, pc 0 -/
theorem s_3117_e {L d : Nat} {K : Option gV → gH → Prop} {s : gH}  (H : gs_E L (d + 1) 3117 2 [gp_r (some 74), gp_i 0, gp_n, gp_n, gp_n] [] s K) : gs_C L (d + 1) 3117 5 [gp_r (some 74)] s K := by
  show gs_E L (d + 1) 3117 0 [gp_r (some 74), gp_n, gp_n, gp_n, gp_n] [] s K
  refine gs_E.stp (pc' := 2) (ls' := [gp_r (some 74), gp_i 0, gp_n, gp_n, gp_n]) (st' := []) (s' := s) 2 rfl ?_
  exact H

set_option maxRecDepth 100000 in
/-- GatheredPointsModel.dropsRight, pc 2 -/
theorem s_3117_2 {L d : Nat} {K : Option gV → gH → Prop} {s : gH} (v1 : Int) (v2 : gV) (v3 : gV) (v4 : gV) (H : gs_C L d 3079 4 [gp_l (gp_L s 74 36)] s (fun r s1 => ∃ x2, r = some (gp_i x2) ∧ ((v1 < x2 → gs_C L d 3092 8 [gp_r (some 74), gp_i 20, gp_l (gp_L s1 74 36), gp_i v1] s1 (fun r s3 => ∃ x4, r = some (gp_i x4) ∧ gs_E L (d + 1) 3117 27 [gp_r (some 74), gp_i v1, gp_i x4, gp_i 0, v4] [] s3 K)) ∧ (¬ v1 < x2 → K (some (gp_i 0)) s1)))) : gs_E L (d + 1) 3117 2 [gp_r (some 74), gp_i v1, v2, v3, v4] [] s K := by
  refine gs_E.stp (pc' := 7) (ls' := [gp_r (some 74), gp_i v1, v2, v3, v4]) (st' := [gp_l (gp_L s 74 36), gp_i v1]) (s' := s) 3 rfl ?_
  refine gs_E.call (args := [gp_l (gp_L s 74 36)]) (m := 4) (y' := 3079) (st' := [gp_i v1]) rfl H (fun r s1 H => ?_)
  obtain ⟨x2, rfl, H⟩ := H
  show gs_E L (d + 1) 3117 10 [gp_r (some 74), gp_i v1, v2, v3, v4] [gp_i x2, gp_i v1] s1 K
  refine gs_E.br (c := ¬ v1 < x2) (p1 := 111) (p2 := 13) (l1 := [gp_r (some 74), gp_i v1, v2, v3, v4]) (l2 := [gp_r (some 74), gp_i v1, v2, v3, v4]) (s1 := []) (s2 := []) rfl gs_b2 (fun hc => ?_) (fun hc => ?_)
  · replace H := H.2 hc
    refine gs_E.stp (pc' := 112) (ls' := [gp_r (some 74), gp_i v1, v2, v3, v4]) (st' := [gp_i 0]) (s' := s1) 1 rfl ?_
    exact gs_E.ret (r := (some (gp_i 0))) rfl H
  · replace H := H.1 (Decidable.byContradiction hc)
    refine gs_E.stp (pc' := 21) (ls' := [gp_r (some 74), gp_i v1, v2, v3, v4]) (st' := [gp_i v1, gp_l (gp_L s1 74 36), gp_i 20, gp_r (some 74)]) (s' := s1) 5 rfl ?_
    refine gs_E.call (args := [gp_r (some 74), gp_i 20, gp_l (gp_L s1 74 36), gp_i v1]) (m := 8) (y' := 3092) (st' := []) rfl H (fun r s3 H => ?_)
    obtain ⟨x4, rfl, H⟩ := H
    show gs_E L (d + 1) 3117 24 [gp_r (some 74), gp_i v1, v2, v3, v4] [gp_i x4] s3 K
    refine gs_E.stp (pc' := 27) (ls' := [gp_r (some 74), gp_i v1, gp_i x4, gp_i 0, v4]) (st' := []) (s' := s3) 3 rfl ?_
    exact H

set_option maxRecDepth 100000 in
/-- GatheredPointsModel.dropsRight, pc 27 -/
theorem s_3117_27 {L d : Nat} {K : Option gV → gH → Prop} {s : gH} (v1 : Int) (v2 : Int) (v3 : Int) (v4 : gV) (H : gs_C L d 3079 4 [gp_l (gp_L s 74 36)] s (fun r s1 => ∃ x2, r = some (gp_i x2) ∧ ((v3 < x2 → gs_C L d 3092 8 [gp_r (some 74), gp_i 20, gp_l (gp_L s1 74 36), gp_i v3] s1 (fun r s3 => ∃ x4, r = some (gp_i x4) ∧ ((v3 = v1 → gs_E L (d + 1) 3117 99 [gp_r (some 74), gp_i v1, gp_i v2, gp_i v3, gp_i x4] [] s3 K) ∧ (¬ v3 = v1 → gs_C L d 3112 3 [gp_r (some 74), gp_i v2, gp_i x4] s3 (fun r s5 => ∃ x6, r = some (gp_i x6) ∧ ((x6 = 0 → gs_E L (d + 1) 3117 99 [gp_r (some 74), gp_i v1, gp_i v2, gp_i v3, gp_i x4] [] s5 K) ∧ (¬ x6 = 0 → gs_C L d 3112 3 [gp_r (some 74), gp_i x4, gp_i v2] s5 (fun r s7 => ∃ x8, r = some (gp_i x8) ∧ ((x8 = 0 → gs_E L (d + 1) 3117 81 [gp_r (some 74), gp_i v1, gp_i v2, gp_i v3, gp_i x4] [] s7 K) ∧ (¬ x8 = 0 → ((v3 < v1 → gs_E L (d + 1) 3117 81 [gp_r (some 74), gp_i v1, gp_i v2, gp_i v3, gp_i x4] [] s7 K) ∧ (¬ v3 < v1 → gs_E L (d + 1) 3117 99 [gp_r (some 74), gp_i v1, gp_i v2, gp_i v3, gp_i x4] [] s7 K)))))))))))) ∧ (¬ v3 < x2 → gs_E L (d + 1) 3117 2 [gp_r (some 74), gp_i (gp_wr (v1 + 1)), gp_i v2, gp_i v3, v4] [] s1 K)))) : gs_E L (d + 1) 3117 27 [gp_r (some 74), gp_i v1, gp_i v2, gp_i v3, v4] [] s K := by
  refine gs_E.stp (pc' := 32) (ls' := [gp_r (some 74), gp_i v1, gp_i v2, gp_i v3, v4]) (st' := [gp_l (gp_L s 74 36), gp_i v3]) (s' := s) 3 rfl ?_
  refine gs_E.call (args := [gp_l (gp_L s 74 36)]) (m := 4) (y' := 3079) (st' := [gp_i v3]) rfl H (fun r s1 H => ?_)
  obtain ⟨x2, rfl, H⟩ := H
  show gs_E L (d + 1) 3117 35 [gp_r (some 74), gp_i v1, gp_i v2, gp_i v3, v4] [gp_i x2, gp_i v3] s1 K
  refine gs_E.br (c := ¬ v3 < x2) (p1 := 105) (p2 := 38) (l1 := [gp_r (some 74), gp_i v1, gp_i v2, gp_i v3, v4]) (l2 := [gp_r (some 74), gp_i v1, gp_i v2, gp_i v3, v4]) (s1 := []) (s2 := []) rfl gs_b2 (fun hc => ?_) (fun hc => ?_)
  · replace H := H.2 hc
    refine gs_E.stp (pc' := 2) (ls' := [gp_r (some 74), gp_i (gp_wr (v1 + 1)), gp_i v2, gp_i v3, v4]) (st' := []) (s' := s1) 2 rfl ?_
    exact H
  · replace H := H.1 (Decidable.byContradiction hc)
    refine gs_E.stp (pc' := 46) (ls' := [gp_r (some 74), gp_i v1, gp_i v2, gp_i v3, v4]) (st' := [gp_i v3, gp_l (gp_L s1 74 36), gp_i 20, gp_r (some 74)]) (s' := s1) 5 rfl ?_
    refine gs_E.call (args := [gp_r (some 74), gp_i 20, gp_l (gp_L s1 74 36), gp_i v3]) (m := 8) (y' := 3092) (st' := []) rfl H (fun r s3 H => ?_)
    obtain ⟨x4, rfl, H⟩ := H
    show gs_E L (d + 1) 3117 49 [gp_r (some 74), gp_i v1, gp_i v2, gp_i v3, v4] [gp_i x4] s3 K
    refine gs_E.stp (pc' := 53) (ls' := [gp_r (some 74), gp_i v1, gp_i v2, gp_i v3, gp_i x4]) (st' := [gp_i v1, gp_i v3]) (s' := s3) 3 rfl ?_
    refine gs_E.br (c := v3 = v1) (p1 := 99) (p2 := 56) (l1 := [gp_r (some 74), gp_i v1, gp_i v2, gp_i v3, gp_i x4]) (l2 := [gp_r (some 74), gp_i v1, gp_i v2, gp_i v3, gp_i x4]) (s1 := []) (s2 := []) rfl gs_b1 (fun hc => ?_) (fun hc => ?_)
    · replace H := H.1 hc
      exact H
    · replace H := H.2 hc
      refine gs_E.stp (pc' := 60) (ls' := [gp_r (some 74), gp_i v1, gp_i v2, gp_i v3, gp_i x4]) (st' := [gp_i x4, gp_i v2, gp_r (some 74)]) (s' := s3) 3 rfl ?_
      refine gs_E.call (args := [gp_r (some 74), gp_i v2, gp_i x4]) (m := 3) (y' := 3112) (st' := []) rfl H (fun r s5 H => ?_)
      obtain ⟨x6, rfl, H⟩ := H
      show gs_E L (d + 1) 3117 63 [gp_r (some 74), gp_i v1, gp_i v2, gp_i v3, gp_i x4] [gp_i x6] s5 K
      refine gs_E.br (c := x6 = 0) (p1 := 99) (p2 := 66) (l1 := [gp_r (some 74), gp_i v1, gp_i v2, gp_i v3, gp_i x4]) (l2 := [gp_r (some 74), gp_i v1, gp_i v2, gp_i v3, gp_i x4]) (s1 := []) (s2 := []) rfl gs_b1 (fun hc => ?_) (fun hc => ?_)
      · replace H := H.1 hc
        exact H
      · replace H := H.2 hc
        refine gs_E.stp (pc' := 70) (ls' := [gp_r (some 74), gp_i v1, gp_i v2, gp_i v3, gp_i x4]) (st' := [gp_i v2, gp_i x4, gp_r (some 74)]) (s' := s5) 3 rfl ?_
        refine gs_E.call (args := [gp_r (some 74), gp_i x4, gp_i v2]) (m := 3) (y' := 3112) (st' := []) rfl H (fun r s7 H => ?_)
        obtain ⟨x8, rfl, H⟩ := H
        show gs_E L (d + 1) 3117 73 [gp_r (some 74), gp_i v1, gp_i v2, gp_i v3, gp_i x4] [gp_i x8] s7 K
        refine gs_E.br (c := x8 = 0) (p1 := 81) (p2 := 76) (l1 := [gp_r (some 74), gp_i v1, gp_i v2, gp_i v3, gp_i x4]) (l2 := [gp_r (some 74), gp_i v1, gp_i v2, gp_i v3, gp_i x4]) (s1 := []) (s2 := []) rfl gs_b1 (fun hc => ?_) (fun hc => ?_)
        · replace H := H.1 hc
          exact H
        · replace H := H.2 hc
          refine gs_E.stp (pc' := 78) (ls' := [gp_r (some 74), gp_i v1, gp_i v2, gp_i v3, gp_i x4]) (st' := [gp_i v1, gp_i v3]) (s' := s7) 2 rfl ?_
          refine gs_E.br (c := ¬ v3 < v1) (p1 := 99) (p2 := 81) (l1 := [gp_r (some 74), gp_i v1, gp_i v2, gp_i v3, gp_i x4]) (l2 := [gp_r (some 74), gp_i v1, gp_i v2, gp_i v3, gp_i x4]) (s1 := []) (s2 := []) rfl gs_b2 (fun hc => ?_) (fun hc => ?_)
          · replace H := H.2 hc
            exact H
          · replace H := H.1 (Decidable.byContradiction hc)
            exact H

set_option maxRecDepth 100000 in
/-- GatheredPointsModel.dropsRight, pc 81 -/
theorem s_3117_81 {L d : Nat} {K : Option gV → gH → Prop} {s : gH} (v1 : Int) (v2 : Int) (v3 : Int) (v4 : Int) (H : (∀ s1, s1 = gp_wL s 74 36 ((gp_L s 74 36) &&& (((1#64) <<< (v2 % 64).toNat) ^^^ (BitVec.ofInt 64 (-1)))) → K (some (gp_i 1)) s1)) : gs_E L (d + 1) 3117 81 [gp_r (some 74), gp_i v1, gp_i v2, gp_i v3, gp_i v4] [] s K := by
  refine gs_E.stp (pc' := 97) (ls' := [gp_r (some 74), gp_i v1, gp_i v2, gp_i v3, gp_i v4]) (st' := []) (s' := gp_wL s 74 36 ((gp_L s 74 36) &&& (((1#64) <<< (v2 % 64).toNat) ^^^ (BitVec.ofInt 64 (-1))))) 10 rfl ?_
  replace H := H _ rfl
  generalize gp_wL s 74 36 ((gp_L s 74 36) &&& (((1#64) <<< (v2 % 64).toNat) ^^^ (BitVec.ofInt 64 (-1)))) = s1 at H ⊢
  refine gs_E.stp (pc' := 98) (ls' := [gp_r (some 74), gp_i v1, gp_i v2, gp_i v3, gp_i v4]) (st' := [gp_i 1]) (s' := s1) 1 rfl ?_
  exact gs_E.ret (r := (some (gp_i 1))) rfl H

set_option maxRecDepth 100000 in
/-- GatheredPointsModel.dropsRight, pc 99 -/
theorem s_3117_99 {L d : Nat} {K : Option gV → gH → Prop} {s : gH} (v1 : Int) (v2 : Int) (v3 : Int) (v4 : Int) (H : gs_E L (d + 1) 3117 27 [gp_r (some 74), gp_i v1, gp_i v2, gp_i (gp_wr (v3 + 1)), gp_i v4] [] s K) : gs_E L (d + 1) 3117 99 [gp_r (some 74), gp_i v1, gp_i v2, gp_i v3, gp_i v4] [] s K := by
  refine gs_E.stp (pc' := 27) (ls' := [gp_r (some 74), gp_i v1, gp_i v2, gp_i (gp_wr (v3 + 1)), gp_i v4]) (st' := []) (s' := s) 2 rfl ?_
  exact H

set_option maxRecDepth 100000 in
/-- GatheredPointsModel.sum, pc 0 -/
theorem s_3118_e {L d : Nat} {K : Option gV → gH → Prop} {s : gH} (p0 : Int) (p1 : Int) (p2 : Int) (p3 : Int) (H : ((0 ≤ (gp_wr ((gp_wr (64 * p1)) + p3)) ∧ (gp_wr ((gp_wr (64 * p1)) + p3)) < 4096) ∧ (((gp_I s 105 (gp_wr ((gp_wr (64 * p1)) + p3)).toNat) = 0 → gs_E L (d + 1) 3118 24 [gp_r (some 74), gp_i p0, gp_i p1, gp_i p2, gp_i p3, gp_l (0#64), gp_n, gp_l (0#64), gp_n, gp_i 0, gp_n] [] s K) ∧ (¬ (gp_I s 105 (gp_wr ((gp_wr (64 * p1)) + p3)).toNat) = 0 → gs_E L (d + 1) 3118 301 [gp_r (some 74), gp_i p0, gp_i p1, gp_i p2, gp_i p3, gp_n, gp_n, gp_n, gp_n, gp_n, gp_n] [] s K)))) : gs_C L (d + 1) 3118 11 [gp_r (some 74), gp_i p0, gp_i p1, gp_i p2, gp_i p3] s K := by
  show gs_E L (d + 1) 3118 0 [gp_r (some 74), gp_i p0, gp_i p1, gp_i p2, gp_i p3, gp_n, gp_n, gp_n, gp_n, gp_n, gp_n] [] s K
  refine gs_E.stp (pc' := 11) (ls' := [gp_r (some 74), gp_i p0, gp_i p1, gp_i p2, gp_i p3, gp_n, gp_n, gp_n, gp_n, gp_n, gp_n]) (st' := [gp_i (gp_wr ((gp_wr (64 * p1)) + p3)), gp_r (some 105)]) (s' := s) 7 rfl ?_
  refine gs_E.ck (pc' := 12) (ls' := [gp_r (some 74), gp_i p0, gp_i p1, gp_i p2, gp_i p3, gp_n, gp_n, gp_n, gp_n, gp_n, gp_n]) (st' := [gp_i (gp_I s 105 (gp_wr ((gp_wr (64 * p1)) + p3)).toNat)]) (s' := s) rfl (Or.inl ⟨rfl, H.1.1, H.1.2⟩) ?_
  replace H := H.2
  refine gs_E.br (c := ¬ (gp_I s 105 (gp_wr ((gp_wr (64 * p1)) + p3)).toNat) = 0) (p1 := 301) (p2 := 15) (l1 := [gp_r (some 74), gp_i p0, gp_i p1, gp_i p2, gp_i p3, gp_n, gp_n, gp_n, gp_n, gp_n, gp_n]) (l2 := [gp_r (some 74), gp_i p0, gp_i p1, gp_i p2, gp_i p3, gp_n, gp_n, gp_n, gp_n, gp_n, gp_n]) (s1 := []) (s2 := []) rfl gs_b2 (fun hc => ?_) (fun hc => ?_)
  · replace H := H.2 hc
    exact H
  · replace H := H.1 (Decidable.byContradiction hc)
    refine gs_E.stp (pc' := 24) (ls' := [gp_r (some 74), gp_i p0, gp_i p1, gp_i p2, gp_i p3, gp_l (0#64), gp_n, gp_l (0#64), gp_n, gp_i 0, gp_n]) (st' := []) (s' := s) 6 rfl ?_
    exact H

set_option maxRecDepth 100000 in
/-- GatheredPointsModel.sum, pc 24 -/
theorem s_3118_24 {L d : Nat} {K : Option gV → gH → Prop} {s : gH} (v1 : Int) (v2 : Int) (v3 : Int) (v4 : Int) (v5 : BitVec 64) (v7 : BitVec 64) (v9 : Int) (v10 : gV) (H : ((v9 < v2 → ((0 ≤ (gp_wr ((gp_wr (64 * v1)) + v2)) ∧ (gp_wr ((gp_wr (64 * v1)) + v2)) < 5440) ∧ gs_C L d 3078 3 [gp_l (gp_L s 76 (gp_wr ((gp_wr (64 * v1)) + v2)).toNat), gp_i v9] s (fun r s1 => ∃ x2, r = some (gp_i x2) ∧ ((x2 = 0 → gs_E L (d + 1) 3118 67 [gp_r (some 74), gp_i v1, gp_i v2, gp_i v3, gp_i v4, gp_l v5, gp_n, gp_l v7, gp_n, gp_i v9, v10] [gp_l (0#64), gp_l v5] s1 K) ∧ (¬ x2 = 0 → gs_C L d 3118 11 [gp_r (some 74), gp_i v1, gp_i v9, gp_i v3, gp_i v4] s1 (fun r s3 => ∃ x4, r = some (gp_i x4) ∧ gs_E L (d + 1) 3118 67 [gp_r (some 74), gp_i v1, gp_i v2, gp_i v3, gp_i v4, gp_l v5, gp_n, gp_l v7, gp_n, gp_i v9, v10] [gp_l ((1#64) <<< (x4 % 64).toNat), gp_l v5] s3 K)))))) ∧ (¬ v9 < v2 → gs_E L (d + 1) 3118 119 [gp_r (some 74), gp_i v1, gp_i v2, gp_i v3, gp_i v4, gp_l v5, gp_n, gp_l v7, gp_n, gp_i 0, v10] [] s K))) : gs_E L (d + 1) 3118 24 [gp_r (some 74), gp_i v1, gp_i v2, gp_i v3, gp_i v4, gp_l v5, gp_n, gp_l v7, gp_n, gp_i v9, v10] [] s K := by
  refine gs_E.stp (pc' := 27) (ls' := [gp_r (some 74), gp_i v1, gp_i v2, gp_i v3, gp_i v4, gp_l v5, gp_n, gp_l v7, gp_n, gp_i v9, v10]) (st' := [gp_i v2, gp_i v9]) (s' := s) 2 rfl ?_
  refine gs_E.br (c := ¬ v9 < v2) (p1 := 116) (p2 := 30) (l1 := [gp_r (some 74), gp_i v1, gp_i v2, gp_i v3, gp_i v4, gp_l v5, gp_n, gp_l v7, gp_n, gp_i v9, v10]) (l2 := [gp_r (some 74), gp_i v1, gp_i v2, gp_i v3, gp_i v4, gp_l v5, gp_n, gp_l v7, gp_n, gp_i v9, v10]) (s1 := []) (s2 := []) rfl gs_b2 (fun hc => ?_) (fun hc => ?_)
  · replace H := H.2 hc
    refine gs_E.stp (pc' := 119) (ls' := [gp_r (some 74), gp_i v1, gp_i v2, gp_i v3, gp_i v4, gp_l v5, gp_n, gp_l v7, gp_n, gp_i 0, v10]) (st' := []) (s' := s) 2 rfl ?_
    exact H
  · replace H := H.1 (Decidable.byContradiction hc)
    refine gs_E.stp (pc' := 42) (ls' := [gp_r (some 74), gp_i v1, gp_i v2, gp_i v3, gp_i v4, gp_l v5, gp_n, gp_l v7, gp_n, gp_i v9, v10]) (st' := [gp_i (gp_wr ((gp_wr (64 * v1)) + v2)), gp_r (some 76), gp_l v5]) (s' := s) 8 rfl ?_
    refine gs_E.ck (pc' := 43) (ls' := [gp_r (some 74), gp_i v1, gp_i v2, gp_i v3, gp_i v4, gp_l v5, gp_n, gp_l v7, gp_n, gp_i v9, v10]) (st' := [gp_l (gp_L s 76 (gp_wr ((gp_wr (64 * v1)) + v2)).toNat), gp_l v5]) (s' := s) rfl ⟨rfl, H.1.1, H.1.2⟩ ?_
    replace H := H.2
    refine gs_E.stp (pc' := 45) (ls' := [gp_r (some 74), gp_i v1, gp_i v2, gp_i v3, gp_i v4, gp_l v5, gp_n, gp_l v7, gp_n, gp_i v9, v10]) (st' := [gp_i v9, gp_l (gp_L s 76 (gp_wr ((gp_wr (64 * v1)) + v2)).toNat), gp_l v5]) (s' := s) 1 rfl ?_
    refine gs_E.call (args := [gp_l (gp_L s 76 (gp_wr ((gp_wr (64 * v1)) + v2)).toNat), gp_i v9]) (m := 3) (y' := 3078) (st' := [gp_l v5]) rfl H (fun r s1 H => ?_)
    obtain ⟨x2, rfl, H⟩ := H
    show gs_E L (d + 1) 3118 48 [gp_r (some 74), gp_i v1, gp_i v2, gp_i v3, gp_i v4, gp_l v5, gp_n, gp_l v7, gp_n, gp_i v9, v10] [gp_i x2, gp_l v5] s1 K
    refine gs_E.br (c := x2 = 0) (p1 := 66) (p2 := 51) (l1 := [gp_r (some 74), gp_i v1, gp_i v2, gp_i v3, gp_i v4, gp_l v5, gp_n, gp_l v7, gp_n, gp_i v9, v10]) (l2 := [gp_r (some 74), gp_i v1, gp_i v2, gp_i v3, gp_i v4, gp_l v5, gp_n, gp_l v7, gp_n, gp_i v9, v10]) (s1 := [gp_l v5]) (s2 := [gp_l v5]) rfl gs_b1 (fun hc => ?_) (fun hc => ?_)
    · replace H := H.1 hc
      refine gs_E.stp (pc' := 67) (ls' := [gp_r (some 74), gp_i v1, gp_i v2, gp_i v3, gp_i v4, gp_l v5, gp_n, gp_l v7, gp_n, gp_i v9, v10]) (st' := [gp_l (0#64), gp_l v5]) (s' := s1) 1 rfl ?_
      exact H
    · replace H := H.2 hc
      refine gs_E.stp (pc' := 59) (ls' := [gp_r (some 74), gp_i v1, gp_i v2, gp_i v3, gp_i v4, gp_l v5, gp_n, gp_l v7, gp_n, gp_i v9, v10]) (st' := [gp_i v4, gp_i v3, gp_i v9, gp_i v1, gp_r (some 74), gp_l (1#64), gp_l v5]) (s' := s1) 6 rfl ?_
      refine gs_E.call (args := [gp_r (some 74), gp_i v1, gp_i v9, gp_i v3, gp_i v4]) (m := 11) (y' := 3118) (st' := [gp_l (1#64), gp_l v5]) rfl H (fun r s3 H => ?_)
      obtain ⟨x4, rfl, H⟩ := H
      show gs_E L (d + 1) 3118 62 [gp_r (some 74), gp_i v1, gp_i v2, gp_i v3, gp_i v4, gp_l v5, gp_n, gp_l v7, gp_n, gp_i v9, v10] [gp_i x4, gp_l (1#64), gp_l v5] s3 K
      refine gs_E.stp (pc' := 67) (ls' := [gp_r (some 74), gp_i v1, gp_i v2, gp_i v3, gp_i v4, gp_l v5, gp_n, gp_l v7, gp_n, gp_i v9, v10]) (st' := [gp_l ((1#64) <<< (x4 % 64).toNat), gp_l v5]) (s' := s3) 2 rfl ?_
      exact H

set_option maxRecDepth 100000 in
/-- GatheredPointsModel.sum, pc 67 -/
theorem s_3118_67 {L d : Nat} {K : Option gV → gH → Prop} {s : gH} (v1 : Int) (v2 : Int) (v3 : Int) (v4 : Int) (v5 : BitVec 64) (v7 : BitVec 64) (v9 : Int) (v10 : gV) (w0 : BitVec 64) (w1 : BitVec 64) (H : ((0 ≤ (gp_wr ((gp_wr (64 * v1)) + v2)) ∧ (gp_wr ((gp_wr (64 * v1)) + v2)) < 5440) ∧ gs_C L d 3078 3 [gp_l (gp_L s 77 (gp_wr ((gp_wr (64 * v1)) + v2)).toNat), gp_i v9] s (fun r s1 => ∃ x2, r = some (gp_i x2) ∧ ((x2 = 0 → gs_E L (d + 1) 3118 107 [gp_r (some 74), gp_i v1, gp_i v2, gp_i v3, gp_i v4, gp_l (w0 ||| w1), gp_n, gp_l v7, gp_n, gp_i v9, v10] [gp_l (0#64), gp_l v7] s1 K) ∧ (¬ x2 = 0 → gs_C L d 3118 11 [gp_r (some 74), gp_i v1, gp_i v9, gp_i v3, gp_i v4] s1 (fun r s3 => ∃ x4, r = some (gp_i x4) ∧ gs_E L (d + 1) 3118 107 [gp_r (some 74), gp_i v1, gp_i v2, gp_i v3, gp_i v4, gp_l (w0 ||| w1), gp_n, gp_l v7, gp_n, gp_i v9, v10] [gp_l ((1#64) <<< (x4 % 64).toNat), gp_l v7] s3 K)))))) : gs_E L (d + 1) 3118 67 [gp_r (some 74), gp_i v1, gp_i v2, gp_i v3, gp_i v4, gp_l v5, gp_n, gp_l v7, gp_n, gp_i v9, v10] [gp_l w1, gp_l w0] s K := by
  refine gs_E.stp (pc' := 82) (ls' := [gp_r (some 74), gp_i v1, gp_i v2, gp_i v3, gp_i v4, gp_l (w0 ||| w1), gp_n, gp_l v7, gp_n, gp_i v9, v10]) (st' := [gp_i (gp_wr ((gp_wr (64 * v1)) + v2)), gp_r (some 77), gp_l v7]) (s' := s) 10 rfl ?_
  refine gs_E.ck (pc' := 83) (ls' := [gp_r (some 74), gp_i v1, gp_i v2, gp_i v3, gp_i v4, gp_l (w0 ||| w1), gp_n, gp_l v7, gp_n, gp_i v9, v10]) (st' := [gp_l (gp_L s 77 (gp_wr ((gp_wr (64 * v1)) + v2)).toNat), gp_l v7]) (s' := s) rfl ⟨rfl, H.1.1, H.1.2⟩ ?_
  replace H := H.2
  refine gs_E.stp (pc' := 85) (ls' := [gp_r (some 74), gp_i v1, gp_i v2, gp_i v3, gp_i v4, gp_l (w0 ||| w1), gp_n, gp_l v7, gp_n, gp_i v9, v10]) (st' := [gp_i v9, gp_l (gp_L s 77 (gp_wr ((gp_wr (64 * v1)) + v2)).toNat), gp_l v7]) (s' := s) 1 rfl ?_
  refine gs_E.call (args := [gp_l (gp_L s 77 (gp_wr ((gp_wr (64 * v1)) + v2)).toNat), gp_i v9]) (m := 3) (y' := 3078) (st' := [gp_l v7]) rfl H (fun r s1 H => ?_)
  obtain ⟨x2, rfl, H⟩ := H
  show gs_E L (d + 1) 3118 88 [gp_r (some 74), gp_i v1, gp_i v2, gp_i v3, gp_i v4, gp_l (w0 ||| w1), gp_n, gp_l v7, gp_n, gp_i v9, v10] [gp_i x2, gp_l v7] s1 K
  refine gs_E.br (c := x2 = 0) (p1 := 106) (p2 := 91) (l1 := [gp_r (some 74), gp_i v1, gp_i v2, gp_i v3, gp_i v4, gp_l (w0 ||| w1), gp_n, gp_l v7, gp_n, gp_i v9, v10]) (l2 := [gp_r (some 74), gp_i v1, gp_i v2, gp_i v3, gp_i v4, gp_l (w0 ||| w1), gp_n, gp_l v7, gp_n, gp_i v9, v10]) (s1 := [gp_l v7]) (s2 := [gp_l v7]) rfl gs_b1 (fun hc => ?_) (fun hc => ?_)
  · replace H := H.1 hc
    refine gs_E.stp (pc' := 107) (ls' := [gp_r (some 74), gp_i v1, gp_i v2, gp_i v3, gp_i v4, gp_l (w0 ||| w1), gp_n, gp_l v7, gp_n, gp_i v9, v10]) (st' := [gp_l (0#64), gp_l v7]) (s' := s1) 1 rfl ?_
    exact H
  · replace H := H.2 hc
    refine gs_E.stp (pc' := 99) (ls' := [gp_r (some 74), gp_i v1, gp_i v2, gp_i v3, gp_i v4, gp_l (w0 ||| w1), gp_n, gp_l v7, gp_n, gp_i v9, v10]) (st' := [gp_i v4, gp_i v3, gp_i v9, gp_i v1, gp_r (some 74), gp_l (1#64), gp_l v7]) (s' := s1) 6 rfl ?_
    refine gs_E.call (args := [gp_r (some 74), gp_i v1, gp_i v9, gp_i v3, gp_i v4]) (m := 11) (y' := 3118) (st' := [gp_l (1#64), gp_l v7]) rfl H (fun r s3 H => ?_)
    obtain ⟨x4, rfl, H⟩ := H
    show gs_E L (d + 1) 3118 102 [gp_r (some 74), gp_i v1, gp_i v2, gp_i v3, gp_i v4, gp_l (w0 ||| w1), gp_n, gp_l v7, gp_n, gp_i v9, v10] [gp_i x4, gp_l (1#64), gp_l v7] s3 K
    refine gs_E.stp (pc' := 107) (ls' := [gp_r (some 74), gp_i v1, gp_i v2, gp_i v3, gp_i v4, gp_l (w0 ||| w1), gp_n, gp_l v7, gp_n, gp_i v9, v10]) (st' := [gp_l ((1#64) <<< (x4 % 64).toNat), gp_l v7]) (s' := s3) 2 rfl ?_
    exact H

set_option maxRecDepth 100000 in
/-- GatheredPointsModel.sum, pc 107 -/
theorem s_3118_107 {L d : Nat} {K : Option gV → gH → Prop} {s : gH} (v1 : Int) (v2 : Int) (v3 : Int) (v4 : Int) (v5 : BitVec 64) (v7 : BitVec 64) (v9 : Int) (v10 : gV) (w0 : BitVec 64) (w1 : BitVec 64) (H : gs_E L (d + 1) 3118 24 [gp_r (some 74), gp_i v1, gp_i v2, gp_i v3, gp_i v4, gp_l v5, gp_n, gp_l (w0 ||| w1), gp_n, gp_i (gp_wr (v9 + 1)), v10] [] s K) : gs_E L (d + 1) 3118 107 [gp_r (some 74), gp_i v1, gp_i v2, gp_i v3, gp_i v4, gp_l v5, gp_n, gp_l v7, gp_n, gp_i v9, v10] [gp_l w1, gp_l w0] s K := by
  refine gs_E.stp (pc' := 24) (ls' := [gp_r (some 74), gp_i v1, gp_i v2, gp_i v3, gp_i v4, gp_l v5, gp_n, gp_l (w0 ||| w1), gp_n, gp_i (gp_wr (v9 + 1)), v10]) (st' := []) (s' := s) 4 rfl ?_
  exact H

set_option maxRecDepth 100000 in
/-- GatheredPointsModel.sum, pc 119 -/
theorem s_3118_119 {L d : Nat} {K : Option gV → gH → Prop} {s : gH} (v1 : Int) (v2 : Int) (v3 : Int) (v4 : Int) (v5 : BitVec 64) (v7 : BitVec 64) (v9 : Int) (v10 : gV) (H : ((v9 < v4 → ((0 ≤ (gp_wr ((gp_wr (64 * v3)) + v4)) ∧ (gp_wr ((gp_wr (64 * v3)) + v4)) < 5440) ∧ gs_C L d 3078 3 [gp_l (gp_L s 76 (gp_wr ((gp_wr (64 * v3)) + v4)).toNat), gp_i v9] s (fun r s3 => ∃ x4, r = some (gp_i x4) ∧ ((x4 = 0 → gs_E L (d + 1) 3118 163 [gp_r (some 74), gp_i v1, gp_i v2, gp_i v3, gp_i v4, gp_l v5, gp_n, gp_l v7, gp_n, gp_i v9, v10] [gp_l (0#64), gp_l v5] s3 K) ∧ (¬ x4 = 0 → gs_C L d 3118 11 [gp_r (some 74), gp_i v1, gp_i v2, gp_i v3, gp_i v9] s3 (fun r s5 => ∃ x6, r = some (gp_i x6) ∧ gs_E L (d + 1) 3118 163 [gp_r (some 74), gp_i v1, gp_i v2, gp_i v3, gp_i v4, gp_l v5, gp_n, gp_l v7, gp_n, gp_i v9, v10] [gp_l ((1#64) <<< (x6 % 64).toNat), gp_l v5] s5 K)))))) ∧ (¬ v9 < v4 → ((0 ≤ (gp_wr ((gp_wr (64 * v1)) + v2)) ∧ (gp_wr ((gp_wr (64 * v1)) + v2)) < 5440) ∧ ((0 ≤ (gp_wr ((gp_wr (64 * v3)) + v4)) ∧ (gp_wr ((gp_wr (64 * v3)) + v4)) < 5440) ∧ ((0 ≤ (gp_wr ((gp_wr (64 * v1)) + v2)) ∧ (gp_wr ((gp_wr (64 * v1)) + v2)) < 5440) ∧ ((0 ≤ (gp_wr ((gp_wr (64 * v3)) + v4)) ∧ (gp_wr ((gp_wr (64 * v3)) + v4)) < 5440) ∧ (((gp_I s 74 15) = 0 → gs_C L d 3088 9 [gp_r (some 74), gp_l v5, gp_l v7, gp_i (gp_wr ((gp_I s 78 (gp_wr ((gp_wr (64 * v1)) + v2)).toNat) + (gp_I s 78 (gp_wr ((gp_wr (64 * v3)) + v4)).toNat))), gp_i (gp_wr ((gp_I s 79 (gp_wr ((gp_wr (64 * v1)) + v2)).toNat) + (gp_I s 79 (gp_wr ((gp_wr (64 * v3)) + v4)).toNat)))] s (fun r s1 => ∃ x2, r = some (gp_i x2) ∧ gs_E L (d + 1) 3118 299 [gp_r (some 74), gp_i v1, gp_i v2, gp_i v3, gp_i v4, gp_l v5, gp_n, gp_l v7, gp_n, gp_i (gp_wr ((gp_I s 78 (gp_wr ((gp_wr (64 * v1)) + v2)).toNat) + (gp_I s 78 (gp_wr ((gp_wr (64 * v3)) + v4)).toNat))), gp_i (gp_wr ((gp_I s 79 (gp_wr ((gp_wr (64 * v1)) + v2)).toNat) + (gp_I s 79 (gp_wr ((gp_wr (64 * v3)) + v4)).toNat)))] [gp_i x2, gp_i 1, gp_i (gp_wr ((gp_wr (64 * v2)) + v4)), gp_r (some 105)] s1 K)) ∧ (¬ (gp_I s 74 15) = 0 → gs_E L (d + 1) 3118 299 [gp_r (some 74), gp_i v1, gp_i v2, gp_i v3, gp_i v4, gp_l v5, gp_n, gp_l v7, gp_n, gp_i (gp_wr ((gp_I s 78 (gp_wr ((gp_wr (64 * v1)) + v2)).toNat) + (gp_I s 78 (gp_wr ((gp_wr (64 * v3)) + v4)).toNat))), gp_i (gp_wr ((gp_I s 79 (gp_wr ((gp_wr (64 * v1)) + v2)).toNat) + (gp_I s 79 (gp_wr ((gp_wr (64 * v3)) + v4)).toNat)))] [gp_i 0, gp_i 1, gp_i (gp_wr ((gp_wr (64 * v2)) + v4)), gp_r (some 105)] s K))))))))) : gs_E L (d + 1) 3118 119 [gp_r (some 74), gp_i v1, gp_i v2, gp_i v3, gp_i v4, gp_l v5, gp_n, gp_l v7, gp_n, gp_i v9, v10] [] s K := by
  refine gs_E.stp (pc' := 123) (ls' := [gp_r (some 74), gp_i v1, gp_i v2, gp_i v3, gp_i v4, gp_l v5, gp_n, gp_l v7, gp_n, gp_i v9, v10]) (st' := [gp_i v4, gp_i v9]) (s' := s) 2 rfl ?_
  refine gs_E.br (c := ¬ v9 < v4) (p1 := 212) (p2 := 126) (l1 := [gp_r (some 74), gp_i v1, gp_i v2, gp_i v3, gp_i v4, gp_l v5, gp_n, gp_l v7, gp_n, gp_i v9, v10]) (l2 := [gp_r (some 74), gp_i v1, gp_i v2, gp_i v3, gp_i v4, gp_l v5, gp_n, gp_l v7, gp_n, gp_i v9, v10]) (s1 := []) (s2 := []) rfl gs_b2 (fun hc => ?_) (fun hc => ?_)
  · replace H := H.2 hc
    refine gs_E.stp (pc' := 222) (ls' := [gp_r (some 74), gp_i v1, gp_i v2, gp_i v3, gp_i v4, gp_l v5, gp_n, gp_l v7, gp_n, gp_i v9, v10]) (st' := [gp_i (gp_wr ((gp_wr (64 * v1)) + v2)), gp_r (some 78)]) (s' := s) 7 rfl ?_
    refine gs_E.ck (pc' := 223) (ls' := [gp_r (some 74), gp_i v1, gp_i v2, gp_i v3, gp_i v4, gp_l v5, gp_n, gp_l v7, gp_n, gp_i v9, v10]) (st' := [gp_i (gp_I s 78 (gp_wr ((gp_wr (64 * v1)) + v2)).toNat)]) (s' := s) rfl (Or.inl ⟨rfl, H.1.1, H.1.2⟩) ?_
    replace H := H.2
    refine gs_E.stp (pc' := 234) (ls' := [gp_r (some 74), gp_i v1, gp_i v2, gp_i v3, gp_i v4, gp_l v5, gp_n, gp_l v7, gp_n, gp_i v9, v10]) (st' := [gp_i (gp_wr ((gp_wr (64 * v3)) + v4)), gp_r (some 78), gp_i (gp_I s 78 (gp_wr ((gp_wr (64 * v1)) + v2)).toNat)]) (s' := s) 7 rfl ?_
    refine gs_E.ck (pc' := 235) (ls' := [gp_r (some 74), gp_i v1, gp_i v2, gp_i v3, gp_i v4, gp_l v5, gp_n, gp_l v7, gp_n, gp_i v9, v10]) (st' := [gp_i (gp_I s 78 (gp_wr ((gp_wr (64 * v3)) + v4)).toNat), gp_i (gp_I s 78 (gp_wr ((gp_wr (64 * v1)) + v2)).toNat)]) (s' := s) rfl (Or.inl ⟨rfl, H.1.1, H.1.2⟩) ?_
    replace H := H.2
    refine gs_E.stp (pc' := 248) (ls' := [gp_r (some 74), gp_i v1, gp_i v2, gp_i v3, gp_i v4, gp_l v5, gp_n, gp_l v7, gp_n, gp_i (gp_wr ((gp_I s 78 (gp_wr ((gp_wr (64 * v1)) + v2)).toNat) + (gp_I s 78 (gp_wr ((gp_wr (64 * v3)) + v4)).toNat))), v10]) (st' := [gp_i (gp_wr ((gp_wr (64 * v1)) + v2)), gp_r (some 79)]) (s' := s) 9 rfl ?_
    refine gs_E.ck (pc' := 249) (ls' := [gp_r (some 74), gp_i v1, gp_i v2, gp_i v3, gp_i v4, gp_l v5, gp_n, gp_l v7, gp_n, gp_i (gp_wr ((gp_I s 78 (gp_wr ((gp_wr (64 * v1)) + v2)).toNat) + (gp_I s 78 (gp_wr ((gp_wr (64 * v3)) + v4)).toNat))), v10]) (st' := [gp_i (gp_I s 79 (gp_wr ((gp_wr (64 * v1)) + v2)).toNat)]) (s' := s) rfl (Or.inl ⟨rfl, H.1.1, H.1.2⟩) ?_
    replace H := H.2
    refine gs_E.stp (pc' := 260) (ls' := [gp_r (some 74), gp_i v1, gp_i v2, gp_i v3, gp_i v4, gp_l v5, gp_n, gp_l v7, gp_n, gp_i (gp_wr ((gp_I s 78 (gp_wr ((gp_wr (64 * v1)) + v2)).toNat) + (gp_I s 78 (gp_wr ((gp_wr (64 * v3)) + v4)).toNat))), v10]) (st' := [gp_i (gp_wr ((gp_wr (64 * v3)) + v4)), gp_r (some 79), gp_i (gp_I s 79 (gp_wr ((gp_wr (64 * v1)) + v2)).toNat)]) (s' := s) 7 rfl ?_
    refine gs_E.ck (pc' := 261) (ls' := [gp_r (some 74), gp_i v1, gp_i v2, gp_i v3, gp_i v4, gp_l v5, gp_n, gp_l v7, gp_n, gp_i (gp_wr ((gp_I s 78 (gp_wr ((gp_wr (64 * v1)) + v2)).toNat) + (gp_I s 78 (gp_wr ((gp_wr (64 * v3)) + v4)).toNat))), v10]) (st' := [gp_i (gp_I s 79 (gp_wr ((gp_wr (64 * v3)) + v4)).toNat), gp_i (gp_I s 79 (gp_wr ((gp_wr (64 * v1)) + v2)).toNat)]) (s' := s) rfl (Or.inl ⟨rfl, H.1.1, H.1.2⟩) ?_
    replace H := H.2
    refine gs_E.stp (pc' := 280) (ls' := [gp_r (some 74), gp_i v1, gp_i v2, gp_i v3, gp_i v4, gp_l v5, gp_n, gp_l v7, gp_n, gp_i (gp_wr ((gp_I s 78 (gp_wr ((gp_wr (64 * v1)) + v2)).toNat) + (gp_I s 78 (gp_wr ((gp_wr (64 * v3)) + v4)).toNat))), gp_i (gp_wr ((gp_I s 79 (gp_wr ((gp_wr (64 * v1)) + v2)).toNat) + (gp_I s 79 (gp_wr ((gp_wr (64 * v3)) + v4)).toNat)))]) (st' := [gp_i (gp_I s 74 15), gp_i 1, gp_i (gp_wr ((gp_wr (64 * v2)) + v4)), gp_r (some 105)]) (s' := s) 12 rfl ?_
    refine gs_E.br (c := (gp_I s 74 15) = 0) (p1 := 287) (p2 := 283) (l1 := [gp_r (some 74), gp_i v1, gp_i v2, gp_i v3, gp_i v4, gp_l v5, gp_n, gp_l v7, gp_n, gp_i (gp_wr ((gp_I s 78 (gp_wr ((gp_wr (64 * v1)) + v2)).toNat) + (gp_I s 78 (gp_wr ((gp_wr (64 * v3)) + v4)).toNat))), gp_i (gp_wr ((gp_I s 79 (gp_wr ((gp_wr (64 * v1)) + v2)).toNat) + (gp_I s 79 (gp_wr ((gp_wr (64 * v3)) + v4)).toNat)))]) (l2 := [gp_r (some 74), gp_i v1, gp_i v2, gp_i v3, gp_i v4, gp_l v5, gp_n, gp_l v7, gp_n, gp_i (gp_wr ((gp_I s 78 (gp_wr ((gp_wr (64 * v1)) + v2)).toNat) + (gp_I s 78 (gp_wr ((gp_wr (64 * v3)) + v4)).toNat))), gp_i (gp_wr ((gp_I s 79 (gp_wr ((gp_wr (64 * v1)) + v2)).toNat) + (gp_I s 79 (gp_wr ((gp_wr (64 * v3)) + v4)).toNat)))]) (s1 := [gp_i 1, gp_i (gp_wr ((gp_wr (64 * v2)) + v4)), gp_r (some 105)]) (s2 := [gp_i 1, gp_i (gp_wr ((gp_wr (64 * v2)) + v4)), gp_r (some 105)]) rfl gs_b1 (fun hc => ?_) (fun hc => ?_)
    · replace H := H.1 hc
      refine gs_E.stp (pc' := 296) (ls' := [gp_r (some 74), gp_i v1, gp_i v2, gp_i v3, gp_i v4, gp_l v5, gp_n, gp_l v7, gp_n, gp_i (gp_wr ((gp_I s 78 (gp_wr ((gp_wr (64 * v1)) + v2)).toNat) + (gp_I s 78 (gp_wr ((gp_wr (64 * v3)) + v4)).toNat))), gp_i (gp_wr ((gp_I s 79 (gp_wr ((gp_wr (64 * v1)) + v2)).toNat) + (gp_I s 79 (gp_wr ((gp_wr (64 * v3)) + v4)).toNat)))]) (st' := [gp_i (gp_wr ((gp_I s 79 (gp_wr ((gp_wr (64 * v1)) + v2)).toNat) + (gp_I s 79 (gp_wr ((gp_wr (64 * v3)) + v4)).toNat))), gp_i (gp_wr ((gp_I s 78 (gp_wr ((gp_wr (64 * v1)) + v2)).toNat) + (gp_I s 78 (gp_wr ((gp_wr (64 * v3)) + v4)).toNat))), gp_l v7, gp_l v5, gp_r (some 74), gp_i 1, gp_i (gp_wr ((gp_wr (64 * v2)) + v4)), gp_r (some 105)]) (s' := s) 5 rfl ?_
      refine gs_E.call (args := [gp_r (some 74), gp_l v5, gp_l v7, gp_i (gp_wr ((gp_I s 78 (gp_wr ((gp_wr (64 * v1)) + v2)).toNat) + (gp_I s 78 (gp_wr ((gp_wr (64 * v3)) + v4)).toNat))), gp_i (gp_wr ((gp_I s 79 (gp_wr ((gp_wr (64 * v1)) + v2)).toNat) + (gp_I s 79 (gp_wr ((gp_wr (64 * v3)) + v4)).toNat)))]) (m := 9) (y' := 3088) (st' := [gp_i 1, gp_i (gp_wr ((gp_wr (64 * v2)) + v4)), gp_r (some 105)]) rfl H (fun r s1 H => ?_)
      obtain ⟨x2, rfl, H⟩ := H
      show gs_E L (d + 1) 3118 299 [gp_r (some 74), gp_i v1, gp_i v2, gp_i v3, gp_i v4, gp_l v5, gp_n, gp_l v7, gp_n, gp_i (gp_wr ((gp_I s 78 (gp_wr ((gp_wr (64 * v1)) + v2)).toNat) + (gp_I s 78 (gp_wr ((gp_wr (64 * v3)) + v4)).toNat))), gp_i (gp_wr ((gp_I s 79 (gp_wr ((gp_wr (64 * v1)) + v2)).toNat) + (gp_I s 79 (gp_wr ((gp_wr (64 * v3)) + v4)).toNat)))] [gp_i x2, gp_i 1, gp_i (gp_wr ((gp_wr (64 * v2)) + v4)), gp_r (some 105)] s1 K
      exact H
    · replace H := H.2 hc
      refine gs_E.stp (pc' := 299) (ls' := [gp_r (some 74), gp_i v1, gp_i v2, gp_i v3, gp_i v4, gp_l v5, gp_n, gp_l v7, gp_n, gp_i (gp_wr ((gp_I s 78 (gp_wr ((gp_wr (64 * v1)) + v2)).toNat) + (gp_I s 78 (gp_wr ((gp_wr (64 * v3)) + v4)).toNat))), gp_i (gp_wr ((gp_I s 79 (gp_wr ((gp_wr (64 * v1)) + v2)).toNat) + (gp_I s 79 (gp_wr ((gp_wr (64 * v3)) + v4)).toNat)))]) (st' := [gp_i 0, gp_i 1, gp_i (gp_wr ((gp_wr (64 * v2)) + v4)), gp_r (some 105)]) (s' := s) 2 rfl ?_
      exact H
  · replace H := H.1 (Decidable.byContradiction hc)
    refine gs_E.stp (pc' := 139) (ls' := [gp_r (some 74), gp_i v1, gp_i v2, gp_i v3, gp_i v4, gp_l v5, gp_n, gp_l v7, gp_n, gp_i v9, v10]) (st' := [gp_i (gp_wr ((gp_wr (64 * v3)) + v4)), gp_r (some 76), gp_l v5]) (s' := s) 8 rfl ?_
    refine gs_E.ck (pc' := 140) (ls' := [gp_r (some 74), gp_i v1, gp_i v2, gp_i v3, gp_i v4, gp_l v5, gp_n, gp_l v7, gp_n, gp_i v9, v10]) (st' := [gp_l (gp_L s 76 (gp_wr ((gp_wr (64 * v3)) + v4)).toNat), gp_l v5]) (s' := s) rfl ⟨rfl, H.1.1, H.1.2⟩ ?_
    replace H := H.2
    refine gs_E.stp (pc' := 142) (ls' := [gp_r (some 74), gp_i v1, gp_i v2, gp_i v3, gp_i v4, gp_l v5, gp_n, gp_l v7, gp_n, gp_i v9, v10]) (st' := [gp_i v9, gp_l (gp_L s 76 (gp_wr ((gp_wr (64 * v3)) + v4)).toNat), gp_l v5]) (s' := s) 1 rfl ?_
    refine gs_E.call (args := [gp_l (gp_L s 76 (gp_wr ((gp_wr (64 * v3)) + v4)).toNat), gp_i v9]) (m := 3) (y' := 3078) (st' := [gp_l v5]) rfl H (fun r s3 H => ?_)
    obtain ⟨x4, rfl, H⟩ := H
    show gs_E L (d + 1) 3118 145 [gp_r (some 74), gp_i v1, gp_i v2, gp_i v3, gp_i v4, gp_l v5, gp_n, gp_l v7, gp_n, gp_i v9, v10] [gp_i x4, gp_l v5] s3 K
    refine gs_E.br (c := x4 = 0) (p1 := 162) (p2 := 148) (l1 := [gp_r (some 74), gp_i v1, gp_i v2, gp_i v3, gp_i v4, gp_l v5, gp_n, gp_l v7, gp_n, gp_i v9, v10]) (l2 := [gp_r (some 74), gp_i v1, gp_i v2, gp_i v3, gp_i v4, gp_l v5, gp_n, gp_l v7, gp_n, gp_i v9, v10]) (s1 := [gp_l v5]) (s2 := [gp_l v5]) rfl gs_b1 (fun hc => ?_) (fun hc => ?_)
    · replace H := H.1 hc
      refine gs_E.stp (pc' := 163) (ls' := [gp_r (some 74), gp_i v1, gp_i v2, gp_i v3, gp_i v4, gp_l v5, gp_n, gp_l v7, gp_n, gp_i v9, v10]) (st' := [gp_l (0#64), gp_l v5]) (s' := s3) 1 rfl ?_
      exact H
    · replace H := H.2 hc
      refine gs_E.stp (pc' := 155) (ls' := [gp_r (some 74), gp_i v1, gp_i v2, gp_i v3, gp_i v4, gp_l v5, gp_n, gp_l v7, gp_n, gp_i v9, v10]) (st' := [gp_i v9, gp_i v3, gp_i v2, gp_i v1, gp_r (some 74), gp_l (1#64), gp_l v5]) (s' := s3) 6 rfl ?_
      refine gs_E.call (args := [gp_r (some 74), gp_i v1, gp_i v2, gp_i v3, gp_i v9]) (m := 11) (y' := 3118) (st' := [gp_l (1#64), gp_l v5]) rfl H (fun r s5 H => ?_)
      obtain ⟨x6, rfl, H⟩ := H
      show gs_E L (d + 1) 3118 158 [gp_r (some 74), gp_i v1, gp_i v2, gp_i v3, gp_i v4, gp_l v5, gp_n, gp_l v7, gp_n, gp_i v9, v10] [gp_i x6, gp_l (1#64), gp_l v5] s5 K
      refine gs_E.stp (pc' := 163) (ls' := [gp_r (some 74), gp_i v1, gp_i v2, gp_i v3, gp_i v4, gp_l v5, gp_n, gp_l v7, gp_n, gp_i v9, v10]) (st' := [gp_l ((1#64) <<< (x6 % 64).toNat), gp_l v5]) (s' := s5) 2 rfl ?_
      exact H

set_option maxRecDepth 100000 in
/-- GatheredPointsModel.sum, pc 163 -/
theorem s_3118_163 {L d : Nat} {K : Option gV → gH → Prop} {s : gH} (v1 : Int) (v2 : Int) (v3 : Int) (v4 : Int) (v5 : BitVec 64) (v7 : BitVec 64) (v9 : Int) (v10 : gV) (w0 : BitVec 64) (w1 : BitVec 64) (H : ((0 ≤ (gp_wr ((gp_wr (64 * v3)) + v4)) ∧ (gp_wr ((gp_wr (64 * v3)) + v4)) < 5440) ∧ gs_C L d 3078 3 [gp_l (gp_L s 77 (gp_wr ((gp_wr (64 * v3)) + v4)).toNat), gp_i v9] s (fun r s1 => ∃ x2, r = some (gp_i x2) ∧ ((x2 = 0 → gs_E L (d + 1) 3118 203 [gp_r (some 74), gp_i v1, gp_i v2, gp_i v3, gp_i v4, gp_l (w0 ||| w1), gp_n, gp_l v7, gp_n, gp_i v9, v10] [gp_l (0#64), gp_l v7] s1 K) ∧ (¬ x2 = 0 → gs_C L d 3118 11 [gp_r (some 74), gp_i v1, gp_i v2, gp_i v3, gp_i v9] s1 (fun r s3 => ∃ x4, r = some (gp_i x4) ∧ gs_E L (d + 1) 3118 203 [gp_r (some 74), gp_i v1, gp_i v2, gp_i v3, gp_i v4, gp_l (w0 ||| w1), gp_n, gp_l v7, gp_n, gp_i v9, v10] [gp_l ((1#64) <<< (x4 % 64).toNat), gp_l v7] s3 K)))))) : gs_E L (d + 1) 3118 163 [gp_r (some 74), gp_i v1, gp_i v2, gp_i v3, gp_i v4, gp_l v5, gp_n, gp_l v7, gp_n, gp_i v9, v10] [gp_l w1, gp_l w0] s K := by
  refine gs_E.stp (pc' := 179) (ls' := [gp_r (some 74), gp_i v1, gp_i v2, gp_i v3, gp_i v4, gp_l (w0 ||| w1), gp_n, gp_l v7, gp_n, gp_i v9, v10]) (st' := [gp_i (gp_wr ((gp_wr (64 * v3)) + v4)), gp_r (some 77), gp_l v7]) (s' := s) 10 rfl ?_
  refine gs_E.ck (pc' := 180) (ls' := [gp_r (some 74), gp_i v1, gp_i v2, gp_i v3, gp_i v4, gp_l (w0 ||| w1), gp_n, gp_l v7, gp_n, gp_i v9, v10]) (st' := [gp_l (gp_L s 77 (gp_wr ((gp_wr (64 * v3)) + v4)).toNat), gp_l v7]) (s' := s) rfl ⟨rfl, H.1.1, H.1.2⟩ ?_
  replace H := H.2
  refine gs_E.stp (pc' := 182) (ls' := [gp_r (some 74), gp_i v1, gp_i v2, gp_i v3, gp_i v4, gp_l (w0 ||| w1), gp_n, gp_l v7, gp_n, gp_i v9, v10]) (st' := [gp_i v9, gp_l (gp_L s 77 (gp_wr ((gp_wr (64 * v3)) + v4)).toNat), gp_l v7]) (s' := s) 1 rfl ?_
  refine gs_E.call (args := [gp_l (gp_L s 77 (gp_wr ((gp_wr (64 * v3)) + v4)).toNat), gp_i v9]) (m := 3) (y' := 3078) (st' := [gp_l v7]) rfl H (fun r s1 H => ?_)
  obtain ⟨x2, rfl, H⟩ := H
  show gs_E L (d + 1) 3118 185 [gp_r (some 74), gp_i v1, gp_i v2, gp_i v3, gp_i v4, gp_l (w0 ||| w1), gp_n, gp_l v7, gp_n, gp_i v9, v10] [gp_i x2, gp_l v7] s1 K
  refine gs_E.br (c := x2 = 0) (p1 := 202) (p2 := 188) (l1 := [gp_r (some 74), gp_i v1, gp_i v2, gp_i v3, gp_i v4, gp_l (w0 ||| w1), gp_n, gp_l v7, gp_n, gp_i v9, v10]) (l2 := [gp_r (some 74), gp_i v1, gp_i v2, gp_i v3, gp_i v4, gp_l (w0 ||| w1), gp_n, gp_l v7, gp_n, gp_i v9, v10]) (s1 := [gp_l v7]) (s2 := [gp_l v7]) rfl gs_b1 (fun hc => ?_) (fun hc => ?_)
  · replace H := H.1 hc
    refine gs_E.stp (pc' := 203) (ls' := [gp_r (some 74), gp_i v1, gp_i v2, gp_i v3, gp_i v4, gp_l (w0 ||| w1), gp_n, gp_l v7, gp_n, gp_i v9, v10]) (st' := [gp_l (0#64), gp_l v7]) (s' := s1) 1 rfl ?_
    exact H
  · replace H := H.2 hc
    refine gs_E.stp (pc' := 195) (ls' := [gp_r (some 74), gp_i v1, gp_i v2, gp_i v3, gp_i v4, gp_l (w0 ||| w1), gp_n, gp_l v7, gp_n, gp_i v9, v10]) (st' := [gp_i v9, gp_i v3, gp_i v2, gp_i v1, gp_r (some 74), gp_l (1#64), gp_l v7]) (s' := s1) 6 rfl ?_
    refine gs_E.call (args := [gp_r (some 74), gp_i v1, gp_i v2, gp_i v3, gp_i v9]) (m := 11) (y' := 3118) (st' := [gp_l (1#64), gp_l v7]) rfl H (fun r s3 H => ?_)
    obtain ⟨x4, rfl, H⟩ := H
    show gs_E L (d + 1) 3118 198 [gp_r (some 74), gp_i v1, gp_i v2, gp_i v3, gp_i v4, gp_l (w0 ||| w1), gp_n, gp_l v7, gp_n, gp_i v9, v10] [gp_i x4, gp_l (1#64), gp_l v7] s3 K
    refine gs_E.stp (pc' := 203) (ls' := [gp_r (some 74), gp_i v1, gp_i v2, gp_i v3, gp_i v4, gp_l (w0 ||| w1), gp_n, gp_l v7, gp_n, gp_i v9, v10]) (st' := [gp_l ((1#64) <<< (x4 % 64).toNat), gp_l v7]) (s' := s3) 2 rfl ?_
    exact H

set_option maxRecDepth 100000 in
/-- GatheredPointsModel.sum, pc 203 -/
theorem s_3118_203 {L d : Nat} {K : Option gV → gH → Prop} {s : gH} (v1 : Int) (v2 : Int) (v3 : Int) (v4 : Int) (v5 : BitVec 64) (v7 : BitVec 64) (v9 : Int) (v10 : gV) (w0 : BitVec 64) (w1 : BitVec 64) (H : gs_E L (d + 1) 3118 119 [gp_r (some 74), gp_i v1, gp_i v2, gp_i v3, gp_i v4, gp_l v5, gp_n, gp_l (w0 ||| w1), gp_n, gp_i (gp_wr (v9 + 1)), v10] [] s K) : gs_E L (d + 1) 3118 203 [gp_r (some 74), gp_i v1, gp_i v2, gp_i v3, gp_i v4, gp_l v5, gp_n, gp_l v7, gp_n, gp_i v9, v10] [gp_l w1, gp_l w0] s K := by
  refine gs_E.stp (pc' := 119) (ls' := [gp_r (some 74), gp_i v1, gp_i v2, gp_i v3, gp_i v4, gp_l v5, gp_n, gp_l (w0 ||| w1), gp_n, gp_i (gp_wr (v9 + 1)), v10]) (st' := []) (s' := s) 4 rfl ?_
  exact H

set_option maxRecDepth 100000 in
/-- GatheredPointsModel.sum, pc 299 -/
theorem s_3118_299 {L d : Nat} {K : Option gV → gH → Prop} {s : gH} (v1 : Int) (v2 : Int) (v3 : Int) (v4 : Int) (v5 : BitVec 64) (v7 : BitVec 64) (v9 : Int) (v10 : Int) (w1 : Int) (w2 : Int) (w3 : Int) (H : ((0 ≤ w1 ∧ w1 < 4096) ∧ (∀ s1, s1 = gp_wI s 105 w1.toNat (gp_wr (w2 + w3)) → gs_E L (d + 1) 3118 301 [gp_r (some 74), gp_i v1, gp_i v2, gp_i v3, gp_i v4, gp_l v5, gp_n, gp_l v7, gp_n, gp_i v9, gp_i v10] [] s1 K))) : gs_E L (d + 1) 3118 299 [gp_r (some 74), gp_i v1, gp_i v2, gp_i v3, gp_i v4, gp_l v5, gp_n, gp_l v7, gp_n, gp_i v9, gp_i v10] [gp_i w3, gp_i w2, gp_i w1, gp_r (some 105)] s K := by
  refine gs_E.stp (pc' := 300) (ls' := [gp_r (some 74), gp_i v1, gp_i v2, gp_i v3, gp_i v4, gp_l v5, gp_n, gp_l v7, gp_n, gp_i v9, gp_i v10]) (st' := [gp_i (gp_wr (w2 + w3)), gp_i w1, gp_r (some 105)]) (s' := s) 1 rfl ?_
  refine gs_E.ck (pc' := 301) (ls' := [gp_r (some 74), gp_i v1, gp_i v2, gp_i v3, gp_i v4, gp_l v5, gp_n, gp_l v7, gp_n, gp_i v9, gp_i v10]) (st' := []) (s' := gp_wI s 105 w1.toNat (gp_wr (w2 + w3))) rfl ⟨rfl, H.1.1, H.1.2⟩ ?_
  replace H := H.2 _ rfl
  generalize gp_wI s 105 w1.toNat (gp_wr (w2 + w3)) = s1 at H ⊢
  exact H

set_option maxRecDepth 100000 in
/-- GatheredPointsModel.sum, pc 301 -/
theorem s_3118_301 {L d : Nat} {K : Option gV → gH → Prop} {s : gH} (v1 : Int) (v2 : Int) (v3 : Int) (v4 : Int) (v5 : gV) (v6 : gV) (v7 : gV) (v8 : gV) (v9 : gV) (v10 : gV) (H : ((0 ≤ (gp_wr ((gp_wr (64 * v2)) + v4)) ∧ (gp_wr ((gp_wr (64 * v2)) + v4)) < 4096) ∧ K (some (gp_i (gp_wr ((gp_I s 105 (gp_wr ((gp_wr (64 * v2)) + v4)).toNat) - 1)))) s)) : gs_E L (d + 1) 3118 301 [gp_r (some 74), gp_i v1, gp_i v2, gp_i v3, gp_i v4, v5, v6, v7, v8, v9, v10] [] s K := by
  refine gs_E.stp (pc' := 312) (ls' := [gp_r (some 74), gp_i v1, gp_i v2, gp_i v3, gp_i v4, v5, v6, v7, v8, v9, v10]) (st' := [gp_i (gp_wr ((gp_wr (64 * v2)) + v4)), gp_r (some 105)]) (s' := s) 7 rfl ?_
  refine gs_E.ck (pc' := 313) (ls' := [gp_r (some 74), gp_i v1, gp_i v2, gp_i v3, gp_i v4, v5, v6, v7, v8, v9, v10]) (st' := [gp_i (gp_I s 105 (gp_wr ((gp_wr (64 * v2)) + v4)).toNat)]) (s' := s) rfl (Or.inl ⟨rfl, H.1.1, H.1.2⟩) ?_
  replace H := H.2
  refine gs_E.stp (pc' := 315) (ls' := [gp_r (some 74), gp_i v1, gp_i v2, gp_i v3, gp_i v4, v5, v6, v7, v8, v9, v10]) (st' := [gp_i (gp_wr ((gp_I s 105 (gp_wr ((gp_wr (64 * v2)) + v4)).toNat) - 1))]) (s' := s) 2 rfl ?_
  exact gs_E.ret (r := (some (gp_i (gp_wr ((gp_I s 105 (gp_wr ((gp_wr (64 * v2)) + v4)).toNat) - 1))))) rfl H

set_option maxRecDepth 100000 in
/-- GatheredPointsModel.results, pc 0 -/
theorem s_3119_e {L d : Nat} {K : Option gV → gH → Prop} {s : gH} (p0 : Int) (H : (((gp_I s 74 15) = 0 → gs_C L d 3093 9 [gp_r (some 74), gp_i p0, gp_i 19] s (fun r s1 => r = none ∧ gs_C L d 3095 4 [gp_r (some 74), gp_i 19] s1 (fun r s2 => ∃ x3, r = some (gp_i x3) ∧ ((x3 = 0 → gs_E L (d + 1) 3119 31 [gp_r (some 74), gp_i p0] [gp_i 0] s2 K) ∧ (¬ x3 = 0 → gs_E L (d + 1) 3119 31 [gp_r (some 74), gp_i p0] [gp_i 6] s2 K))))) ∧ (¬ (gp_I s 74 15) = 0 → K (some (gp_i 4)) s))) : gs_C L (d + 1) 3119 2 [gp_r (some 74), gp_i p0] s K := by
  show gs_E L (d + 1) 3119 0 [gp_r (some 74), gp_i p0] [] s K
  refine gs_E.stp (pc' := 4) (ls' := [gp_r (some 74), gp_i p0]) (st' := [gp_i (gp_I s 74 15)]) (s' := s) 2 rfl ?_
  refine gs_E.br (c := (gp_I s 74 15) = 0) (p1 := 9) (p2 := 7) (l1 := [gp_r (some 74), gp_i p0]) (l2 := [gp_r (some 74), gp_i p0]) (s1 := []) (s2 := []) rfl gs_b1 (fun hc => ?_) (fun hc => ?_)
  · replace H := H.1 hc
    refine gs_E.stp (pc' := 13) (ls' := [gp_r (some 74), gp_i p0]) (st' := [gp_i 19, gp_i p0, gp_r (some 74)]) (s' := s) 3 rfl ?_
    refine gs_E.call (args := [gp_r (some 74), gp_i p0, gp_i 19]) (m := 9) (y' := 3093) (st' := []) rfl H (fun r s1 H => ?_)
    obtain ⟨rfl, H⟩ := H
    show gs_E L (d + 1) 3119 16 [gp_r (some 74), gp_i p0] [] s1 K
    refine gs_E.stp (pc' := 19) (ls' := [gp_r (some 74), gp_i p0]) (st' := [gp_i 19, gp_r (some 74)]) (s' := s1) 2 rfl ?_
    refine gs_E.call (args := [gp_r (some 74), gp_i 19]) (m := 4) (y' := 3095) (st' := []) rfl H (fun r s2 H => ?_)
    obtain ⟨x3, rfl, H⟩ := H
    show gs_E L (d + 1) 3119 22 [gp_r (some 74), gp_i p0] [gp_i x3] s2 K
    refine gs_E.br (c := x3 = 0) (p1 := 30) (p2 := 25) (l1 := [gp_r (some 74), gp_i p0]) (l2 := [gp_r (some 74), gp_i p0]) (s1 := []) (s2 := []) rfl gs_b1 (fun hc => ?_) (fun hc => ?_)
    · replace H := H.1 hc
      refine gs_E.stp (pc' := 31) (ls' := [gp_r (some 74), gp_i p0]) (st' := [gp_i 0]) (s' := s2) 1 rfl ?_
      exact H
    · replace H := H.2 hc
      refine gs_E.stp (pc' := 31) (ls' := [gp_r (some 74), gp_i p0]) (st' := [gp_i 6]) (s' := s2) 2 rfl ?_
      exact H
  · replace H := H.2 hc
    refine gs_E.stp (pc' := 8) (ls' := [gp_r (some 74), gp_i p0]) (st' := [gp_i 4]) (s' := s) 1 rfl ?_
    exact gs_E.ret (r := (some (gp_i 4))) rfl H

set_option maxRecDepth 100000 in
/-- GatheredPointsModel.results, pc 31 -/
theorem s_3119_31 {L d : Nat} {K : Option gV → gH → Prop} {s : gH} (v1 : Int) (w0 : Int) (H : K (some (gp_i w0)) s) : gs_E L (d + 1) 3119 31 [gp_r (some 74), gp_i v1] [gp_i w0] s K := by
  exact gs_E.ret (r := (some (gp_i w0))) rfl H

set_option maxRecDepth 100000 in
/-- GatheredPointsModel.sums, pc 0 -/
theorem s_3120_e {L d : Nat} {K : Option gV → gH → Prop} {s : gH} (p0 : Int) (p1 : Int) (H : gs_C L d 3085 1 [gp_r (some 74)] s (fun r s1 => r = none ∧ gs_E L (d + 1) 3120 6 [gp_r (some 74), gp_i p0, gp_i p1, gp_i 0] [] s1 K)) : gs_C L (d + 1) 3120 4 [gp_r (some 74), gp_i p0, gp_i p1] s K := by
  show gs_E L (d + 1) 3120 0 [gp_r (some 74), gp_i p0, gp_i p1, gp_n] [] s K
  refine gs_E.stp (pc' := 1) (ls' := [gp_r (some 74), gp_i p0, gp_i p1, gp_n]) (st' := [gp_r (some 74)]) (s' := s) 1 rfl ?_
  refine gs_E.call (args := [gp_r (some 74)]) (m := 1) (y' := 3085) (st' := []) rfl H (fun r s1 H => ?_)
  obtain ⟨rfl, H⟩ := H
  show gs_E L (d + 1) 3120 4 [gp_r (some 74), gp_i p0, gp_i p1, gp_n] [] s1 K
  refine gs_E.stp (pc' := 6) (ls' := [gp_r (some 74), gp_i p0, gp_i p1, gp_i 0]) (st' := []) (s' := s1) 2 rfl ?_
  exact H

set_option maxRecDepth 100000 in
/-- GatheredPointsModel.sums, pc 6 -/
theorem s_3120_6 {L d : Nat} {K : Option gV → gH → Prop} {s : gH} (v1 : Int) (v2 : Int) (v3 : Int) (H : ((v3 < 4096 → ((0 ≤ v3 ∧ v3 < 4096) ∧ (∀ s9, s9 = gp_wI s 105 v3.toNat 0 → gs_E L (d + 1) 3120 6 [gp_r (some 74), gp_i v1, gp_i v2, gp_i (gp_wr (v3 + 1))] [] s9 K))) ∧ (¬ v3 < 4096 → gs_C L d 3081 2 [gp_r (some 74), gp_i v1] s (fun r s1 => ∃ x2, r = some (gp_i x2) ∧ gs_C L d 3081 2 [gp_r (some 74), gp_i v2] s1 (fun r s3 => ∃ x4, r = some (gp_i x4) ∧ gs_C L d 3118 11 [gp_r (some 74), gp_i v1, gp_i x2, gp_i v2, gp_i x4] s3 (fun r s5 => ∃ x6, r = some (gp_i x6) ∧ gs_C L d 3119 2 [gp_r (some 74), gp_i x6] s5 (fun r s7 => ∃ x8, r = some (gp_i x8) ∧ K (some (gp_i x8)) s7))))))) : gs_E L (d + 1) 3120 6 [gp_r (some 74), gp_i v1, gp_i v2, gp_i v3] [] s K := by
  refine gs_E.stp (pc' := 10) (ls' := [gp_r (some 74), gp_i v1, gp_i v2, gp_i v3]) (st' := [gp_i 4096, gp_i v3]) (s' := s) 2 rfl ?_
  refine gs_E.br (c := ¬ v3 < 4096) (p1 := 26) (p2 := 13) (l1 := [gp_r (some 74), gp_i v1, gp_i v2, gp_i v3]) (l2 := [gp_r (some 74), gp_i v1, gp_i v2, gp_i v3]) (s1 := []) (s2 := []) rfl gs_b2 (fun hc => ?_) (fun hc => ?_)
  · replace H := H.2 hc
    refine gs_E.stp (pc' := 31) (ls' := [gp_r (some 74), gp_i v1, gp_i v2, gp_i v3]) (st' := [gp_i v1, gp_r (some 74), gp_i v1, gp_r (some 74), gp_r (some 74)]) (s' := s) 5 rfl ?_
    refine gs_E.call (args := [gp_r (some 74), gp_i v1]) (m := 2) (y' := 3081) (st' := [gp_i v1, gp_r (some 74), gp_r (some 74)]) rfl H (fun r s1 H => ?_)
    obtain ⟨x2, rfl, H⟩ := H
    show gs_E L (d + 1) 3120 34 [gp_r (some 74), gp_i v1, gp_i v2, gp_i v3] [gp_i x2, gp_i v1, gp_r (some 74), gp_r (some 74)] s1 K
    refine gs_E.stp (pc' := 37) (ls' := [gp_r (some 74), gp_i v1, gp_i v2, gp_i v3]) (st' := [gp_i v2, gp_r (some 74), gp_i v2, gp_i x2, gp_i v1, gp_r (some 74), gp_r (some 74)]) (s' := s1) 3 rfl ?_
    refine gs_E.call (args := [gp_r (some 74), gp_i v2]) (m := 2) (y' := 3081) (st' := [gp_i v2, gp_i x2, gp_i v1, gp_r (some 74), gp_r (some 74)]) rfl H (fun r s3 H => ?_)
    obtain ⟨x4, rfl, H⟩ := H
    show gs_E L (d + 1) 3120 40 [gp_r (some 74), gp_i v1, gp_i v2, gp_i v3] [gp_i x4, gp_i v2, gp_i x2, gp_i v1, gp_r (some 74), gp_r (some 74)] s3 K
    refine gs_E.call (args := [gp_r (some 74), gp_i v1, gp_i x2, gp_i v2, gp_i x4]) (m := 11) (y' := 3118) (st' := [gp_r (some 74)]) rfl H (fun r s5 H => ?_)
    obtain ⟨x6, rfl, H⟩ := H
    show gs_E L (d + 1) 3120 43 [gp_r (some 74), gp_i v1, gp_i v2, gp_i v3] [gp_i x6, gp_r (some 74)] s5 K
    refine gs_E.call (args := [gp_r (some 74), gp_i x6]) (m := 2) (y' := 3119) (st' := []) rfl H (fun r s7 H => ?_)
    obtain ⟨x8, rfl, H⟩ := H
    show gs_E L (d + 1) 3120 46 [gp_r (some 74), gp_i v1, gp_i v2, gp_i v3] [gp_i x8] s7 K
    exact gs_E.ret (r := (some (gp_i x8))) rfl H
  · replace H := H.1 (Decidable.byContradiction hc)
    refine gs_E.stp (pc' := 19) (ls' := [gp_r (some 74), gp_i v1, gp_i v2, gp_i v3]) (st' := [gp_i 0, gp_i v3, gp_r (some 105)]) (s' := s) 4 rfl ?_
    refine gs_E.ck (pc' := 20) (ls' := [gp_r (some 74), gp_i v1, gp_i v2, gp_i v3]) (st' := []) (s' := gp_wI s 105 v3.toNat 0) rfl ⟨rfl, H.1.1, H.1.2⟩ ?_
    replace H := H.2 _ rfl
    generalize gp_wI s 105 v3.toNat 0 = s9 at H ⊢
    refine gs_E.stp (pc' := 6) (ls' := [gp_r (some 74), gp_i v1, gp_i v2, gp_i (gp_wr (v3 + 1))]) (st' := []) (s' := s9) 2 rfl ?_
    exact H

set_option maxRecDepth 100000 in
/-- GatheredPointsModel.negates, pc 0 -/
theorem s_3121_e {L d : Nat} {K : Option gV → gH → Prop} {s : gH} (p0 : Int) (H : gs_C L d 3085 1 [gp_r (some 74)] s (fun r s1 => r = none ∧ gs_E L (d + 1) 3121 6 [gp_r (some 74), gp_i p0, gp_i 0, gp_n, gp_n, gp_n, gp_n, gp_n] [] s1 K)) : gs_C L (d + 1) 3121 8 [gp_r (some 74), gp_i p0] s K := by
  show gs_E L (d + 1) 3121 0 [gp_r (some 74), gp_i p0, gp_n, gp_n, gp_n, gp_n, gp_n, gp_n] [] s K
  refine gs_E.stp (pc' := 1) (ls' := [gp_r (some 74), gp_i p0, gp_n, gp_n, gp_n, gp_n, gp_n, gp_n]) (st' := [gp_r (some 74)]) (s' := s) 1 rfl ?_
  refine gs_E.call (args := [gp_r (some 74)]) (m := 1) (y' := 3085) (st' := []) rfl H (fun r s1 H => ?_)
  obtain ⟨rfl, H⟩ := H
  show gs_E L (d + 1) 3121 4 [gp_r (some 74), gp_i p0, gp_n, gp_n, gp_n, gp_n, gp_n, gp_n] [] s1 K
  refine gs_E.stp (pc' := 6) (ls' := [gp_r (some 74), gp_i p0, gp_i 0, gp_n, gp_n, gp_n, gp_n, gp_n]) (st' := []) (s' := s1) 2 rfl ?_
  exact H

set_option maxRecDepth 100000 in
/-- GatheredPointsModel.negates, pc 6 -/
theorem s_3121_6 {L d : Nat} {K : Option gV → gH → Prop} {s : gH} (v1 : Int) (v2 : Int) (v3 : gV) (v4 : gV) (v5 : gV) (v6 : gV) (v7 : gV) (H : ((0 ≤ v1 ∧ v1 < 85) ∧ ((v2 < (gp_I s 81 v1.toNat) → gs_E L (d + 1) 3121 24 [gp_r (some 74), gp_i v1, gp_i v2, gp_l (0#64), gp_n, gp_l (0#64), gp_n, gp_i 0] [] s K) ∧ (¬ v2 < (gp_I s 81 v1.toNat) → ((0 ≤ v1 ∧ v1 < 85) ∧ ((0 ≤ (gp_wr ((gp_I s 81 v1.toNat) - 1)) ∧ (gp_wr ((gp_I s 81 v1.toNat) - 1)) < 64) ∧ gs_C L d 3093 9 [gp_r (some 74), gp_i (gp_I s 89 (gp_wr ((gp_I s 81 v1.toNat) - 1)).toNat), gp_i 19] s (fun r s1 => r = none ∧ K none s1))))))) : gs_E L (d + 1) 3121 6 [gp_r (some 74), gp_i v1, gp_i v2, v3, v4, v5, v6, v7] [] s K := by
  refine gs_E.stp (pc' := 12) (ls' := [gp_r (some 74), gp_i v1, gp_i v2, v3, v4, v5, v6, v7]) (st' := [gp_i v1, gp_r (some 81), gp_i v2]) (s' := s) 4 rfl ?_
  refine gs_E.ck (pc' := 13) (ls' := [gp_r (some 74), gp_i v1, gp_i v2, v3, v4, v5, v6, v7]) (st' := [gp_i (gp_I s 81 v1.toNat), gp_i v2]) (s' := s) rfl (Or.inl ⟨rfl, H.1.1, H.1.2⟩) ?_
  replace H := H.2
  refine gs_E.br (c := ¬ v2 < (gp_I s 81 v1.toNat)) (p1 := 151) (p2 := 16) (l1 := [gp_r (some 74), gp_i v1, gp_i v2, v3, v4, v5, v6, v7]) (l2 := [gp_r (some 74), gp_i v1, gp_i v2, v3, v4, v5, v6, v7]) (s1 := []) (s2 := []) rfl gs_b2 (fun hc => ?_) (fun hc => ?_)
  · replace H := H.2 hc
    refine gs_E.stp (pc' := 161) (ls' := [gp_r (some 74), gp_i v1, gp_i v2, v3, v4, v5, v6, v7]) (st' := [gp_i v1, gp_r (some 81), gp_r (some 89), gp_r (some 74)]) (s' := s) 6 rfl ?_
    refine gs_E.ck (pc' := 162) (ls' := [gp_r (some 74), gp_i v1, gp_i v2, v3, v4, v5, v6, v7]) (st' := [gp_i (gp_I s 81 v1.toNat), gp_r (some 89), gp_r (some 74)]) (s' := s) rfl (Or.inl ⟨rfl, H.1.1, H.1.2⟩) ?_
    replace H := H.2
    refine gs_E.stp (pc' := 164) (ls' := [gp_r (some 74), gp_i v1, gp_i v2, v3, v4, v5, v6, v7]) (st' := [gp_i (gp_wr ((gp_I s 81 v1.toNat) - 1)), gp_r (some 89), gp_r (some 74)]) (s' := s) 2 rfl ?_
    refine gs_E.ck (pc' := 165) (ls' := [gp_r (some 74), gp_i v1, gp_i v2, v3, v4, v5, v6, v7]) (st' := [gp_i (gp_I s 89 (gp_wr ((gp_I s 81 v1.toNat) - 1)).toNat), gp_r (some 74)]) (s' := s) rfl (Or.inl ⟨rfl, H.1.1, H.1.2⟩) ?_
    replace H := H.2
    refine gs_E.stp (pc' := 167) (ls' := [gp_r (some 74), gp_i v1, gp_i v2, v3, v4, v5, v6, v7]) (st' := [gp_i 19, gp_i (gp_I s 89 (gp_wr ((gp_I s 81 v1.toNat) - 1)).toNat), gp_r (some 74)]) (s' := s) 1 rfl ?_
    refine gs_E.call (args := [gp_r (some 74), gp_i (gp_I s 89 (gp_wr ((gp_I s 81 v1.toNat) - 1)).toNat), gp_i 19]) (m := 9) (y' := 3093) (st' := []) rfl H (fun r s1 H => ?_)
    obtain ⟨rfl, H⟩ := H
    show gs_E L (d + 1) 3121 170 [gp_r (some 74), gp_i v1, gp_i v2, v3, v4, v5, v6, v7] [] s1 K
    exact gs_E.ret (r := none) rfl H
  · replace H := H.1 (Decidable.byContradiction hc)
    refine gs_E.stp (pc' := 24) (ls' := [gp_r (some 74), gp_i v1, gp_i v2, gp_l (0#64), gp_n, gp_l (0#64), gp_n, gp_i 0]) (st' := []) (s' := s) 6 rfl ?_
    exact H

set_option maxRecDepth 100000 in
/-- GatheredPointsModel.negates, pc 24 -/
theorem s_3121_24 {L d : Nat} {K : Option gV → gH → Prop} {s : gH} (v1 : Int) (v2 : Int) (v3 : BitVec 64) (v5 : BitVec 64) (v7 : Int) (H : ((v7 < v2 → ((0 ≤ (gp_wr ((gp_wr (64 * v1)) + v2)) ∧ (gp_wr ((gp_wr (64 * v1)) + v2)) < 5440) ∧ gs_C L d 3078 3 [gp_l (gp_L s 77 (gp_wr ((gp_wr (64 * v1)) + v2)).toNat), gp_i v7] s (fun r s4 => ∃ x5, r = some (gp_i x5) ∧ ((x5 = 0 → gs_E L (d + 1) 3121 63 [gp_r (some 74), gp_i v1, gp_i v2, gp_l v3, gp_n, gp_l v5, gp_n, gp_i v7] [gp_l (0#64), gp_l v3] s4 K) ∧ (¬ x5 = 0 → ((0 ≤ v7 ∧ v7 < 64) ∧ gs_E L (d + 1) 3121 63 [gp_r (some 74), gp_i v1, gp_i v2, gp_l v3, gp_n, gp_l v5, gp_n, gp_i v7] [gp_l ((1#64) <<< ((gp_I s4 89 v7.toNat) % 64).toNat), gp_l v3] s4 K)))))) ∧ (¬ v7 < v2 → ((0 ≤ (gp_wr ((gp_wr (64 * v1)) + v2)) ∧ (gp_wr ((gp_wr (64 * v1)) + v2)) < 5440) ∧ ((0 ≤ (gp_wr ((gp_wr (64 * v1)) + v2)) ∧ (gp_wr ((gp_wr (64 * v1)) + v2)) < 5440) ∧ gs_C L d 3088 9 [gp_r (some 74), gp_l v3, gp_l v5, gp_i (gp_wr (-(gp_I s 79 (gp_wr ((gp_wr (64 * v1)) + v2)).toNat))), gp_i (gp_wr (-(gp_I s 78 (gp_wr ((gp_wr (64 * v1)) + v2)).toNat)))] s (fun r s1 => ∃ x2, r = some (gp_i x2) ∧ ((0 ≤ v2 ∧ v2 < 64) ∧ (∀ s3, s3 = gp_wI s1 89 v2.toNat x2 → gs_E L (d + 1) 3121 6 [gp_r (some 74), gp_i v1, gp_i (gp_wr (v2 + 1)), gp_l v3, gp_n, gp_l v5, gp_n, gp_i v7] [] s3 K)))))))) : gs_E L (d + 1) 3121 24 [gp_r (some 74), gp_i v1, gp_i v2, gp_l v3, gp_n, gp_l v5, gp_n, gp_i v7] [] s K := by
  refine gs_E.stp (pc' := 27) (ls' := [gp_r (some 74), gp_i v1, gp_i v2, gp_l v3, gp_n, gp_l v5, gp_n, gp_i v7]) (st' := [gp_i v2, gp_i v7]) (s' := s) 2 rfl ?_
  refine gs_E.br (c := ¬ v7 < v2) (p1 := 108) (p2 := 30) (l1 := [gp_r (some 74), gp_i v1, gp_i v2, gp_l v3, gp_n, gp_l v5, gp_n, gp_i v7]) (l2 := [gp_r (some 74), gp_i v1, gp_i v2, gp_l v3, gp_n, gp_l v5, gp_n, gp_i v7]) (s1 := []) (s2 := []) rfl gs_b2 (fun hc => ?_) (fun hc => ?_)
  · replace H := H.2 hc
    refine gs_E.stp (pc' := 127) (ls' := [gp_r (some 74), gp_i v1, gp_i v2, gp_l v3, gp_n, gp_l v5, gp_n, gp_i v7]) (st' := [gp_i (gp_wr ((gp_wr (64 * v1)) + v2)), gp_r (some 79), gp_l v5, gp_l v3, gp_r (some 74), gp_i v2, gp_r (some 89)]) (s' := s) 13 rfl ?_
    refine gs_E.ck (pc' := 128) (ls' := [gp_r (some 74), gp_i v1, gp_i v2, gp_l v3, gp_n, gp_l v5, gp_n, gp_i v7]) (st' := [gp_i (gp_I s 79 (gp_wr ((gp_wr (64 * v1)) + v2)).toNat), gp_l v5, gp_l v3, gp_r (some 74), gp_i v2, gp_r (some 89)]) (s' := s) rfl (Or.inl ⟨rfl, H.1.1, H.1.2⟩) ?_
    replace H := H.2
    refine gs_E.stp (pc' := 139) (ls' := [gp_r (some 74), gp_i v1, gp_i v2, gp_l v3, gp_n, gp_l v5, gp_n, gp_i v7]) (st' := [gp_i (gp_wr ((gp_wr (64 * v1)) + v2)), gp_r (some 78), gp_i (gp_wr (-(gp_I s 79 (gp_wr ((gp_wr (64 * v1)) + v2)).toNat))), gp_l v5, gp_l v3, gp_r (some 74), gp_i v2, gp_r (some 89)]) (s' := s) 8 rfl ?_
    refine gs_E.ck (pc' := 140) (ls' := [gp_r (some 74), gp_i v1, gp_i v2, gp_l v3, gp_n, gp_l v5, gp_n, gp_i v7]) (st' := [gp_i (gp_I s 78 (gp_wr ((gp_wr (64 * v1)) + v2)).toNat), gp_i (gp_wr (-(gp_I s 79 (gp_wr ((gp_wr (64 * v1)) + v2)).toNat))), gp_l v5, gp_l v3, gp_r (some 74), gp_i v2, gp_r (some 89)]) (s' := s) rfl (Or.inl ⟨rfl, H.1.1, H.1.2⟩) ?_
    replace H := H.2
    refine gs_E.stp (pc' := 141) (ls' := [gp_r (some 74), gp_i v1, gp_i v2, gp_l v3, gp_n, gp_l v5, gp_n, gp_i v7]) (st' := [gp_i (gp_wr (-(gp_I s 78 (gp_wr ((gp_wr (64 * v1)) + v2)).toNat))), gp_i (gp_wr (-(gp_I s 79 (gp_wr ((gp_wr (64 * v1)) + v2)).toNat))), gp_l v5, gp_l v3, gp_r (some 74), gp_i v2, gp_r (some 89)]) (s' := s) 1 rfl ?_
    refine gs_E.call (args := [gp_r (some 74), gp_l v3, gp_l v5, gp_i (gp_wr (-(gp_I s 79 (gp_wr ((gp_wr (64 * v1)) + v2)).toNat))), gp_i (gp_wr (-(gp_I s 78 (gp_wr ((gp_wr (64 * v1)) + v2)).toNat)))]) (m := 9) (y' := 3088) (st' := [gp_i v2, gp_r (some 89)]) rfl H (fun r s1 H => ?_)
    obtain ⟨x2, rfl, H⟩ := H
    show gs_E L (d + 1) 3121 144 [gp_r (some 74), gp_i v1, gp_i v2, gp_l v3, gp_n, gp_l v5, gp_n, gp_i v7] [gp_i x2, gp_i v2, gp_r (some 89)] s1 K
    refine gs_E.ck (pc' := 145) (ls' := [gp_r (some 74), gp_i v1, gp_i v2, gp_l v3, gp_n, gp_l v5, gp_n, gp_i v7]) (st' := []) (s' := gp_wI s1 89 v2.toNat x2) rfl ⟨rfl, H.1.1, H.1.2⟩ ?_
    replace H := H.2 _ rfl
    generalize gp_wI s1 89 v2.toNat x2 = s3 at H ⊢
    refine gs_E.stp (pc' := 6) (ls' := [gp_r (some 74), gp_i v1, gp_i (gp_wr (v2 + 1)), gp_l v3, gp_n, gp_l v5, gp_n, gp_i v7]) (st' := []) (s' := s3) 2 rfl ?_
    exact H
  · replace H := H.1 (Decidable.byContradiction hc)
    refine gs_E.stp (pc' := 41) (ls' := [gp_r (some 74), gp_i v1, gp_i v2, gp_l v3, gp_n, gp_l v5, gp_n, gp_i v7]) (st' := [gp_i (gp_wr ((gp_wr (64 * v1)) + v2)), gp_r (some 77), gp_l v3]) (s' := s) 8 rfl ?_
    refine gs_E.ck (pc' := 42) (ls' := [gp_r (some 74), gp_i v1, gp_i v2, gp_l v3, gp_n, gp_l v5, gp_n, gp_i v7]) (st' := [gp_l (gp_L s 77 (gp_wr ((gp_wr (64 * v1)) + v2)).toNat), gp_l v3]) (s' := s) rfl ⟨rfl, H.1.1, H.1.2⟩ ?_
    replace H := H.2
    refine gs_E.stp (pc' := 44) (ls' := [gp_r (some 74), gp_i v1, gp_i v2, gp_l v3, gp_n, gp_l v5, gp_n, gp_i v7]) (st' := [gp_i v7, gp_l (gp_L s 77 (gp_wr ((gp_wr (64 * v1)) + v2)).toNat), gp_l v3]) (s' := s) 1 rfl ?_
    refine gs_E.call (args := [gp_l (gp_L s 77 (gp_wr ((gp_wr (64 * v1)) + v2)).toNat), gp_i v7]) (m := 3) (y' := 3078) (st' := [gp_l v3]) rfl H (fun r s4 H => ?_)
    obtain ⟨x5, rfl, H⟩ := H
    show gs_E L (d + 1) 3121 47 [gp_r (some 74), gp_i v1, gp_i v2, gp_l v3, gp_n, gp_l v5, gp_n, gp_i v7] [gp_i x5, gp_l v3] s4 K
    refine gs_E.br (c := x5 = 0) (p1 := 62) (p2 := 50) (l1 := [gp_r (some 74), gp_i v1, gp_i v2, gp_l v3, gp_n, gp_l v5, gp_n, gp_i v7]) (l2 := [gp_r (some 74), gp_i v1, gp_i v2, gp_l v3, gp_n, gp_l v5, gp_n, gp_i v7]) (s1 := [gp_l v3]) (s2 := [gp_l v3]) rfl gs_b1 (fun hc => ?_) (fun hc => ?_)
    · replace H := H.1 hc
      refine gs_E.stp (pc' := 63) (ls' := [gp_r (some 74), gp_i v1, gp_i v2, gp_l v3, gp_n, gp_l v5, gp_n, gp_i v7]) (st' := [gp_l (0#64), gp_l v3]) (s' := s4) 1 rfl ?_
      exact H
    · replace H := H.2 hc
      refine gs_E.stp (pc' := 57) (ls' := [gp_r (some 74), gp_i v1, gp_i v2, gp_l v3, gp_n, gp_l v5, gp_n, gp_i v7]) (st' := [gp_i v7, gp_r (some 89), gp_l (1#64), gp_l v3]) (s' := s4) 4 rfl ?_
      refine gs_E.ck (pc' := 58) (ls' := [gp_r (some 74), gp_i v1, gp_i v2, gp_l v3, gp_n, gp_l v5, gp_n, gp_i v7]) (st' := [gp_i (gp_I s4 89 v7.toNat), gp_l (1#64), gp_l v3]) (s' := s4) rfl (Or.inl ⟨rfl, H.1.1, H.1.2⟩) ?_
      replace H := H.2
      refine gs_E.stp (pc' := 63) (ls' := [gp_r (some 74), gp_i v1, gp_i v2, gp_l v3, gp_n, gp_l v5, gp_n, gp_i v7]) (st' := [gp_l ((1#64) <<< ((gp_I s4 89 v7.toNat) % 64).toNat), gp_l v3]) (s' := s4) 2 rfl ?_
      exact H

set_option maxRecDepth 100000 in
/-- GatheredPointsModel.negates, pc 63 -/
theorem s_3121_63 {L d : Nat} {K : Option gV → gH → Prop} {s : gH} (v1 : Int) (v2 : Int) (v3 : BitVec 64) (v5 : BitVec 64) (v7 : Int) (w0 : BitVec 64) (w1 : BitVec 64) (H : ((0 ≤ (gp_wr ((gp_wr (64 * v1)) + v2)) ∧ (gp_wr ((gp_wr (64 * v1)) + v2)) < 5440) ∧ gs_C L d 3078 3 [gp_l (gp_L s 76 (gp_wr ((gp_wr (64 * v1)) + v2)).toNat), gp_i v7] s (fun r s1 => ∃ x2, r = some (gp_i x2) ∧ ((x2 = 0 → gs_E L (d + 1) 3121 99 [gp_r (some 74), gp_i v1, gp_i v2, gp_l (w0 ||| w1), gp_n, gp_l v5, gp_n, gp_i v7] [gp_l (0#64), gp_l v5] s1 K) ∧ (¬ x2 = 0 → ((0 ≤ v7 ∧ v7 < 64) ∧ gs_E L (d + 1) 3121 99 [gp_r (some 74), gp_i v1, gp_i v2, gp_l (w0 ||| w1), gp_n, gp_l v5, gp_n, gp_i v7] [gp_l ((1#64) <<< ((gp_I s1 89 v7.toNat) % 64).toNat), gp_l v5] s1 K)))))) : gs_E L (d + 1) 3121 63 [gp_r (some 74), gp_i v1, gp_i v2, gp_l v3, gp_n, gp_l v5, gp_n, gp_i v7] [gp_l w1, gp_l w0] s K := by
  refine gs_E.stp (pc' := 77) (ls' := [gp_r (some 74), gp_i v1, gp_i v2, gp_l (w0 ||| w1), gp_n, gp_l v5, gp_n, gp_i v7]) (st' := [gp_i (gp_wr ((gp_wr (64 * v1)) + v2)), gp_r (some 76), gp_l v5]) (s' := s) 10 rfl ?_
  refine gs_E.ck (pc' := 78) (ls' := [gp_r (some 74), gp_i v1, gp_i v2, gp_l (w0 ||| w1), gp_n, gp_l v5, gp_n, gp_i v7]) (st' := [gp_l (gp_L s 76 (gp_wr ((gp_wr (64 * v1)) + v2)).toNat), gp_l v5]) (s' := s) rfl ⟨rfl, H.1.1, H.1.2⟩ ?_
  replace H := H.2
  refine gs_E.stp (pc' := 80) (ls' := [gp_r (some 74), gp_i v1, gp_i v2, gp_l (w0 ||| w1), gp_n, gp_l v5, gp_n, gp_i v7]) (st' := [gp_i v7, gp_l (gp_L s 76 (gp_wr ((gp_wr (64 * v1)) + v2)).toNat), gp_l v5]) (s' := s) 1 rfl ?_
  refine gs_E.call (args := [gp_l (gp_L s 76 (gp_wr ((gp_wr (64 * v1)) + v2)).toNat), gp_i v7]) (m := 3) (y' := 3078) (st' := [gp_l v5]) rfl H (fun r s1 H => ?_)
  obtain ⟨x2, rfl, H⟩ := H
  show gs_E L (d + 1) 3121 83 [gp_r (some 74), gp_i v1, gp_i v2, gp_l (w0 ||| w1), gp_n, gp_l v5, gp_n, gp_i v7] [gp_i x2, gp_l v5] s1 K
  refine gs_E.br (c := x2 = 0) (p1 := 98) (p2 := 86) (l1 := [gp_r (some 74), gp_i v1, gp_i v2, gp_l (w0 ||| w1), gp_n, gp_l v5, gp_n, gp_i v7]) (l2 := [gp_r (some 74), gp_i v1, gp_i v2, gp_l (w0 ||| w1), gp_n, gp_l v5, gp_n, gp_i v7]) (s1 := [gp_l v5]) (s2 := [gp_l v5]) rfl gs_b1 (fun hc => ?_) (fun hc => ?_)
  · replace H := H.1 hc
    refine gs_E.stp (pc' := 99) (ls' := [gp_r (some 74), gp_i v1, gp_i v2, gp_l (w0 ||| w1), gp_n, gp_l v5, gp_n, gp_i v7]) (st' := [gp_l (0#64), gp_l v5]) (s' := s1) 1 rfl ?_
    exact H
  · replace H := H.2 hc
    refine gs_E.stp (pc' := 93) (ls' := [gp_r (some 74), gp_i v1, gp_i v2, gp_l (w0 ||| w1), gp_n, gp_l v5, gp_n, gp_i v7]) (st' := [gp_i v7, gp_r (some 89), gp_l (1#64), gp_l v5]) (s' := s1) 4 rfl ?_
    refine gs_E.ck (pc' := 94) (ls' := [gp_r (some 74), gp_i v1, gp_i v2, gp_l (w0 ||| w1), gp_n, gp_l v5, gp_n, gp_i v7]) (st' := [gp_i (gp_I s1 89 v7.toNat), gp_l (1#64), gp_l v5]) (s' := s1) rfl (Or.inl ⟨rfl, H.1.1, H.1.2⟩) ?_
    replace H := H.2
    refine gs_E.stp (pc' := 99) (ls' := [gp_r (some 74), gp_i v1, gp_i v2, gp_l (w0 ||| w1), gp_n, gp_l v5, gp_n, gp_i v7]) (st' := [gp_l ((1#64) <<< ((gp_I s1 89 v7.toNat) % 64).toNat), gp_l v5]) (s' := s1) 2 rfl ?_
    exact H

set_option maxRecDepth 100000 in
/-- GatheredPointsModel.negates, pc 99 -/
theorem s_3121_99 {L d : Nat} {K : Option gV → gH → Prop} {s : gH} (v1 : Int) (v2 : Int) (v3 : BitVec 64) (v5 : BitVec 64) (v7 : Int) (w0 : BitVec 64) (w1 : BitVec 64) (H : gs_E L (d + 1) 3121 24 [gp_r (some 74), gp_i v1, gp_i v2, gp_l v3, gp_n, gp_l (w0 ||| w1), gp_n, gp_i (gp_wr (v7 + 1))] [] s K) : gs_E L (d + 1) 3121 99 [gp_r (some 74), gp_i v1, gp_i v2, gp_l v3, gp_n, gp_l v5, gp_n, gp_i v7] [gp_l w1, gp_l w0] s K := by
  refine gs_E.stp (pc' := 24) (ls' := [gp_r (some 74), gp_i v1, gp_i v2, gp_l v3, gp_n, gp_l (w0 ||| w1), gp_n, gp_i (gp_wr (v7 + 1))]) (st' := []) (s' := s) 4 rfl ?_
  exact H

set_option maxRecDepth 100000 in
/-- GatheredPointsModel.waitsOf, pc 0 -/
theorem s_3122_e {L d : Nat} {K : Option gV → gH → Prop} {s : gH} (p0 : Int) (H : gs_C L d 3085 1 [gp_r (some 74)] s (fun r s1 => r = none ∧ gs_C L d 3088 9 [gp_r (some 74), gp_l (0#64), gp_l (0#64), gp_i 0, gp_i 0] s1 (fun r s2 => ∃ x3, r = some (gp_i x3) ∧ gs_E L (d + 1) 3122 15 [gp_r (some 74), gp_i p0, gp_i x3, gp_i 0] [] s2 K))) : gs_C L (d + 1) 3122 4 [gp_r (some 74), gp_i p0] s K := by
  show gs_E L (d + 1) 3122 0 [gp_r (some 74), gp_i p0, gp_n, gp_n] [] s K
  refine gs_E.stp (pc' := 1) (ls' := [gp_r (some 74), gp_i p0, gp_n, gp_n]) (st' := [gp_r (some 74)]) (s' := s) 1 rfl ?_
  refine gs_E.call (args := [gp_r (some 74)]) (m := 1) (y' := 3085) (st' := []) rfl H (fun r s1 H => ?_)
  obtain ⟨rfl, H⟩ := H
  show gs_E L (d + 1) 3122 4 [gp_r (some 74), gp_i p0, gp_n, gp_n] [] s1 K
  refine gs_E.stp (pc' := 9) (ls' := [gp_r (some 74), gp_i p0, gp_n, gp_n]) (st' := [gp_i 0, gp_i 0, gp_l (0#64), gp_l (0#64), gp_r (some 74)]) (s' := s1) 5 rfl ?_
  refine gs_E.call (args := [gp_r (some 74), gp_l (0#64), gp_l (0#64), gp_i 0, gp_i 0]) (m := 9) (y' := 3088) (st' := []) rfl H (fun r s2 H => ?_)
  obtain ⟨x3, rfl, H⟩ := H
  show gs_E L (d + 1) 3122 12 [gp_r (some 74), gp_i p0, gp_n, gp_n] [gp_i x3] s2 K
  refine gs_E.stp (pc' := 15) (ls' := [gp_r (some 74), gp_i p0, gp_i x3, gp_i 0]) (st' := []) (s' := s2) 3 rfl ?_
  exact H

set_option maxRecDepth 100000 in
/-- GatheredPointsModel.waitsOf, pc 15 -/
theorem s_3122_15 {L d : Nat} {K : Option gV → gH → Prop} {s : gH} (v1 : Int) (v2 : Int) (v3 : Int) (H : ((v3 < v1 → gs_C L d 3088 9 [gp_r (some 74), gp_l ((1#64) <<< (v2 % 64).toNat), gp_l (0#64), gp_i 0, gp_i 0] s (fun r s2 => ∃ x3, r = some (gp_i x3) ∧ gs_E L (d + 1) 3122 15 [gp_r (some 74), gp_i v1, gp_i x3, gp_i (gp_wr (v3 + 1))] [] s2 K)) ∧ (¬ v3 < v1 → gs_C L d 3093 9 [gp_r (some 74), gp_i v2, gp_i 19] s (fun r s1 => r = none ∧ K none s1)))) : gs_E L (d + 1) 3122 15 [gp_r (some 74), gp_i v1, gp_i v2, gp_i v3] [] s K := by
  refine gs_E.stp (pc' := 17) (ls' := [gp_r (some 74), gp_i v1, gp_i v2, gp_i v3]) (st' := [gp_i v1, gp_i v3]) (s' := s) 2 rfl ?_
  refine gs_E.br (c := ¬ v3 < v1) (p1 := 37) (p2 := 20) (l1 := [gp_r (some 74), gp_i v1, gp_i v2, gp_i v3]) (l2 := [gp_r (some 74), gp_i v1, gp_i v2, gp_i v3]) (s1 := []) (s2 := []) rfl gs_b2 (fun hc => ?_) (fun hc => ?_)
  · replace H := H.2 hc
    refine gs_E.stp (pc' := 41) (ls' := [gp_r (some 74), gp_i v1, gp_i v2, gp_i v3]) (st' := [gp_i 19, gp_i v2, gp_r (some 74)]) (s' := s) 3 rfl ?_
    refine gs_E.call (args := [gp_r (some 74), gp_i v2, gp_i 19]) (m := 9) (y' := 3093) (st' := []) rfl H (fun r s1 H => ?_)
    obtain ⟨rfl, H⟩ := H
    show gs_E L (d + 1) 3122 44 [gp_r (some 74), gp_i v1, gp_i v2, gp_i v3] [] s1 K
    exact gs_E.ret (r := none) rfl H
  · replace H := H.1 (Decidable.byContradiction hc)
    refine gs_E.stp (pc' := 27) (ls' := [gp_r (some 74), gp_i v1, gp_i v2, gp_i v3]) (st' := [gp_i 0, gp_i 0, gp_l (0#64), gp_l ((1#64) <<< (v2 % 64).toNat), gp_r (some 74)]) (s' := s) 7 rfl ?_
    refine gs_E.call (args := [gp_r (some 74), gp_l ((1#64) <<< (v2 % 64).toNat), gp_l (0#64), gp_i 0, gp_i 0]) (m := 9) (y' := 3088) (st' := []) rfl H (fun r s2 H => ?_)
    obtain ⟨x3, rfl, H⟩ := H
    show gs_E L (d + 1) 3122 30 [gp_r (some 74), gp_i v1, gp_i v2, gp_i v3] [gp_i x3] s2 K
    refine gs_E.stp (pc' := 15) (ls' := [gp_r (some 74), gp_i v1, gp_i x3, gp_i (gp_wr (v3 + 1))]) (st' := []) (s' := s2) 3 rfl ?_
    exact H

set_option maxRecDepth 100000 in
/-- GatheredPointsModel.holds, pc 0 -/
theorem s_3123_e {L d : Nat} {K : Option gV → gH → Prop} {s : gH} (p0 : Int) (H : gs_C L d 3084 6 [gp_r (some 74), gp_i 19, gp_i p0] s (fun r s1 => r = none ∧ ((0 ≤ p0 ∧ p0 < 85) ∧ K (some (gp_i (gp_I s1 81 p0.toNat))) s1))) : gs_C L (d + 1) 3123 2 [gp_r (some 74), gp_i p0] s K := by
  show gs_E L (d + 1) 3123 0 [gp_r (some 74), gp_i p0] [] s K
  refine gs_E.stp (pc' := 4) (ls' := [gp_r (some 74), gp_i p0]) (st' := [gp_i p0, gp_i 19, gp_r (some 74)]) (s' := s) 3 rfl ?_
  refine gs_E.call (args := [gp_r (some 74), gp_i 19, gp_i p0]) (m := 6) (y' := 3084) (st' := []) rfl H (fun r s1 H => ?_)
  obtain ⟨rfl, H⟩ := H
  show gs_E L (d + 1) 3123 7 [gp_r (some 74), gp_i p0] [] s1 K
  refine gs_E.stp (pc' := 12) (ls' := [gp_r (some 74), gp_i p0]) (st' := [gp_i p0, gp_r (some 81)]) (s' := s1) 3 rfl ?_
  refine gs_E.ck (pc' := 13) (ls' := [gp_r (some 74), gp_i p0]) (st' := [gp_i (gp_I s1 81 p0.toNat)]) (s' := s1) rfl (Or.inl ⟨rfl, H.1.1, H.1.2⟩) ?_
  replace H := H.2
  exact gs_E.ret (r := (some (gp_i (gp_I s1 81 p0.toNat)))) rfl H

set_option maxRecDepth 100000 in
/-- GatheredPointsModel.feed, pc 0 -/
theorem s_3124_e {L d : Nat} {K : Option gV → gH → Prop} {s : gH} (p0 : BitVec 64) (p1 : Int) (H : gs_C L d 3073 6 [gp_l (BitVec.ofInt 64 p1), gp_l (1#64), gp_l (BitVec.ofInt 64 8)] s (fun r s1 => ∃ x2, r = some (gp_i x2) ∧ ((x2 = 0 → gs_C L d 3074 2 [gp_r (some 74), gp_i 1] s1 (fun r s5 => ∃ x6, r = some (gp_i x6) ∧ K (some (gp_i x6)) s5)) ∧ (¬ x2 = 0 → ((100 < (gp_wr ((gp_I s1 74 11) + p1)) → gs_C L d 3074 2 [gp_r (some 74), gp_i 4] s1 (fun r s3 => ∃ x4, r = some (gp_i x4) ∧ K (some (gp_i x4)) s3)) ∧ (¬ 100 < (gp_wr ((gp_I s1 74 11) + p1)) → gs_E L (d + 1) 3124 38 [gp_r (some 74), gp_l p0, gp_n, gp_i p1, gp_i 0] [] s1 K)))))) : gs_C L (d + 1) 3124 5 [gp_r (some 74), gp_l p0, gp_i p1] s K := by
  show gs_E L (d + 1) 3124 0 [gp_r (some 74), gp_l p0, gp_n, gp_i p1, gp_n] [] s K
  refine gs_E.stp (pc' := 6) (ls' := [gp_r (some 74), gp_l p0, gp_n, gp_i p1, gp_n]) (st' := [gp_l (BitVec.ofInt 64 8), gp_l (1#64), gp_l (BitVec.ofInt 64 p1)]) (s' := s) 4 rfl ?_
  refine gs_E.call (args := [gp_l (BitVec.ofInt 64 p1), gp_l (1#64), gp_l (BitVec.ofInt 64 8)]) (m := 6) (y' := 3073) (st' := []) rfl H (fun r s1 H => ?_)
  obtain ⟨x2, rfl, H⟩ := H
  show gs_E L (d + 1) 3124 9 [gp_r (some 74), gp_l p0, gp_n, gp_i p1, gp_n] [gp_i x2] s1 K
  refine gs_E.br (c := ¬ x2 = 0) (p1 := 18) (p2 := 12) (l1 := [gp_r (some 74), gp_l p0, gp_n, gp_i p1, gp_n]) (l2 := [gp_r (some 74), gp_l p0, gp_n, gp_i p1, gp_n]) (s1 := []) (s2 := []) rfl gs_b2 (fun hc => ?_) (fun hc => ?_)
  · replace H := H.2 hc
    refine gs_E.stp (pc' := 26) (ls' := [gp_r (some 74), gp_l p0, gp_n, gp_i p1, gp_n]) (st' := [gp_i 100, gp_i (gp_wr ((gp_I s1 74 11) + p1))]) (s' := s1) 5 rfl ?_
    refine gs_E.br (c := ¬ 100 < (gp_wr ((gp_I s1 74 11) + p1))) (p1 := 35) (p2 := 29) (l1 := [gp_r (some 74), gp_l p0, gp_n, gp_i p1, gp_n]) (l2 := [gp_r (some 74), gp_l p0, gp_n, gp_i p1, gp_n]) (s1 := []) (s2 := []) rfl gs_b2 (fun hc => ?_) (fun hc => ?_)
    · replace H := H.2 hc
      refine gs_E.stp (pc' := 38) (ls' := [gp_r (some 74), gp_l p0, gp_n, gp_i p1, gp_i 0]) (st' := []) (s' := s1) 2 rfl ?_
      exact H
    · replace H := H.1 (Decidable.byContradiction hc)
      refine gs_E.stp (pc' := 31) (ls' := [gp_r (some 74), gp_l p0, gp_n, gp_i p1, gp_n]) (st' := [gp_i 4, gp_r (some 74)]) (s' := s1) 2 rfl ?_
      refine gs_E.call (args := [gp_r (some 74), gp_i 4]) (m := 2) (y' := 3074) (st' := []) rfl H (fun r s3 H => ?_)
      obtain ⟨x4, rfl, H⟩ := H
      show gs_E L (d + 1) 3124 34 [gp_r (some 74), gp_l p0, gp_n, gp_i p1, gp_n] [gp_i x4] s3 K
      exact gs_E.ret (r := (some (gp_i x4))) rfl H
  · replace H := H.1 (Decidable.byContradiction hc)
    refine gs_E.stp (pc' := 14) (ls' := [gp_r (some 74), gp_l p0, gp_n, gp_i p1, gp_n]) (st' := [gp_i 1, gp_r (some 74)]) (s' := s1) 2 rfl ?_
    refine gs_E.call (args := [gp_r (some 74), gp_i 1]) (m := 2) (y' := 3074) (st' := []) rfl H (fun r s5 H => ?_)
    obtain ⟨x6, rfl, H⟩ := H
    show gs_E L (d + 1) 3124 17 [gp_r (some 74), gp_l p0, gp_n, gp_i p1, gp_n] [gp_i x6] s5 K
    exact gs_E.ret (r := (some (gp_i x6))) rfl H

set_option maxRecDepth 100000 in
/-- GatheredPointsModel.feed, pc 38 -/
theorem s_3124_38 {L d : Nat} {K : Option gV → gH → Prop} {s : gH} (v1 : BitVec 64) (v3 : Int) (v4 : Int) (H : ((v4 < v3 → ((0 ≤ (gp_I s 74 11) ∧ (gp_I s 74 11) < 100) ∧ (∀ s1, s1 = gp_wI s 82 (gp_I s 74 11).toNat (gp_wr ((v1.sshiftRight ((gp_wr (8 * v4)) % 64).toNat) &&& (BitVec.ofInt 64 255)).toInt) → (∀ s2, s2 = gp_wI s1 74 11 (gp_wr ((gp_I s1 74 11) + 1)) → gs_E L (d + 1) 3124 38 [gp_r (some 74), gp_l v1, gp_n, gp_i v3, gp_i (gp_wr (v4 + 1))] [] s2 K)))) ∧ (¬ v4 < v3 → K (some (gp_i (gp_I s 74 11))) s))) : gs_E L (d + 1) 3124 38 [gp_r (some 74), gp_l v1, gp_n, gp_i v3, gp_i v4] [] s K := by
  refine gs_E.stp (pc' := 41) (ls' := [gp_r (some 74), gp_l v1, gp_n, gp_i v3, gp_i v4]) (st' := [gp_i v3, gp_i v4]) (s' := s) 2 rfl ?_
  refine gs_E.br (c := ¬ v4 < v3) (p1 := 81) (p2 := 44) (l1 := [gp_r (some 74), gp_l v1, gp_n, gp_i v3, gp_i v4]) (l2 := [gp_r (some 74), gp_l v1, gp_n, gp_i v3, gp_i v4]) (s1 := []) (s2 := []) rfl gs_b2 (fun hc => ?_) (fun hc => ?_)
  · replace H := H.2 hc
    refine gs_E.stp (pc' := 85) (ls' := [gp_r (some 74), gp_l v1, gp_n, gp_i v3, gp_i v4]) (st' := [gp_i (gp_I s 74 11)]) (s' := s) 2 rfl ?_
    exact gs_E.ret (r := (some (gp_i (gp_I s 74 11)))) rfl H
  · replace H := H.1 (Decidable.byContradiction hc)
    refine gs_E.stp (pc' := 64) (ls' := [gp_r (some 74), gp_l v1, gp_n, gp_i v3, gp_i v4]) (st' := [gp_i (gp_wr ((v1.sshiftRight ((gp_wr (8 * v4)) % 64).toNat) &&& (BitVec.ofInt 64 255)).toInt), gp_i (gp_I s 74 11), gp_r (some 82)]) (s' := s) 12 rfl ?_
    refine gs_E.ck (pc' := 65) (ls' := [gp_r (some 74), gp_l v1, gp_n, gp_i v3, gp_i v4]) (st' := []) (s' := gp_wI s 82 (gp_I s 74 11).toNat (gp_wr ((v1.sshiftRight ((gp_wr (8 * v4)) % 64).toNat) &&& (BitVec.ofInt 64 255)).toInt)) rfl ⟨rfl, H.1.1, H.1.2⟩ ?_
    replace H := H.2 _ rfl
    generalize gp_wI s 82 (gp_I s 74 11).toNat (gp_wr ((v1.sshiftRight ((gp_wr (8 * v4)) % 64).toNat) &&& (BitVec.ofInt 64 255)).toInt) = s1 at H ⊢
    refine gs_E.stp (pc' := 75) (ls' := [gp_r (some 74), gp_l v1, gp_n, gp_i v3, gp_i v4]) (st' := []) (s' := gp_wI s1 74 11 (gp_wr ((gp_I s1 74 11) + 1))) 6 rfl ?_
    replace H := H _ rfl
    generalize gp_wI s1 74 11 (gp_wr ((gp_I s1 74 11) + 1)) = s2 at H ⊢
    refine gs_E.stp (pc' := 38) (ls' := [gp_r (some 74), gp_l v1, gp_n, gp_i v3, gp_i (gp_wr (v4 + 1))]) (st' := []) (s' := s2) 2 rfl ?_
    exact H

set_option maxRecDepth 100000 in
/-- GatheredPointsModel.byteAt, pc 0 -/
theorem s_3125_e {L d : Nat} {K : Option gV → gH → Prop} {s : gH}  (H : (((gp_I s 74 38) < (gp_I s 74 39) → ((0 ≤ (gp_I s 74 38) ∧ (gp_I s 74 38) < 100) ∧ gs_E L d 3125 24 [gp_r (some 74)] [gp_i (gp_I s 82 (gp_I s 74 38).toNat)] s K)) ∧ (¬ (gp_I s 74 38) < (gp_I s 74 39) → gs_E L d 3125 24 [gp_r (some 74)] [gp_i (-1)] s K))) : gs_C L d 3125 1 [gp_r (some 74)] s K := by
  show gs_E L d 3125 0 [gp_r (some 74)] [] s K
  refine gs_E.stp (pc' := 8) (ls' := [gp_r (some 74)]) (st' := [gp_i (gp_I s 74 39), gp_i (gp_I s 74 38)]) (s' := s) 4 rfl ?_
  refine gs_E.br (c := ¬ (gp_I s 74 38) < (gp_I s 74 39)) (p1 := 23) (p2 := 11) (l1 := [gp_r (some 74)]) (l2 := [gp_r (some 74)]) (s1 := []) (s2 := []) rfl gs_b2 (fun hc => ?_) (fun hc => ?_)
  · replace H := H.2 hc
    refine gs_E.stp (pc' := 24) (ls' := [gp_r (some 74)]) (st' := [gp_i (-1)]) (s' := s) 1 rfl ?_
    exact H
  · replace H := H.1 (Decidable.byContradiction hc)
    refine gs_E.stp (pc' := 19) (ls' := [gp_r (some 74)]) (st' := [gp_i (gp_I s 74 38), gp_r (some 82)]) (s' := s) 4 rfl ?_
    refine gs_E.ck (pc' := 20) (ls' := [gp_r (some 74)]) (st' := [gp_i (gp_I s 82 (gp_I s 74 38).toNat)]) (s' := s) rfl (Or.inl ⟨rfl, H.1.1, H.1.2⟩) ?_
    replace H := H.2
    refine gs_E.stp (pc' := 24) (ls' := [gp_r (some 74)]) (st' := [gp_i (gp_I s 82 (gp_I s 74 38).toNat)]) (s' := s) 1 rfl ?_
    exact H

set_option maxRecDepth 100000 in
/-- GatheredPointsModel.byteAt, pc 24 -/
theorem s_3125_24 {L d : Nat} {K : Option gV → gH → Prop} {s : gH} (w0 : Int) (H : K (some (gp_i w0)) s) : gs_E L d 3125 24 [gp_r (some 74)] [gp_i w0] s K := by
  exact gs_E.ret (r := (some (gp_i w0))) rfl H

set_option maxRecDepth 100000 in
/-- GatheredPointsModel.isDigit, pc 0 -/
theorem s_3126_e {L d : Nat} {K : Option gV → gH → Prop} {s : gH}  (H : gs_C L d 3125 1 [gp_r (some 74)] s (fun r s1 => ∃ x2, r = some (gp_i x2) ∧ ((x2 < 48 → gs_E L (d + 1) 3126 22 [gp_r (some 74)] [] s1 K) ∧ (¬ x2 < 48 → gs_C L d 3125 1 [gp_r (some 74)] s1 (fun r s3 => ∃ x4, r = some (gp_i x4) ∧ ((57 < x4 → gs_E L (d + 1) 3126 22 [gp_r (some 74)] [] s3 K) ∧ (¬ 57 < x4 → gs_E L (d + 1) 3126 23 [gp_r (some 74)] [gp_i 1] s3 K))))))) : gs_C L (d + 1) 3126 1 [gp_r (some 74)] s K := by
  show gs_E L (d + 1) 3126 0 [gp_r (some 74)] [] s K
  refine gs_E.stp (pc' := 1) (ls' := [gp_r (some 74)]) (st' := [gp_r (some 74)]) (s' := s) 1 rfl ?_
  refine gs_E.call (args := [gp_r (some 74)]) (m := 1) (y' := 3125) (st' := []) rfl H (fun r s1 H => ?_)
  obtain ⟨x2, rfl, H⟩ := H
  show gs_E L (d + 1) 3126 4 [gp_r (some 74)] [gp_i x2] s1 K
  refine gs_E.stp (pc' := 6) (ls' := [gp_r (some 74)]) (st' := [gp_i 48, gp_i x2]) (s' := s1) 1 rfl ?_
  refine gs_E.br (c := x2 < 48) (p1 := 22) (p2 := 9) (l1 := [gp_r (some 74)]) (l2 := [gp_r (some 74)]) (s1 := []) (s2 := []) rfl gs_b1 (fun hc => ?_) (fun hc => ?_)
  · replace H := H.1 hc
    exact H
  · replace H := H.2 hc
    refine gs_E.stp (pc' := 10) (ls' := [gp_r (some 74)]) (st' := [gp_r (some 74)]) (s' := s1) 1 rfl ?_
    refine gs_E.call (args := [gp_r (some 74)]) (m := 1) (y' := 3125) (st' := []) rfl H (fun r s3 H => ?_)
    obtain ⟨x4, rfl, H⟩ := H
    show gs_E L (d + 1) 3126 13 [gp_r (some 74)] [gp_i x4] s3 K
    refine gs_E.stp (pc' := 15) (ls' := [gp_r (some 74)]) (st' := [gp_i 57, gp_i x4]) (s' := s3) 1 rfl ?_
    refine gs_E.br (c := 57 < x4) (p1 := 22) (p2 := 18) (l1 := [gp_r (some 74)]) (l2 := [gp_r (some 74)]) (s1 := []) (s2 := []) rfl gs_b1 (fun hc => ?_) (fun hc => ?_)
    · replace H := H.1 hc
      exact H
    · replace H := H.2 hc
      refine gs_E.stp (pc' := 23) (ls' := [gp_r (some 74)]) (st' := [gp_i 1]) (s' := s3) 2 rfl ?_
      exact H

set_option maxRecDepth 100000 in
/-- GatheredPointsModel.isDigit, pc 22 -/
theorem s_3126_22 {L d : Nat} {K : Option gV → gH → Prop} {s : gH}  (H : gs_E L (d + 1) 3126 23 [gp_r (some 74)] [gp_i 0] s K) : gs_E L (d + 1) 3126 22 [gp_r (some 74)] [] s K := by
  refine gs_E.stp (pc' := 23) (ls' := [gp_r (some 74)]) (st' := [gp_i 0]) (s' := s) 1 rfl ?_
  exact H

set_option maxRecDepth 100000 in
/-- GatheredPointsModel.isDigit, pc 23 -/
theorem s_3126_23 {L d : Nat} {K : Option gV → gH → Prop} {s : gH} (w0 : Int) (H : ((w0 = 0 ∨ w0 = 1) ∧ K (some (gp_i w0)) s)) : gs_E L (d + 1) 3126 23 [gp_r (some 74)] [gp_i w0] s K := by
  exact gs_E.retz (r := (some (gp_i w0))) rfl H.1 H.2

set_option maxRecDepth 100000 in
/-- GatheredPointsModel.goesOn, pc 0 -/
theorem s_3127_e {L d : Nat} {K : Option gV → gH → Prop} {s : gH}  (H : (((gp_I s 74 40) < 0 → (((gp_I s 74 43) = 0 → gs_E L d 3127 19 [gp_r (some 74)] [gp_i 1] s K) ∧ (¬ (gp_I s 74 43) = 0 → gs_E L d 3127 18 [gp_r (some 74)] [] s K))) ∧ (¬ (gp_I s 74 40) < 0 → gs_E L d 3127 18 [gp_r (some 74)] [] s K))) : gs_C L d 3127 1 [gp_r (some 74)] s K := by
  show gs_E L d 3127 0 [gp_r (some 74)] [] s K
  refine gs_E.stp (pc' := 4) (ls' := [gp_r (some 74)]) (st' := [gp_i (gp_I s 74 40)]) (s' := s) 2 rfl ?_
  refine gs_E.br (c := ¬ (gp_I s 74 40) < 0) (p1 := 18) (p2 := 7) (l1 := [gp_r (some 74)]) (l2 := [gp_r (some 74)]) (s1 := []) (s2 := []) rfl gs_b2 (fun hc => ?_) (fun hc => ?_)
  · replace H := H.2 hc
    exact H
  · replace H := H.1 (Decidable.byContradiction hc)
    refine gs_E.stp (pc' := 11) (ls' := [gp_r (some 74)]) (st' := [gp_i (gp_I s 74 43)]) (s' := s) 2 rfl ?_
    refine gs_E.br (c := ¬ (gp_I s 74 43) = 0) (p1 := 18) (p2 := 14) (l1 := [gp_r (some 74)]) (l2 := [gp_r (some 74)]) (s1 := []) (s2 := []) rfl gs_b2 (fun hc => ?_) (fun hc => ?_)
    · replace H := H.2 hc
      exact H
    · replace H := H.1 (Decidable.byContradiction hc)
      refine gs_E.stp (pc' := 19) (ls' := [gp_r (some 74)]) (st' := [gp_i 1]) (s' := s) 2 rfl ?_
      exact H

set_option maxRecDepth 100000 in
/-- GatheredPointsModel.goesOn, pc 18 -/
theorem s_3127_18 {L d : Nat} {K : Option gV → gH → Prop} {s : gH}  (H : gs_E L d 3127 19 [gp_r (some 74)] [gp_i 0] s K) : gs_E L d 3127 18 [gp_r (some 74)] [] s K := by
  refine gs_E.stp (pc' := 19) (ls' := [gp_r (some 74)]) (st' := [gp_i 0]) (s' := s) 1 rfl ?_
  exact H

set_option maxRecDepth 100000 in
/-- GatheredPointsModel.goesOn, pc 19 -/
theorem s_3127_19 {L d : Nat} {K : Option gV → gH → Prop} {s : gH} (w0 : Int) (H : ((w0 = 0 ∨ w0 = 1) ∧ K (some (gp_i w0)) s)) : gs_E L d 3127 19 [gp_r (some 74)] [gp_i w0] s K := by
  exact gs_E.retz (r := (some (gp_i w0))) rfl H.1 H.2

set_option maxRecDepth 100000 in
/-- GatheredPointsModel.fails, pc 0 -/
theorem s_3128_e {L d : Nat} {K : Option gV → gH → Prop} {s : gH}  (H : (((gp_I s 74 40) < 0 → gs_E L d 3128 19 [gp_r (some 74)] [gp_i (gp_I s 74 38), gp_r (some 74)] s K) ∧ (¬ (gp_I s 74 40) < 0 → gs_E L d 3128 19 [gp_r (some 74)] [gp_i (gp_I s 74 40), gp_r (some 74)] s K))) : gs_C L d 3128 1 [gp_r (some 74)] s K := by
  show gs_E L d 3128 0 [gp_r (some 74)] [] s K
  refine gs_E.stp (pc' := 5) (ls' := [gp_r (some 74)]) (st' := [gp_i (gp_I s 74 40), gp_r (some 74)]) (s' := s) 3 rfl ?_
  refine gs_E.br (c := ¬ (gp_I s 74 40) < 0) (p1 := 15) (p2 := 8) (l1 := [gp_r (some 74)]) (l2 := [gp_r (some 74)]) (s1 := [gp_r (some 74)]) (s2 := [gp_r (some 74)]) rfl gs_b2 (fun hc => ?_) (fun hc => ?_)
  · replace H := H.2 hc
    refine gs_E.stp (pc' := 19) (ls' := [gp_r (some 74)]) (st' := [gp_i (gp_I s 74 40), gp_r (some 74)]) (s' := s) 2 rfl ?_
    exact H
  · replace H := H.1 (Decidable.byContradiction hc)
    refine gs_E.stp (pc' := 19) (ls' := [gp_r (some 74)]) (st' := [gp_i (gp_I s 74 38), gp_r (some 74)]) (s' := s) 3 rfl ?_
    exact H

set_option maxRecDepth 100000 in
/-- GatheredPointsModel.fails, pc 19 -/
theorem s_3128_19 {L d : Nat} {K : Option gV → gH → Prop} {s : gH} (w1 : Int) (H : (∀ s1, s1 = gp_wI s 74 40 w1 → K none s1)) : gs_E L d 3128 19 [gp_r (some 74)] [gp_i w1, gp_r (some 74)] s K := by
  refine gs_E.stp (pc' := 22) (ls' := [gp_r (some 74)]) (st' := []) (s' := gp_wI s 74 40 w1) 1 rfl ?_
  replace H := H _ rfl
  generalize gp_wI s 74 40 w1 = s1 at H ⊢
  exact gs_E.ret (r := none) rfl H

set_option maxRecDepth 100000 in
/-- GatheredPointsModel.takes, pc 0 -/
theorem s_3129_e {L d : Nat} {K : Option gV → gH → Prop} {s : gH} (p0 : Int) (H : gs_C L d 3127 1 [gp_r (some 74)] s (fun r s1 => ∃ x2, r = some (gp_i x2) ∧ ((x2 = 0 → gs_E L (d + 1) 3129 19 [gp_r (some 74), gp_i p0, gp_n] [] s1 K) ∧ (¬ x2 = 0 → gs_C L d 3125 1 [gp_r (some 74)] s1 (fun r s3 => ∃ x4, r = some (gp_i x4) ∧ ((x4 = p0 → gs_E L (d + 1) 3129 20 [gp_r (some 74), gp_i p0, gp_n] [gp_i 1] s3 K) ∧ (¬ x4 = p0 → gs_E L (d + 1) 3129 19 [gp_r (some 74), gp_i p0, gp_n] [] s3 K))))))) : gs_C L (d + 1) 3129 3 [gp_r (some 74), gp_i p0] s K := by
  show gs_E L (d + 1) 3129 0 [gp_r (some 74), gp_i p0, gp_n] [] s K
  refine gs_E.stp (pc' := 1) (ls' := [gp_r (some 74), gp_i p0, gp_n]) (st' := [gp_r (some 74)]) (s' := s) 1 rfl ?_
  refine gs_E.call (args := [gp_r (some 74)]) (m := 1) (y' := 3127) (st' := []) rfl H (fun r s1 H => ?_)
  obtain ⟨x2, rfl, H⟩ := H
  show gs_E L (d + 1) 3129 4 [gp_r (some 74), gp_i p0, gp_n] [gp_i x2] s1 K
  refine gs_E.br (c := x2 = 0) (p1 := 19) (p2 := 7) (l1 := [gp_r (some 74), gp_i p0, gp_n]) (l2 := [gp_r (some 74), gp_i p0, gp_n]) (s1 := []) (s2 := []) rfl gs_b1 (fun hc => ?_) (fun hc => ?_)
  · replace H := H.1 hc
    exact H
  · replace H := H.2 hc
    refine gs_E.stp (pc' := 8) (ls' := [gp_r (some 74), gp_i p0, gp_n]) (st' := [gp_r (some 74)]) (s' := s1) 1 rfl ?_
    refine gs_E.call (args := [gp_r (some 74)]) (m := 1) (y' := 3125) (st' := []) rfl H (fun r s3 H => ?_)
    obtain ⟨x4, rfl, H⟩ := H
    show gs_E L (d + 1) 3129 11 [gp_r (some 74), gp_i p0, gp_n] [gp_i x4] s3 K
    refine gs_E.stp (pc' := 12) (ls' := [gp_r (some 74), gp_i p0, gp_n]) (st' := [gp_i p0, gp_i x4]) (s' := s3) 1 rfl ?_
    refine gs_E.br (c := ¬ x4 = p0) (p1 := 19) (p2 := 15) (l1 := [gp_r (some 74), gp_i p0, gp_n]) (l2 := [gp_r (some 74), gp_i p0, gp_n]) (s1 := []) (s2 := []) rfl gs_b2 (fun hc => ?_) (fun hc => ?_)
    · replace H := H.2 hc
      exact H
    · replace H := H.1 (Decidable.byContradiction hc)
      refine gs_E.stp (pc' := 20) (ls' := [gp_r (some 74), gp_i p0, gp_n]) (st' := [gp_i 1]) (s' := s3) 2 rfl ?_
      exact H

set_option maxRecDepth 100000 in
/-- GatheredPointsModel.takes, pc 19 -/
theorem s_3129_19 {L d : Nat} {K : Option gV → gH → Prop} {s : gH} (v1 : Int) (v2 : gV) (H : gs_E L (d + 1) 3129 20 [gp_r (some 74), gp_i v1, v2] [gp_i 0] s K) : gs_E L (d + 1) 3129 19 [gp_r (some 74), gp_i v1, v2] [] s K := by
  refine gs_E.stp (pc' := 20) (ls' := [gp_r (some 74), gp_i v1, v2]) (st' := [gp_i 0]) (s' := s) 1 rfl ?_
  exact H

set_option maxRecDepth 100000 in
/-- GatheredPointsModel.takes, pc 20 -/
theorem s_3129_20 {L d : Nat} {K : Option gV → gH → Prop} {s : gH} (v1 : Int) (v2 : gV) (w0 : Int) (H : ((w0 = 0 → gs_E L (d + 1) 3129 35 [gp_r (some 74), gp_i v1, gp_i w0] [gp_i 0, gp_i (gp_I s 74 38), gp_r (some 74)] s K) ∧ (¬ w0 = 0 → gs_E L (d + 1) 3129 35 [gp_r (some 74), gp_i v1, gp_i w0] [gp_i 1, gp_i (gp_I s 74 38), gp_r (some 74)] s K))) : gs_E L (d + 1) 3129 20 [gp_r (some 74), gp_i v1, v2] [gp_i w0] s K := by
  refine gs_E.stp (pc' := 27) (ls' := [gp_r (some 74), gp_i v1, gp_i w0]) (st' := [gp_i w0, gp_i (gp_I s 74 38), gp_r (some 74)]) (s' := s) 5 rfl ?_
  refine gs_E.br (c := w0 = 0) (p1 := 34) (p2 := 30) (l1 := [gp_r (some 74), gp_i v1, gp_i w0]) (l2 := [gp_r (some 74), gp_i v1, gp_i w0]) (s1 := [gp_i (gp_I s 74 38), gp_r (some 74)]) (s2 := [gp_i (gp_I s 74 38), gp_r (some 74)]) rfl gs_b1 (fun hc => ?_) (fun hc => ?_)
  · replace H := H.1 hc
    refine gs_E.stp (pc' := 35) (ls' := [gp_r (some 74), gp_i v1, gp_i w0]) (st' := [gp_i 0, gp_i (gp_I s 74 38), gp_r (some 74)]) (s' := s) 1 rfl ?_
    exact H
  · replace H := H.2 hc
    refine gs_E.stp (pc' := 35) (ls' := [gp_r (some 74), gp_i v1, gp_i w0]) (st' := [gp_i 1, gp_i (gp_I s 74 38), gp_r (some 74)]) (s' := s) 2 rfl ?_
    exact H

set_option maxRecDepth 100000 in
/-- GatheredPointsModel.takes, pc 35 -/
theorem s_3129_35 {L d : Nat} {K : Option gV → gH → Prop} {s : gH} (v1 : Int) (v2 : Int) (w1 : Int) (w2 : Int) (H : (∀ s1, s1 = gp_wI s 74 38 (gp_wr (w1 + w2)) → ((v2 = 0 ∨ v2 = 1) ∧ K (some (gp_i v2)) s1))) : gs_E L (d + 1) 3129 35 [gp_r (some 74), gp_i v1, gp_i v2] [gp_i w2, gp_i w1, gp_r (some 74)] s K := by
  refine gs_E.stp (pc' := 39) (ls' := [gp_r (some 74), gp_i v1, gp_i v2]) (st' := []) (s' := gp_wI s 74 38 (gp_wr (w1 + w2))) 2 rfl ?_
  replace H := H _ rfl
  generalize gp_wI s 74 38 (gp_wr (w1 + w2)) = s1 at H ⊢
  refine gs_E.stp (pc' := 40) (ls' := [gp_r (some 74), gp_i v1, gp_i v2]) (st' := [gp_i v2]) (s' := s1) 1 rfl ?_
  exact gs_E.retz (r := (some (gp_i v2))) rfl H.1 H.2

set_option maxRecDepth 100000 in
/-- GatheredPointsModel.wants, pc 0 -/
theorem s_3130_e {L d : Nat} {K : Option gV → gH → Prop} {s : gH} (p0 : Int) (H : gs_C L d 3127 1 [gp_r (some 74)] s (fun r s1 => ∃ x2, r = some (gp_i x2) ∧ ((x2 = 0 → gs_E L (d + 1) 3130 19 [gp_r (some 74), gp_i p0] [] s1 K) ∧ (¬ x2 = 0 → gs_C L d 3129 3 [gp_r (some 74), gp_i p0] s1 (fun r s3 => ∃ x4, r = some (gp_i x4) ∧ ((x4 = 0 → gs_C L d 3128 1 [gp_r (some 74)] s3 (fun r s5 => r = none ∧ gs_E L (d + 1) 3130 19 [gp_r (some 74), gp_i p0] [] s5 K)) ∧ (¬ x4 = 0 → gs_E L (d + 1) 3130 19 [gp_r (some 74), gp_i p0] [] s3 K))))))) : gs_C L (d + 1) 3130 2 [gp_r (some 74), gp_i p0] s K := by
  show gs_E L (d + 1) 3130 0 [gp_r (some 74), gp_i p0] [] s K
  refine gs_E.stp (pc' := 1) (ls' := [gp_r (some 74), gp_i p0]) (st' := [gp_r (some 74)]) (s' := s) 1 rfl ?_
  refine gs_E.call (args := [gp_r (some 74)]) (m := 1) (y' := 3127) (st' := []) rfl H (fun r s1 H => ?_)
  obtain ⟨x2, rfl, H⟩ := H
  show gs_E L (d + 1) 3130 4 [gp_r (some 74), gp_i p0] [gp_i x2] s1 K
  refine gs_E.br (c := x2 = 0) (p1 := 19) (p2 := 7) (l1 := [gp_r (some 74), gp_i p0]) (l2 := [gp_r (some 74), gp_i p0]) (s1 := []) (s2 := []) rfl gs_b1 (fun hc => ?_) (fun hc => ?_)
  · replace H := H.1 hc
    exact H
  · replace H := H.2 hc
    refine gs_E.stp (pc' := 9) (ls' := [gp_r (some 74), gp_i p0]) (st' := [gp_i p0, gp_r (some 74)]) (s' := s1) 2 rfl ?_
    refine gs_E.call (args := [gp_r (some 74), gp_i p0]) (m := 3) (y' := 3129) (st' := []) rfl H (fun r s3 H => ?_)
    obtain ⟨x4, rfl, H⟩ := H
    show gs_E L (d + 1) 3130 12 [gp_r (some 74), gp_i p0] [gp_i x4] s3 K
    refine gs_E.br (c := ¬ x4 = 0) (p1 := 19) (p2 := 15) (l1 := [gp_r (some 74), gp_i p0]) (l2 := [gp_r (some 74), gp_i p0]) (s1 := []) (s2 := []) rfl gs_b2 (fun hc => ?_) (fun hc => ?_)
    · replace H := H.2 hc
      exact H
    · replace H := H.1 (Decidable.byContradiction hc)
      refine gs_E.stp (pc' := 16) (ls' := [gp_r (some 74), gp_i p0]) (st' := [gp_r (some 74)]) (s' := s3) 1 rfl ?_
      refine gs_E.call (args := [gp_r (some 74)]) (m := 1) (y' := 3128) (st' := []) rfl H (fun r s5 H => ?_)
      obtain ⟨rfl, H⟩ := H
      show gs_E L (d + 1) 3130 19 [gp_r (some 74), gp_i p0] [] s5 K
      exact H

set_option maxRecDepth 100000 in
/-- GatheredPointsModel.wants, pc 19 -/
theorem s_3130_19 {L d : Nat} {K : Option gV → gH → Prop} {s : gH} (v1 : Int) (H : K none s) : gs_E L (d + 1) 3130 19 [gp_r (some 74), gp_i v1] [] s K := by
  exact gs_E.ret (r := none) rfl H

set_option maxRecDepth 100000 in
/-- GatheredPointsModel.number, pc 0 -/
theorem s_3131_e {L d : Nat} {K : Option gV → gH → Prop} {s : gH}  (H : gs_E L (d + 1) 3131 7 [gp_r (some 74), gp_i (gp_I s 74 38), gp_i 0] [] s K) : gs_C L (d + 1) 3131 3 [gp_r (some 74)] s K := by
  show gs_E L (d + 1) 3131 0 [gp_r (some 74), gp_n, gp_n] [] s K
  refine gs_E.stp (pc' := 7) (ls' := [gp_r (some 74), gp_i (gp_I s 74 38), gp_i 0]) (st' := []) (s' := s) 5 rfl ?_
  exact H

set_option maxRecDepth 100000 in
/-- GatheredPointsModel.number, pc 7 -/
theorem s_3131_7 {L d : Nat} {K : Option gV → gH → Prop} {s : gH} (v1 : Int) (v2 : Int) (H : (((gp_I s 74 38) < (gp_wr (v1 + 3)) → gs_C L d 3126 1 [gp_r (some 74)] s (fun r s1 => ∃ x2, r = some (gp_i x2) ∧ ((x2 = 0 → gs_E L (d + 1) 3131 50 [gp_r (some 74), gp_i v1, gp_i v2] [] s1 K) ∧ (¬ x2 = 0 → gs_C L d 3125 1 [gp_r (some 74)] s1 (fun r s3 => ∃ x4, r = some (gp_i x4) ∧ (∀ s5, s5 = gp_wI s3 74 38 (gp_wr ((gp_I s3 74 38) + 1)) → gs_E L (d + 1) 3131 7 [gp_r (some 74), gp_i v1, gp_i (gp_wr ((gp_wr ((gp_wr (10 * v2)) + x4)) - 48))] [] s5 K)))))) ∧ (¬ (gp_I s 74 38) < (gp_wr (v1 + 3)) → gs_E L (d + 1) 3131 50 [gp_r (some 74), gp_i v1, gp_i v2] [] s K))) : gs_E L (d + 1) 3131 7 [gp_r (some 74), gp_i v1, gp_i v2] [] s K := by
  refine gs_E.stp (pc' := 14) (ls' := [gp_r (some 74), gp_i v1, gp_i v2]) (st' := [gp_i (gp_wr (v1 + 3)), gp_i (gp_I s 74 38)]) (s' := s) 5 rfl ?_
  refine gs_E.br (c := ¬ (gp_I s 74 38) < (gp_wr (v1 + 3))) (p1 := 50) (p2 := 17) (l1 := [gp_r (some 74), gp_i v1, gp_i v2]) (l2 := [gp_r (some 74), gp_i v1, gp_i v2]) (s1 := []) (s2 := []) rfl gs_b2 (fun hc => ?_) (fun hc => ?_)
  · replace H := H.2 hc
    exact H
  · replace H := H.1 (Decidable.byContradiction hc)
    refine gs_E.stp (pc' := 18) (ls' := [gp_r (some 74), gp_i v1, gp_i v2]) (st' := [gp_r (some 74)]) (s' := s) 1 rfl ?_
    refine gs_E.call (args := [gp_r (some 74)]) (m := 1) (y' := 3126) (st' := []) rfl H (fun r s1 H => ?_)
    obtain ⟨x2, rfl, H⟩ := H
    show gs_E L (d + 1) 3131 21 [gp_r (some 74), gp_i v1, gp_i v2] [gp_i x2] s1 K
    refine gs_E.br (c := x2 = 0) (p1 := 50) (p2 := 24) (l1 := [gp_r (some 74), gp_i v1, gp_i v2]) (l2 := [gp_r (some 74), gp_i v1, gp_i v2]) (s1 := []) (s2 := []) rfl gs_b1 (fun hc => ?_) (fun hc => ?_)
    · replace H := H.1 hc
      exact H
    · replace H := H.2 hc
      refine gs_E.stp (pc' := 29) (ls' := [gp_r (some 74), gp_i v1, gp_i v2]) (st' := [gp_r (some 74), gp_i (gp_wr (10 * v2))]) (s' := s1) 4 rfl ?_
      refine gs_E.call (args := [gp_r (some 74)]) (m := 1) (y' := 3125) (st' := [gp_i (gp_wr (10 * v2))]) rfl H (fun r s3 H => ?_)
      obtain ⟨x4, rfl, H⟩ := H
      show gs_E L (d + 1) 3131 32 [gp_r (some 74), gp_i v1, gp_i v2] [gp_i x4, gp_i (gp_wr (10 * v2))] s3 K
      refine gs_E.stp (pc' := 47) (ls' := [gp_r (some 74), gp_i v1, gp_i (gp_wr ((gp_wr ((gp_wr (10 * v2)) + x4)) - 48))]) (st' := []) (s' := gp_wI s3 74 38 (gp_wr ((gp_I s3 74 38) + 1))) 10 rfl ?_
      replace H := H _ rfl
      generalize gp_wI s3 74 38 (gp_wr ((gp_I s3 74 38) + 1)) = s5 at H ⊢
      refine gs_E.stp (pc' := 7) (ls' := [gp_r (some 74), gp_i v1, gp_i (gp_wr ((gp_wr ((gp_wr (10 * v2)) + x4)) - 48))]) (st' := []) (s' := s5) 1 rfl ?_
      exact H

set_option maxRecDepth 100000 in
/-- GatheredPointsModel.number, pc 50 -/
theorem s_3131_50 {L d : Nat} {K : Option gV → gH → Prop} {s : gH} (v1 : Int) (v2 : Int) (H : (((gp_I s 74 38) = v1 → gs_C L d 3128 1 [gp_r (some 74)] s (fun r s1 => r = none ∧ gs_E L (d + 1) 3131 62 [gp_r (some 74), gp_i v1, gp_i v2] [] s1 K)) ∧ (¬ (gp_I s 74 38) = v1 → gs_E L (d + 1) 3131 62 [gp_r (some 74), gp_i v1, gp_i v2] [] s K))) : gs_E L (d + 1) 3131 50 [gp_r (some 74), gp_i v1, gp_i v2] [] s K := by
  refine gs_E.stp (pc' := 55) (ls' := [gp_r (some 74), gp_i v1, gp_i v2]) (st' := [gp_i v1, gp_i (gp_I s 74 38)]) (s' := s) 3 rfl ?_
  refine gs_E.br (c := ¬ (gp_I s 74 38) = v1) (p1 := 62) (p2 := 58) (l1 := [gp_r (some 74), gp_i v1, gp_i v2]) (l2 := [gp_r (some 74), gp_i v1, gp_i v2]) (s1 := []) (s2 := []) rfl gs_b2 (fun hc => ?_) (fun hc => ?_)
  · replace H := H.2 hc
    exact H
  · replace H := H.1 (Decidable.byContradiction hc)
    refine gs_E.stp (pc' := 59) (ls' := [gp_r (some 74), gp_i v1, gp_i v2]) (st' := [gp_r (some 74)]) (s' := s) 1 rfl ?_
    refine gs_E.call (args := [gp_r (some 74)]) (m := 1) (y' := 3128) (st' := []) rfl H (fun r s1 H => ?_)
    obtain ⟨rfl, H⟩ := H
    show gs_E L (d + 1) 3131 62 [gp_r (some 74), gp_i v1, gp_i v2] [] s1 K
    exact H

set_option maxRecDepth 100000 in
/-- GatheredPointsModel.number, pc 62 -/
theorem s_3131_62 {L d : Nat} {K : Option gV → gH → Prop} {s : gH} (v1 : Int) (v2 : Int) (H : K (some (gp_i v2)) s) : gs_E L (d + 1) 3131 62 [gp_r (some 74), gp_i v1, gp_i v2] [] s K := by
  refine gs_E.stp (pc' := 63) (ls' := [gp_r (some 74), gp_i v1, gp_i v2]) (st' := [gp_i v2]) (s' := s) 1 rfl ?_
  exact gs_E.ret (r := (some (gp_i v2))) rfl H

set_option maxRecDepth 100000 in
/-- GatheredPointsModel.piles, pc 0 -/
theorem s_3132_e {L d : Nat} {K : Option gV → gH → Prop} {s : gH}  (H : gs_C L d 3084 6 [gp_r (some 74), gp_i 19, gp_i (gp_wr (21 + (gp_I s 74 42)))] s (fun r s1 => r = none ∧ (∀ s2, s2 = gp_wI s1 74 42 (gp_wr ((gp_I s1 74 42) + 1)) → K none s2))) : gs_C L (d + 1) 3132 1 [gp_r (some 74)] s K := by
  show gs_E L (d + 1) 3132 0 [gp_r (some 74)] [] s K
  refine gs_E.stp (pc' := 10) (ls' := [gp_r (some 74)]) (st' := [gp_i (gp_wr (21 + (gp_I s 74 42))), gp_i 19, gp_r (some 74)]) (s' := s) 6 rfl ?_
  refine gs_E.call (args := [gp_r (some 74), gp_i 19, gp_i (gp_wr (21 + (gp_I s 74 42)))]) (m := 6) (y' := 3084) (st' := []) rfl H (fun r s1 H => ?_)
  obtain ⟨rfl, H⟩ := H
  show gs_E L (d + 1) 3132 13 [gp_r (some 74)] [] s1 K
  refine gs_E.stp (pc' := 23) (ls' := [gp_r (some 74)]) (st' := []) (s' := gp_wI s1 74 42 (gp_wr ((gp_I s1 74 42) + 1))) 6 rfl ?_
  replace H := H _ rfl
  generalize gp_wI s1 74 42 (gp_wr ((gp_I s1 74 42) + 1)) = s2 at H ⊢
  exact gs_E.ret (r := none) rfl H

set_option maxRecDepth 100000 in
/-- GatheredPointsModel.pilesNumber, pc 0 -/
theorem s_3133_e {L d : Nat} {K : Option gV → gH → Prop} {s : gH} (p0 : Int) (H : gs_C L d 3085 1 [gp_r (some 74)] s (fun r s1 => r = none ∧ gs_C L d 3088 9 [gp_r (some 74), gp_l (0#64), gp_l (0#64), gp_i p0, gp_i p0] s1 (fun r s2 => ∃ x3, r = some (gp_i x3) ∧ gs_C L d 3093 9 [gp_r (some 74), gp_i x3, gp_i 19] s2 (fun r s4 => r = none ∧ gs_C L d 3132 1 [gp_r (some 74)] s4 (fun r s5 => r = none ∧ K none s5))))) : gs_C L (d + 1) 3133 2 [gp_r (some 74), gp_i p0] s K := by
  show gs_E L (d + 1) 3133 0 [gp_r (some 74), gp_i p0] [] s K
  refine gs_E.stp (pc' := 1) (ls' := [gp_r (some 74), gp_i p0]) (st' := [gp_r (some 74)]) (s' := s) 1 rfl ?_
  refine gs_E.call (args := [gp_r (some 74)]) (m := 1) (y' := 3085) (st' := []) rfl H (fun r s1 H => ?_)
  obtain ⟨rfl, H⟩ := H
  show gs_E L (d + 1) 3133 4 [gp_r (some 74), gp_i p0] [] s1 K
  refine gs_E.stp (pc' := 10) (ls' := [gp_r (some 74), gp_i p0]) (st' := [gp_i p0, gp_i p0, gp_l (0#64), gp_l (0#64), gp_r (some 74), gp_r (some 74)]) (s' := s1) 6 rfl ?_
  refine gs_E.call (args := [gp_r (some 74), gp_l (0#64), gp_l (0#64), gp_i p0, gp_i p0]) (m := 9) (y' := 3088) (st' := [gp_r (some 74)]) rfl H (fun r s2 H => ?_)
  obtain ⟨x3, rfl, H⟩ := H
  show gs_E L (d + 1) 3133 13 [gp_r (some 74), gp_i p0] [gp_i x3, gp_r (some 74)] s2 K
  refine gs_E.stp (pc' := 15) (ls' := [gp_r (some 74), gp_i p0]) (st' := [gp_i 19, gp_i x3, gp_r (some 74)]) (s' := s2) 1 rfl ?_
  refine gs_E.call (args := [gp_r (some 74), gp_i x3, gp_i 19]) (m := 9) (y' := 3093) (st' := []) rfl H (fun r s4 H => ?_)
  obtain ⟨rfl, H⟩ := H
  show gs_E L (d + 1) 3133 18 [gp_r (some 74), gp_i p0] [] s4 K
  refine gs_E.stp (pc' := 19) (ls' := [gp_r (some 74), gp_i p0]) (st' := [gp_r (some 74)]) (s' := s4) 1 rfl ?_
  refine gs_E.call (args := [gp_r (some 74)]) (m := 1) (y' := 3132) (st' := []) rfl H (fun r s5 H => ?_)
  obtain ⟨rfl, H⟩ := H
  show gs_E L (d + 1) 3133 22 [gp_r (some 74), gp_i p0] [] s5 K
  exact gs_E.ret (r := none) rfl H

set_option maxRecDepth 100000 in
/-- GatheredPointsModel.unit, pc 0 -/
theorem s_3134_e {L d : Nat} {K : Option gV → gH → Prop} {s : gH}  (H : gs_C L d 3127 1 [gp_r (some 74)] s (fun r s1 => ∃ x2, r = some (gp_i x2) ∧ ((x2 = 0 → K none s1) ∧ (¬ x2 = 0 → gs_C L d 3126 1 [gp_r (some 74)] s1 (fun r s3 => ∃ x4, r = some (gp_i x4) ∧ ((x4 = 0 → gs_C L d 3129 3 [gp_r (some 74), gp_i 119] s3 (fun r s5 => ∃ x6, r = some (gp_i x6) ∧ ((x6 = 0 → gs_C L d 3125 1 [gp_r (some 74)] s5 (fun r s7 => ∃ x8, r = some (gp_i x8) ∧ ((x8 = 45 → gs_E L (d + 1) 3134 103 [gp_r (some 74), gp_n] [gp_i 1] s7 K) ∧ (¬ x8 = 45 → gs_E L (d + 1) 3134 103 [gp_r (some 74), gp_n] [gp_i 0] s7 K)))) ∧ (¬ x6 = 0 → gs_C L d 3126 1 [gp_r (some 74)] s5 (fun r s9 => ∃ x10, r = some (gp_i x10) ∧ ((x10 = 0 → gs_C L d 3128 1 [gp_r (some 74)] s9 (fun r s16 => r = none ∧ K none s16)) ∧ (¬ x10 = 0 → gs_C L d 3125 1 [gp_r (some 74)] s9 (fun r s11 => ∃ x12, r = some (gp_i x12) ∧ (∀ s13, s13 = gp_wI s11 74 38 (gp_wr ((gp_I s11 74 38) + 1)) → (((gp_I s13 74 44) = 0 → gs_E L (d + 1) 3134 88 [gp_r (some 74), gp_i (gp_wr (x12 - 48))] [] s13 K) ∧ (¬ (gp_I s13 74 44) = 0 → gs_C L d 3122 4 [gp_r (some 74), gp_i (gp_wr (x12 - 48))] s13 (fun r s14 => r = none ∧ gs_C L d 3132 1 [gp_r (some 74)] s14 (fun r s15 => r = none ∧ gs_E L (d + 1) 3134 88 [gp_r (some 74), gp_i (gp_wr (x12 - 48))] [] s15 K))))))))))))) ∧ (¬ x4 = 0 → gs_C L d 3131 3 [gp_r (some 74)] s3 (fun r s17 => ∃ x18, r = some (gp_i x18) ∧ (((gp_I s17 74 44) = 0 → gs_E L (d + 1) 3134 32 [gp_r (some 74), gp_i x18] [] s17 K) ∧ (¬ (gp_I s17 74 44) = 0 → gs_C L d 3133 2 [gp_r (some 74), gp_i x18] s17 (fun r s19 => r = none ∧ gs_E L (d + 1) 3134 32 [gp_r (some 74), gp_i x18] [] s19 K))))))))))) : gs_C L (d + 1) 3134 2 [gp_r (some 74)] s K := by
  show gs_E L (d + 1) 3134 0 [gp_r (some 74), gp_n] [] s K
  refine gs_E.stp (pc' := 1) (ls' := [gp_r (some 74), gp_n]) (st' := [gp_r (some 74)]) (s' := s) 1 rfl ?_
  refine gs_E.call (args := [gp_r (some 74)]) (m := 1) (y' := 3127) (st' := []) rfl H (fun r s1 H => ?_)
  obtain ⟨x2, rfl, H⟩ := H
  show gs_E L (d + 1) 3134 4 [gp_r (some 74), gp_n] [gp_i x2] s1 K
  refine gs_E.br (c := ¬ x2 = 0) (p1 := 8) (p2 := 7) (l1 := [gp_r (some 74), gp_n]) (l2 := [gp_r (some 74), gp_n]) (s1 := []) (s2 := []) rfl gs_b2 (fun hc => ?_) (fun hc => ?_)
  · replace H := H.2 hc
    refine gs_E.stp (pc' := 9) (ls' := [gp_r (some 74), gp_n]) (st' := [gp_r (some 74)]) (s' := s1) 1 rfl ?_
    refine gs_E.call (args := [gp_r (some 74)]) (m := 1) (y' := 3126) (st' := []) rfl H (fun r s3 H => ?_)
    obtain ⟨x4, rfl, H⟩ := H
    show gs_E L (d + 1) 3134 12 [gp_r (some 74), gp_n] [gp_i x4] s3 K
    refine gs_E.br (c := x4 = 0) (p1 := 33) (p2 := 15) (l1 := [gp_r (some 74), gp_n]) (l2 := [gp_r (some 74), gp_n]) (s1 := []) (s2 := []) rfl gs_b1 (fun hc => ?_) (fun hc => ?_)
    · replace H := H.1 hc
      refine gs_E.stp (pc' := 36) (ls' := [gp_r (some 74), gp_n]) (st' := [gp_i 119, gp_r (some 74)]) (s' := s3) 2 rfl ?_
      refine gs_E.call (args := [gp_r (some 74), gp_i 119]) (m := 3) (y' := 3129) (st' := []) rfl H (fun r s5 H => ?_)
      obtain ⟨x6, rfl, H⟩ := H
      show gs_E L (d + 1) 3134 39 [gp_r (some 74), gp_n] [gp_i x6] s5 K
      refine gs_E.br (c := x6 = 0) (p1 := 89) (p2 := 42) (l1 := [gp_r (some 74), gp_n]) (l2 := [gp_r (some 74), gp_n]) (s1 := []) (s2 := []) rfl gs_b1 (fun hc => ?_) (fun hc => ?_)
      · replace H := H.1 hc
        refine gs_E.stp (pc' := 90) (ls' := [gp_r (some 74), gp_n]) (st' := [gp_r (some 74)]) (s' := s5) 1 rfl ?_
        refine gs_E.call (args := [gp_r (some 74)]) (m := 1) (y' := 3125) (st' := []) rfl H (fun r s7 H => ?_)
        obtain ⟨x8, rfl, H⟩ := H
        show gs_E L (d + 1) 3134 93 [gp_r (some 74), gp_n] [gp_i x8] s7 K
        refine gs_E.stp (pc' := 95) (ls' := [gp_r (some 74), gp_n]) (st' := [gp_i 45, gp_i x8]) (s' := s7) 1 rfl ?_
        refine gs_E.br (c := ¬ x8 = 45) (p1 := 102) (p2 := 98) (l1 := [gp_r (some 74), gp_n]) (l2 := [gp_r (some 74), gp_n]) (s1 := []) (s2 := []) rfl gs_b2 (fun hc => ?_) (fun hc => ?_)
        · replace H := H.2 hc
          refine gs_E.stp (pc' := 103) (ls' := [gp_r (some 74), gp_n]) (st' := [gp_i 0]) (s' := s7) 1 rfl ?_
          exact H
        · replace H := H.1 (Decidable.byContradiction hc)
          refine gs_E.stp (pc' := 103) (ls' := [gp_r (some 74), gp_n]) (st' := [gp_i 1]) (s' := s7) 2 rfl ?_
          exact H
      · replace H := H.2 hc
        refine gs_E.stp (pc' := 43) (ls' := [gp_r (some 74), gp_n]) (st' := [gp_r (some 74)]) (s' := s5) 1 rfl ?_
        refine gs_E.call (args := [gp_r (some 74)]) (m := 1) (y' := 3126) (st' := []) rfl H (fun r s9 H => ?_)
        obtain ⟨x10, rfl, H⟩ := H
        show gs_E L (d + 1) 3134 46 [gp_r (some 74), gp_n] [gp_i x10] s9 K
        refine gs_E.br (c := ¬ x10 = 0) (p1 := 54) (p2 := 49) (l1 := [gp_r (some 74), gp_n]) (l2 := [gp_r (some 74), gp_n]) (s1 := []) (s2 := []) rfl gs_b2 (fun hc => ?_) (fun hc => ?_)
        · replace H := H.2 hc
          refine gs_E.stp (pc' := 55) (ls' := [gp_r (some 74), gp_n]) (st' := [gp_r (some 74)]) (s' := s9) 1 rfl ?_
          refine gs_E.call (args := [gp_r (some 74)]) (m := 1) (y' := 3125) (st' := []) rfl H (fun r s11 H => ?_)
          obtain ⟨x12, rfl, H⟩ := H
          show gs_E L (d + 1) 3134 58 [gp_r (some 74), gp_n] [gp_i x12] s11 K
          refine gs_E.stp (pc' := 72) (ls' := [gp_r (some 74), gp_i (gp_wr (x12 - 48))]) (st' := []) (s' := gp_wI s11 74 38 (gp_wr ((gp_I s11 74 38) + 1))) 9 rfl ?_
          replace H := H _ rfl
          generalize gp_wI s11 74 38 (gp_wr ((gp_I s11 74 38) + 1)) = s13 at H ⊢
          refine gs_E.stp (pc' := 76) (ls' := [gp_r (some 74), gp_i (gp_wr (x12 - 48))]) (st' := [gp_i (gp_I s13 74 44)]) (s' := s13) 2 rfl ?_
          refine gs_E.br (c := (gp_I s13 74 44) = 0) (p1 := 88) (p2 := 79) (l1 := [gp_r (some 74), gp_i (gp_wr (x12 - 48))]) (l2 := [gp_r (some 74), gp_i (gp_wr (x12 - 48))]) (s1 := []) (s2 := []) rfl gs_b1 (fun hc => ?_) (fun hc => ?_)
          · replace H := H.1 hc
            exact H
          · replace H := H.2 hc
            refine gs_E.stp (pc' := 81) (ls' := [gp_r (some 74), gp_i (gp_wr (x12 - 48))]) (st' := [gp_i (gp_wr (x12 - 48)), gp_r (some 74)]) (s' := s13) 2 rfl ?_
            refine gs_E.call (args := [gp_r (some 74), gp_i (gp_wr (x12 - 48))]) (m := 4) (y' := 3122) (st' := []) rfl H (fun r s14 H => ?_)
            obtain ⟨rfl, H⟩ := H
            show gs_E L (d + 1) 3134 84 [gp_r (some 74), gp_i (gp_wr (x12 - 48))] [] s14 K
            refine gs_E.stp (pc' := 85) (ls' := [gp_r (some 74), gp_i (gp_wr (x12 - 48))]) (st' := [gp_r (some 74)]) (s' := s14) 1 rfl ?_
            refine gs_E.call (args := [gp_r (some 74)]) (m := 1) (y' := 3132) (st' := []) rfl H (fun r s15 H => ?_)
            obtain ⟨rfl, H⟩ := H
            show gs_E L (d + 1) 3134 88 [gp_r (some 74), gp_i (gp_wr (x12 - 48))] [] s15 K
            exact H
        · replace H := H.1 (Decidable.byContradiction hc)
          refine gs_E.stp (pc' := 50) (ls' := [gp_r (some 74), gp_n]) (st' := [gp_r (some 74)]) (s' := s9) 1 rfl ?_
          refine gs_E.call (args := [gp_r (some 74)]) (m := 1) (y' := 3128) (st' := []) rfl H (fun r s16 H => ?_)
          obtain ⟨rfl, H⟩ := H
          show gs_E L (d + 1) 3134 53 [gp_r (some 74), gp_n] [] s16 K
          exact gs_E.ret (r := none) rfl H
    · replace H := H.2 hc
      refine gs_E.stp (pc' := 16) (ls' := [gp_r (some 74), gp_n]) (st' := [gp_r (some 74)]) (s' := s3) 1 rfl ?_
      refine gs_E.call (args := [gp_r (some 74)]) (m := 3) (y' := 3131) (st' := []) rfl H (fun r s17 H => ?_)
      obtain ⟨x18, rfl, H⟩ := H
      show gs_E L (d + 1) 3134 19 [gp_r (some 74), gp_n] [gp_i x18] s17 K
      refine gs_E.stp (pc' := 24) (ls' := [gp_r (some 74), gp_i x18]) (st' := [gp_i (gp_I s17 74 44)]) (s' := s17) 3 rfl ?_
      refine gs_E.br (c := (gp_I s17 74 44) = 0) (p1 := 32) (p2 := 27) (l1 := [gp_r (some 74), gp_i x18]) (l2 := [gp_r (some 74), gp_i x18]) (s1 := []) (s2 := []) rfl gs_b1 (fun hc => ?_) (fun hc => ?_)
      · replace H := H.1 hc
        exact H
      · replace H := H.2 hc
        refine gs_E.stp (pc' := 29) (ls' := [gp_r (some 74), gp_i x18]) (st' := [gp_i x18, gp_r (some 74)]) (s' := s17) 2 rfl ?_
        refine gs_E.call (args := [gp_r (some 74), gp_i x18]) (m := 2) (y' := 3133) (st' := []) rfl H (fun r s19 H => ?_)
        obtain ⟨rfl, H⟩ := H
        show gs_E L (d + 1) 3134 32 [gp_r (some 74), gp_i x18] [] s19 K
        exact H
  · replace H := H.1 (Decidable.byContradiction hc)
    exact gs_E.ret (r := none) rfl H

set_option maxRecDepth 100000 in
/-- GatheredPointsModel.unit, pc 32 -/
theorem s_3134_32 {L d : Nat} {K : Option gV → gH → Prop} {s : gH} (v1 : Int) (H : K none s) : gs_E L (d + 1) 3134 32 [gp_r (some 74), gp_i v1] [] s K := by
  exact gs_E.ret (r := none) rfl H

set_option maxRecDepth 100000 in
/-- GatheredPointsModel.unit, pc 88 -/
theorem s_3134_88 {L d : Nat} {K : Option gV → gH → Prop} {s : gH} (v1 : Int) (H : K none s) : gs_E L (d + 1) 3134 88 [gp_r (some 74), gp_i v1] [] s K := by
  exact gs_E.ret (r := none) rfl H

set_option maxRecDepth 100000 in
/-- GatheredPointsModel.unit, pc 103 -/
theorem s_3134_103 {L d : Nat} {K : Option gV → gH → Prop} {s : gH} (v1 : gV) (w0 : Int) (H : ((w0 = 0 → gs_C L d 3125 1 [gp_r (some 74)] s (fun r s1 => ∃ x2, r = some (gp_i x2) ∧ ((x2 = 60 → gs_E L (d + 1) 3134 117 [gp_r (some 74), gp_i w0] [] s1 K) ∧ (¬ x2 = 60 → gs_E L (d + 1) 3134 126 [gp_r (some 74), gp_i w0] [] s1 K)))) ∧ (¬ w0 = 0 → gs_E L (d + 1) 3134 117 [gp_r (some 74), gp_i w0] [] s K))) : gs_E L (d + 1) 3134 103 [gp_r (some 74), v1] [gp_i w0] s K := by
  refine gs_E.stp (pc' := 105) (ls' := [gp_r (some 74), gp_i w0]) (st' := [gp_i w0]) (s' := s) 2 rfl ?_
  refine gs_E.br (c := ¬ w0 = 0) (p1 := 117) (p2 := 108) (l1 := [gp_r (some 74), gp_i w0]) (l2 := [gp_r (some 74), gp_i w0]) (s1 := []) (s2 := []) rfl gs_b2 (fun hc => ?_) (fun hc => ?_)
  · replace H := H.2 hc
    exact H
  · replace H := H.1 (Decidable.byContradiction hc)
    refine gs_E.stp (pc' := 109) (ls' := [gp_r (some 74), gp_i w0]) (st' := [gp_r (some 74)]) (s' := s) 1 rfl ?_
    refine gs_E.call (args := [gp_r (some 74)]) (m := 1) (y' := 3125) (st' := []) rfl H (fun r s1 H => ?_)
    obtain ⟨x2, rfl, H⟩ := H
    show gs_E L (d + 1) 3134 112 [gp_r (some 74), gp_i w0] [gp_i x2] s1 K
    refine gs_E.stp (pc' := 114) (ls' := [gp_r (some 74), gp_i w0]) (st' := [gp_i 60, gp_i x2]) (s' := s1) 1 rfl ?_
    refine gs_E.br (c := ¬ x2 = 60) (p1 := 126) (p2 := 117) (l1 := [gp_r (some 74), gp_i w0]) (l2 := [gp_r (some 74), gp_i w0]) (s1 := []) (s2 := []) rfl gs_b2 (fun hc => ?_) (fun hc => ?_)
    · replace H := H.2 hc
      exact H
    · replace H := H.1 (Decidable.byContradiction hc)
      exact H

set_option maxRecDepth 100000 in
/-- GatheredPointsModel.unit, pc 117 -/
theorem s_3134_117 {L d : Nat} {K : Option gV → gH → Prop} {s : gH} (v1 : Int) (H : (((gp_I s 74 41) = 8 → gs_E L (d + 1) 3134 126 [gp_r (some 74), gp_i v1] [] s K) ∧ (¬ (gp_I s 74 41) = 8 → (∀ s1, s1 = gp_wI s 74 38 (gp_wr ((gp_I s 74 38) + 1)) → (∀ s2, s2 = gp_wI s1 74 41 (gp_wr ((gp_I s1 74 41) + 1)) → ((v1 = 0 → gs_C L d 3136 11 [gp_r (some 74)] s2 (fun r s3 => r = none ∧ gs_E L (d + 1) 3134 207 [gp_r (some 74), gp_i v1] [] s3 K)) ∧ (¬ v1 = 0 → gs_C L d 3134 2 [gp_r (some 74)] s2 (fun r s4 => r = none ∧ (((gp_I s4 74 44) = 0 → gs_E L (d + 1) 3134 207 [gp_r (some 74), gp_i v1] [] s4 K) ∧ (¬ (gp_I s4 74 44) = 0 → gs_C L d 3127 1 [gp_r (some 74)] s4 (fun r s5 => ∃ x6, r = some (gp_i x6) ∧ ((x6 = 0 → gs_E L (d + 1) 3134 207 [gp_r (some 74), gp_i v1] [] s5 K) ∧ (¬ x6 = 0 → gs_C L d 3121 8 [gp_r (some 74), gp_i (gp_wr ((gp_wr (21 + (gp_I s5 74 42))) - 1))] s5 (fun r s7 => r = none ∧ (∀ s8, s8 = gp_wI s7 74 42 (gp_wr ((gp_I s7 74 42) - 1)) → gs_C L d 3132 1 [gp_r (some 74)] s8 (fun r s9 => r = none ∧ gs_E L (d + 1) 3134 207 [gp_r (some 74), gp_i v1] [] s9 K)))))))))))))))) : gs_E L (d + 1) 3134 117 [gp_r (some 74), gp_i v1] [] s K := by
  refine gs_E.stp (pc' := 123) (ls' := [gp_r (some 74), gp_i v1]) (st' := [gp_i 8, gp_i (gp_I s 74 41)]) (s' := s) 3 rfl ?_
  refine gs_E.br (c := ¬ (gp_I s 74 41) = 8) (p1 := 131) (p2 := 126) (l1 := [gp_r (some 74), gp_i v1]) (l2 := [gp_r (some 74), gp_i v1]) (s1 := []) (s2 := []) rfl gs_b2 (fun hc => ?_) (fun hc => ?_)
  · replace H := H.2 hc
    refine gs_E.stp (pc' := 141) (ls' := [gp_r (some 74), gp_i v1]) (st' := []) (s' := gp_wI s 74 38 (gp_wr ((gp_I s 74 38) + 1))) 6 rfl ?_
    replace H := H _ rfl
    generalize gp_wI s 74 38 (gp_wr ((gp_I s 74 38) + 1)) = s1 at H ⊢
    refine gs_E.stp (pc' := 151) (ls' := [gp_r (some 74), gp_i v1]) (st' := []) (s' := gp_wI s1 74 41 (gp_wr ((gp_I s1 74 41) + 1))) 6 rfl ?_
    replace H := H _ rfl
    generalize gp_wI s1 74 41 (gp_wr ((gp_I s1 74 41) + 1)) = s2 at H ⊢
    refine gs_E.stp (pc' := 152) (ls' := [gp_r (some 74), gp_i v1]) (st' := [gp_i v1]) (s' := s2) 1 rfl ?_
    refine gs_E.br (c := v1 = 0) (p1 := 203) (p2 := 155) (l1 := [gp_r (some 74), gp_i v1]) (l2 := [gp_r (some 74), gp_i v1]) (s1 := []) (s2 := []) rfl gs_b1 (fun hc => ?_) (fun hc => ?_)
    · replace H := H.1 hc
      refine gs_E.stp (pc' := 204) (ls' := [gp_r (some 74), gp_i v1]) (st' := [gp_r (some 74)]) (s' := s2) 1 rfl ?_
      refine gs_E.call (args := [gp_r (some 74)]) (m := 11) (y' := 3136) (st' := []) rfl H (fun r s3 H => ?_)
      obtain ⟨rfl, H⟩ := H
      show gs_E L (d + 1) 3134 207 [gp_r (some 74), gp_i v1] [] s3 K
      exact H
    · replace H := H.2 hc
      refine gs_E.stp (pc' := 156) (ls' := [gp_r (some 74), gp_i v1]) (st' := [gp_r (some 74)]) (s' := s2) 1 rfl ?_
      refine gs_E.call (args := [gp_r (some 74)]) (m := 2) (y' := 3134) (st' := []) rfl H (fun r s4 H => ?_)
      obtain ⟨rfl, H⟩ := H
      show gs_E L (d + 1) 3134 159 [gp_r (some 74), gp_i v1] [] s4 K
      refine gs_E.stp (pc' := 163) (ls' := [gp_r (some 74), gp_i v1]) (st' := [gp_i (gp_I s4 74 44)]) (s' := s4) 2 rfl ?_
      refine gs_E.br (c := (gp_I s4 74 44) = 0) (p1 := 207) (p2 := 166) (l1 := [gp_r (some 74), gp_i v1]) (l2 := [gp_r (some 74), gp_i v1]) (s1 := []) (s2 := []) rfl gs_b1 (fun hc => ?_) (fun hc => ?_)
      · replace H := H.1 hc
        exact H
      · replace H := H.2 hc
        refine gs_E.stp (pc' := 167) (ls' := [gp_r (some 74), gp_i v1]) (st' := [gp_r (some 74)]) (s' := s4) 1 rfl ?_
        refine gs_E.call (args := [gp_r (some 74)]) (m := 1) (y' := 3127) (st' := []) rfl H (fun r s5 H => ?_)
        obtain ⟨x6, rfl, H⟩ := H
        show gs_E L (d + 1) 3134 170 [gp_r (some 74), gp_i v1] [gp_i x6] s5 K
        refine gs_E.br (c := x6 = 0) (p1 := 207) (p2 := 173) (l1 := [gp_r (some 74), gp_i v1]) (l2 := [gp_r (some 74), gp_i v1]) (s1 := []) (s2 := []) rfl gs_b1 (fun hc => ?_) (fun hc => ?_)
        · replace H := H.1 hc
          exact H
        · replace H := H.2 hc
          refine gs_E.stp (pc' := 183) (ls' := [gp_r (some 74), gp_i v1]) (st' := [gp_i (gp_wr ((gp_wr (21 + (gp_I s5 74 42))) - 1)), gp_r (some 74)]) (s' := s5) 7 rfl ?_
          refine gs_E.call (args := [gp_r (some 74), gp_i (gp_wr ((gp_wr (21 + (gp_I s5 74 42))) - 1))]) (m := 8) (y' := 3121) (st' := []) rfl H (fun r s7 H => ?_)
          obtain ⟨rfl, H⟩ := H
          show gs_E L (d + 1) 3134 186 [gp_r (some 74), gp_i v1] [] s7 K
          refine gs_E.stp (pc' := 196) (ls' := [gp_r (some 74), gp_i v1]) (st' := []) (s' := gp_wI s7 74 42 (gp_wr ((gp_I s7 74 42) - 1))) 6 rfl ?_
          replace H := H _ rfl
          generalize gp_wI s7 74 42 (gp_wr ((gp_I s7 74 42) - 1)) = s8 at H ⊢
          refine gs_E.stp (pc' := 197) (ls' := [gp_r (some 74), gp_i v1]) (st' := [gp_r (some 74)]) (s' := s8) 1 rfl ?_
          refine gs_E.call (args := [gp_r (some 74)]) (m := 1) (y' := 3132) (st' := []) rfl H (fun r s9 H => ?_)
          obtain ⟨rfl, H⟩ := H
          show gs_E L (d + 1) 3134 200 [gp_r (some 74), gp_i v1] [] s9 K
          refine gs_E.stp (pc' := 207) (ls' := [gp_r (some 74), gp_i v1]) (st' := []) (s' := s9) 1 rfl ?_
          exact H
  · replace H := H.1 (Decidable.byContradiction hc)
    exact H

set_option maxRecDepth 100000 in
/-- GatheredPointsModel.unit, pc 126 -/
theorem s_3134_126 {L d : Nat} {K : Option gV → gH → Prop} {s : gH} (v1 : Int) (H : gs_C L d 3128 1 [gp_r (some 74)] s (fun r s1 => r = none ∧ K none s1)) : gs_E L (d + 1) 3134 126 [gp_r (some 74), gp_i v1] [] s K := by
  refine gs_E.stp (pc' := 127) (ls' := [gp_r (some 74), gp_i v1]) (st' := [gp_r (some 74)]) (s' := s) 1 rfl ?_
  refine gs_E.call (args := [gp_r (some 74)]) (m := 1) (y' := 3128) (st' := []) rfl H (fun r s1 H => ?_)
  obtain ⟨rfl, H⟩ := H
  show gs_E L (d + 1) 3134 130 [gp_r (some 74), gp_i v1] [] s1 K
  exact gs_E.ret (r := none) rfl H

set_option maxRecDepth 100000 in
/-- GatheredPointsModel.unit, pc 207 -/
theorem s_3134_207 {L d : Nat} {K : Option gV → gH → Prop} {s : gH} (v1 : Int) (H : (∀ s1, s1 = gp_wI s 74 41 (gp_wr ((gp_I s 74 41) - 1)) → K none s1)) : gs_E L (d + 1) 3134 207 [gp_r (some 74), gp_i v1] [] s K := by
  refine gs_E.stp (pc' := 217) (ls' := [gp_r (some 74), gp_i v1]) (st' := []) (s' := gp_wI s 74 41 (gp_wr ((gp_I s 74 41) - 1))) 6 rfl ?_
  replace H := H _ rfl
  generalize gp_wI s 74 41 (gp_wr ((gp_I s 74 41) - 1)) = s1 at H ⊢
  exact gs_E.ret (r := none) rfl H

set_option maxRecDepth 100000 in
/-- GatheredPointsModel.side, pc 0 -/
theorem s_3135_e {L d : Nat} {K : Option gV → gH → Prop} {s : gH}  (H : gs_C L d 3129 3 [gp_r (some 74), gp_i 58] s (fun r s1 => ∃ x2, r = some (gp_i x2) ∧ ((x2 = 0 → gs_E L (d + 1) 3135 50 [gp_r (some 74), gp_i 0, gp_n] [] s1 K) ∧ (¬ x2 = 0 → gs_C L d 3129 3 [gp_r (some 74), gp_i 45] s1 (fun r s3 => ∃ x4, r = some (gp_i x4) ∧ gs_C L d 3127 1 [gp_r (some 74)] s3 (fun r s5 => ∃ x6, r = some (gp_i x6) ∧ ((x6 = 0 → gs_E L (d + 1) 3135 31 [gp_r (some 74), gp_i x4, gp_n] [gp_i 0] s5 K) ∧ (¬ x6 = 0 → gs_C L d 3131 3 [gp_r (some 74)] s5 (fun r s7 => ∃ x8, r = some (gp_i x8) ∧ gs_E L (d + 1) 3135 31 [gp_r (some 74), gp_i x4, gp_n] [gp_i x8] s7 K))))))))) : gs_C L (d + 1) 3135 3 [gp_r (some 74)] s K := by
  show gs_E L (d + 1) 3135 0 [gp_r (some 74), gp_n, gp_n] [] s K
  refine gs_E.stp (pc' := 3) (ls' := [gp_r (some 74), gp_n, gp_n]) (st' := [gp_i 58, gp_r (some 74)]) (s' := s) 2 rfl ?_
  refine gs_E.call (args := [gp_r (some 74), gp_i 58]) (m := 3) (y' := 3129) (st' := []) rfl H (fun r s1 H => ?_)
  obtain ⟨x2, rfl, H⟩ := H
  show gs_E L (d + 1) 3135 6 [gp_r (some 74), gp_n, gp_n] [gp_i x2] s1 K
  refine gs_E.br (c := x2 = 0) (p1 := 48) (p2 := 9) (l1 := [gp_r (some 74), gp_n, gp_n]) (l2 := [gp_r (some 74), gp_n, gp_n]) (s1 := []) (s2 := []) rfl gs_b1 (fun hc => ?_) (fun hc => ?_)
  · replace H := H.1 hc
    refine gs_E.stp (pc' := 50) (ls' := [gp_r (some 74), gp_i 0, gp_n]) (st' := []) (s' := s1) 2 rfl ?_
    exact H
  · replace H := H.2 hc
    refine gs_E.stp (pc' := 12) (ls' := [gp_r (some 74), gp_n, gp_n]) (st' := [gp_i 45, gp_r (some 74)]) (s' := s1) 2 rfl ?_
    refine gs_E.call (args := [gp_r (some 74), gp_i 45]) (m := 3) (y' := 3129) (st' := []) rfl H (fun r s3 H => ?_)
    obtain ⟨x4, rfl, H⟩ := H
    show gs_E L (d + 1) 3135 15 [gp_r (some 74), gp_n, gp_n] [gp_i x4] s3 K
    refine gs_E.stp (pc' := 17) (ls' := [gp_r (some 74), gp_i x4, gp_n]) (st' := [gp_r (some 74)]) (s' := s3) 2 rfl ?_
    refine gs_E.call (args := [gp_r (some 74)]) (m := 1) (y' := 3127) (st' := []) rfl H (fun r s5 H => ?_)
    obtain ⟨x6, rfl, H⟩ := H
    show gs_E L (d + 1) 3135 20 [gp_r (some 74), gp_i x4, gp_n] [gp_i x6] s5 K
    refine gs_E.br (c := x6 = 0) (p1 := 30) (p2 := 23) (l1 := [gp_r (some 74), gp_i x4, gp_n]) (l2 := [gp_r (some 74), gp_i x4, gp_n]) (s1 := []) (s2 := []) rfl gs_b1 (fun hc => ?_) (fun hc => ?_)
    · replace H := H.1 hc
      refine gs_E.stp (pc' := 31) (ls' := [gp_r (some 74), gp_i x4, gp_n]) (st' := [gp_i 0]) (s' := s5) 1 rfl ?_
      exact H
    · replace H := H.2 hc
      refine gs_E.stp (pc' := 24) (ls' := [gp_r (some 74), gp_i x4, gp_n]) (st' := [gp_r (some 74)]) (s' := s5) 1 rfl ?_
      refine gs_E.call (args := [gp_r (some 74)]) (m := 3) (y' := 3131) (st' := []) rfl H (fun r s7 H => ?_)
      obtain ⟨x8, rfl, H⟩ := H
      show gs_E L (d + 1) 3135 27 [gp_r (some 74), gp_i x4, gp_n] [gp_i x8] s7 K
      refine gs_E.stp (pc' := 31) (ls' := [gp_r (some 74), gp_i x4, gp_n]) (st' := [gp_i x8]) (s' := s7) 1 rfl ?_
      exact H

set_option maxRecDepth 100000 in
/-- GatheredPointsModel.side, pc 31 -/
theorem s_3135_31 {L d : Nat} {K : Option gV → gH → Prop} {s : gH} (v1 : Int) (v2 : gV) (w0 : Int) (H : ((v1 = 0 → gs_E L (d + 1) 3135 43 [gp_r (some 74), gp_i v1, gp_i w0] [gp_i w0, gp_r (some 74)] s K) ∧ (¬ v1 = 0 → gs_E L (d + 1) 3135 43 [gp_r (some 74), gp_i v1, gp_i w0] [gp_i (gp_wr (-w0)), gp_r (some 74)] s K))) : gs_E L (d + 1) 3135 31 [gp_r (some 74), gp_i v1, v2] [gp_i w0] s K := by
  refine gs_E.stp (pc' := 34) (ls' := [gp_r (some 74), gp_i v1, gp_i w0]) (st' := [gp_i v1, gp_r (some 74)]) (s' := s) 3 rfl ?_
  refine gs_E.br (c := v1 = 0) (p1 := 42) (p2 := 37) (l1 := [gp_r (some 74), gp_i v1, gp_i w0]) (l2 := [gp_r (some 74), gp_i v1, gp_i w0]) (s1 := [gp_r (some 74)]) (s2 := [gp_r (some 74)]) rfl gs_b1 (fun hc => ?_) (fun hc => ?_)
  · replace H := H.1 hc
    refine gs_E.stp (pc' := 43) (ls' := [gp_r (some 74), gp_i v1, gp_i w0]) (st' := [gp_i w0, gp_r (some 74)]) (s' := s) 1 rfl ?_
    exact H
  · replace H := H.2 hc
    refine gs_E.stp (pc' := 43) (ls' := [gp_r (some 74), gp_i v1, gp_i w0]) (st' := [gp_i (gp_wr (-w0)), gp_r (some 74)]) (s' := s) 3 rfl ?_
    exact H

set_option maxRecDepth 100000 in
/-- GatheredPointsModel.side, pc 43 -/
theorem s_3135_43 {L d : Nat} {K : Option gV → gH → Prop} {s : gH} (v1 : Int) (v2 : Int) (w1 : Int) (H : (∀ s1, s1 = gp_wI s 74 45 w1 → K (some (gp_i 0)) s1)) : gs_E L (d + 1) 3135 43 [gp_r (some 74), gp_i v1, gp_i v2] [gp_i w1, gp_r (some 74)] s K := by
  refine gs_E.stp (pc' := 46) (ls' := [gp_r (some 74), gp_i v1, gp_i v2]) (st' := []) (s' := gp_wI s 74 45 w1) 1 rfl ?_
  replace H := H _ rfl
  generalize gp_wI s 74 45 w1 = s1 at H ⊢
  refine gs_E.stp (pc' := 47) (ls' := [gp_r (some 74), gp_i v1, gp_i v2]) (st' := [gp_i 0]) (s' := s1) 1 rfl ?_
  exact gs_E.ret (r := (some (gp_i 0))) rfl H

set_option maxRecDepth 100000 in
/-- GatheredPointsModel.side, pc 50 -/
theorem s_3135_50 {L d : Nat} {K : Option gV → gH → Prop} {s : gH} (v1 : Int) (v2 : gV) (H : gs_C L d 3137 1 [gp_r (some 74)] s (fun r s1 => r = none ∧ gs_C L d 3129 3 [gp_r (some 74), gp_i 44] s1 (fun r s2 => ∃ x3, r = some (gp_i x3) ∧ ((x3 = 0 → K (some (gp_i (gp_wr (v1 + 1)))) s2) ∧ (¬ x3 = 0 → gs_E L (d + 1) 3135 50 [gp_r (some 74), gp_i (gp_wr (v1 + 1)), v2] [] s2 K))))) : gs_E L (d + 1) 3135 50 [gp_r (some 74), gp_i v1, v2] [] s K := by
  refine gs_E.stp (pc' := 51) (ls' := [gp_r (some 74), gp_i v1, v2]) (st' := [gp_r (some 74)]) (s' := s) 1 rfl ?_
  refine gs_E.call (args := [gp_r (some 74)]) (m := 1) (y' := 3137) (st' := []) rfl H (fun r s1 H => ?_)
  obtain ⟨rfl, H⟩ := H
  show gs_E L (d + 1) 3135 54 [gp_r (some 74), gp_i v1, v2] [] s1 K
  refine gs_E.stp (pc' := 60) (ls' := [gp_r (some 74), gp_i (gp_wr (v1 + 1)), v2]) (st' := [gp_i 44, gp_r (some 74)]) (s' := s1) 3 rfl ?_
  refine gs_E.call (args := [gp_r (some 74), gp_i 44]) (m := 3) (y' := 3129) (st' := []) rfl H (fun r s2 H => ?_)
  obtain ⟨x3, rfl, H⟩ := H
  show gs_E L (d + 1) 3135 63 [gp_r (some 74), gp_i (gp_wr (v1 + 1)), v2] [gp_i x3] s2 K
  refine gs_E.br (c := ¬ x3 = 0) (p1 := 50) (p2 := 66) (l1 := [gp_r (some 74), gp_i (gp_wr (v1 + 1)), v2]) (l2 := [gp_r (some 74), gp_i (gp_wr (v1 + 1)), v2]) (s1 := []) (s2 := []) rfl gs_b2 (fun hc => ?_) (fun hc => ?_)
  · replace H := H.2 hc
    exact H
  · replace H := H.1 (Decidable.byContradiction hc)
    refine gs_E.stp (pc' := 67) (ls' := [gp_r (some 74), gp_i (gp_wr (v1 + 1)), v2]) (st' := [gp_i (gp_wr (v1 + 1))]) (s' := s2) 1 rfl ?_
    exact gs_E.ret (r := (some (gp_i (gp_wr (v1 + 1))))) rfl H

set_option maxRecDepth 100000 in
/-- GatheredPointsModel.sides, pc 0 -/
theorem s_3136_e {L d : Nat} {K : Option gV → gH → Prop} {s : gH}  (H : gs_C L d 3135 3 [gp_r (some 74)] s (fun r s1 => ∃ x2, r = some (gp_i x2) ∧ gs_C L d 3130 2 [gp_r (some 74), gp_i 124] s1 (fun r s3 => r = none ∧ gs_C L d 3127 1 [gp_r (some 74)] s3 (fun r s4 => ∃ x5, r = some (gp_i x5) ∧ ((x5 = 0 → gs_E L (d + 1) 3136 36 [gp_r (some 74), gp_i (gp_I s 74 42), gp_i x2, gp_i (gp_I s1 74 45), gp_n, gp_n, gp_n, gp_n, gp_n, gp_n, gp_n] [gp_i 0] s4 K) ∧ (¬ x5 = 0 → gs_C L d 3135 3 [gp_r (some 74)] s4 (fun r s6 => ∃ x7, r = some (gp_i x7) ∧ gs_E L (d + 1) 3136 36 [gp_r (some 74), gp_i (gp_I s 74 42), gp_i x2, gp_i (gp_I s1 74 45), gp_n, gp_n, gp_n, gp_n, gp_n, gp_n, gp_n] [gp_i x7] s6 K))))))) : gs_C L (d + 1) 3136 11 [gp_r (some 74)] s K := by
  show gs_E L (d + 1) 3136 0 [gp_r (some 74), gp_n, gp_n, gp_n, gp_n, gp_n, gp_n, gp_n, gp_n, gp_n, gp_n] [] s K
  refine gs_E.stp (pc' := 6) (ls' := [gp_r (some 74), gp_i (gp_I s 74 42), gp_n, gp_n, gp_n, gp_n, gp_n, gp_n, gp_n, gp_n, gp_n]) (st' := [gp_r (some 74)]) (s' := s) 4 rfl ?_
  refine gs_E.call (args := [gp_r (some 74)]) (m := 3) (y' := 3135) (st' := []) rfl H (fun r s1 H => ?_)
  obtain ⟨x2, rfl, H⟩ := H
  show gs_E L (d + 1) 3136 9 [gp_r (some 74), gp_i (gp_I s 74 42), gp_n, gp_n, gp_n, gp_n, gp_n, gp_n, gp_n, gp_n, gp_n] [gp_i x2] s1 K
  refine gs_E.stp (pc' := 18) (ls' := [gp_r (some 74), gp_i (gp_I s 74 42), gp_i x2, gp_i (gp_I s1 74 45), gp_n, gp_n, gp_n, gp_n, gp_n, gp_n, gp_n]) (st' := [gp_i 124, gp_r (some 74)]) (s' := s1) 6 rfl ?_
  refine gs_E.call (args := [gp_r (some 74), gp_i 124]) (m := 2) (y' := 3130) (st' := []) rfl H (fun r s3 H => ?_)
  obtain ⟨rfl, H⟩ := H
  show gs_E L (d + 1) 3136 21 [gp_r (some 74), gp_i (gp_I s 74 42), gp_i x2, gp_i (gp_I s1 74 45), gp_n, gp_n, gp_n, gp_n, gp_n, gp_n, gp_n] [] s3 K
  refine gs_E.stp (pc' := 22) (ls' := [gp_r (some 74), gp_i (gp_I s 74 42), gp_i x2, gp_i (gp_I s1 74 45), gp_n, gp_n, gp_n, gp_n, gp_n, gp_n, gp_n]) (st' := [gp_r (some 74)]) (s' := s3) 1 rfl ?_
  refine gs_E.call (args := [gp_r (some 74)]) (m := 1) (y' := 3127) (st' := []) rfl H (fun r s4 H => ?_)
  obtain ⟨x5, rfl, H⟩ := H
  show gs_E L (d + 1) 3136 25 [gp_r (some 74), gp_i (gp_I s 74 42), gp_i x2, gp_i (gp_I s1 74 45), gp_n, gp_n, gp_n, gp_n, gp_n, gp_n, gp_n] [gp_i x5] s4 K
  refine gs_E.br (c := x5 = 0) (p1 := 35) (p2 := 28) (l1 := [gp_r (some 74), gp_i (gp_I s 74 42), gp_i x2, gp_i (gp_I s1 74 45), gp_n, gp_n, gp_n, gp_n, gp_n, gp_n, gp_n]) (l2 := [gp_r (some 74), gp_i (gp_I s 74 42), gp_i x2, gp_i (gp_I s1 74 45), gp_n, gp_n, gp_n, gp_n, gp_n, gp_n, gp_n]) (s1 := []) (s2 := []) rfl gs_b1 (fun hc => ?_) (fun hc => ?_)
  · replace H := H.1 hc
    refine gs_E.stp (pc' := 36) (ls' := [gp_r (some 74), gp_i (gp_I s 74 42), gp_i x2, gp_i (gp_I s1 74 45), gp_n, gp_n, gp_n, gp_n, gp_n, gp_n, gp_n]) (st' := [gp_i 0]) (s' := s4) 1 rfl ?_
    exact H
  · replace H := H.2 hc
    refine gs_E.stp (pc' := 29) (ls' := [gp_r (some 74), gp_i (gp_I s 74 42), gp_i x2, gp_i (gp_I s1 74 45), gp_n, gp_n, gp_n, gp_n, gp_n, gp_n, gp_n]) (st' := [gp_r (some 74)]) (s' := s4) 1 rfl ?_
    refine gs_E.call (args := [gp_r (some 74)]) (m := 3) (y' := 3135) (st' := []) rfl H (fun r s6 H => ?_)
    obtain ⟨x7, rfl, H⟩ := H
    show gs_E L (d + 1) 3136 32 [gp_r (some 74), gp_i (gp_I s 74 42), gp_i x2, gp_i (gp_I s1 74 45), gp_n, gp_n, gp_n, gp_n, gp_n, gp_n, gp_n] [gp_i x7] s6 K
    refine gs_E.stp (pc' := 36) (ls' := [gp_r (some 74), gp_i (gp_I s 74 42), gp_i x2, gp_i (gp_I s1 74 45), gp_n, gp_n, gp_n, gp_n, gp_n, gp_n, gp_n]) (st' := [gp_i x7]) (s' := s6) 1 rfl ?_
    exact H

set_option maxRecDepth 100000 in
/-- GatheredPointsModel.sides, pc 36 -/
theorem s_3136_36 {L d : Nat} {K : Option gV → gH → Prop} {s : gH} (v1 : Int) (v2 : Int) (v3 : Int) (v4 : gV) (v5 : gV) (v6 : gV) (v7 : gV) (v8 : gV) (v9 : gV) (v10 : gV) (w0 : Int) (H : gs_C L d 3130 2 [gp_r (some 74), gp_i 62] s (fun r s1 => r = none ∧ (((gp_I s1 74 44) = 0 → gs_E L (d + 1) 3136 64 [gp_r (some 74), gp_i v1, gp_i v2, gp_i v3, gp_i w0, gp_i (gp_I s 74 45), v6, v7, v8, v9, v10] [] s1 K) ∧ (¬ (gp_I s1 74 44) = 0 → gs_C L d 3127 1 [gp_r (some 74)] s1 (fun r s2 => ∃ x3, r = some (gp_i x3) ∧ ((x3 = 0 → gs_E L (d + 1) 3136 64 [gp_r (some 74), gp_i v1, gp_i v2, gp_i v3, gp_i w0, gp_i (gp_I s 74 45), v6, v7, v8, v9, v10] [] s2 K) ∧ (¬ x3 = 0 → gs_C L d 3085 1 [gp_r (some 74)] s2 (fun r s4 => r = none ∧ gs_E L (d + 1) 3136 78 [gp_r (some 74), gp_i v1, gp_i v2, gp_i v3, gp_i w0, gp_i (gp_I s 74 45), gp_l (0#64), gp_n, gp_l (0#64), gp_n, gp_i 0] [] s4 K)))))))) : gs_E L (d + 1) 3136 36 [gp_r (some 74), gp_i v1, gp_i v2, gp_i v3, v4, v5, v6, v7, v8, v9, v10] [gp_i w0] s K := by
  refine gs_E.stp (pc' := 47) (ls' := [gp_r (some 74), gp_i v1, gp_i v2, gp_i v3, gp_i w0, gp_i (gp_I s 74 45), v6, v7, v8, v9, v10]) (st' := [gp_i 62, gp_r (some 74)]) (s' := s) 6 rfl ?_
  refine gs_E.call (args := [gp_r (some 74), gp_i 62]) (m := 2) (y' := 3130) (st' := []) rfl H (fun r s1 H => ?_)
  obtain ⟨rfl, H⟩ := H
  show gs_E L (d + 1) 3136 50 [gp_r (some 74), gp_i v1, gp_i v2, gp_i v3, gp_i w0, gp_i (gp_I s 74 45), v6, v7, v8, v9, v10] [] s1 K
  refine gs_E.stp (pc' := 54) (ls' := [gp_r (some 74), gp_i v1, gp_i v2, gp_i v3, gp_i w0, gp_i (gp_I s 74 45), v6, v7, v8, v9, v10]) (st' := [gp_i (gp_I s1 74 44)]) (s' := s1) 2 rfl ?_
  refine gs_E.br (c := (gp_I s1 74 44) = 0) (p1 := 64) (p2 := 57) (l1 := [gp_r (some 74), gp_i v1, gp_i v2, gp_i v3, gp_i w0, gp_i (gp_I s 74 45), v6, v7, v8, v9, v10]) (l2 := [gp_r (some 74), gp_i v1, gp_i v2, gp_i v3, gp_i w0, gp_i (gp_I s 74 45), v6, v7, v8, v9, v10]) (s1 := []) (s2 := []) rfl gs_b1 (fun hc => ?_) (fun hc => ?_)
  · replace H := H.1 hc
    exact H
  · replace H := H.2 hc
    refine gs_E.stp (pc' := 58) (ls' := [gp_r (some 74), gp_i v1, gp_i v2, gp_i v3, gp_i w0, gp_i (gp_I s 74 45), v6, v7, v8, v9, v10]) (st' := [gp_r (some 74)]) (s' := s1) 1 rfl ?_
    refine gs_E.call (args := [gp_r (some 74)]) (m := 1) (y' := 3127) (st' := []) rfl H (fun r s2 H => ?_)
    obtain ⟨x3, rfl, H⟩ := H
    show gs_E L (d + 1) 3136 61 [gp_r (some 74), gp_i v1, gp_i v2, gp_i v3, gp_i w0, gp_i (gp_I s 74 45), v6, v7, v8, v9, v10] [gp_i x3] s2 K
    refine gs_E.br (c := ¬ x3 = 0) (p1 := 65) (p2 := 64) (l1 := [gp_r (some 74), gp_i v1, gp_i v2, gp_i v3, gp_i w0, gp_i (gp_I s 74 45), v6, v7, v8, v9, v10]) (l2 := [gp_r (some 74), gp_i v1, gp_i v2, gp_i v3, gp_i w0, gp_i (gp_I s 74 45), v6, v7, v8, v9, v10]) (s1 := []) (s2 := []) rfl gs_b2 (fun hc => ?_) (fun hc => ?_)
    · replace H := H.2 hc
      refine gs_E.stp (pc' := 66) (ls' := [gp_r (some 74), gp_i v1, gp_i v2, gp_i v3, gp_i w0, gp_i (gp_I s 74 45), v6, v7, v8, v9, v10]) (st' := [gp_r (some 74)]) (s' := s2) 1 rfl ?_
      refine gs_E.call (args := [gp_r (some 74)]) (m := 1) (y' := 3085) (st' := []) rfl H (fun r s4 H => ?_)
      obtain ⟨rfl, H⟩ := H
      show gs_E L (d + 1) 3136 69 [gp_r (some 74), gp_i v1, gp_i v2, gp_i v3, gp_i w0, gp_i (gp_I s 74 45), v6, v7, v8, v9, v10] [] s4 K
      refine gs_E.stp (pc' := 78) (ls' := [gp_r (some 74), gp_i v1, gp_i v2, gp_i v3, gp_i w0, gp_i (gp_I s 74 45), gp_l (0#64), gp_n, gp_l (0#64), gp_n, gp_i 0]) (st' := []) (s' := s4) 6 rfl ?_
      exact H
    · replace H := H.1 (Decidable.byContradiction hc)
      exact H

set_option maxRecDepth 100000 in
/-- GatheredPointsModel.sides, pc 64 -/
theorem s_3136_64 {L d : Nat} {K : Option gV → gH → Prop} {s : gH} (v1 : Int) (v2 : Int) (v3 : Int) (v4 : Int) (v5 : Int) (v6 : gV) (v7 : gV) (v8 : gV) (v9 : gV) (v10 : gV) (H : K none s) : gs_E L (d + 1) 3136 64 [gp_r (some 74), gp_i v1, gp_i v2, gp_i v3, gp_i v4, gp_i v5, v6, v7, v8, v9, v10] [] s K := by
  exact gs_E.ret (r := none) rfl H

set_option maxRecDepth 100000 in
/-- GatheredPointsModel.sides, pc 78 -/
theorem s_3136_78 {L d : Nat} {K : Option gV → gH → Prop} {s : gH} (v1 : Int) (v2 : Int) (v3 : Int) (v4 : Int) (v5 : Int) (v6 : BitVec 64) (v8 : BitVec 64) (v10 : Int) (H : ((v10 < v2 → gs_C L d 3096 8 [gp_r (some 74), gp_i (gp_wr ((gp_wr (21 + v1)) + v10))] s (fun r s1 => ∃ x2, r = some (gp_i x2) ∧ gs_E L (d + 1) 3136 78 [gp_r (some 74), gp_i v1, gp_i v2, gp_i v3, gp_i v4, gp_i v5, gp_l (v6 ||| ((1#64) <<< (x2 % 64).toNat)), gp_n, gp_l v8, gp_n, gp_i (gp_wr (v10 + 1))] [] s1 K)) ∧ (¬ v10 < v2 → gs_E L (d + 1) 3136 111 [gp_r (some 74), gp_i v1, gp_i v2, gp_i v3, gp_i v4, gp_i v5, gp_l v6, gp_n, gp_l v8, gp_n, gp_i 0] [] s K))) : gs_E L (d + 1) 3136 78 [gp_r (some 74), gp_i v1, gp_i v2, gp_i v3, gp_i v4, gp_i v5, gp_l v6, gp_n, gp_l v8, gp_n, gp_i v10] [] s K := by
  refine gs_E.stp (pc' := 81) (ls' := [gp_r (some 74), gp_i v1, gp_i v2, gp_i v3, gp_i v4, gp_i v5, gp_l v6, gp_n, gp_l v8, gp_n, gp_i v10]) (st' := [gp_i v2, gp_i v10]) (s' := s) 2 rfl ?_
  refine gs_E.br (c := ¬ v10 < v2) (p1 := 108) (p2 := 84) (l1 := [gp_r (some 74), gp_i v1, gp_i v2, gp_i v3, gp_i v4, gp_i v5, gp_l v6, gp_n, gp_l v8, gp_n, gp_i v10]) (l2 := [gp_r (some 74), gp_i v1, gp_i v2, gp_i v3, gp_i v4, gp_i v5, gp_l v6, gp_n, gp_l v8, gp_n, gp_i v10]) (s1 := []) (s2 := []) rfl gs_b2 (fun hc => ?_) (fun hc => ?_)
  · replace H := H.2 hc
    refine gs_E.stp (pc' := 111) (ls' := [gp_r (some 74), gp_i v1, gp_i v2, gp_i v3, gp_i v4, gp_i v5, gp_l v6, gp_n, gp_l v8, gp_n, gp_i 0]) (st' := []) (s' := s) 2 rfl ?_
    exact H
  · replace H := H.1 (Decidable.byContradiction hc)
    refine gs_E.stp (pc' := 95) (ls' := [gp_r (some 74), gp_i v1, gp_i v2, gp_i v3, gp_i v4, gp_i v5, gp_l v6, gp_n, gp_l v8, gp_n, gp_i v10]) (st' := [gp_i (gp_wr ((gp_wr (21 + v1)) + v10)), gp_r (some 74), gp_l (1#64), gp_l v6]) (s' := s) 8 rfl ?_
    refine gs_E.call (args := [gp_r (some 74), gp_i (gp_wr ((gp_wr (21 + v1)) + v10))]) (m := 8) (y' := 3096) (st' := [gp_l (1#64), gp_l v6]) rfl H (fun r s1 H => ?_)
    obtain ⟨x2, rfl, H⟩ := H
    show gs_E L (d + 1) 3136 98 [gp_r (some 74), gp_i v1, gp_i v2, gp_i v3, gp_i v4, gp_i v5, gp_l v6, gp_n, gp_l v8, gp_n, gp_i v10] [gp_i x2, gp_l (1#64), gp_l v6] s1 K
    refine gs_E.stp (pc' := 78) (ls' := [gp_r (some 74), gp_i v1, gp_i v2, gp_i v3, gp_i v4, gp_i v5, gp_l (v6 ||| ((1#64) <<< (x2 % 64).toNat)), gp_n, gp_l v8, gp_n, gp_i (gp_wr (v10 + 1))]) (st' := []) (s' := s1) 5 rfl ?_
    exact H

set_option maxRecDepth 100000 in
/-- GatheredPointsModel.sides, pc 111 -/
theorem s_3136_111 {L d : Nat} {K : Option gV → gH → Prop} {s : gH} (v1 : Int) (v2 : Int) (v3 : Int) (v4 : Int) (v5 : Int) (v6 : BitVec 64) (v8 : BitVec 64) (v10 : Int) (H : ((v10 < v4 → gs_C L d 3096 8 [gp_r (some 74), gp_i (gp_wr ((gp_wr ((gp_wr (21 + v1)) + v2)) + v10))] s (fun r s8 => ∃ x9, r = some (gp_i x9) ∧ gs_E L (d + 1) 3136 111 [gp_r (some 74), gp_i v1, gp_i v2, gp_i v3, gp_i v4, gp_i v5, gp_l v6, gp_n, gp_l (v8 ||| ((1#64) <<< (x9 % 64).toNat)), gp_n, gp_i (gp_wr (v10 + 1))] [] s8 K)) ∧ (¬ v10 < v4 → gs_C L d 3088 9 [gp_r (some 74), gp_l v6, gp_l v8, gp_i v3, gp_i v5] s (fun r s1 => ∃ x2, r = some (gp_i x2) ∧ gs_C L d 3119 2 [gp_r (some 74), gp_i x2] s1 (fun r s3 => ∃ x4, r = some (gp_i x4) ∧ (∀ s5, s5 = gp_wI s3 74 43 x4 → (∀ s6, s6 = gp_wI s5 74 42 v1 → gs_C L d 3132 1 [gp_r (some 74)] s6 (fun r s7 => r = none ∧ K none s7)))))))) : gs_E L (d + 1) 3136 111 [gp_r (some 74), gp_i v1, gp_i v2, gp_i v3, gp_i v4, gp_i v5, gp_l v6, gp_n, gp_l v8, gp_n, gp_i v10] [] s K := by
  refine gs_E.stp (pc' := 115) (ls' := [gp_r (some 74), gp_i v1, gp_i v2, gp_i v3, gp_i v4, gp_i v5, gp_l v6, gp_n, gp_l v8, gp_n, gp_i v10]) (st' := [gp_i v4, gp_i v10]) (s' := s) 2 rfl ?_
  refine gs_E.br (c := ¬ v10 < v4) (p1 := 144) (p2 := 118) (l1 := [gp_r (some 74), gp_i v1, gp_i v2, gp_i v3, gp_i v4, gp_i v5, gp_l v6, gp_n, gp_l v8, gp_n, gp_i v10]) (l2 := [gp_r (some 74), gp_i v1, gp_i v2, gp_i v3, gp_i v4, gp_i v5, gp_l v6, gp_n, gp_l v8, gp_n, gp_i v10]) (s1 := []) (s2 := []) rfl gs_b2 (fun hc => ?_) (fun hc => ?_)
  · replace H := H.2 hc
    refine gs_E.stp (pc' := 154) (ls' := [gp_r (some 74), gp_i v1, gp_i v2, gp_i v3, gp_i v4, gp_i v5, gp_l v6, gp_n, gp_l v8, gp_n, gp_i v10]) (st' := [gp_i v5, gp_i v3, gp_l v8, gp_l v6, gp_r (some 74), gp_r (some 74), gp_r (some 74)]) (s' := s) 7 rfl ?_
    refine gs_E.call (args := [gp_r (some 74), gp_l v6, gp_l v8, gp_i v3, gp_i v5]) (m := 9) (y' := 3088) (st' := [gp_r (some 74), gp_r (some 74)]) rfl H (fun r s1 H => ?_)
    obtain ⟨x2, rfl, H⟩ := H
    show gs_E L (d + 1) 3136 157 [gp_r (some 74), gp_i v1, gp_i v2, gp_i v3, gp_i v4, gp_i v5, gp_l v6, gp_n, gp_l v8, gp_n, gp_i v10] [gp_i x2, gp_r (some 74), gp_r (some 74)] s1 K
    refine gs_E.call (args := [gp_r (some 74), gp_i x2]) (m := 2) (y' := 3119) (st' := [gp_r (some 74)]) rfl H (fun r s3 H => ?_)
    obtain ⟨x4, rfl, H⟩ := H
    show gs_E L (d + 1) 3136 160 [gp_r (some 74), gp_i v1, gp_i v2, gp_i v3, gp_i v4, gp_i v5, gp_l v6, gp_n, gp_l v8, gp_n, gp_i v10] [gp_i x4, gp_r (some 74)] s3 K
    refine gs_E.stp (pc' := 163) (ls' := [gp_r (some 74), gp_i v1, gp_i v2, gp_i v3, gp_i v4, gp_i v5, gp_l v6, gp_n, gp_l v8, gp_n, gp_i v10]) (st' := []) (s' := gp_wI s3 74 43 x4) 1 rfl ?_
    replace H := H _ rfl
    generalize gp_wI s3 74 43 x4 = s5 at H ⊢
    refine gs_E.stp (pc' := 168) (ls' := [gp_r (some 74), gp_i v1, gp_i v2, gp_i v3, gp_i v4, gp_i v5, gp_l v6, gp_n, gp_l v8, gp_n, gp_i v10]) (st' := []) (s' := gp_wI s5 74 42 v1) 3 rfl ?_
    replace H := H _ rfl
    generalize gp_wI s5 74 42 v1 = s6 at H ⊢
    refine gs_E.stp (pc' := 169) (ls' := [gp_r (some 74), gp_i v1, gp_i v2, gp_i v3, gp_i v4, gp_i v5, gp_l v6, gp_n, gp_l v8, gp_n, gp_i v10]) (st' := [gp_r (some 74)]) (s' := s6) 1 rfl ?_
    refine gs_E.call (args := [gp_r (some 74)]) (m := 1) (y' := 3132) (st' := []) rfl H (fun r s7 H => ?_)
    obtain ⟨rfl, H⟩ := H
    show gs_E L (d + 1) 3136 172 [gp_r (some 74), gp_i v1, gp_i v2, gp_i v3, gp_i v4, gp_i v5, gp_l v6, gp_n, gp_l v8, gp_n, gp_i v10] [] s7 K
    exact gs_E.ret (r := none) rfl H
  · replace H := H.1 (Decidable.byContradiction hc)
    refine gs_E.stp (pc' := 131) (ls' := [gp_r (some 74), gp_i v1, gp_i v2, gp_i v3, gp_i v4, gp_i v5, gp_l v6, gp_n, gp_l v8, gp_n, gp_i v10]) (st' := [gp_i (gp_wr ((gp_wr ((gp_wr (21 + v1)) + v2)) + v10)), gp_r (some 74), gp_l (1#64), gp_l v8]) (s' := s) 10 rfl ?_
    refine gs_E.call (args := [gp_r (some 74), gp_i (gp_wr ((gp_wr ((gp_wr (21 + v1)) + v2)) + v10))]) (m := 8) (y' := 3096) (st' := [gp_l (1#64), gp_l v8]) rfl H (fun r s8 H => ?_)
    obtain ⟨x9, rfl, H⟩ := H
    show gs_E L (d + 1) 3136 134 [gp_r (some 74), gp_i v1, gp_i v2, gp_i v3, gp_i v4, gp_i v5, gp_l v6, gp_n, gp_l v8, gp_n, gp_i v10] [gp_i x9, gp_l (1#64), gp_l v8] s8 K
    refine gs_E.stp (pc' := 111) (ls' := [gp_r (some 74), gp_i v1, gp_i v2, gp_i v3, gp_i v4, gp_i v5, gp_l v6, gp_n, gp_l (v8 ||| ((1#64) <<< (x9 % 64).toNat)), gp_n, gp_i (gp_wr (v10 + 1))]) (st' := []) (s' := s8) 5 rfl ?_
    exact H

set_option maxRecDepth 100000 in
/-- GatheredPointsModel.expression, pc 0 -/
theorem s_3137_e {L d : Nat} {K : Option gV → gH → Prop} {s : gH}  (H : gs_C L d 3134 2 [gp_r (some 74)] s (fun r s1 => r = none ∧ gs_E L (d + 1) 3137 4 [gp_r (some 74)] [] s1 K)) : gs_C L (d + 1) 3137 1 [gp_r (some 74)] s K := by
  show gs_E L (d + 1) 3137 0 [gp_r (some 74)] [] s K
  refine gs_E.stp (pc' := 1) (ls' := [gp_r (some 74)]) (st' := [gp_r (some 74)]) (s' := s) 1 rfl ?_
  refine gs_E.call (args := [gp_r (some 74)]) (m := 2) (y' := 3134) (st' := []) rfl H (fun r s1 H => ?_)
  obtain ⟨rfl, H⟩ := H
  show gs_E L (d + 1) 3137 4 [gp_r (some 74)] [] s1 K
  exact H

set_option maxRecDepth 100000 in
/-- GatheredPointsModel.expression, pc 4 -/
theorem s_3137_4 {L d : Nat} {K : Option gV → gH → Prop} {s : gH}  (H : gs_C L d 3129 3 [gp_r (some 74), gp_i 43] s (fun r s1 => ∃ x2, r = some (gp_i x2) ∧ ((x2 = 0 → K none s1) ∧ (¬ x2 = 0 → gs_C L d 3134 2 [gp_r (some 74)] s1 (fun r s3 => r = none ∧ (((gp_I s3 74 44) = 0 → gs_E L (d + 1) 3137 4 [gp_r (some 74)] [] s3 K) ∧ (¬ (gp_I s3 74 44) = 0 → gs_C L d 3127 1 [gp_r (some 74)] s3 (fun r s4 => ∃ x5, r = some (gp_i x5) ∧ ((x5 = 0 → gs_E L (d + 1) 3137 4 [gp_r (some 74)] [] s4 K) ∧ (¬ x5 = 0 → gs_C L d 3120 4 [gp_r (some 74), gp_i (gp_wr ((gp_wr (21 + (gp_I s4 74 42))) - 2)), gp_i (gp_wr ((gp_wr (21 + (gp_I s4 74 42))) - 1))] s4 (fun r s6 => ∃ x7, r = some (gp_i x7) ∧ (∀ s8, s8 = gp_wI s6 74 43 x7 → (∀ s9, s9 = gp_wI s8 74 42 (gp_wr ((gp_I s8 74 42) - 2)) → gs_C L d 3132 1 [gp_r (some 74)] s9 (fun r s10 => r = none ∧ gs_E L (d + 1) 3137 4 [gp_r (some 74)] [] s10 K)))))))))))))) : gs_E L (d + 1) 3137 4 [gp_r (some 74)] [] s K := by
  refine gs_E.stp (pc' := 7) (ls' := [gp_r (some 74)]) (st' := [gp_i 43, gp_r (some 74)]) (s' := s) 2 rfl ?_
  refine gs_E.call (args := [gp_r (some 74), gp_i 43]) (m := 3) (y' := 3129) (st' := []) rfl H (fun r s1 H => ?_)
  obtain ⟨x2, rfl, H⟩ := H
  show gs_E L (d + 1) 3137 10 [gp_r (some 74)] [gp_i x2] s1 K
  refine gs_E.br (c := x2 = 0) (p1 := 74) (p2 := 13) (l1 := [gp_r (some 74)]) (l2 := [gp_r (some 74)]) (s1 := []) (s2 := []) rfl gs_b1 (fun hc => ?_) (fun hc => ?_)
  · replace H := H.1 hc
    exact gs_E.ret (r := none) rfl H
  · replace H := H.2 hc
    refine gs_E.stp (pc' := 14) (ls' := [gp_r (some 74)]) (st' := [gp_r (some 74)]) (s' := s1) 1 rfl ?_
    refine gs_E.call (args := [gp_r (some 74)]) (m := 2) (y' := 3134) (st' := []) rfl H (fun r s3 H => ?_)
    obtain ⟨rfl, H⟩ := H
    show gs_E L (d + 1) 3137 17 [gp_r (some 74)] [] s3 K
    refine gs_E.stp (pc' := 21) (ls' := [gp_r (some 74)]) (st' := [gp_i (gp_I s3 74 44)]) (s' := s3) 2 rfl ?_
    refine gs_E.br (c := (gp_I s3 74 44) = 0) (p1 := 4) (p2 := 24) (l1 := [gp_r (some 74)]) (l2 := [gp_r (some 74)]) (s1 := []) (s2 := []) rfl gs_b1 (fun hc => ?_) (fun hc => ?_)
    · replace H := H.1 hc
      exact H
    · replace H := H.2 hc
      refine gs_E.stp (pc' := 25) (ls' := [gp_r (some 74)]) (st' := [gp_r (some 74)]) (s' := s3) 1 rfl ?_
      refine gs_E.call (args := [gp_r (some 74)]) (m := 1) (y' := 3127) (st' := []) rfl H (fun r s4 H => ?_)
      obtain ⟨x5, rfl, H⟩ := H
      show gs_E L (d + 1) 3137 28 [gp_r (some 74)] [gp_i x5] s4 K
      refine gs_E.br (c := x5 = 0) (p1 := 4) (p2 := 31) (l1 := [gp_r (some 74)]) (l2 := [gp_r (some 74)]) (s1 := []) (s2 := []) rfl gs_b1 (fun hc => ?_) (fun hc => ?_)
      · replace H := H.1 hc
        exact H
      · replace H := H.2 hc
        refine gs_E.stp (pc' := 51) (ls' := [gp_r (some 74)]) (st' := [gp_i (gp_wr ((gp_wr (21 + (gp_I s4 74 42))) - 1)), gp_i (gp_wr ((gp_wr (21 + (gp_I s4 74 42))) - 2)), gp_r (some 74), gp_r (some 74)]) (s' := s4) 14 rfl ?_
        refine gs_E.call (args := [gp_r (some 74), gp_i (gp_wr ((gp_wr (21 + (gp_I s4 74 42))) - 2)), gp_i (gp_wr ((gp_wr (21 + (gp_I s4 74 42))) - 1))]) (m := 4) (y' := 3120) (st' := [gp_r (some 74)]) rfl H (fun r s6 H => ?_)
        obtain ⟨x7, rfl, H⟩ := H
        show gs_E L (d + 1) 3137 54 [gp_r (some 74)] [gp_i x7, gp_r (some 74)] s6 K
        refine gs_E.stp (pc' := 57) (ls' := [gp_r (some 74)]) (st' := []) (s' := gp_wI s6 74 43 x7) 1 rfl ?_
        replace H := H _ rfl
        generalize gp_wI s6 74 43 x7 = s8 at H ⊢
        refine gs_E.stp (pc' := 67) (ls' := [gp_r (some 74)]) (st' := []) (s' := gp_wI s8 74 42 (gp_wr ((gp_I s8 74 42) - 2))) 6 rfl ?_
        replace H := H _ rfl
        generalize gp_wI s8 74 42 (gp_wr ((gp_I s8 74 42) - 2)) = s9 at H ⊢
        refine gs_E.stp (pc' := 68) (ls' := [gp_r (some 74)]) (st' := [gp_r (some 74)]) (s' := s9) 1 rfl ?_
        refine gs_E.call (args := [gp_r (some 74)]) (m := 1) (y' := 3132) (st' := []) rfl H (fun r s10 H => ?_)
        obtain ⟨rfl, H⟩ := H
        show gs_E L (d + 1) 3137 71 [gp_r (some 74)] [] s10 K
        refine gs_E.stp (pc' := 4) (ls' := [gp_r (some 74)]) (st' := []) (s' := s10) 1 rfl ?_
        exact H

set_option maxRecDepth 100000 in
/-- GatheredPointsModel.reads, pc 0 -/
theorem s_3138_e {L d : Nat} {K : Option gV → gH → Prop} {s : gH} (p0 : Int) (H : ((p0 = 0 ∨ p0 = 1) ∧ (∀ s1, s1 = gp_wI s 74 44 p0 → (∀ s2, s2 = gp_wI s1 74 38 0 → (∀ s3, s3 = gp_wI s2 74 40 (-1) → (∀ s4, s4 = gp_wI s3 74 41 0 → (∀ s5, s5 = gp_wI s4 74 42 0 → (∀ s6, s6 = gp_wI s5 74 43 0 → gs_C L d 3137 1 [gp_r (some 74)] s6 (fun r s7 => r = none ∧ gs_C L d 3127 1 [gp_r (some 74)] s7 (fun r s8 => ∃ x9, r = some (gp_i x9) ∧ ((x9 = 0 → gs_E L (d + 1) 3138 56 [gp_r (some 74), gp_i p0] [] s8 K) ∧ (¬ x9 = 0 → (((gp_I s8 74 38) < (gp_I s8 74 39) → gs_C L d 3128 1 [gp_r (some 74)] s8 (fun r s10 => r = none ∧ gs_E L (d + 1) 3138 56 [gp_r (some 74), gp_i p0] [] s10 K)) ∧ (¬ (gp_I s8 74 38) < (gp_I s8 74 39) → gs_E L (d + 1) 3138 56 [gp_r (some 74), gp_i p0] [] s8 K)))))))))))))) : gs_C L (d + 1) 3138 2 [gp_r (some 74), gp_i p0] s K := by
  show gs_E L (d + 1) 3138 0 [gp_r (some 74), gp_i p0] [] s K
  refine gs_E.stp (pc' := 2) (ls' := [gp_r (some 74), gp_i p0]) (st' := [gp_i p0, gp_r (some 74)]) (s' := s) 2 rfl ?_
  have H1 := H.1
  replace H := H.2
  refine gs_E.ck (pc' := 5) (ls' := [gp_r (some 74), gp_i p0]) (st' := []) (s' := gp_wI s 74 44 p0) rfl ⟨rfl, Or.inr ⟨rfl, H1⟩⟩ ?_
  replace H := H _ rfl
  generalize gp_wI s 74 44 p0 = s1 at H ⊢
  refine gs_E.stp (pc' := 10) (ls' := [gp_r (some 74), gp_i p0]) (st' := []) (s' := gp_wI s1 74 38 0) 3 rfl ?_
  replace H := H _ rfl
  generalize gp_wI s1 74 38 0 = s2 at H ⊢
  refine gs_E.stp (pc' := 15) (ls' := [gp_r (some 74), gp_i p0]) (st' := []) (s' := gp_wI s2 74 40 (-1)) 3 rfl ?_
  replace H := H _ rfl
  generalize gp_wI s2 74 40 (-1) = s3 at H ⊢
  refine gs_E.stp (pc' := 20) (ls' := [gp_r (some 74), gp_i p0]) (st' := []) (s' := gp_wI s3 74 41 0) 3 rfl ?_
  replace H := H _ rfl
  generalize gp_wI s3 74 41 0 = s4 at H ⊢
  refine gs_E.stp (pc' := 25) (ls' := [gp_r (some 74), gp_i p0]) (st' := []) (s' := gp_wI s4 74 42 0) 3 rfl ?_
  replace H := H _ rfl
  generalize gp_wI s4 74 42 0 = s5 at H ⊢
  refine gs_E.stp (pc' := 30) (ls' := [gp_r (some 74), gp_i p0]) (st' := []) (s' := gp_wI s5 74 43 0) 3 rfl ?_
  replace H := H _ rfl
  generalize gp_wI s5 74 43 0 = s6 at H ⊢
  refine gs_E.stp (pc' := 31) (ls' := [gp_r (some 74), gp_i p0]) (st' := [gp_r (some 74)]) (s' := s6) 1 rfl ?_
  refine gs_E.call (args := [gp_r (some 74)]) (m := 1) (y' := 3137) (st' := []) rfl H (fun r s7 H => ?_)
  obtain ⟨rfl, H⟩ := H
  show gs_E L (d + 1) 3138 34 [gp_r (some 74), gp_i p0] [] s7 K
  refine gs_E.stp (pc' := 35) (ls' := [gp_r (some 74), gp_i p0]) (st' := [gp_r (some 74)]) (s' := s7) 1 rfl ?_
  refine gs_E.call (args := [gp_r (some 74)]) (m := 1) (y' := 3127) (st' := []) rfl H (fun r s8 H => ?_)
  obtain ⟨x9, rfl, H⟩ := H
  show gs_E L (d + 1) 3138 38 [gp_r (some 74), gp_i p0] [gp_i x9] s8 K
  refine gs_E.br (c := x9 = 0) (p1 := 56) (p2 := 41) (l1 := [gp_r (some 74), gp_i p0]) (l2 := [gp_r (some 74), gp_i p0]) (s1 := []) (s2 := []) rfl gs_b1 (fun hc => ?_) (fun hc => ?_)
  · replace H := H.1 hc
    exact H
  · replace H := H.2 hc
    refine gs_E.stp (pc' := 49) (ls' := [gp_r (some 74), gp_i p0]) (st' := [gp_i (gp_I s8 74 39), gp_i (gp_I s8 74 38)]) (s' := s8) 4 rfl ?_
    refine gs_E.br (c := ¬ (gp_I s8 74 38) < (gp_I s8 74 39)) (p1 := 56) (p2 := 52) (l1 := [gp_r (some 74), gp_i p0]) (l2 := [gp_r (some 74), gp_i p0]) (s1 := []) (s2 := []) rfl gs_b2 (fun hc => ?_) (fun hc => ?_)
    · replace H := H.2 hc
      exact H
    · replace H := H.1 (Decidable.byContradiction hc)
      refine gs_E.stp (pc' := 53) (ls' := [gp_r (some 74), gp_i p0]) (st' := [gp_r (some 74)]) (s' := s8) 1 rfl ?_
      refine gs_E.call (args := [gp_r (some 74)]) (m := 1) (y' := 3128) (st' := []) rfl H (fun r s10 H => ?_)
      obtain ⟨rfl, H⟩ := H
      show gs_E L (d + 1) 3138 56 [gp_r (some 74), gp_i p0] [] s10 K
      exact H

set_option maxRecDepth 100000 in
/-- GatheredPointsModel.reads, pc 56 -/
theorem s_3138_56 {L d : Nat} {K : Option gV → gH → Prop} {s : gH} (v1 : Int) (H : K none s) : gs_E L (d + 1) 3138 56 [gp_r (some 74), gp_i v1] [] s K := by
  exact gs_E.ret (r := none) rfl H

set_option maxRecDepth 100000 in
/-- GatheredPointsModel.game, pc 0 -/
theorem s_3139_e {L d : Nat} {K : Option gV → gH → Prop} {s : gH} (p0 : Int) (H : gs_C L d 3075 1 [gp_i p0] s (fun r s1 => ∃ x2, r = some (gp_i x2) ∧ ((x2 = 0 → gs_C L d 3074 2 [gp_r (some 74), gp_i 1] s1 (fun r s10 => ∃ x11, r = some (gp_i x11) ∧ K (some (gp_i x11)) s10)) ∧ (¬ x2 = 0 → (∀ s3, s3 = gp_wI s1 74 39 (gp_I s1 74 11) → (∀ s4, s4 = gp_wI s3 74 11 0 → gs_C L d 3138 2 [gp_r (some 74), gp_i 0] s4 (fun r s5 => r = none ∧ (((gp_I s5 74 40) < 0 → gs_C L d 3138 2 [gp_r (some 74), gp_i 1] s5 (fun r s6 => r = none ∧ (((gp_I s6 74 43) = 0 → gs_C L d 3084 6 [gp_r (some 74), gp_i 21, gp_i p0] s6 (fun r s7 => r = none ∧ ((0 ≤ p0 ∧ p0 < 85) ∧ K (some (gp_i (gp_I s7 81 p0.toNat))) s7))) ∧ (¬ (gp_I s6 74 43) = 0 → gs_C L d 3074 2 [gp_r (some 74), gp_i (gp_I s6 74 43)] s6 (fun r s8 => ∃ x9, r = some (gp_i x9) ∧ K (some (gp_i x9)) s8))))) ∧ (¬ (gp_I s5 74 40) < 0 → K (some (gp_i (gp_wr ((-10) - (gp_I s5 74 40))))) s5))))))))) : gs_C L (d + 1) 3139 2 [gp_r (some 74), gp_i p0] s K := by
  show gs_E L (d + 1) 3139 0 [gp_r (some 74), gp_i p0] [] s K
  refine gs_E.stp (pc' := 1) (ls' := [gp_r (some 74), gp_i p0]) (st' := [gp_i p0]) (s' := s) 1 rfl ?_
  refine gs_E.call (args := [gp_i p0]) (m := 1) (y' := 3075) (st' := []) rfl H (fun r s1 H => ?_)
  obtain ⟨x2, rfl, H⟩ := H
  show gs_E L (d + 1) 3139 4 [gp_r (some 74), gp_i p0] [gp_i x2] s1 K
  refine gs_E.br (c := ¬ x2 = 0) (p1 := 13) (p2 := 7) (l1 := [gp_r (some 74), gp_i p0]) (l2 := [gp_r (some 74), gp_i p0]) (s1 := []) (s2 := []) rfl gs_b2 (fun hc => ?_) (fun hc => ?_)
  · replace H := H.2 hc
    refine gs_E.stp (pc' := 21) (ls' := [gp_r (some 74), gp_i p0]) (st' := []) (s' := gp_wI s1 74 39 (gp_I s1 74 11)) 4 rfl ?_
    replace H := H _ rfl
    generalize gp_wI s1 74 39 (gp_I s1 74 11) = s3 at H ⊢
    refine gs_E.stp (pc' := 26) (ls' := [gp_r (some 74), gp_i p0]) (st' := []) (s' := gp_wI s3 74 11 0) 3 rfl ?_
    replace H := H _ rfl
    generalize gp_wI s3 74 11 0 = s4 at H ⊢
    refine gs_E.stp (pc' := 28) (ls' := [gp_r (some 74), gp_i p0]) (st' := [gp_i 0, gp_r (some 74)]) (s' := s4) 2 rfl ?_
    refine gs_E.call (args := [gp_r (some 74), gp_i 0]) (m := 2) (y' := 3138) (st' := []) rfl H (fun r s5 H => ?_)
    obtain ⟨rfl, H⟩ := H
    show gs_E L (d + 1) 3139 31 [gp_r (some 74), gp_i p0] [] s5 K
    refine gs_E.stp (pc' := 35) (ls' := [gp_r (some 74), gp_i p0]) (st' := [gp_i (gp_I s5 74 40)]) (s' := s5) 2 rfl ?_
    refine gs_E.br (c := (gp_I s5 74 40) < 0) (p1 := 46) (p2 := 38) (l1 := [gp_r (some 74), gp_i p0]) (l2 := [gp_r (some 74), gp_i p0]) (s1 := []) (s2 := []) rfl gs_b1 (fun hc => ?_) (fun hc => ?_)
    · replace H := H.1 hc
      refine gs_E.stp (pc' := 48) (ls' := [gp_r (some 74), gp_i p0]) (st' := [gp_i 1, gp_r (some 74)]) (s' := s5) 2 rfl ?_
      refine gs_E.call (args := [gp_r (some 74), gp_i 1]) (m := 2) (y' := 3138) (st' := []) rfl H (fun r s6 H => ?_)
      obtain ⟨rfl, H⟩ := H
      show gs_E L (d + 1) 3139 51 [gp_r (some 74), gp_i p0] [] s6 K
      refine gs_E.stp (pc' := 55) (ls' := [gp_r (some 74), gp_i p0]) (st' := [gp_i (gp_I s6 74 43)]) (s' := s6) 2 rfl ?_
      refine gs_E.br (c := (gp_I s6 74 43) = 0) (p1 := 67) (p2 := 58) (l1 := [gp_r (some 74), gp_i p0]) (l2 := [gp_r (some 74), gp_i p0]) (s1 := []) (s2 := []) rfl gs_b1 (fun hc => ?_) (fun hc => ?_)
      · replace H := H.1 hc
        refine gs_E.stp (pc' := 71) (ls' := [gp_r (some 74), gp_i p0]) (st' := [gp_i p0, gp_i 21, gp_r (some 74)]) (s' := s6) 3 rfl ?_
        refine gs_E.call (args := [gp_r (some 74), gp_i 21, gp_i p0]) (m := 6) (y' := 3084) (st' := []) rfl H (fun r s7 H => ?_)
        obtain ⟨rfl, H⟩ := H
        show gs_E L (d + 1) 3139 74 [gp_r (some 74), gp_i p0] [] s7 K
        refine gs_E.stp (pc' := 79) (ls' := [gp_r (some 74), gp_i p0]) (st' := [gp_i p0, gp_r (some 81)]) (s' := s7) 3 rfl ?_
        refine gs_E.ck (pc' := 80) (ls' := [gp_r (some 74), gp_i p0]) (st' := [gp_i (gp_I s7 81 p0.toNat)]) (s' := s7) rfl (Or.inl ⟨rfl, H.1.1, H.1.2⟩) ?_
        replace H := H.2
        exact gs_E.ret (r := (some (gp_i (gp_I s7 81 p0.toNat)))) rfl H
      · replace H := H.2 hc
        refine gs_E.stp (pc' := 63) (ls' := [gp_r (some 74), gp_i p0]) (st' := [gp_i (gp_I s6 74 43), gp_r (some 74)]) (s' := s6) 3 rfl ?_
        refine gs_E.call (args := [gp_r (some 74), gp_i (gp_I s6 74 43)]) (m := 2) (y' := 3074) (st' := []) rfl H (fun r s8 H => ?_)
        obtain ⟨x9, rfl, H⟩ := H
        show gs_E L (d + 1) 3139 66 [gp_r (some 74), gp_i p0] [gp_i x9] s8 K
        exact gs_E.ret (r := (some (gp_i x9))) rfl H
    · replace H := H.2 hc
      refine gs_E.stp (pc' := 45) (ls' := [gp_r (some 74), gp_i p0]) (st' := [gp_i (gp_wr ((-10) - (gp_I s5 74 40)))]) (s' := s5) 4 rfl ?_
      exact gs_E.ret (r := (some (gp_i (gp_wr ((-10) - (gp_I s5 74 40)))))) rfl H
  · replace H := H.1 (Decidable.byContradiction hc)
    refine gs_E.stp (pc' := 9) (ls' := [gp_r (some 74), gp_i p0]) (st' := [gp_i 1, gp_r (some 74)]) (s' := s1) 2 rfl ?_
    refine gs_E.call (args := [gp_r (some 74), gp_i 1]) (m := 2) (y' := 3074) (st' := []) rfl H (fun r s10 H => ?_)
    obtain ⟨x11, rfl, H⟩ := H
    show gs_E L (d + 1) 3139 12 [gp_r (some 74), gp_i p0] [gp_i x11] s10 K
    exact gs_E.ret (r := (some (gp_i x11))) rfl H

set_option maxRecDepth 100000 in
/-- GatheredPointsModel.cellAt, pc 0 -/
theorem s_3140_e {L d : Nat} {K : Option gV → gH → Prop} {s : gH} (p0 : BitVec 64) (p1 : Int) (H : K (some (gp_i (gp_wr ((p0.sshiftRight ((gp_wr (4 * p1)) % 64).toNat) &&& (BitVec.ofInt 64 15)).toInt))) s) : gs_C L d 3140 3 [gp_l p0, gp_i p1] s K := by
  show gs_E L d 3140 0 [gp_l p0, gp_n, gp_i p1] [] s K
  refine gs_E.stp (pc' := 10) (ls' := [gp_l p0, gp_n, gp_i p1]) (st' := [gp_i (gp_wr ((p0.sshiftRight ((gp_wr (4 * p1)) % 64).toNat) &&& (BitVec.ofInt 64 15)).toInt)]) (s' := s) 8 rfl ?_
  exact gs_E.ret (r := (some (gp_i (gp_wr ((p0.sshiftRight ((gp_wr (4 * p1)) % 64).toNat) &&& (BitVec.ofInt 64 15)).toInt)))) rfl H

set_option maxRecDepth 100000 in
/-- GatheredPointsModel.with, pc 0 -/
theorem s_3141_e {L d : Nat} {K : Option gV → gH → Prop} {s : gH} (p0 : BitVec 64) (p1 : Int) (p2 : Int) (H : K (some (gp_l ((p0 &&& (((BitVec.ofInt 64 15) <<< ((gp_wr (4 * p1)) % 64).toNat) ^^^ (BitVec.ofInt 64 (-1)))) ||| ((BitVec.ofInt 64 p2) <<< ((gp_wr (4 * p1)) % 64).toNat)))) s) : gs_C L d 3141 4 [gp_l p0, gp_i p1, gp_i p2] s K := by
  show gs_E L d 3141 0 [gp_l p0, gp_n, gp_i p1, gp_i p2] [] s K
  refine gs_E.stp (pc' := 20) (ls' := [gp_l p0, gp_n, gp_i p1, gp_i p2]) (st' := [gp_l ((p0 &&& (((BitVec.ofInt 64 15) <<< ((gp_wr (4 * p1)) % 64).toNat) ^^^ (BitVec.ofInt 64 (-1)))) ||| ((BitVec.ofInt 64 p2) <<< ((gp_wr (4 * p1)) % 64).toNat))]) (s' := s) 16 rfl ?_
  exact gs_E.ret (r := (some (gp_l ((p0 &&& (((BitVec.ofInt 64 15) <<< ((gp_wr (4 * p1)) % 64).toNat) ^^^ (BitVec.ofInt 64 (-1)))) ||| ((BitVec.ofInt 64 p2) <<< ((gp_wr (4 * p1)) % 64).toNat))))) rfl H

set_option maxRecDepth 100000 in
/-- GatheredPointsModel.played, pc 0 -/
theorem s_3142_e {L d : Nat} {K : Option gV → gH → Prop} {s : gH} (p0 : BitVec 64) (p1 : Int) (H : gs_E L (d + 1) 3142 18 [gp_r (some 74), gp_l p0, gp_n, gp_i p1, gp_l (0#64), gp_n, gp_l (0#64), gp_n, gp_i 0, gp_i 0, gp_i 0, gp_i 0, gp_n, gp_n, gp_n, gp_n, gp_n] [] s K) : gs_C L (d + 1) 3142 17 [gp_r (some 74), gp_l p0, gp_i p1] s K := by
  show gs_E L (d + 1) 3142 0 [gp_r (some 74), gp_l p0, gp_n, gp_i p1, gp_n, gp_n, gp_n, gp_n, gp_n, gp_n, gp_n, gp_n, gp_n, gp_n, gp_n, gp_n, gp_n] [] s K
  refine gs_E.stp (pc' := 18) (ls' := [gp_r (some 74), gp_l p0, gp_n, gp_i p1, gp_l (0#64), gp_n, gp_l (0#64), gp_n, gp_i 0, gp_i 0, gp_i 0, gp_i 0, gp_n, gp_n, gp_n, gp_n, gp_n]) (st' := []) (s' := s) 12 rfl ?_
  exact H

set_option maxRecDepth 100000 in
/-- GatheredPointsModel.played, pc 18 -/
theorem s_3142_18 {L d : Nat} {K : Option gV → gH → Prop} {s : gH} (v1 : BitVec 64) (v3 : Int) (v4 : BitVec 64) (v6 : BitVec 64) (v8 : Int) (v9 : Int) (v10 : Int) (v11 : Int) (v12 : gV) (v13 : gV) (v14 : gV) (v15 : gV) (v16 : gV) (H : ((v11 < (gp_I s 74 46) → gs_C L d 3140 3 [gp_l v1, gp_i v11] s (fun r s1 => ∃ x2, r = some (gp_i x2) ∧ ((x2 < 10 → gs_E L (d + 1) 3142 50 [gp_r (some 74), gp_l v1, gp_n, gp_i v3, gp_l v4, gp_n, gp_l v6, gp_n, gp_i v8, gp_i v9, gp_i v10, gp_i v11, gp_i x2, v13, v14, v15, v16] [gp_i x2, gp_i v8] s1 K) ∧ (¬ x2 < 10 → gs_E L (d + 1) 3142 50 [gp_r (some 74), gp_l v1, gp_n, gp_i v3, gp_l v4, gp_n, gp_l v6, gp_n, gp_i v8, gp_i v9, gp_i v10, gp_i v11, gp_i x2, v13, v14, v15, v16] [gp_i 0, gp_i v8] s1 K)))) ∧ (¬ v11 < (gp_I s 74 46) → (((gp_I s 74 15) = 0 → ((v9 = 0 → gs_E L (d + 1) 3142 278 [gp_r (some 74), gp_l v1, gp_n, gp_i v3, gp_l v4, gp_n, gp_l v6, gp_n, gp_i v8, gp_i v9, gp_i v10, gp_i v11, v12, v13, v14, v15, v16] [gp_l (0#64), gp_r (some 74)] s K) ∧ (¬ v9 = 0 → gs_E L (d + 1) 3142 278 [gp_r (some 74), gp_l v1, gp_n, gp_i v3, gp_l v4, gp_n, gp_l v6, gp_n, gp_i v8, gp_i v9, gp_i v10, gp_i v11, v12, v13, v14, v15, v16] [gp_l v4, gp_r (some 74)] s K))) ∧ (¬ (gp_I s 74 15) = 0 → gs_E L (d + 1) 3142 300 [gp_r (some 74), gp_l v1, gp_n, gp_i v3, gp_l v4, gp_n, gp_l v6, gp_n, gp_i v8, gp_i v9, gp_i v10, gp_i v11, v12, v13, v14, v15, v16] [gp_i 0] s K))))) : gs_E L (d + 1) 3142 18 [gp_r (some 74), gp_l v1, gp_n, gp_i v3, gp_l v4, gp_n, gp_l v6, gp_n, gp_i v8, gp_i v9, gp_i v10, gp_i v11, v12, v13, v14, v15, v16] [] s K := by
  refine gs_E.stp (pc' := 24) (ls' := [gp_r (some 74), gp_l v1, gp_n, gp_i v3, gp_l v4, gp_n, gp_l v6, gp_n, gp_i v8, gp_i v9, gp_i v10, gp_i v11, v12, v13, v14, v15, v16]) (st' := [gp_i (gp_I s 74 46), gp_i v11]) (s' := s) 3 rfl ?_
  refine gs_E.br (c := ¬ v11 < (gp_I s 74 46)) (p1 := 255) (p2 := 27) (l1 := [gp_r (some 74), gp_l v1, gp_n, gp_i v3, gp_l v4, gp_n, gp_l v6, gp_n, gp_i v8, gp_i v9, gp_i v10, gp_i v11, v12, v13, v14, v15, v16]) (l2 := [gp_r (some 74), gp_l v1, gp_n, gp_i v3, gp_l v4, gp_n, gp_l v6, gp_n, gp_i v8, gp_i v9, gp_i v10, gp_i v11, v12, v13, v14, v15, v16]) (s1 := []) (s2 := []) rfl gs_b2 (fun hc => ?_) (fun hc => ?_)
  · replace H := H.2 hc
    refine gs_E.stp (pc' := 259) (ls' := [gp_r (some 74), gp_l v1, gp_n, gp_i v3, gp_l v4, gp_n, gp_l v6, gp_n, gp_i v8, gp_i v9, gp_i v10, gp_i v11, v12, v13, v14, v15, v16]) (st' := [gp_i (gp_I s 74 15)]) (s' := s) 2 rfl ?_
    refine gs_E.br (c := (gp_I s 74 15) = 0) (p1 := 266) (p2 := 262) (l1 := [gp_r (some 74), gp_l v1, gp_n, gp_i v3, gp_l v4, gp_n, gp_l v6, gp_n, gp_i v8, gp_i v9, gp_i v10, gp_i v11, v12, v13, v14, v15, v16]) (l2 := [gp_r (some 74), gp_l v1, gp_n, gp_i v3, gp_l v4, gp_n, gp_l v6, gp_n, gp_i v8, gp_i v9, gp_i v10, gp_i v11, v12, v13, v14, v15, v16]) (s1 := []) (s2 := []) rfl gs_b1 (fun hc => ?_) (fun hc => ?_)
    · replace H := H.1 hc
      refine gs_E.stp (pc' := 269) (ls' := [gp_r (some 74), gp_l v1, gp_n, gp_i v3, gp_l v4, gp_n, gp_l v6, gp_n, gp_i v8, gp_i v9, gp_i v10, gp_i v11, v12, v13, v14, v15, v16]) (st' := [gp_i v9, gp_r (some 74)]) (s' := s) 2 rfl ?_
      refine gs_E.br (c := v9 = 0) (p1 := 277) (p2 := 272) (l1 := [gp_r (some 74), gp_l v1, gp_n, gp_i v3, gp_l v4, gp_n, gp_l v6, gp_n, gp_i v8, gp_i v9, gp_i v10, gp_i v11, v12, v13, v14, v15, v16]) (l2 := [gp_r (some 74), gp_l v1, gp_n, gp_i v3, gp_l v4, gp_n, gp_l v6, gp_n, gp_i v8, gp_i v9, gp_i v10, gp_i v11, v12, v13, v14, v15, v16]) (s1 := [gp_r (some 74)]) (s2 := [gp_r (some 74)]) rfl gs_b1 (fun hc => ?_) (fun hc => ?_)
      · replace H := H.1 hc
        refine gs_E.stp (pc' := 278) (ls' := [gp_r (some 74), gp_l v1, gp_n, gp_i v3, gp_l v4, gp_n, gp_l v6, gp_n, gp_i v8, gp_i v9, gp_i v10, gp_i v11, v12, v13, v14, v15, v16]) (st' := [gp_l (0#64), gp_r (some 74)]) (s' := s) 1 rfl ?_
        exact H
      · replace H := H.2 hc
        refine gs_E.stp (pc' := 278) (ls' := [gp_r (some 74), gp_l v1, gp_n, gp_i v3, gp_l v4, gp_n, gp_l v6, gp_n, gp_i v8, gp_i v9, gp_i v10, gp_i v11, v12, v13, v14, v15, v16]) (st' := [gp_l v4, gp_r (some 74)]) (s' := s) 2 rfl ?_
        exact H
    · replace H := H.2 hc
      refine gs_E.stp (pc' := 300) (ls' := [gp_r (some 74), gp_l v1, gp_n, gp_i v3, gp_l v4, gp_n, gp_l v6, gp_n, gp_i v8, gp_i v9, gp_i v10, gp_i v11, v12, v13, v14, v15, v16]) (st' := [gp_i 0]) (s' := s) 2 rfl ?_
      exact H
  · replace H := H.1 (Decidable.byContradiction hc)
    refine gs_E.stp (pc' := 30) (ls' := [gp_r (some 74), gp_l v1, gp_n, gp_i v3, gp_l v4, gp_n, gp_l v6, gp_n, gp_i v8, gp_i v9, gp_i v10, gp_i v11, v12, v13, v14, v15, v16]) (st' := [gp_i v11, gp_l v1]) (s' := s) 2 rfl ?_
    refine gs_E.call (args := [gp_l v1, gp_i v11]) (m := 3) (y' := 3140) (st' := []) rfl H (fun r s1 H => ?_)
    obtain ⟨x2, rfl, H⟩ := H
    show gs_E L (d + 1) 3142 33 [gp_r (some 74), gp_l v1, gp_n, gp_i v3, gp_l v4, gp_n, gp_l v6, gp_n, gp_i v8, gp_i v9, gp_i v10, gp_i v11, v12, v13, v14, v15, v16] [gp_i x2] s1 K
    refine gs_E.stp (pc' := 41) (ls' := [gp_r (some 74), gp_l v1, gp_n, gp_i v3, gp_l v4, gp_n, gp_l v6, gp_n, gp_i v8, gp_i v9, gp_i v10, gp_i v11, gp_i x2, v13, v14, v15, v16]) (st' := [gp_i 10, gp_i x2, gp_i v8]) (s' := s1) 4 rfl ?_
    refine gs_E.br (c := ¬ x2 < 10) (p1 := 49) (p2 := 44) (l1 := [gp_r (some 74), gp_l v1, gp_n, gp_i v3, gp_l v4, gp_n, gp_l v6, gp_n, gp_i v8, gp_i v9, gp_i v10, gp_i v11, gp_i x2, v13, v14, v15, v16]) (l2 := [gp_r (some 74), gp_l v1, gp_n, gp_i v3, gp_l v4, gp_n, gp_l v6, gp_n, gp_i v8, gp_i v9, gp_i v10, gp_i v11, gp_i x2, v13, v14, v15, v16]) (s1 := [gp_i v8]) (s2 := [gp_i v8]) rfl gs_b2 (fun hc => ?_) (fun hc => ?_)
    · replace H := H.2 hc
      refine gs_E.stp (pc' := 50) (ls' := [gp_r (some 74), gp_l v1, gp_n, gp_i v3, gp_l v4, gp_n, gp_l v6, gp_n, gp_i v8, gp_i v9, gp_i v10, gp_i v11, gp_i x2, v13, v14, v15, v16]) (st' := [gp_i 0, gp_i v8]) (s' := s1) 1 rfl ?_
      exact H
    · replace H := H.1 (Decidable.byContradiction hc)
      refine gs_E.stp (pc' := 50) (ls' := [gp_r (some 74), gp_l v1, gp_n, gp_i v3, gp_l v4, gp_n, gp_l v6, gp_n, gp_i v8, gp_i v9, gp_i v10, gp_i v11, gp_i x2, v13, v14, v15, v16]) (st' := [gp_i x2, gp_i v8]) (s' := s1) 2 rfl ?_
      exact H

set_option maxRecDepth 100000 in
/-- GatheredPointsModel.played, pc 50 -/
theorem s_3142_50 {L d : Nat} {K : Option gV → gH → Prop} {s : gH} (v1 : BitVec 64) (v3 : Int) (v4 : BitVec 64) (v6 : BitVec 64) (v8 : Int) (v9 : Int) (v10 : Int) (v11 : Int) (v12 : Int) (v13 : gV) (v14 : gV) (v15 : gV) (v16 : gV) (w0 : Int) (w1 : Int) (H : ((v12 = 10 → gs_E L (d + 1) 3142 82 [gp_r (some 74), gp_l v1, gp_n, gp_i v3, gp_l v4, gp_n, gp_l v6, gp_n, gp_i (gp_wr (w0 + w1)), gp_i v9, gp_i v10, gp_i v11, gp_i v12, v13, v14, v15, v16] [gp_i (gp_wr (v11 + 1))] s K) ∧ (¬ v12 = 10 → ((v12 = 11 → gs_E L (d + 1) 3142 82 [gp_r (some 74), gp_l v1, gp_n, gp_i v3, gp_l v4, gp_n, gp_l v6, gp_n, gp_i (gp_wr (w0 + w1)), gp_i v9, gp_i v10, gp_i v11, gp_i v12, v13, v14, v15, v16] [gp_i (gp_wr (v11 - 1))] s K) ∧ (¬ v12 = 11 → gs_E L (d + 1) 3142 82 [gp_r (some 74), gp_l v1, gp_n, gp_i v3, gp_l v4, gp_n, gp_l v6, gp_n, gp_i (gp_wr (w0 + w1)), gp_i v9, gp_i v10, gp_i v11, gp_i v12, v13, v14, v15, v16] [gp_i (-1)] s K))))) : gs_E L (d + 1) 3142 50 [gp_r (some 74), gp_l v1, gp_n, gp_i v3, gp_l v4, gp_n, gp_l v6, gp_n, gp_i v8, gp_i v9, gp_i v10, gp_i v11, gp_i v12, v13, v14, v15, v16] [gp_i w1, gp_i w0] s K := by
  refine gs_E.stp (pc' := 57) (ls' := [gp_r (some 74), gp_l v1, gp_n, gp_i v3, gp_l v4, gp_n, gp_l v6, gp_n, gp_i (gp_wr (w0 + w1)), gp_i v9, gp_i v10, gp_i v11, gp_i v12, v13, v14, v15, v16]) (st' := [gp_i 10, gp_i v12]) (s' := s) 4 rfl ?_
  refine gs_E.br (c := ¬ v12 = 10) (p1 := 67) (p2 := 60) (l1 := [gp_r (some 74), gp_l v1, gp_n, gp_i v3, gp_l v4, gp_n, gp_l v6, gp_n, gp_i (gp_wr (w0 + w1)), gp_i v9, gp_i v10, gp_i v11, gp_i v12, v13, v14, v15, v16]) (l2 := [gp_r (some 74), gp_l v1, gp_n, gp_i v3, gp_l v4, gp_n, gp_l v6, gp_n, gp_i (gp_wr (w0 + w1)), gp_i v9, gp_i v10, gp_i v11, gp_i v12, v13, v14, v15, v16]) (s1 := []) (s2 := []) rfl gs_b2 (fun hc => ?_) (fun hc => ?_)
  · replace H := H.2 hc
    refine gs_E.stp (pc' := 71) (ls' := [gp_r (some 74), gp_l v1, gp_n, gp_i v3, gp_l v4, gp_n, gp_l v6, gp_n, gp_i (gp_wr (w0 + w1)), gp_i v9, gp_i v10, gp_i v11, gp_i v12, v13, v14, v15, v16]) (st' := [gp_i 11, gp_i v12]) (s' := s) 2 rfl ?_
    refine gs_E.br (c := ¬ v12 = 11) (p1 := 81) (p2 := 74) (l1 := [gp_r (some 74), gp_l v1, gp_n, gp_i v3, gp_l v4, gp_n, gp_l v6, gp_n, gp_i (gp_wr (w0 + w1)), gp_i v9, gp_i v10, gp_i v11, gp_i v12, v13, v14, v15, v16]) (l2 := [gp_r (some 74), gp_l v1, gp_n, gp_i v3, gp_l v4, gp_n, gp_l v6, gp_n, gp_i (gp_wr (w0 + w1)), gp_i v9, gp_i v10, gp_i v11, gp_i v12, v13, v14, v15, v16]) (s1 := []) (s2 := []) rfl gs_b2 (fun hc => ?_) (fun hc => ?_)
    · replace H := H.2 hc
      refine gs_E.stp (pc' := 82) (ls' := [gp_r (some 74), gp_l v1, gp_n, gp_i v3, gp_l v4, gp_n, gp_l v6, gp_n, gp_i (gp_wr (w0 + w1)), gp_i v9, gp_i v10, gp_i v11, gp_i v12, v13, v14, v15, v16]) (st' := [gp_i (-1)]) (s' := s) 1 rfl ?_
      exact H
    · replace H := H.1 (Decidable.byContradiction hc)
      refine gs_E.stp (pc' := 82) (ls' := [gp_r (some 74), gp_l v1, gp_n, gp_i v3, gp_l v4, gp_n, gp_l v6, gp_n, gp_i (gp_wr (w0 + w1)), gp_i v9, gp_i v10, gp_i v11, gp_i v12, v13, v14, v15, v16]) (st' := [gp_i (gp_wr (v11 - 1))]) (s' := s) 4 rfl ?_
      exact H
  · replace H := H.1 (Decidable.byContradiction hc)
    refine gs_E.stp (pc' := 82) (ls' := [gp_r (some 74), gp_l v1, gp_n, gp_i v3, gp_l v4, gp_n, gp_l v6, gp_n, gp_i (gp_wr (w0 + w1)), gp_i v9, gp_i v10, gp_i v11, gp_i v12, v13, v14, v15, v16]) (st' := [gp_i (gp_wr (v11 + 1))]) (s' := s) 4 rfl ?_
    exact H

set_option maxRecDepth 100000 in
/-- GatheredPointsModel.played, pc 82 -/
theorem s_3142_82 {L d : Nat} {K : Option gV → gH → Prop} {s : gH} (v1 : BitVec 64) (v3 : Int) (v4 : BitVec 64) (v6 : BitVec 64) (v8 : Int) (v9 : Int) (v10 : Int) (v11 : Int) (v12 : Int) (v13 : gV) (v14 : gV) (v15 : gV) (v16 : gV) (w0 : Int) (H : gs_C L d 3073 6 [gp_l (BitVec.ofInt 64 w0), gp_l (0#64), gp_l (BitVec.ofInt 64 (gp_wr ((gp_I s 74 46) - 1)))] s (fun r s1 => ∃ x2, r = some (gp_i x2) ∧ ((x2 = 0 → gs_E L (d + 1) 3142 249 [gp_r (some 74), gp_l v1, gp_n, gp_i v3, gp_l v4, gp_n, gp_l v6, gp_n, gp_i v8, gp_i v9, gp_i v10, gp_i v11, gp_i v12, gp_i w0, v14, v15, v16] [] s1 K) ∧ (¬ x2 = 0 → gs_C L d 3140 3 [gp_l v1, gp_i w0] s1 (fun r s3 => ∃ x4, r = some (gp_i x4) ∧ ((9 < x4 → gs_E L (d + 1) 3142 249 [gp_r (some 74), gp_l v1, gp_n, gp_i v3, gp_l v4, gp_n, gp_l v6, gp_n, gp_i v8, gp_i v9, gp_i v10, gp_i v11, gp_i v12, gp_i w0, v14, v15, v16] [] s3 K) ∧ (¬ 9 < x4 → (((gp_I s3 74 15) = 0 → gs_C L d 3141 4 [gp_l v1, gp_i v11, gp_i 0] s3 (fun r s5 => ∃ m6, r = some (gp_l m6) ∧ gs_C L d 3141 4 [gp_l m6, gp_i w0, gp_i v12] s5 (fun r s7 => ∃ m8, r = some (gp_l m8) ∧ ((v12 = 10 → gs_C L d 3140 3 [gp_l v1, gp_i w0] s7 (fun r s11 => ∃ x12, r = some (gp_i x12) ∧ gs_E L (d + 1) 3142 165 [gp_r (some 74), gp_l v1, gp_n, gp_i v3, gp_l v4, gp_n, gp_l v6, gp_n, gp_i v8, gp_i v9, gp_i v10, gp_i v11, gp_i v12, gp_i w0, gp_l m8, gp_n, v16] [gp_i x12, gp_i v3, gp_l m8, gp_r (some 74)] s11 K)) ∧ (¬ v12 = 10 → gs_C L d 3140 3 [gp_l v1, gp_i w0] s7 (fun r s9 => ∃ x10, r = some (gp_i x10) ∧ gs_E L (d + 1) 3142 165 [gp_r (some 74), gp_l v1, gp_n, gp_i v3, gp_l v4, gp_n, gp_l v6, gp_n, gp_i v8, gp_i v9, gp_i v10, gp_i v11, gp_i v12, gp_i w0, gp_l m8, gp_n, v16] [gp_i (gp_wr (-x10)), gp_i v3, gp_l m8, gp_r (some 74)] s9 K)))))) ∧ (¬ (gp_I s3 74 15) = 0 → gs_E L (d + 1) 3142 249 [gp_r (some 74), gp_l v1, gp_n, gp_i v3, gp_l v4, gp_n, gp_l v6, gp_n, gp_i v8, gp_i v9, gp_i v10, gp_i v11, gp_i v12, gp_i w0, v14, v15, v16] [] s3 K))))))))) : gs_E L (d + 1) 3142 82 [gp_r (some 74), gp_l v1, gp_n, gp_i v3, gp_l v4, gp_n, gp_l v6, gp_n, gp_i v8, gp_i v9, gp_i v10, gp_i v11, gp_i v12, v13, v14, v15, v16] [gp_i w0] s K := by
  refine gs_E.stp (pc' := 95) (ls' := [gp_r (some 74), gp_l v1, gp_n, gp_i v3, gp_l v4, gp_n, gp_l v6, gp_n, gp_i v8, gp_i v9, gp_i v10, gp_i v11, gp_i v12, gp_i w0, v14, v15, v16]) (st' := [gp_l (BitVec.ofInt 64 (gp_wr ((gp_I s 74 46) - 1))), gp_l (0#64), gp_l (BitVec.ofInt 64 w0)]) (s' := s) 9 rfl ?_
  refine gs_E.call (args := [gp_l (BitVec.ofInt 64 w0), gp_l (0#64), gp_l (BitVec.ofInt 64 (gp_wr ((gp_I s 74 46) - 1)))]) (m := 6) (y' := 3073) (st' := []) rfl H (fun r s1 H => ?_)
  obtain ⟨x2, rfl, H⟩ := H
  show gs_E L (d + 1) 3142 98 [gp_r (some 74), gp_l v1, gp_n, gp_i v3, gp_l v4, gp_n, gp_l v6, gp_n, gp_i v8, gp_i v9, gp_i v10, gp_i v11, gp_i v12, gp_i w0, v14, v15, v16] [gp_i x2] s1 K
  refine gs_E.br (c := x2 = 0) (p1 := 249) (p2 := 101) (l1 := [gp_r (some 74), gp_l v1, gp_n, gp_i v3, gp_l v4, gp_n, gp_l v6, gp_n, gp_i v8, gp_i v9, gp_i v10, gp_i v11, gp_i v12, gp_i w0, v14, v15, v16]) (l2 := [gp_r (some 74), gp_l v1, gp_n, gp_i v3, gp_l v4, gp_n, gp_l v6, gp_n, gp_i v8, gp_i v9, gp_i v10, gp_i v11, gp_i v12, gp_i w0, v14, v15, v16]) (s1 := []) (s2 := []) rfl gs_b1 (fun hc => ?_) (fun hc => ?_)
  · replace H := H.1 hc
    exact H
  · replace H := H.2 hc
    refine gs_E.stp (pc' := 104) (ls' := [gp_r (some 74), gp_l v1, gp_n, gp_i v3, gp_l v4, gp_n, gp_l v6, gp_n, gp_i v8, gp_i v9, gp_i v10, gp_i v11, gp_i v12, gp_i w0, v14, v15, v16]) (st' := [gp_i w0, gp_l v1]) (s' := s1) 2 rfl ?_
    refine gs_E.call (args := [gp_l v1, gp_i w0]) (m := 3) (y' := 3140) (st' := []) rfl H (fun r s3 H => ?_)
    obtain ⟨x4, rfl, H⟩ := H
    show gs_E L (d + 1) 3142 107 [gp_r (some 74), gp_l v1, gp_n, gp_i v3, gp_l v4, gp_n, gp_l v6, gp_n, gp_i v8, gp_i v9, gp_i v10, gp_i v11, gp_i v12, gp_i w0, v14, v15, v16] [gp_i x4] s3 K
    refine gs_E.stp (pc' := 109) (ls' := [gp_r (some 74), gp_l v1, gp_n, gp_i v3, gp_l v4, gp_n, gp_l v6, gp_n, gp_i v8, gp_i v9, gp_i v10, gp_i v11, gp_i v12, gp_i w0, v14, v15, v16]) (st' := [gp_i 9, gp_i x4]) (s' := s3) 1 rfl ?_
    refine gs_E.br (c := 9 < x4) (p1 := 249) (p2 := 112) (l1 := [gp_r (some 74), gp_l v1, gp_n, gp_i v3, gp_l v4, gp_n, gp_l v6, gp_n, gp_i v8, gp_i v9, gp_i v10, gp_i v11, gp_i v12, gp_i w0, v14, v15, v16]) (l2 := [gp_r (some 74), gp_l v1, gp_n, gp_i v3, gp_l v4, gp_n, gp_l v6, gp_n, gp_i v8, gp_i v9, gp_i v10, gp_i v11, gp_i v12, gp_i w0, v14, v15, v16]) (s1 := []) (s2 := []) rfl gs_b1 (fun hc => ?_) (fun hc => ?_)
    · replace H := H.1 hc
      exact H
    · replace H := H.2 hc
      refine gs_E.stp (pc' := 116) (ls' := [gp_r (some 74), gp_l v1, gp_n, gp_i v3, gp_l v4, gp_n, gp_l v6, gp_n, gp_i v8, gp_i v9, gp_i v10, gp_i v11, gp_i v12, gp_i w0, v14, v15, v16]) (st' := [gp_i (gp_I s3 74 15)]) (s' := s3) 2 rfl ?_
      refine gs_E.br (c := (gp_I s3 74 15) = 0) (p1 := 122) (p2 := 119) (l1 := [gp_r (some 74), gp_l v1, gp_n, gp_i v3, gp_l v4, gp_n, gp_l v6, gp_n, gp_i v8, gp_i v9, gp_i v10, gp_i v11, gp_i v12, gp_i w0, v14, v15, v16]) (l2 := [gp_r (some 74), gp_l v1, gp_n, gp_i v3, gp_l v4, gp_n, gp_l v6, gp_n, gp_i v8, gp_i v9, gp_i v10, gp_i v11, gp_i v12, gp_i w0, v14, v15, v16]) (s1 := []) (s2 := []) rfl gs_b1 (fun hc => ?_) (fun hc => ?_)
      · replace H := H.1 hc
        refine gs_E.stp (pc' := 126) (ls' := [gp_r (some 74), gp_l v1, gp_n, gp_i v3, gp_l v4, gp_n, gp_l v6, gp_n, gp_i v8, gp_i v9, gp_i v10, gp_i v11, gp_i v12, gp_i w0, v14, v15, v16]) (st' := [gp_i 0, gp_i v11, gp_l v1]) (s' := s3) 3 rfl ?_
        refine gs_E.call (args := [gp_l v1, gp_i v11, gp_i 0]) (m := 4) (y' := 3141) (st' := []) rfl H (fun r s5 H => ?_)
        obtain ⟨m6, rfl, H⟩ := H
        show gs_E L (d + 1) 3142 129 [gp_r (some 74), gp_l v1, gp_n, gp_i v3, gp_l v4, gp_n, gp_l v6, gp_n, gp_i v8, gp_i v9, gp_i v10, gp_i v11, gp_i v12, gp_i w0, v14, v15, v16] [gp_l m6] s5 K
        refine gs_E.stp (pc' := 133) (ls' := [gp_r (some 74), gp_l v1, gp_n, gp_i v3, gp_l v4, gp_n, gp_l v6, gp_n, gp_i v8, gp_i v9, gp_i v10, gp_i v11, gp_i v12, gp_i w0, v14, v15, v16]) (st' := [gp_i v12, gp_i w0, gp_l m6]) (s' := s5) 2 rfl ?_
        refine gs_E.call (args := [gp_l m6, gp_i w0, gp_i v12]) (m := 4) (y' := 3141) (st' := []) rfl H (fun r s7 H => ?_)
        obtain ⟨m8, rfl, H⟩ := H
        show gs_E L (d + 1) 3142 136 [gp_r (some 74), gp_l v1, gp_n, gp_i v3, gp_l v4, gp_n, gp_l v6, gp_n, gp_i v8, gp_i v9, gp_i v10, gp_i v11, gp_i v12, gp_i w0, v14, v15, v16] [gp_l m8] s7 K
        refine gs_E.stp (pc' := 146) (ls' := [gp_r (some 74), gp_l v1, gp_n, gp_i v3, gp_l v4, gp_n, gp_l v6, gp_n, gp_i v8, gp_i v9, gp_i v10, gp_i v11, gp_i v12, gp_i w0, gp_l m8, gp_n, v16]) (st' := [gp_i 10, gp_i v12, gp_i v3, gp_l m8, gp_r (some 74)]) (s' := s7) 6 rfl ?_
        refine gs_E.br (c := ¬ v12 = 10) (p1 := 158) (p2 := 149) (l1 := [gp_r (some 74), gp_l v1, gp_n, gp_i v3, gp_l v4, gp_n, gp_l v6, gp_n, gp_i v8, gp_i v9, gp_i v10, gp_i v11, gp_i v12, gp_i w0, gp_l m8, gp_n, v16]) (l2 := [gp_r (some 74), gp_l v1, gp_n, gp_i v3, gp_l v4, gp_n, gp_l v6, gp_n, gp_i v8, gp_i v9, gp_i v10, gp_i v11, gp_i v12, gp_i w0, gp_l m8, gp_n, v16]) (s1 := [gp_i v3, gp_l m8, gp_r (some 74)]) (s2 := [gp_i v3, gp_l m8, gp_r (some 74)]) rfl gs_b2 (fun hc => ?_) (fun hc => ?_)
        · replace H := H.2 hc
          refine gs_E.stp (pc' := 161) (ls' := [gp_r (some 74), gp_l v1, gp_n, gp_i v3, gp_l v4, gp_n, gp_l v6, gp_n, gp_i v8, gp_i v9, gp_i v10, gp_i v11, gp_i v12, gp_i w0, gp_l m8, gp_n, v16]) (st' := [gp_i w0, gp_l v1, gp_i v3, gp_l m8, gp_r (some 74)]) (s' := s7) 2 rfl ?_
          refine gs_E.call (args := [gp_l v1, gp_i w0]) (m := 3) (y' := 3140) (st' := [gp_i v3, gp_l m8, gp_r (some 74)]) rfl H (fun r s9 H => ?_)
          obtain ⟨x10, rfl, H⟩ := H
          show gs_E L (d + 1) 3142 164 [gp_r (some 74), gp_l v1, gp_n, gp_i v3, gp_l v4, gp_n, gp_l v6, gp_n, gp_i v8, gp_i v9, gp_i v10, gp_i v11, gp_i v12, gp_i w0, gp_l m8, gp_n, v16] [gp_i x10, gp_i v3, gp_l m8, gp_r (some 74)] s9 K
          refine gs_E.stp (pc' := 165) (ls' := [gp_r (some 74), gp_l v1, gp_n, gp_i v3, gp_l v4, gp_n, gp_l v6, gp_n, gp_i v8, gp_i v9, gp_i v10, gp_i v11, gp_i v12, gp_i w0, gp_l m8, gp_n, v16]) (st' := [gp_i (gp_wr (-x10)), gp_i v3, gp_l m8, gp_r (some 74)]) (s' := s9) 1 rfl ?_
          exact H
        · replace H := H.1 (Decidable.byContradiction hc)
          refine gs_E.stp (pc' := 152) (ls' := [gp_r (some 74), gp_l v1, gp_n, gp_i v3, gp_l v4, gp_n, gp_l v6, gp_n, gp_i v8, gp_i v9, gp_i v10, gp_i v11, gp_i v12, gp_i w0, gp_l m8, gp_n, v16]) (st' := [gp_i w0, gp_l v1, gp_i v3, gp_l m8, gp_r (some 74)]) (s' := s7) 2 rfl ?_
          refine gs_E.call (args := [gp_l v1, gp_i w0]) (m := 3) (y' := 3140) (st' := [gp_i v3, gp_l m8, gp_r (some 74)]) rfl H (fun r s11 H => ?_)
          obtain ⟨x12, rfl, H⟩ := H
          show gs_E L (d + 1) 3142 155 [gp_r (some 74), gp_l v1, gp_n, gp_i v3, gp_l v4, gp_n, gp_l v6, gp_n, gp_i v8, gp_i v9, gp_i v10, gp_i v11, gp_i v12, gp_i w0, gp_l m8, gp_n, v16] [gp_i x12, gp_i v3, gp_l m8, gp_r (some 74)] s11 K
          refine gs_E.stp (pc' := 165) (ls' := [gp_r (some 74), gp_l v1, gp_n, gp_i v3, gp_l v4, gp_n, gp_l v6, gp_n, gp_i v8, gp_i v9, gp_i v10, gp_i v11, gp_i v12, gp_i w0, gp_l m8, gp_n, v16]) (st' := [gp_i x12, gp_i v3, gp_l m8, gp_r (some 74)]) (s' := s11) 1 rfl ?_
          exact H
      · replace H := H.2 hc
        refine gs_E.stp (pc' := 249) (ls' := [gp_r (some 74), gp_l v1, gp_n, gp_i v3, gp_l v4, gp_n, gp_l v6, gp_n, gp_i v8, gp_i v9, gp_i v10, gp_i v11, gp_i v12, gp_i w0, v14, v15, v16]) (st' := []) (s' := s3) 1 rfl ?_
        exact H

set_option maxRecDepth 100000 in
/-- GatheredPointsModel.played, pc 165 -/
theorem s_3142_165 {L d : Nat} {K : Option gV → gH → Prop} {s : gH} (v1 : BitVec 64) (v3 : Int) (v4 : BitVec 64) (v6 : BitVec 64) (v8 : Int) (v9 : Int) (v10 : Int) (v11 : Int) (v12 : Int) (v13 : Int) (v14 : BitVec 64) (v16 : gV) (w1 : BitVec 64) (w2 : Int) (w3 : Int) (H : gs_C L d 3142 17 [gp_r (some 74), gp_l w1, gp_i (gp_wr (w2 + w3))] s (fun r s1 => ∃ x2, r = some (gp_i x2) ∧ ((v12 = 10 → gs_E L (d + 1) 3142 188 [gp_r (some 74), gp_l v1, gp_n, gp_i v3, gp_l v4, gp_n, gp_l v6, gp_n, gp_i v8, gp_i v9, gp_i v10, gp_i v11, gp_i v12, gp_i v13, gp_l v14, gp_n, gp_i x2] [gp_l ((1#64) <<< (x2 % 64).toNat), gp_l v4] s1 K) ∧ (¬ v12 = 10 → gs_E L (d + 1) 3142 188 [gp_r (some 74), gp_l v1, gp_n, gp_i v3, gp_l v4, gp_n, gp_l v6, gp_n, gp_i v8, gp_i v9, gp_i v10, gp_i v11, gp_i v12, gp_i v13, gp_l v14, gp_n, gp_i x2] [gp_l (0#64), gp_l v4] s1 K)))) : gs_E L (d + 1) 3142 165 [gp_r (some 74), gp_l v1, gp_n, gp_i v3, gp_l v4, gp_n, gp_l v6, gp_n, gp_i v8, gp_i v9, gp_i v10, gp_i v11, gp_i v12, gp_i v13, gp_l v14, gp_n, v16] [gp_i w3, gp_i w2, gp_l w1, gp_r (some 74)] s K := by
  refine gs_E.stp (pc' := 166) (ls' := [gp_r (some 74), gp_l v1, gp_n, gp_i v3, gp_l v4, gp_n, gp_l v6, gp_n, gp_i v8, gp_i v9, gp_i v10, gp_i v11, gp_i v12, gp_i v13, gp_l v14, gp_n, v16]) (st' := [gp_i (gp_wr (w2 + w3)), gp_l w1, gp_r (some 74)]) (s' := s) 1 rfl ?_
  refine gs_E.call (args := [gp_r (some 74), gp_l w1, gp_i (gp_wr (w2 + w3))]) (m := 17) (y' := 3142) (st' := []) rfl H (fun r s1 H => ?_)
  obtain ⟨x2, rfl, H⟩ := H
  show gs_E L (d + 1) 3142 169 [gp_r (some 74), gp_l v1, gp_n, gp_i v3, gp_l v4, gp_n, gp_l v6, gp_n, gp_i v8, gp_i v9, gp_i v10, gp_i v11, gp_i v12, gp_i v13, gp_l v14, gp_n, v16] [gp_i x2] s1 K
  refine gs_E.stp (pc' := 177) (ls' := [gp_r (some 74), gp_l v1, gp_n, gp_i v3, gp_l v4, gp_n, gp_l v6, gp_n, gp_i v8, gp_i v9, gp_i v10, gp_i v11, gp_i v12, gp_i v13, gp_l v14, gp_n, gp_i x2]) (st' := [gp_i 10, gp_i v12, gp_l v4]) (s' := s1) 4 rfl ?_
  refine gs_E.br (c := ¬ v12 = 10) (p1 := 187) (p2 := 180) (l1 := [gp_r (some 74), gp_l v1, gp_n, gp_i v3, gp_l v4, gp_n, gp_l v6, gp_n, gp_i v8, gp_i v9, gp_i v10, gp_i v11, gp_i v12, gp_i v13, gp_l v14, gp_n, gp_i x2]) (l2 := [gp_r (some 74), gp_l v1, gp_n, gp_i v3, gp_l v4, gp_n, gp_l v6, gp_n, gp_i v8, gp_i v9, gp_i v10, gp_i v11, gp_i v12, gp_i v13, gp_l v14, gp_n, gp_i x2]) (s1 := [gp_l v4]) (s2 := [gp_l v4]) rfl gs_b2 (fun hc => ?_) (fun hc => ?_)
  · replace H := H.2 hc
    refine gs_E.stp (pc' := 188) (ls' := [gp_r (some 74), gp_l v1, gp_n, gp_i v3, gp_l v4, gp_n, gp_l v6, gp_n, gp_i v8, gp_i v9, gp_i v10, gp_i v11, gp_i v12, gp_i v13, gp_l v14, gp_n, gp_i x2]) (st' := [gp_l (0#64), gp_l v4]) (s' := s1) 1 rfl ?_
    exact H
  · replace H := H.1 (Decidable.byContradiction hc)
    refine gs_E.stp (pc' := 188) (ls' := [gp_r (some 74), gp_l v1, gp_n, gp_i v3, gp_l v4, gp_n, gp_l v6, gp_n, gp_i v8, gp_i v9, gp_i v10, gp_i v11, gp_i v12, gp_i v13, gp_l v14, gp_n, gp_i x2]) (st' := [gp_l ((1#64) <<< (x2 % 64).toNat), gp_l v4]) (s' := s1) 4 rfl ?_
    exact H

set_option maxRecDepth 100000 in
/-- GatheredPointsModel.played, pc 188 -/
theorem s_3142_188 {L d : Nat} {K : Option gV → gH → Prop} {s : gH} (v1 : BitVec 64) (v3 : Int) (v4 : BitVec 64) (v6 : BitVec 64) (v8 : Int) (v9 : Int) (v10 : Int) (v11 : Int) (v12 : Int) (v13 : Int) (v14 : BitVec 64) (v16 : Int) (w0 : BitVec 64) (w1 : BitVec 64) (H : ((v12 = 11 → gs_E L (d + 1) 3142 208 [gp_r (some 74), gp_l v1, gp_n, gp_i v3, gp_l (w0 ||| w1), gp_n, gp_l v6, gp_n, gp_i v8, gp_i v9, gp_i v10, gp_i v11, gp_i v12, gp_i v13, gp_l v14, gp_n, gp_i v16] [gp_l ((1#64) <<< (v16 % 64).toNat), gp_l v6] s K) ∧ (¬ v12 = 11 → gs_E L (d + 1) 3142 208 [gp_r (some 74), gp_l v1, gp_n, gp_i v3, gp_l (w0 ||| w1), gp_n, gp_l v6, gp_n, gp_i v8, gp_i v9, gp_i v10, gp_i v11, gp_i v12, gp_i v13, gp_l v14, gp_n, gp_i v16] [gp_l (0#64), gp_l v6] s K))) : gs_E L (d + 1) 3142 188 [gp_r (some 74), gp_l v1, gp_n, gp_i v3, gp_l v4, gp_n, gp_l v6, gp_n, gp_i v8, gp_i v9, gp_i v10, gp_i v11, gp_i v12, gp_i v13, gp_l v14, gp_n, gp_i v16] [gp_l w1, gp_l w0] s K := by
  refine gs_E.stp (pc' := 197) (ls' := [gp_r (some 74), gp_l v1, gp_n, gp_i v3, gp_l (w0 ||| w1), gp_n, gp_l v6, gp_n, gp_i v8, gp_i v9, gp_i v10, gp_i v11, gp_i v12, gp_i v13, gp_l v14, gp_n, gp_i v16]) (st' := [gp_i 11, gp_i v12, gp_l v6]) (s' := s) 5 rfl ?_
  refine gs_E.br (c := ¬ v12 = 11) (p1 := 207) (p2 := 200) (l1 := [gp_r (some 74), gp_l v1, gp_n, gp_i v3, gp_l (w0 ||| w1), gp_n, gp_l v6, gp_n, gp_i v8, gp_i v9, gp_i v10, gp_i v11, gp_i v12, gp_i v13, gp_l v14, gp_n, gp_i v16]) (l2 := [gp_r (some 74), gp_l v1, gp_n, gp_i v3, gp_l (w0 ||| w1), gp_n, gp_l v6, gp_n, gp_i v8, gp_i v9, gp_i v10, gp_i v11, gp_i v12, gp_i v13, gp_l v14, gp_n, gp_i v16]) (s1 := [gp_l v6]) (s2 := [gp_l v6]) rfl gs_b2 (fun hc => ?_) (fun hc => ?_)
  · replace H := H.2 hc
    refine gs_E.stp (pc' := 208) (ls' := [gp_r (some 74), gp_l v1, gp_n, gp_i v3, gp_l (w0 ||| w1), gp_n, gp_l v6, gp_n, gp_i v8, gp_i v9, gp_i v10, gp_i v11, gp_i v12, gp_i v13, gp_l v14, gp_n, gp_i v16]) (st' := [gp_l (0#64), gp_l v6]) (s' := s) 1 rfl ?_
    exact H
  · replace H := H.1 (Decidable.byContradiction hc)
    refine gs_E.stp (pc' := 208) (ls' := [gp_r (some 74), gp_l v1, gp_n, gp_i v3, gp_l (w0 ||| w1), gp_n, gp_l v6, gp_n, gp_i v8, gp_i v9, gp_i v10, gp_i v11, gp_i v12, gp_i v13, gp_l v14, gp_n, gp_i v16]) (st' := [gp_l ((1#64) <<< (v16 % 64).toNat), gp_l v6]) (s' := s) 4 rfl ?_
    exact H

set_option maxRecDepth 100000 in
/-- GatheredPointsModel.played, pc 208 -/
theorem s_3142_208 {L d : Nat} {K : Option gV → gH → Prop} {s : gH} (v1 : BitVec 64) (v3 : Int) (v4 : BitVec 64) (v6 : BitVec 64) (v8 : Int) (v9 : Int) (v10 : Int) (v11 : Int) (v12 : Int) (v13 : Int) (v14 : BitVec 64) (v16 : Int) (w0 : BitVec 64) (w1 : BitVec 64) (H : ((v9 = 0 → ((v12 = 10 → gs_E L (d + 1) 3142 223 [gp_r (some 74), gp_l v1, gp_n, gp_i v3, gp_l v4, gp_n, gp_l (w0 ||| w1), gp_n, gp_i v8, gp_i v9, gp_i v10, gp_i v11, gp_i v12, gp_i v13, gp_l v14, gp_n, gp_i v16] [] s K) ∧ (¬ v12 = 10 → gs_E L (d + 1) 3142 228 [gp_r (some 74), gp_l v1, gp_n, gp_i v3, gp_l v4, gp_n, gp_l (w0 ||| w1), gp_n, gp_i v8, gp_i v9, gp_i v10, gp_i v11, gp_i v12, gp_i v13, gp_l v14, gp_n, gp_i v16] [gp_i 0] s K))) ∧ (¬ v9 = 0 → gs_E L (d + 1) 3142 223 [gp_r (some 74), gp_l v1, gp_n, gp_i v3, gp_l v4, gp_n, gp_l (w0 ||| w1), gp_n, gp_i v8, gp_i v9, gp_i v10, gp_i v11, gp_i v12, gp_i v13, gp_l v14, gp_n, gp_i v16] [] s K))) : gs_E L (d + 1) 3142 208 [gp_r (some 74), gp_l v1, gp_n, gp_i v3, gp_l v4, gp_n, gp_l v6, gp_n, gp_i v8, gp_i v9, gp_i v10, gp_i v11, gp_i v12, gp_i v13, gp_l v14, gp_n, gp_i v16] [gp_l w1, gp_l w0] s K := by
  refine gs_E.stp (pc' := 213) (ls' := [gp_r (some 74), gp_l v1, gp_n, gp_i v3, gp_l v4, gp_n, gp_l (w0 ||| w1), gp_n, gp_i v8, gp_i v9, gp_i v10, gp_i v11, gp_i v12, gp_i v13, gp_l v14, gp_n, gp_i v16]) (st' := [gp_i v9]) (s' := s) 3 rfl ?_
  refine gs_E.br (c := ¬ v9 = 0) (p1 := 223) (p2 := 216) (l1 := [gp_r (some 74), gp_l v1, gp_n, gp_i v3, gp_l v4, gp_n, gp_l (w0 ||| w1), gp_n, gp_i v8, gp_i v9, gp_i v10, gp_i v11, gp_i v12, gp_i v13, gp_l v14, gp_n, gp_i v16]) (l2 := [gp_r (some 74), gp_l v1, gp_n, gp_i v3, gp_l v4, gp_n, gp_l (w0 ||| w1), gp_n, gp_i v8, gp_i v9, gp_i v10, gp_i v11, gp_i v12, gp_i v13, gp_l v14, gp_n, gp_i v16]) (s1 := []) (s2 := []) rfl gs_b2 (fun hc => ?_) (fun hc => ?_)
  · replace H := H.2 hc
    exact H
  · replace H := H.1 (Decidable.byContradiction hc)
    refine gs_E.stp (pc' := 220) (ls' := [gp_r (some 74), gp_l v1, gp_n, gp_i v3, gp_l v4, gp_n, gp_l (w0 ||| w1), gp_n, gp_i v8, gp_i v9, gp_i v10, gp_i v11, gp_i v12, gp_i v13, gp_l v14, gp_n, gp_i v16]) (st' := [gp_i 10, gp_i v12]) (s' := s) 2 rfl ?_
    refine gs_E.br (c := ¬ v12 = 10) (p1 := 227) (p2 := 223) (l1 := [gp_r (some 74), gp_l v1, gp_n, gp_i v3, gp_l v4, gp_n, gp_l (w0 ||| w1), gp_n, gp_i v8, gp_i v9, gp_i v10, gp_i v11, gp_i v12, gp_i v13, gp_l v14, gp_n, gp_i v16]) (l2 := [gp_r (some 74), gp_l v1, gp_n, gp_i v3, gp_l v4, gp_n, gp_l (w0 ||| w1), gp_n, gp_i v8, gp_i v9, gp_i v10, gp_i v11, gp_i v12, gp_i v13, gp_l v14, gp_n, gp_i v16]) (s1 := []) (s2 := []) rfl gs_b2 (fun hc => ?_) (fun hc => ?_)
    · replace H := H.2 hc
      refine gs_E.stp (pc' := 228) (ls' := [gp_r (some 74), gp_l v1, gp_n, gp_i v3, gp_l v4, gp_n, gp_l (w0 ||| w1), gp_n, gp_i v8, gp_i v9, gp_i v10, gp_i v11, gp_i v12, gp_i v13, gp_l v14, gp_n, gp_i v16]) (st' := [gp_i 0]) (s' := s) 1 rfl ?_
      exact H
    · replace H := H.1 (Decidable.byContradiction hc)
      exact H

set_option maxRecDepth 100000 in
/-- GatheredPointsModel.played, pc 223 -/
theorem s_3142_223 {L d : Nat} {K : Option gV → gH → Prop} {s : gH} (v1 : BitVec 64) (v3 : Int) (v4 : BitVec 64) (v6 : BitVec 64) (v8 : Int) (v9 : Int) (v10 : Int) (v11 : Int) (v12 : Int) (v13 : Int) (v14 : BitVec 64) (v16 : Int) (H : gs_E L (d + 1) 3142 228 [gp_r (some 74), gp_l v1, gp_n, gp_i v3, gp_l v4, gp_n, gp_l v6, gp_n, gp_i v8, gp_i v9, gp_i v10, gp_i v11, gp_i v12, gp_i v13, gp_l v14, gp_n, gp_i v16] [gp_i 1] s K) : gs_E L (d + 1) 3142 223 [gp_r (some 74), gp_l v1, gp_n, gp_i v3, gp_l v4, gp_n, gp_l v6, gp_n, gp_i v8, gp_i v9, gp_i v10, gp_i v11, gp_i v12, gp_i v13, gp_l v14, gp_n, gp_i v16] [] s K := by
  refine gs_E.stp (pc' := 228) (ls' := [gp_r (some 74), gp_l v1, gp_n, gp_i v3, gp_l v4, gp_n, gp_l v6, gp_n, gp_i v8, gp_i v9, gp_i v10, gp_i v11, gp_i v12, gp_i v13, gp_l v14, gp_n, gp_i v16]) (st' := [gp_i 1]) (s' := s) 2 rfl ?_
  exact H

set_option maxRecDepth 100000 in
/-- GatheredPointsModel.played, pc 228 -/
theorem s_3142_228 {L d : Nat} {K : Option gV → gH → Prop} {s : gH} (v1 : BitVec 64) (v3 : Int) (v4 : BitVec 64) (v6 : BitVec 64) (v8 : Int) (v9 : Int) (v10 : Int) (v11 : Int) (v12 : Int) (v13 : Int) (v14 : BitVec 64) (v16 : Int) (w0 : Int) (H : ((v10 = 0 → ((v12 = 11 → gs_E L (d + 1) 3142 242 [gp_r (some 74), gp_l v1, gp_n, gp_i v3, gp_l v4, gp_n, gp_l v6, gp_n, gp_i v8, gp_i w0, gp_i v10, gp_i v11, gp_i v12, gp_i v13, gp_l v14, gp_n, gp_i v16] [] s K) ∧ (¬ v12 = 11 → gs_E L (d + 1) 3142 247 [gp_r (some 74), gp_l v1, gp_n, gp_i v3, gp_l v4, gp_n, gp_l v6, gp_n, gp_i v8, gp_i w0, gp_i v10, gp_i v11, gp_i v12, gp_i v13, gp_l v14, gp_n, gp_i v16] [gp_i 0] s K))) ∧ (¬ v10 = 0 → gs_E L (d + 1) 3142 242 [gp_r (some 74), gp_l v1, gp_n, gp_i v3, gp_l v4, gp_n, gp_l v6, gp_n, gp_i v8, gp_i w0, gp_i v10, gp_i v11, gp_i v12, gp_i v13, gp_l v14, gp_n, gp_i v16] [] s K))) : gs_E L (d + 1) 3142 228 [gp_r (some 74), gp_l v1, gp_n, gp_i v3, gp_l v4, gp_n, gp_l v6, gp_n, gp_i v8, gp_i v9, gp_i v10, gp_i v11, gp_i v12, gp_i v13, gp_l v14, gp_n, gp_i v16] [gp_i w0] s K := by
  refine gs_E.stp (pc' := 232) (ls' := [gp_r (some 74), gp_l v1, gp_n, gp_i v3, gp_l v4, gp_n, gp_l v6, gp_n, gp_i v8, gp_i w0, gp_i v10, gp_i v11, gp_i v12, gp_i v13, gp_l v14, gp_n, gp_i v16]) (st' := [gp_i v10]) (s' := s) 2 rfl ?_
  refine gs_E.br (c := ¬ v10 = 0) (p1 := 242) (p2 := 235) (l1 := [gp_r (some 74), gp_l v1, gp_n, gp_i v3, gp_l v4, gp_n, gp_l v6, gp_n, gp_i v8, gp_i w0, gp_i v10, gp_i v11, gp_i v12, gp_i v13, gp_l v14, gp_n, gp_i v16]) (l2 := [gp_r (some 74), gp_l v1, gp_n, gp_i v3, gp_l v4, gp_n, gp_l v6, gp_n, gp_i v8, gp_i w0, gp_i v10, gp_i v11, gp_i v12, gp_i v13, gp_l v14, gp_n, gp_i v16]) (s1 := []) (s2 := []) rfl gs_b2 (fun hc => ?_) (fun hc => ?_)
  · replace H := H.2 hc
    exact H
  · replace H := H.1 (Decidable.byContradiction hc)
    refine gs_E.stp (pc' := 239) (ls' := [gp_r (some 74), gp_l v1, gp_n, gp_i v3, gp_l v4, gp_n, gp_l v6, gp_n, gp_i v8, gp_i w0, gp_i v10, gp_i v11, gp_i v12, gp_i v13, gp_l v14, gp_n, gp_i v16]) (st' := [gp_i 11, gp_i v12]) (s' := s) 2 rfl ?_
    refine gs_E.br (c := ¬ v12 = 11) (p1 := 246) (p2 := 242) (l1 := [gp_r (some 74), gp_l v1, gp_n, gp_i v3, gp_l v4, gp_n, gp_l v6, gp_n, gp_i v8, gp_i w0, gp_i v10, gp_i v11, gp_i v12, gp_i v13, gp_l v14, gp_n, gp_i v16]) (l2 := [gp_r (some 74), gp_l v1, gp_n, gp_i v3, gp_l v4, gp_n, gp_l v6, gp_n, gp_i v8, gp_i w0, gp_i v10, gp_i v11, gp_i v12, gp_i v13, gp_l v14, gp_n, gp_i v16]) (s1 := []) (s2 := []) rfl gs_b2 (fun hc => ?_) (fun hc => ?_)
    · replace H := H.2 hc
      refine gs_E.stp (pc' := 247) (ls' := [gp_r (some 74), gp_l v1, gp_n, gp_i v3, gp_l v4, gp_n, gp_l v6, gp_n, gp_i v8, gp_i w0, gp_i v10, gp_i v11, gp_i v12, gp_i v13, gp_l v14, gp_n, gp_i v16]) (st' := [gp_i 0]) (s' := s) 1 rfl ?_
      exact H
    · replace H := H.1 (Decidable.byContradiction hc)
      exact H

set_option maxRecDepth 100000 in
/-- GatheredPointsModel.played, pc 242 -/
theorem s_3142_242 {L d : Nat} {K : Option gV → gH → Prop} {s : gH} (v1 : BitVec 64) (v3 : Int) (v4 : BitVec 64) (v6 : BitVec 64) (v8 : Int) (v9 : Int) (v10 : Int) (v11 : Int) (v12 : Int) (v13 : Int) (v14 : BitVec 64) (v16 : Int) (H : gs_E L (d + 1) 3142 247 [gp_r (some 74), gp_l v1, gp_n, gp_i v3, gp_l v4, gp_n, gp_l v6, gp_n, gp_i v8, gp_i v9, gp_i v10, gp_i v11, gp_i v12, gp_i v13, gp_l v14, gp_n, gp_i v16] [gp_i 1] s K) : gs_E L (d + 1) 3142 242 [gp_r (some 74), gp_l v1, gp_n, gp_i v3, gp_l v4, gp_n, gp_l v6, gp_n, gp_i v8, gp_i v9, gp_i v10, gp_i v11, gp_i v12, gp_i v13, gp_l v14, gp_n, gp_i v16] [] s K := by
  refine gs_E.stp (pc' := 247) (ls' := [gp_r (some 74), gp_l v1, gp_n, gp_i v3, gp_l v4, gp_n, gp_l v6, gp_n, gp_i v8, gp_i v9, gp_i v10, gp_i v11, gp_i v12, gp_i v13, gp_l v14, gp_n, gp_i v16]) (st' := [gp_i 1]) (s' := s) 2 rfl ?_
  exact H

set_option maxRecDepth 100000 in
/-- GatheredPointsModel.played, pc 247 -/
theorem s_3142_247 {L d : Nat} {K : Option gV → gH → Prop} {s : gH} (v1 : BitVec 64) (v3 : Int) (v4 : BitVec 64) (v6 : BitVec 64) (v8 : Int) (v9 : Int) (v10 : Int) (v11 : Int) (v12 : Int) (v13 : Int) (v14 : BitVec 64) (v16 : Int) (w0 : Int) (H : gs_E L (d + 1) 3142 249 [gp_r (some 74), gp_l v1, gp_n, gp_i v3, gp_l v4, gp_n, gp_l v6, gp_n, gp_i v8, gp_i v9, gp_i w0, gp_i v11, gp_i v12, gp_i v13, gp_l v14, gp_n, gp_i v16] [] s K) : gs_E L (d + 1) 3142 247 [gp_r (some 74), gp_l v1, gp_n, gp_i v3, gp_l v4, gp_n, gp_l v6, gp_n, gp_i v8, gp_i v9, gp_i v10, gp_i v11, gp_i v12, gp_i v13, gp_l v14, gp_n, gp_i v16] [gp_i w0] s K := by
  refine gs_E.stp (pc' := 249) (ls' := [gp_r (some 74), gp_l v1, gp_n, gp_i v3, gp_l v4, gp_n, gp_l v6, gp_n, gp_i v8, gp_i v9, gp_i w0, gp_i v11, gp_i v12, gp_i v13, gp_l v14, gp_n, gp_i v16]) (st' := []) (s' := s) 1 rfl ?_
  exact H

set_option maxRecDepth 100000 in
/-- GatheredPointsModel.played, pc 249 -/
theorem s_3142_249 {L d : Nat} {K : Option gV → gH → Prop} {s : gH} (v1 : BitVec 64) (v3 : Int) (v4 : BitVec 64) (v6 : BitVec 64) (v8 : Int) (v9 : Int) (v10 : Int) (v11 : Int) (v12 : Int) (v13 : Int) (v14 : gV) (v15 : gV) (v16 : gV) (H : gs_E L (d + 1) 3142 18 [gp_r (some 74), gp_l v1, gp_n, gp_i v3, gp_l v4, gp_n, gp_l v6, gp_n, gp_i v8, gp_i v9, gp_i v10, gp_i (gp_wr (v11 + 1)), gp_i v12, gp_i v13, v14, v15, v16] [] s K) : gs_E L (d + 1) 3142 249 [gp_r (some 74), gp_l v1, gp_n, gp_i v3, gp_l v4, gp_n, gp_l v6, gp_n, gp_i v8, gp_i v9, gp_i v10, gp_i v11, gp_i v12, gp_i v13, v14, v15, v16] [] s K := by
  refine gs_E.stp (pc' := 18) (ls' := [gp_r (some 74), gp_l v1, gp_n, gp_i v3, gp_l v4, gp_n, gp_l v6, gp_n, gp_i v8, gp_i v9, gp_i v10, gp_i (gp_wr (v11 + 1)), gp_i v12, gp_i v13, v14, v15, v16]) (st' := []) (s' := s) 2 rfl ?_
  exact H

set_option maxRecDepth 100000 in
/-- GatheredPointsModel.played, pc 278 -/
theorem s_3142_278 {L d : Nat} {K : Option gV → gH → Prop} {s : gH} (v1 : BitVec 64) (v3 : Int) (v4 : BitVec 64) (v6 : BitVec 64) (v8 : Int) (v9 : Int) (v10 : Int) (v11 : Int) (v12 : gV) (v13 : gV) (v14 : gV) (v15 : gV) (v16 : gV) (w1 : BitVec 64) (H : ((v10 = 0 → gs_E L (d + 1) 3142 289 [gp_r (some 74), gp_l v1, gp_n, gp_i v3, gp_l v4, gp_n, gp_l v6, gp_n, gp_i v8, gp_i v9, gp_i v10, gp_i v11, v12, v13, v14, v15, v16] [gp_l (0#64), gp_l w1, gp_r (some 74)] s K) ∧ (¬ v10 = 0 → gs_E L (d + 1) 3142 289 [gp_r (some 74), gp_l v1, gp_n, gp_i v3, gp_l v4, gp_n, gp_l v6, gp_n, gp_i v8, gp_i v9, gp_i v10, gp_i v11, v12, v13, v14, v15, v16] [gp_l v6, gp_l w1, gp_r (some 74)] s K))) : gs_E L (d + 1) 3142 278 [gp_r (some 74), gp_l v1, gp_n, gp_i v3, gp_l v4, gp_n, gp_l v6, gp_n, gp_i v8, gp_i v9, gp_i v10, gp_i v11, v12, v13, v14, v15, v16] [gp_l w1, gp_r (some 74)] s K := by
  refine gs_E.stp (pc' := 280) (ls' := [gp_r (some 74), gp_l v1, gp_n, gp_i v3, gp_l v4, gp_n, gp_l v6, gp_n, gp_i v8, gp_i v9, gp_i v10, gp_i v11, v12, v13, v14, v15, v16]) (st' := [gp_i v10, gp_l w1, gp_r (some 74)]) (s' := s) 1 rfl ?_
  refine gs_E.br (c := v10 = 0) (p1 := 288) (p2 := 283) (l1 := [gp_r (some 74), gp_l v1, gp_n, gp_i v3, gp_l v4, gp_n, gp_l v6, gp_n, gp_i v8, gp_i v9, gp_i v10, gp_i v11, v12, v13, v14, v15, v16]) (l2 := [gp_r (some 74), gp_l v1, gp_n, gp_i v3, gp_l v4, gp_n, gp_l v6, gp_n, gp_i v8, gp_i v9, gp_i v10, gp_i v11, v12, v13, v14, v15, v16]) (s1 := [gp_l w1, gp_r (some 74)]) (s2 := [gp_l w1, gp_r (some 74)]) rfl gs_b1 (fun hc => ?_) (fun hc => ?_)
  · replace H := H.1 hc
    refine gs_E.stp (pc' := 289) (ls' := [gp_r (some 74), gp_l v1, gp_n, gp_i v3, gp_l v4, gp_n, gp_l v6, gp_n, gp_i v8, gp_i v9, gp_i v10, gp_i v11, v12, v13, v14, v15, v16]) (st' := [gp_l (0#64), gp_l w1, gp_r (some 74)]) (s' := s) 1 rfl ?_
    exact H
  · replace H := H.2 hc
    refine gs_E.stp (pc' := 289) (ls' := [gp_r (some 74), gp_l v1, gp_n, gp_i v3, gp_l v4, gp_n, gp_l v6, gp_n, gp_i v8, gp_i v9, gp_i v10, gp_i v11, v12, v13, v14, v15, v16]) (st' := [gp_l v6, gp_l w1, gp_r (some 74)]) (s' := s) 2 rfl ?_
    exact H

set_option maxRecDepth 100000 in
/-- GatheredPointsModel.played, pc 289 -/
theorem s_3142_289 {L d : Nat} {K : Option gV → gH → Prop} {s : gH} (v1 : BitVec 64) (v3 : Int) (v4 : BitVec 64) (v6 : BitVec 64) (v8 : Int) (v9 : Int) (v10 : Int) (v11 : Int) (v12 : gV) (v13 : gV) (v14 : gV) (v15 : gV) (v16 : gV) (w1 : BitVec 64) (w2 : BitVec 64) (H : gs_C L d 3088 9 [gp_r (some 74), gp_l w1, gp_l w2, gp_i (gp_wr (v3 - v8)), gp_i (gp_wr (v3 + v8))] s (fun r s1 => ∃ x2, r = some (gp_i x2) ∧ gs_E L (d + 1) 3142 300 [gp_r (some 74), gp_l v1, gp_n, gp_i v3, gp_l v4, gp_n, gp_l v6, gp_n, gp_i v8, gp_i v9, gp_i v10, gp_i v11, v12, v13, v14, v15, v16] [gp_i x2] s1 K)) : gs_E L (d + 1) 3142 289 [gp_r (some 74), gp_l v1, gp_n, gp_i v3, gp_l v4, gp_n, gp_l v6, gp_n, gp_i v8, gp_i v9, gp_i v10, gp_i v11, v12, v13, v14, v15, v16] [gp_l w2, gp_l w1, gp_r (some 74)] s K := by
  refine gs_E.stp (pc' := 297) (ls' := [gp_r (some 74), gp_l v1, gp_n, gp_i v3, gp_l v4, gp_n, gp_l v6, gp_n, gp_i v8, gp_i v9, gp_i v10, gp_i v11, v12, v13, v14, v15, v16]) (st' := [gp_i (gp_wr (v3 + v8)), gp_i (gp_wr (v3 - v8)), gp_l w2, gp_l w1, gp_r (some 74)]) (s' := s) 6 rfl ?_
  refine gs_E.call (args := [gp_r (some 74), gp_l w1, gp_l w2, gp_i (gp_wr (v3 - v8)), gp_i (gp_wr (v3 + v8))]) (m := 9) (y' := 3088) (st' := []) rfl H (fun r s1 H => ?_)
  obtain ⟨x2, rfl, H⟩ := H
  show gs_E L (d + 1) 3142 300 [gp_r (some 74), gp_l v1, gp_n, gp_i v3, gp_l v4, gp_n, gp_l v6, gp_n, gp_i v8, gp_i v9, gp_i v10, gp_i v11, v12, v13, v14, v15, v16] [gp_i x2] s1 K
  exact H

set_option maxRecDepth 100000 in
/-- GatheredPointsModel.played, pc 300 -/
theorem s_3142_300 {L d : Nat} {K : Option gV → gH → Prop} {s : gH} (v1 : BitVec 64) (v3 : Int) (v4 : BitVec 64) (v6 : BitVec 64) (v8 : Int) (v9 : Int) (v10 : Int) (v11 : Int) (v12 : gV) (v13 : gV) (v14 : gV) (v15 : gV) (v16 : gV) (w0 : Int) (H : K (some (gp_i w0)) s) : gs_E L (d + 1) 3142 300 [gp_r (some 74), gp_l v1, gp_n, gp_i v3, gp_l v4, gp_n, gp_l v6, gp_n, gp_i v8, gp_i v9, gp_i v10, gp_i v11, v12, v13, v14, v15, v16] [gp_i w0] s K := by
  exact gs_E.ret (r := (some (gp_i w0))) rfl H

set_option maxRecDepth 100000 in
/-- GatheredPointsModel.strip, pc 0 -/
theorem s_3143_e {L d : Nat} {K : Option gV → gH → Prop} {s : gH} (p0 : Int) (H : gs_C L d 3075 1 [gp_i p0] s (fun r s1 => ∃ x2, r = some (gp_i x2) ∧ ((x2 = 0 → gs_C L d 3074 2 [gp_r (some 74), gp_i 1] s1 (fun r s4 => ∃ x5, r = some (gp_i x5) ∧ K (some (gp_i x5)) s4)) ∧ (¬ x2 = 0 → (∀ s3, s3 = gp_wI s1 74 11 0 → gs_E L (d + 1) 3143 28 [gp_r (some 74), gp_i p0, gp_i (gp_I s1 74 11), gp_l (0#64), gp_n, gp_i 0, gp_n, gp_n] [] s3 K))))) : gs_C L (d + 1) 3143 8 [gp_r (some 74), gp_i p0] s K := by
  show gs_E L (d + 1) 3143 0 [gp_r (some 74), gp_i p0, gp_n, gp_n, gp_n, gp_n, gp_n, gp_n] [] s K
  refine gs_E.stp (pc' := 1) (ls' := [gp_r (some 74), gp_i p0, gp_n, gp_n, gp_n, gp_n, gp_n, gp_n]) (st' := [gp_i p0]) (s' := s) 1 rfl ?_
  refine gs_E.call (args := [gp_i p0]) (m := 1) (y' := 3075) (st' := []) rfl H (fun r s1 H => ?_)
  obtain ⟨x2, rfl, H⟩ := H
  show gs_E L (d + 1) 3143 4 [gp_r (some 74), gp_i p0, gp_n, gp_n, gp_n, gp_n, gp_n, gp_n] [gp_i x2] s1 K
  refine gs_E.br (c := ¬ x2 = 0) (p1 := 13) (p2 := 7) (l1 := [gp_r (some 74), gp_i p0, gp_n, gp_n, gp_n, gp_n, gp_n, gp_n]) (l2 := [gp_r (some 74), gp_i p0, gp_n, gp_n, gp_n, gp_n, gp_n, gp_n]) (s1 := []) (s2 := []) rfl gs_b2 (fun hc => ?_) (fun hc => ?_)
  · replace H := H.2 hc
    refine gs_E.stp (pc' := 23) (ls' := [gp_r (some 74), gp_i p0, gp_i (gp_I s1 74 11), gp_n, gp_n, gp_n, gp_n, gp_n]) (st' := []) (s' := gp_wI s1 74 11 0) 6 rfl ?_
    replace H := H _ rfl
    generalize gp_wI s1 74 11 0 = s3 at H ⊢
    refine gs_E.stp (pc' := 28) (ls' := [gp_r (some 74), gp_i p0, gp_i (gp_I s1 74 11), gp_l (0#64), gp_n, gp_i 0, gp_n, gp_n]) (st' := []) (s' := s3) 4 rfl ?_
    exact H
  · replace H := H.1 (Decidable.byContradiction hc)
    refine gs_E.stp (pc' := 9) (ls' := [gp_r (some 74), gp_i p0, gp_n, gp_n, gp_n, gp_n, gp_n, gp_n]) (st' := [gp_i 1, gp_r (some 74)]) (s' := s1) 2 rfl ?_
    refine gs_E.call (args := [gp_r (some 74), gp_i 1]) (m := 2) (y' := 3074) (st' := []) rfl H (fun r s4 H => ?_)
    obtain ⟨x5, rfl, H⟩ := H
    show gs_E L (d + 1) 3143 12 [gp_r (some 74), gp_i p0, gp_n, gp_n, gp_n, gp_n, gp_n, gp_n] [gp_i x5] s4 K
    exact gs_E.ret (r := (some (gp_i x5))) rfl H

set_option maxRecDepth 100000 in
/-- GatheredPointsModel.strip, pc 28 -/
theorem s_3143_28 {L d : Nat} {K : Option gV → gH → Prop} {s : gH} (v1 : Int) (v2 : Int) (v3 : BitVec 64) (v5 : Int) (v6 : gV) (v7 : gV) (H : ((v5 < v2 → gs_E L (d + 1) 3143 39 [gp_r (some 74), gp_i v1, gp_i v2, gp_l v3, gp_n, gp_i v5, v6, v7] [] s K) ∧ (¬ v5 < v2 → ((v5 = 0 → gs_E L (d + 1) 3143 39 [gp_r (some 74), gp_i v1, gp_i v2, gp_l v3, gp_n, gp_i v5, v6, v7] [] s K) ∧ (¬ v5 = 0 → (∀ s1, s1 = gp_wI s 74 46 v2 → gs_C L d 3085 1 [gp_r (some 74)] s1 (fun r s2 => r = none ∧ gs_C L d 3142 17 [gp_r (some 74), gp_l v3, gp_i 0] s2 (fun r s3 => ∃ x4, r = some (gp_i x4) ∧ gs_C L d 3119 2 [gp_r (some 74), gp_i x4] s3 (fun r s5 => ∃ x6, r = some (gp_i x6) ∧ ((x6 = 4 → gs_C L d 3074 2 [gp_r (some 74), gp_i 4] s5 (fun r s9 => ∃ x10, r = some (gp_i x10) ∧ gs_E L (d + 1) 3143 193 [gp_r (some 74), gp_i v1, gp_i v2, gp_l v3, gp_n, gp_i x4, v6, v7] [gp_i x10] s9 K)) ∧ (¬ x6 = 4 → gs_C L d 3123 2 [gp_r (some 74), gp_i v1] s5 (fun r s7 => ∃ x8, r = some (gp_i x8) ∧ gs_E L (d + 1) 3143 193 [gp_r (some 74), gp_i v1, gp_i v2, gp_l v3, gp_n, gp_i x4, v6, v7] [gp_i x8] s7 K)))))))))))) : gs_E L (d + 1) 3143 28 [gp_r (some 74), gp_i v1, gp_i v2, gp_l v3, gp_n, gp_i v5, v6, v7] [] s K := by
  refine gs_E.stp (pc' := 31) (ls' := [gp_r (some 74), gp_i v1, gp_i v2, gp_l v3, gp_n, gp_i v5, v6, v7]) (st' := [gp_i v2, gp_i v5]) (s' := s) 2 rfl ?_
  refine gs_E.br (c := v5 < v2) (p1 := 39) (p2 := 34) (l1 := [gp_r (some 74), gp_i v1, gp_i v2, gp_l v3, gp_n, gp_i v5, v6, v7]) (l2 := [gp_r (some 74), gp_i v1, gp_i v2, gp_l v3, gp_n, gp_i v5, v6, v7]) (s1 := []) (s2 := []) rfl gs_b1 (fun hc => ?_) (fun hc => ?_)
  · replace H := H.1 hc
    exact H
  · replace H := H.2 hc
    refine gs_E.stp (pc' := 36) (ls' := [gp_r (some 74), gp_i v1, gp_i v2, gp_l v3, gp_n, gp_i v5, v6, v7]) (st' := [gp_i v5]) (s' := s) 1 rfl ?_
    refine gs_E.br (c := ¬ v5 = 0) (p1 := 153) (p2 := 39) (l1 := [gp_r (some 74), gp_i v1, gp_i v2, gp_l v3, gp_n, gp_i v5, v6, v7]) (l2 := [gp_r (some 74), gp_i v1, gp_i v2, gp_l v3, gp_n, gp_i v5, v6, v7]) (s1 := []) (s2 := []) rfl gs_b2 (fun hc => ?_) (fun hc => ?_)
    · replace H := H.2 hc
      refine gs_E.stp (pc' := 158) (ls' := [gp_r (some 74), gp_i v1, gp_i v2, gp_l v3, gp_n, gp_i v5, v6, v7]) (st' := []) (s' := gp_wI s 74 46 v2) 3 rfl ?_
      replace H := H _ rfl
      generalize gp_wI s 74 46 v2 = s1 at H ⊢
      refine gs_E.stp (pc' := 159) (ls' := [gp_r (some 74), gp_i v1, gp_i v2, gp_l v3, gp_n, gp_i v5, v6, v7]) (st' := [gp_r (some 74)]) (s' := s1) 1 rfl ?_
      refine gs_E.call (args := [gp_r (some 74)]) (m := 1) (y' := 3085) (st' := []) rfl H (fun r s2 H => ?_)
      obtain ⟨rfl, H⟩ := H
      show gs_E L (d + 1) 3143 162 [gp_r (some 74), gp_i v1, gp_i v2, gp_l v3, gp_n, gp_i v5, v6, v7] [] s2 K
      refine gs_E.stp (pc' := 165) (ls' := [gp_r (some 74), gp_i v1, gp_i v2, gp_l v3, gp_n, gp_i v5, v6, v7]) (st' := [gp_i 0, gp_l v3, gp_r (some 74)]) (s' := s2) 3 rfl ?_
      refine gs_E.call (args := [gp_r (some 74), gp_l v3, gp_i 0]) (m := 17) (y' := 3142) (st' := []) rfl H (fun r s3 H => ?_)
      obtain ⟨x4, rfl, H⟩ := H
      show gs_E L (d + 1) 3143 168 [gp_r (some 74), gp_i v1, gp_i v2, gp_l v3, gp_n, gp_i v5, v6, v7] [gp_i x4] s3 K
      refine gs_E.stp (pc' := 173) (ls' := [gp_r (some 74), gp_i v1, gp_i v2, gp_l v3, gp_n, gp_i x4, v6, v7]) (st' := [gp_i x4, gp_r (some 74)]) (s' := s3) 3 rfl ?_
      refine gs_E.call (args := [gp_r (some 74), gp_i x4]) (m := 2) (y' := 3119) (st' := []) rfl H (fun r s5 H => ?_)
      obtain ⟨x6, rfl, H⟩ := H
      show gs_E L (d + 1) 3143 176 [gp_r (some 74), gp_i v1, gp_i v2, gp_l v3, gp_n, gp_i x4, v6, v7] [gp_i x6] s5 K
      refine gs_E.stp (pc' := 177) (ls' := [gp_r (some 74), gp_i v1, gp_i v2, gp_l v3, gp_n, gp_i x4, v6, v7]) (st' := [gp_i 4, gp_i x6]) (s' := s5) 1 rfl ?_
      refine gs_E.br (c := ¬ x6 = 4) (p1 := 188) (p2 := 180) (l1 := [gp_r (some 74), gp_i v1, gp_i v2, gp_l v3, gp_n, gp_i x4, v6, v7]) (l2 := [gp_r (some 74), gp_i v1, gp_i v2, gp_l v3, gp_n, gp_i x4, v6, v7]) (s1 := []) (s2 := []) rfl gs_b2 (fun hc => ?_) (fun hc => ?_)
      · replace H := H.2 hc
        refine gs_E.stp (pc' := 190) (ls' := [gp_r (some 74), gp_i v1, gp_i v2, gp_l v3, gp_n, gp_i x4, v6, v7]) (st' := [gp_i v1, gp_r (some 74)]) (s' := s5) 2 rfl ?_
        refine gs_E.call (args := [gp_r (some 74), gp_i v1]) (m := 2) (y' := 3123) (st' := []) rfl H (fun r s7 H => ?_)
        obtain ⟨x8, rfl, H⟩ := H
        show gs_E L (d + 1) 3143 193 [gp_r (some 74), gp_i v1, gp_i v2, gp_l v3, gp_n, gp_i x4, v6, v7] [gp_i x8] s7 K
        exact H
      · replace H := H.1 (Decidable.byContradiction hc)
        refine gs_E.stp (pc' := 182) (ls' := [gp_r (some 74), gp_i v1, gp_i v2, gp_l v3, gp_n, gp_i x4, v6, v7]) (st' := [gp_i 4, gp_r (some 74)]) (s' := s5) 2 rfl ?_
        refine gs_E.call (args := [gp_r (some 74), gp_i 4]) (m := 2) (y' := 3074) (st' := []) rfl H (fun r s9 H => ?_)
        obtain ⟨x10, rfl, H⟩ := H
        show gs_E L (d + 1) 3143 185 [gp_r (some 74), gp_i v1, gp_i v2, gp_l v3, gp_n, gp_i x4, v6, v7] [gp_i x10] s9 K
        refine gs_E.stp (pc' := 193) (ls' := [gp_r (some 74), gp_i v1, gp_i v2, gp_l v3, gp_n, gp_i x4, v6, v7]) (st' := [gp_i x10]) (s' := s9) 1 rfl ?_
        exact H
    · replace H := H.1 (Decidable.byContradiction hc)
      exact H

set_option maxRecDepth 100000 in
/-- GatheredPointsModel.strip, pc 39 -/
theorem s_3143_39 {L d : Nat} {K : Option gV → gH → Prop} {s : gH} (v1 : Int) (v2 : Int) (v3 : BitVec 64) (v5 : Int) (v6 : gV) (v7 : gV) (H : ((v5 < v2 → ((0 ≤ v5 ∧ v5 < 100) ∧ gs_E L (d + 1) 3143 56 [gp_r (some 74), gp_i v1, gp_i v2, gp_l v3, gp_n, gp_i v5, v6, v7] [gp_i (gp_I s 82 v5.toNat)] s K)) ∧ (¬ v5 < v2 → gs_E L (d + 1) 3143 56 [gp_r (some 74), gp_i v1, gp_i v2, gp_l v3, gp_n, gp_i v5, v6, v7] [gp_i (-1)] s K))) : gs_E L (d + 1) 3143 39 [gp_r (some 74), gp_i v1, gp_i v2, gp_l v3, gp_n, gp_i v5, v6, v7] [] s K := by
  refine gs_E.stp (pc' := 42) (ls' := [gp_r (some 74), gp_i v1, gp_i v2, gp_l v3, gp_n, gp_i v5, v6, v7]) (st' := [gp_i v2, gp_i v5]) (s' := s) 2 rfl ?_
  refine gs_E.br (c := ¬ v5 < v2) (p1 := 55) (p2 := 45) (l1 := [gp_r (some 74), gp_i v1, gp_i v2, gp_l v3, gp_n, gp_i v5, v6, v7]) (l2 := [gp_r (some 74), gp_i v1, gp_i v2, gp_l v3, gp_n, gp_i v5, v6, v7]) (s1 := []) (s2 := []) rfl gs_b2 (fun hc => ?_) (fun hc => ?_)
  · replace H := H.2 hc
    refine gs_E.stp (pc' := 56) (ls' := [gp_r (some 74), gp_i v1, gp_i v2, gp_l v3, gp_n, gp_i v5, v6, v7]) (st' := [gp_i (-1)]) (s' := s) 1 rfl ?_
    exact H
  · replace H := H.1 (Decidable.byContradiction hc)
    refine gs_E.stp (pc' := 51) (ls' := [gp_r (some 74), gp_i v1, gp_i v2, gp_l v3, gp_n, gp_i v5, v6, v7]) (st' := [gp_i v5, gp_r (some 82)]) (s' := s) 3 rfl ?_
    refine gs_E.ck (pc' := 52) (ls' := [gp_r (some 74), gp_i v1, gp_i v2, gp_l v3, gp_n, gp_i v5, v6, v7]) (st' := [gp_i (gp_I s 82 v5.toNat)]) (s' := s) rfl (Or.inl ⟨rfl, H.1.1, H.1.2⟩) ?_
    replace H := H.2
    refine gs_E.stp (pc' := 56) (ls' := [gp_r (some 74), gp_i v1, gp_i v2, gp_l v3, gp_n, gp_i v5, v6, v7]) (st' := [gp_i (gp_I s 82 v5.toNat)]) (s' := s) 1 rfl ?_
    exact H

set_option maxRecDepth 100000 in
/-- GatheredPointsModel.strip, pc 56 -/
theorem s_3143_56 {L d : Nat} {K : Option gV → gH → Prop} {s : gH} (v1 : Int) (v2 : Int) (v3 : BitVec 64) (v5 : Int) (v6 : gV) (v7 : gV) (w0 : Int) (H : ((w0 = 108 → gs_E L (d + 1) 3143 86 [gp_r (some 74), gp_i v1, gp_i v2, gp_l v3, gp_n, gp_i v5, gp_i w0, v7] [] s K) ∧ (¬ w0 = 108 → ((w0 = 114 → gs_E L (d + 1) 3143 86 [gp_r (some 74), gp_i v1, gp_i v2, gp_l v3, gp_n, gp_i v5, gp_i w0, v7] [] s K) ∧ (¬ w0 = 114 → ((w0 < 48 → gs_E L (d + 1) 3143 90 [gp_r (some 74), gp_i v1, gp_i v2, gp_l v3, gp_n, gp_i v5, gp_i w0, v7] [] s K) ∧ (¬ w0 < 48 → ((57 < w0 → gs_E L (d + 1) 3143 90 [gp_r (some 74), gp_i v1, gp_i v2, gp_l v3, gp_n, gp_i v5, gp_i w0, v7] [] s K) ∧ (¬ 57 < w0 → gs_E L (d + 1) 3143 86 [gp_r (some 74), gp_i v1, gp_i v2, gp_l v3, gp_n, gp_i v5, gp_i w0, v7] [] s K))))))))) : gs_E L (d + 1) 3143 56 [gp_r (some 74), gp_i v1, gp_i v2, gp_l v3, gp_n, gp_i v5, v6, v7] [gp_i w0] s K := by
  refine gs_E.stp (pc' := 62) (ls' := [gp_r (some 74), gp_i v1, gp_i v2, gp_l v3, gp_n, gp_i v5, gp_i w0, v7]) (st' := [gp_i 108, gp_i w0]) (s' := s) 3 rfl ?_
  refine gs_E.br (c := w0 = 108) (p1 := 86) (p2 := 65) (l1 := [gp_r (some 74), gp_i v1, gp_i v2, gp_l v3, gp_n, gp_i v5, gp_i w0, v7]) (l2 := [gp_r (some 74), gp_i v1, gp_i v2, gp_l v3, gp_n, gp_i v5, gp_i w0, v7]) (s1 := []) (s2 := []) rfl gs_b1 (fun hc => ?_) (fun hc => ?_)
  · replace H := H.1 hc
    exact H
  · replace H := H.2 hc
    refine gs_E.stp (pc' := 69) (ls' := [gp_r (some 74), gp_i v1, gp_i v2, gp_l v3, gp_n, gp_i v5, gp_i w0, v7]) (st' := [gp_i 114, gp_i w0]) (s' := s) 2 rfl ?_
    refine gs_E.br (c := w0 = 114) (p1 := 86) (p2 := 72) (l1 := [gp_r (some 74), gp_i v1, gp_i v2, gp_l v3, gp_n, gp_i v5, gp_i w0, v7]) (l2 := [gp_r (some 74), gp_i v1, gp_i v2, gp_l v3, gp_n, gp_i v5, gp_i w0, v7]) (s1 := []) (s2 := []) rfl gs_b1 (fun hc => ?_) (fun hc => ?_)
    · replace H := H.1 hc
      exact H
    · replace H := H.2 hc
      refine gs_E.stp (pc' := 76) (ls' := [gp_r (some 74), gp_i v1, gp_i v2, gp_l v3, gp_n, gp_i v5, gp_i w0, v7]) (st' := [gp_i 48, gp_i w0]) (s' := s) 2 rfl ?_
      refine gs_E.br (c := w0 < 48) (p1 := 90) (p2 := 79) (l1 := [gp_r (some 74), gp_i v1, gp_i v2, gp_l v3, gp_n, gp_i v5, gp_i w0, v7]) (l2 := [gp_r (some 74), gp_i v1, gp_i v2, gp_l v3, gp_n, gp_i v5, gp_i w0, v7]) (s1 := []) (s2 := []) rfl gs_b1 (fun hc => ?_) (fun hc => ?_)
      · replace H := H.1 hc
        exact H
      · replace H := H.2 hc
        refine gs_E.stp (pc' := 83) (ls' := [gp_r (some 74), gp_i v1, gp_i v2, gp_l v3, gp_n, gp_i v5, gp_i w0, v7]) (st' := [gp_i 57, gp_i w0]) (s' := s) 2 rfl ?_
        refine gs_E.br (c := 57 < w0) (p1 := 90) (p2 := 86) (l1 := [gp_r (some 74), gp_i v1, gp_i v2, gp_l v3, gp_n, gp_i v5, gp_i w0, v7]) (l2 := [gp_r (some 74), gp_i v1, gp_i v2, gp_l v3, gp_n, gp_i v5, gp_i w0, v7]) (s1 := []) (s2 := []) rfl gs_b1 (fun hc => ?_) (fun hc => ?_)
        · replace H := H.1 hc
          exact H
        · replace H := H.2 hc
          exact H

set_option maxRecDepth 100000 in
/-- GatheredPointsModel.strip, pc 86 -/
theorem s_3143_86 {L d : Nat} {K : Option gV → gH → Prop} {s : gH} (v1 : Int) (v2 : Int) (v3 : BitVec 64) (v5 : Int) (v6 : Int) (v7 : gV) (H : gs_E L (d + 1) 3143 91 [gp_r (some 74), gp_i v1, gp_i v2, gp_l v3, gp_n, gp_i v5, gp_i v6, v7] [gp_i 1] s K) : gs_E L (d + 1) 3143 86 [gp_r (some 74), gp_i v1, gp_i v2, gp_l v3, gp_n, gp_i v5, gp_i v6, v7] [] s K := by
  refine gs_E.stp (pc' := 91) (ls' := [gp_r (some 74), gp_i v1, gp_i v2, gp_l v3, gp_n, gp_i v5, gp_i v6, v7]) (st' := [gp_i 1]) (s' := s) 2 rfl ?_
  exact H

set_option maxRecDepth 100000 in
/-- GatheredPointsModel.strip, pc 90 -/
theorem s_3143_90 {L d : Nat} {K : Option gV → gH → Prop} {s : gH} (v1 : Int) (v2 : Int) (v3 : BitVec 64) (v5 : Int) (v6 : Int) (v7 : gV) (H : gs_E L (d + 1) 3143 91 [gp_r (some 74), gp_i v1, gp_i v2, gp_l v3, gp_n, gp_i v5, gp_i v6, v7] [gp_i 0] s K) : gs_E L (d + 1) 3143 90 [gp_r (some 74), gp_i v1, gp_i v2, gp_l v3, gp_n, gp_i v5, gp_i v6, v7] [] s K := by
  refine gs_E.stp (pc' := 91) (ls' := [gp_r (some 74), gp_i v1, gp_i v2, gp_l v3, gp_n, gp_i v5, gp_i v6, v7]) (st' := [gp_i 0]) (s' := s) 1 rfl ?_
  exact H

set_option maxRecDepth 100000 in
/-- GatheredPointsModel.strip, pc 91 -/
theorem s_3143_91 {L d : Nat} {K : Option gV → gH → Prop} {s : gH} (v1 : Int) (v2 : Int) (v3 : BitVec 64) (v5 : Int) (v6 : Int) (v7 : gV) (w0 : Int) (H : ((w0 = 0 → gs_E L (d + 1) 3143 105 [gp_r (some 74), gp_i v1, gp_i v2, gp_l v3, gp_n, gp_i v5, gp_i v6, gp_i w0] [] s K) ∧ (¬ w0 = 0 → ((v5 = 8 → gs_E L (d + 1) 3143 105 [gp_r (some 74), gp_i v1, gp_i v2, gp_l v3, gp_n, gp_i v5, gp_i v6, gp_i w0] [] s K) ∧ (¬ v5 = 8 → ((v6 = 108 → gs_E L (d + 1) 3143 143 [gp_r (some 74), gp_i v1, gp_i v2, gp_l v3, gp_n, gp_i v5, gp_i v6, gp_i w0] [gp_i 10, gp_i v5, gp_l v3] s K) ∧ (¬ v6 = 108 → ((v6 = 114 → gs_E L (d + 1) 3143 143 [gp_r (some 74), gp_i v1, gp_i v2, gp_l v3, gp_n, gp_i v5, gp_i v6, gp_i w0] [gp_i 11, gp_i v5, gp_l v3] s K) ∧ (¬ v6 = 114 → gs_E L (d + 1) 3143 143 [gp_r (some 74), gp_i v1, gp_i v2, gp_l v3, gp_n, gp_i v5, gp_i v6, gp_i w0] [gp_i (gp_wr (v6 - 48)), gp_i v5, gp_l v3] s K))))))))) : gs_E L (d + 1) 3143 91 [gp_r (some 74), gp_i v1, gp_i v2, gp_l v3, gp_n, gp_i v5, gp_i v6, v7] [gp_i w0] s K := by
  refine gs_E.stp (pc' := 95) (ls' := [gp_r (some 74), gp_i v1, gp_i v2, gp_l v3, gp_n, gp_i v5, gp_i v6, gp_i w0]) (st' := [gp_i w0]) (s' := s) 2 rfl ?_
  refine gs_E.br (c := w0 = 0) (p1 := 105) (p2 := 98) (l1 := [gp_r (some 74), gp_i v1, gp_i v2, gp_l v3, gp_n, gp_i v5, gp_i v6, gp_i w0]) (l2 := [gp_r (some 74), gp_i v1, gp_i v2, gp_l v3, gp_n, gp_i v5, gp_i v6, gp_i w0]) (s1 := []) (s2 := []) rfl gs_b1 (fun hc => ?_) (fun hc => ?_)
  · replace H := H.1 hc
    exact H
  · replace H := H.2 hc
    refine gs_E.stp (pc' := 102) (ls' := [gp_r (some 74), gp_i v1, gp_i v2, gp_l v3, gp_n, gp_i v5, gp_i v6, gp_i w0]) (st' := [gp_i 8, gp_i v5]) (s' := s) 2 rfl ?_
    refine gs_E.br (c := ¬ v5 = 8) (p1 := 111) (p2 := 105) (l1 := [gp_r (some 74), gp_i v1, gp_i v2, gp_l v3, gp_n, gp_i v5, gp_i v6, gp_i w0]) (l2 := [gp_r (some 74), gp_i v1, gp_i v2, gp_l v3, gp_n, gp_i v5, gp_i v6, gp_i w0]) (s1 := []) (s2 := []) rfl gs_b2 (fun hc => ?_) (fun hc => ?_)
    · replace H := H.2 hc
      refine gs_E.stp (pc' := 118) (ls' := [gp_r (some 74), gp_i v1, gp_i v2, gp_l v3, gp_n, gp_i v5, gp_i v6, gp_i w0]) (st' := [gp_i 108, gp_i v6, gp_i v5, gp_l v3]) (s' := s) 4 rfl ?_
      refine gs_E.br (c := ¬ v6 = 108) (p1 := 126) (p2 := 121) (l1 := [gp_r (some 74), gp_i v1, gp_i v2, gp_l v3, gp_n, gp_i v5, gp_i v6, gp_i w0]) (l2 := [gp_r (some 74), gp_i v1, gp_i v2, gp_l v3, gp_n, gp_i v5, gp_i v6, gp_i w0]) (s1 := [gp_i v5, gp_l v3]) (s2 := [gp_i v5, gp_l v3]) rfl gs_b2 (fun hc => ?_) (fun hc => ?_)
      · replace H := H.2 hc
        refine gs_E.stp (pc' := 130) (ls' := [gp_r (some 74), gp_i v1, gp_i v2, gp_l v3, gp_n, gp_i v5, gp_i v6, gp_i w0]) (st' := [gp_i 114, gp_i v6, gp_i v5, gp_l v3]) (s' := s) 2 rfl ?_
        refine gs_E.br (c := ¬ v6 = 114) (p1 := 138) (p2 := 133) (l1 := [gp_r (some 74), gp_i v1, gp_i v2, gp_l v3, gp_n, gp_i v5, gp_i v6, gp_i w0]) (l2 := [gp_r (some 74), gp_i v1, gp_i v2, gp_l v3, gp_n, gp_i v5, gp_i v6, gp_i w0]) (s1 := [gp_i v5, gp_l v3]) (s2 := [gp_i v5, gp_l v3]) rfl gs_b2 (fun hc => ?_) (fun hc => ?_)
        · replace H := H.2 hc
          refine gs_E.stp (pc' := 143) (ls' := [gp_r (some 74), gp_i v1, gp_i v2, gp_l v3, gp_n, gp_i v5, gp_i v6, gp_i w0]) (st' := [gp_i (gp_wr (v6 - 48)), gp_i v5, gp_l v3]) (s' := s) 3 rfl ?_
          exact H
        · replace H := H.1 (Decidable.byContradiction hc)
          refine gs_E.stp (pc' := 143) (ls' := [gp_r (some 74), gp_i v1, gp_i v2, gp_l v3, gp_n, gp_i v5, gp_i v6, gp_i w0]) (st' := [gp_i 11, gp_i v5, gp_l v3]) (s' := s) 2 rfl ?_
          exact H
      · replace H := H.1 (Decidable.byContradiction hc)
        refine gs_E.stp (pc' := 143) (ls' := [gp_r (some 74), gp_i v1, gp_i v2, gp_l v3, gp_n, gp_i v5, gp_i v6, gp_i w0]) (st' := [gp_i 10, gp_i v5, gp_l v3]) (s' := s) 2 rfl ?_
        exact H
    · replace H := H.1 (Decidable.byContradiction hc)
      exact H

set_option maxRecDepth 100000 in
/-- GatheredPointsModel.strip, pc 105 -/
theorem s_3143_105 {L d : Nat} {K : Option gV → gH → Prop} {s : gH} (v1 : Int) (v2 : Int) (v3 : BitVec 64) (v5 : Int) (v6 : Int) (v7 : Int) (H : K (some (gp_i (gp_wr ((-10) - v5)))) s) : gs_E L (d + 1) 3143 105 [gp_r (some 74), gp_i v1, gp_i v2, gp_l v3, gp_n, gp_i v5, gp_i v6, gp_i v7] [] s K := by
  refine gs_E.stp (pc' := 110) (ls' := [gp_r (some 74), gp_i v1, gp_i v2, gp_l v3, gp_n, gp_i v5, gp_i v6, gp_i v7]) (st' := [gp_i (gp_wr ((-10) - v5))]) (s' := s) 3 rfl ?_
  exact gs_E.ret (r := (some (gp_i (gp_wr ((-10) - v5))))) rfl H

set_option maxRecDepth 100000 in
/-- GatheredPointsModel.strip, pc 143 -/
theorem s_3143_143 {L d : Nat} {K : Option gV → gH → Prop} {s : gH} (v1 : Int) (v2 : Int) (v3 : BitVec 64) (v5 : Int) (v6 : Int) (v7 : Int) (w0 : BitVec 64) (w1 : Int) (w2 : Int) (H : gs_C L d 3141 4 [gp_l w0, gp_i w1, gp_i w2] s (fun r s1 => ∃ m2, r = some (gp_l m2) ∧ gs_E L (d + 1) 3143 28 [gp_r (some 74), gp_i v1, gp_i v2, gp_l m2, gp_n, gp_i (gp_wr (v5 + 1)), gp_i v6, gp_i v7] [] s1 K)) : gs_E L (d + 1) 3143 143 [gp_r (some 74), gp_i v1, gp_i v2, gp_l v3, gp_n, gp_i v5, gp_i v6, gp_i v7] [gp_i w2, gp_i w1, gp_l w0] s K := by
  refine gs_E.call (args := [gp_l w0, gp_i w1, gp_i w2]) (m := 4) (y' := 3141) (st' := []) rfl H (fun r s1 H => ?_)
  obtain ⟨m2, rfl, H⟩ := H
  show gs_E L (d + 1) 3143 146 [gp_r (some 74), gp_i v1, gp_i v2, gp_l v3, gp_n, gp_i v5, gp_i v6, gp_i v7] [gp_l m2] s1 K
  refine gs_E.stp (pc' := 28) (ls' := [gp_r (some 74), gp_i v1, gp_i v2, gp_l m2, gp_n, gp_i (gp_wr (v5 + 1)), gp_i v6, gp_i v7]) (st' := []) (s' := s1) 3 rfl ?_
  exact H

set_option maxRecDepth 100000 in
/-- GatheredPointsModel.strip, pc 193 -/
theorem s_3143_193 {L d : Nat} {K : Option gV → gH → Prop} {s : gH} (v1 : Int) (v2 : Int) (v3 : BitVec 64) (v5 : Int) (v6 : gV) (v7 : gV) (w0 : Int) (H : K (some (gp_i w0)) s) : gs_E L (d + 1) 3143 193 [gp_r (some 74), gp_i v1, gp_i v2, gp_l v3, gp_n, gp_i v5, v6, v7] [gp_i w0] s K := by
  exact gs_E.ret (r := (some (gp_i w0))) rfl H

set_option maxRecDepth 100000 in
/-- GatheredPointsModel.ladder, pc 0 -/
theorem s_3144_e {L d : Nat} {K : Option gV → gH → Prop} {s : gH} (p0 : Int) (p1 : Int) (H : gs_C L d 3075 1 [gp_i p0] s (fun r s1 => ∃ x2, r = some (gp_i x2) ∧ ((x2 = 0 → gs_E L (d + 1) 3144 14 [gp_r (some 74), gp_i p0, gp_i p1, gp_n, gp_n, gp_n, gp_n, gp_n, gp_n] [] s1 K) ∧ (¬ x2 = 0 → gs_C L d 3076 1 [gp_i p1] s1 (fun r s3 => ∃ x4, r = some (gp_i x4) ∧ ((x4 = 0 → gs_E L (d + 1) 3144 14 [gp_r (some 74), gp_i p0, gp_i p1, gp_n, gp_n, gp_n, gp_n, gp_n, gp_n] [] s3 K) ∧ (¬ x4 = 0 → ((0 ≤ p1 ∧ p1 < 4) ∧ ((0 ≤ p1 ∧ p1 < 4) ∧ (((gp_I s3 84 p1.toNat) = 0 → gs_E L (d + 1) 3144 40 [gp_r (some 74), gp_i p0, gp_i p1, gp_i (gp_I s3 85 p1.toNat), gp_n, gp_n, gp_n, gp_n, gp_n] [] s3 K) ∧ (¬ (gp_I s3 84 p1.toNat) = 0 → (((gp_I s3 85 p1.toNat) = 0 → gs_E L (d + 1) 3144 40 [gp_r (some 74), gp_i p0, gp_i p1, gp_i (gp_I s3 85 p1.toNat), gp_n, gp_n, gp_n, gp_n, gp_n] [] s3 K) ∧ (¬ (gp_I s3 85 p1.toNat) = 0 → gs_C L d 3085 1 [gp_r (some 74)] s3 (fun r s5 => r = none ∧ ((0 ≤ (gp_wr ((gp_wr ((gp_wr (20 * p1)) + (gp_I s3 85 p1.toNat))) - 1)) ∧ (gp_wr ((gp_wr ((gp_wr (20 * p1)) + (gp_I s3 85 p1.toNat))) - 1)) < 80) ∧ gs_C L d 3088 9 [gp_r (some 74), gp_l (0#64), gp_l (0#64), gp_i (gp_I s5 83 (gp_wr ((gp_wr ((gp_wr (20 * p1)) + (gp_I s3 85 p1.toNat))) - 1)).toNat), gp_i (gp_I s5 83 (gp_wr ((gp_wr ((gp_wr (20 * p1)) + (gp_I s3 85 p1.toNat))) - 1)).toNat)] s5 (fun r s6 => ∃ x7, r = some (gp_i x7) ∧ gs_E L (d + 1) 3144 82 [gp_r (some 74), gp_i p0, gp_i p1, gp_i (gp_I s3 85 p1.toNat), gp_i (gp_I s5 83 (gp_wr ((gp_wr ((gp_wr (20 * p1)) + (gp_I s3 85 p1.toNat))) - 1)).toNat), gp_i x7, gp_i (gp_wr ((gp_I s3 85 p1.toNat) - 2)), gp_n, gp_n] [] s6 K)))))))))))))))) : gs_C L (d + 1) 3144 9 [gp_r (some 74), gp_i p0, gp_i p1] s K := by
  show gs_E L (d + 1) 3144 0 [gp_r (some 74), gp_i p0, gp_i p1, gp_n, gp_n, gp_n, gp_n, gp_n, gp_n] [] s K
  refine gs_E.stp (pc' := 1) (ls' := [gp_r (some 74), gp_i p0, gp_i p1, gp_n, gp_n, gp_n, gp_n, gp_n, gp_n]) (st' := [gp_i p0]) (s' := s) 1 rfl ?_
  refine gs_E.call (args := [gp_i p0]) (m := 1) (y' := 3075) (st' := []) rfl H (fun r s1 H => ?_)
  obtain ⟨x2, rfl, H⟩ := H
  show gs_E L (d + 1) 3144 4 [gp_r (some 74), gp_i p0, gp_i p1, gp_n, gp_n, gp_n, gp_n, gp_n, gp_n] [gp_i x2] s1 K
  refine gs_E.br (c := x2 = 0) (p1 := 14) (p2 := 7) (l1 := [gp_r (some 74), gp_i p0, gp_i p1, gp_n, gp_n, gp_n, gp_n, gp_n, gp_n]) (l2 := [gp_r (some 74), gp_i p0, gp_i p1, gp_n, gp_n, gp_n, gp_n, gp_n, gp_n]) (s1 := []) (s2 := []) rfl gs_b1 (fun hc => ?_) (fun hc => ?_)
  · replace H := H.1 hc
    exact H
  · replace H := H.2 hc
    refine gs_E.stp (pc' := 8) (ls' := [gp_r (some 74), gp_i p0, gp_i p1, gp_n, gp_n, gp_n, gp_n, gp_n, gp_n]) (st' := [gp_i p1]) (s' := s1) 1 rfl ?_
    refine gs_E.call (args := [gp_i p1]) (m := 1) (y' := 3076) (st' := []) rfl H (fun r s3 H => ?_)
    obtain ⟨x4, rfl, H⟩ := H
    show gs_E L (d + 1) 3144 11 [gp_r (some 74), gp_i p0, gp_i p1, gp_n, gp_n, gp_n, gp_n, gp_n, gp_n] [gp_i x4] s3 K
    refine gs_E.br (c := ¬ x4 = 0) (p1 := 20) (p2 := 14) (l1 := [gp_r (some 74), gp_i p0, gp_i p1, gp_n, gp_n, gp_n, gp_n, gp_n, gp_n]) (l2 := [gp_r (some 74), gp_i p0, gp_i p1, gp_n, gp_n, gp_n, gp_n, gp_n, gp_n]) (s1 := []) (s2 := []) rfl gs_b2 (fun hc => ?_) (fun hc => ?_)
    · replace H := H.2 hc
      refine gs_E.stp (pc' := 25) (ls' := [gp_r (some 74), gp_i p0, gp_i p1, gp_n, gp_n, gp_n, gp_n, gp_n, gp_n]) (st' := [gp_i p1, gp_r (some 85)]) (s' := s3) 3 rfl ?_
      refine gs_E.ck (pc' := 26) (ls' := [gp_r (some 74), gp_i p0, gp_i p1, gp_n, gp_n, gp_n, gp_n, gp_n, gp_n]) (st' := [gp_i (gp_I s3 85 p1.toNat)]) (s' := s3) rfl (Or.inl ⟨rfl, H.1.1, H.1.2⟩) ?_
      replace H := H.2
      refine gs_E.stp (pc' := 32) (ls' := [gp_r (some 74), gp_i p0, gp_i p1, gp_i (gp_I s3 85 p1.toNat), gp_n, gp_n, gp_n, gp_n, gp_n]) (st' := [gp_i p1, gp_r (some 84)]) (s' := s3) 4 rfl ?_
      refine gs_E.ck (pc' := 33) (ls' := [gp_r (some 74), gp_i p0, gp_i p1, gp_i (gp_I s3 85 p1.toNat), gp_n, gp_n, gp_n, gp_n, gp_n]) (st' := [gp_i (gp_I s3 84 p1.toNat)]) (s' := s3) rfl (Or.inl ⟨rfl, H.1.1, H.1.2⟩) ?_
      replace H := H.2
      refine gs_E.br (c := (gp_I s3 84 p1.toNat) = 0) (p1 := 40) (p2 := 36) (l1 := [gp_r (some 74), gp_i p0, gp_i p1, gp_i (gp_I s3 85 p1.toNat), gp_n, gp_n, gp_n, gp_n, gp_n]) (l2 := [gp_r (some 74), gp_i p0, gp_i p1, gp_i (gp_I s3 85 p1.toNat), gp_n, gp_n, gp_n, gp_n, gp_n]) (s1 := []) (s2 := []) rfl gs_b1 (fun hc => ?_) (fun hc => ?_)
      · replace H := H.1 hc
        exact H
      · replace H := H.2 hc
        refine gs_E.stp (pc' := 37) (ls' := [gp_r (some 74), gp_i p0, gp_i p1, gp_i (gp_I s3 85 p1.toNat), gp_n, gp_n, gp_n, gp_n, gp_n]) (st' := [gp_i (gp_I s3 85 p1.toNat)]) (s' := s3) 1 rfl ?_
        refine gs_E.br (c := ¬ (gp_I s3 85 p1.toNat) = 0) (p1 := 46) (p2 := 40) (l1 := [gp_r (some 74), gp_i p0, gp_i p1, gp_i (gp_I s3 85 p1.toNat), gp_n, gp_n, gp_n, gp_n, gp_n]) (l2 := [gp_r (some 74), gp_i p0, gp_i p1, gp_i (gp_I s3 85 p1.toNat), gp_n, gp_n, gp_n, gp_n, gp_n]) (s1 := []) (s2 := []) rfl gs_b2 (fun hc => ?_) (fun hc => ?_)
        · replace H := H.2 hc
          refine gs_E.stp (pc' := 47) (ls' := [gp_r (some 74), gp_i p0, gp_i p1, gp_i (gp_I s3 85 p1.toNat), gp_n, gp_n, gp_n, gp_n, gp_n]) (st' := [gp_r (some 74)]) (s' := s3) 1 rfl ?_
          refine gs_E.call (args := [gp_r (some 74)]) (m := 1) (y' := 3085) (st' := []) rfl H (fun r s5 H => ?_)
          obtain ⟨rfl, H⟩ := H
          show gs_E L (d + 1) 3144 50 [gp_r (some 74), gp_i p0, gp_i p1, gp_i (gp_I s3 85 p1.toNat), gp_n, gp_n, gp_n, gp_n, gp_n] [] s5 K
          refine gs_E.stp (pc' := 62) (ls' := [gp_r (some 74), gp_i p0, gp_i p1, gp_i (gp_I s3 85 p1.toNat), gp_n, gp_n, gp_n, gp_n, gp_n]) (st' := [gp_i (gp_wr ((gp_wr ((gp_wr (20 * p1)) + (gp_I s3 85 p1.toNat))) - 1)), gp_r (some 83)]) (s' := s5) 9 rfl ?_
          refine gs_E.ck (pc' := 63) (ls' := [gp_r (some 74), gp_i p0, gp_i p1, gp_i (gp_I s3 85 p1.toNat), gp_n, gp_n, gp_n, gp_n, gp_n]) (st' := [gp_i (gp_I s5 83 (gp_wr ((gp_wr ((gp_wr (20 * p1)) + (gp_I s3 85 p1.toNat))) - 1)).toNat)]) (s' := s5) rfl (Or.inl ⟨rfl, H.1.1, H.1.2⟩) ?_
          replace H := H.2
          refine gs_E.stp (pc' := 72) (ls' := [gp_r (some 74), gp_i p0, gp_i p1, gp_i (gp_I s3 85 p1.toNat), gp_i (gp_I s5 83 (gp_wr ((gp_wr ((gp_wr (20 * p1)) + (gp_I s3 85 p1.toNat))) - 1)).toNat), gp_n, gp_n, gp_n, gp_n]) (st' := [gp_i (gp_I s5 83 (gp_wr ((gp_wr ((gp_wr (20 * p1)) + (gp_I s3 85 p1.toNat))) - 1)).toNat), gp_i (gp_I s5 83 (gp_wr ((gp_wr ((gp_wr (20 * p1)) + (gp_I s3 85 p1.toNat))) - 1)).toNat), gp_l (0#64), gp_l (0#64), gp_r (some 74)]) (s' := s5) 6 rfl ?_
          refine gs_E.call (args := [gp_r (some 74), gp_l (0#64), gp_l (0#64), gp_i (gp_I s5 83 (gp_wr ((gp_wr ((gp_wr (20 * p1)) + (gp_I s3 85 p1.toNat))) - 1)).toNat), gp_i (gp_I s5 83 (gp_wr ((gp_wr ((gp_wr (20 * p1)) + (gp_I s3 85 p1.toNat))) - 1)).toNat)]) (m := 9) (y' := 3088) (st' := []) rfl H (fun r s6 H => ?_)
          obtain ⟨x7, rfl, H⟩ := H
          show gs_E L (d + 1) 3144 75 [gp_r (some 74), gp_i p0, gp_i p1, gp_i (gp_I s3 85 p1.toNat), gp_i (gp_I s5 83 (gp_wr ((gp_wr ((gp_wr (20 * p1)) + (gp_I s3 85 p1.toNat))) - 1)).toNat), gp_n, gp_n, gp_n, gp_n] [gp_i x7] s6 K
          refine gs_E.stp (pc' := 82) (ls' := [gp_r (some 74), gp_i p0, gp_i p1, gp_i (gp_I s3 85 p1.toNat), gp_i (gp_I s5 83 (gp_wr ((gp_wr ((gp_wr (20 * p1)) + (gp_I s3 85 p1.toNat))) - 1)).toNat), gp_i x7, gp_i (gp_wr ((gp_I s3 85 p1.toNat) - 2)), gp_n, gp_n]) (st' := []) (s' := s6) 5 rfl ?_
          exact H
        · replace H := H.1 (Decidable.byContradiction hc)
          exact H
    · replace H := H.1 (Decidable.byContradiction hc)
      exact H

set_option maxRecDepth 100000 in
/-- GatheredPointsModel.ladder, pc 14 -/
theorem s_3144_14 {L d : Nat} {K : Option gV → gH → Prop} {s : gH} (v1 : Int) (v2 : Int) (v3 : gV) (v4 : gV) (v5 : gV) (v6 : gV) (v7 : gV) (v8 : gV) (H : gs_C L d 3074 2 [gp_r (some 74), gp_i 1] s (fun r s1 => ∃ x2, r = some (gp_i x2) ∧ K (some (gp_i x2)) s1)) : gs_E L (d + 1) 3144 14 [gp_r (some 74), gp_i v1, gp_i v2, v3, v4, v5, v6, v7, v8] [] s K := by
  refine gs_E.stp (pc' := 16) (ls' := [gp_r (some 74), gp_i v1, gp_i v2, v3, v4, v5, v6, v7, v8]) (st' := [gp_i 1, gp_r (some 74)]) (s' := s) 2 rfl ?_
  refine gs_E.call (args := [gp_r (some 74), gp_i 1]) (m := 2) (y' := 3074) (st' := []) rfl H (fun r s1 H => ?_)
  obtain ⟨x2, rfl, H⟩ := H
  show gs_E L (d + 1) 3144 19 [gp_r (some 74), gp_i v1, gp_i v2, v3, v4, v5, v6, v7, v8] [gp_i x2] s1 K
  exact gs_E.ret (r := (some (gp_i x2))) rfl H

set_option maxRecDepth 100000 in
/-- GatheredPointsModel.ladder, pc 40 -/
theorem s_3144_40 {L d : Nat} {K : Option gV → gH → Prop} {s : gH} (v1 : Int) (v2 : Int) (v3 : Int) (v4 : gV) (v5 : gV) (v6 : gV) (v7 : gV) (v8 : gV) (H : gs_C L d 3074 2 [gp_r (some 74), gp_i 2] s (fun r s1 => ∃ x2, r = some (gp_i x2) ∧ K (some (gp_i x2)) s1)) : gs_E L (d + 1) 3144 40 [gp_r (some 74), gp_i v1, gp_i v2, gp_i v3, v4, v5, v6, v7, v8] [] s K := by
  refine gs_E.stp (pc' := 42) (ls' := [gp_r (some 74), gp_i v1, gp_i v2, gp_i v3, v4, v5, v6, v7, v8]) (st' := [gp_i 2, gp_r (some 74)]) (s' := s) 2 rfl ?_
  refine gs_E.call (args := [gp_r (some 74), gp_i 2]) (m := 2) (y' := 3074) (st' := []) rfl H (fun r s1 H => ?_)
  obtain ⟨x2, rfl, H⟩ := H
  show gs_E L (d + 1) 3144 45 [gp_r (some 74), gp_i v1, gp_i v2, gp_i v3, v4, v5, v6, v7, v8] [gp_i x2] s1 K
  exact gs_E.ret (r := (some (gp_i x2))) rfl H

set_option maxRecDepth 100000 in
/-- GatheredPointsModel.ladder, pc 82 -/
theorem s_3144_82 {L d : Nat} {K : Option gV → gH → Prop} {s : gH} (v1 : Int) (v2 : Int) (v3 : Int) (v4 : Int) (v5 : Int) (v6 : Int) (v7 : gV) (v8 : gV) (H : ((v6 < 0 → gs_C L d 3119 2 [gp_r (some 74), gp_i v5] s (fun r s1 => ∃ x2, r = some (gp_i x2) ∧ ((x2 = 6 → gs_C L d 3074 2 [gp_r (some 74), gp_i 6] s1 (fun r s5 => ∃ x6, r = some (gp_i x6) ∧ gs_E L (d + 1) 3144 160 [gp_r (some 74), gp_i v1, gp_i v2, gp_i v3, gp_i v4, gp_i v5, gp_i v6, v7, v8] [gp_i x6] s5 K)) ∧ (¬ x2 = 6 → gs_C L d 3123 2 [gp_r (some 74), gp_i v1] s1 (fun r s3 => ∃ x4, r = some (gp_i x4) ∧ gs_E L (d + 1) 3144 160 [gp_r (some 74), gp_i v1, gp_i v2, gp_i v3, gp_i v4, gp_i v5, gp_i v6, v7, v8] [gp_i x4] s3 K))))) ∧ (¬ v6 < 0 → ((0 ≤ (gp_wr ((gp_wr (20 * v2)) + v6)) ∧ (gp_wr ((gp_wr (20 * v2)) + v6)) < 80) ∧ gs_C L d 3088 9 [gp_r (some 74), gp_l (0#64), gp_l (0#64), gp_i (gp_I s 83 (gp_wr ((gp_wr (20 * v2)) + v6)).toNat), gp_i (gp_I s 83 (gp_wr ((gp_wr (20 * v2)) + v6)).toNat)] s (fun r s7 => ∃ x8, r = some (gp_i x8) ∧ gs_C L d 3088 9 [gp_r (some 74), gp_l ((1#64) <<< (x8 % 64).toNat), gp_l ((1#64) <<< (v5 % 64).toNat), gp_i 0, gp_i 0] s7 (fun r s9 => ∃ x10, r = some (gp_i x10) ∧ gs_E L (d + 1) 3144 82 [gp_r (some 74), gp_i v1, gp_i v2, gp_i v3, gp_i v4, gp_i x10, gp_i (gp_wr (v6 + (-1))), gp_i (gp_I s 83 (gp_wr ((gp_wr (20 * v2)) + v6)).toNat), gp_i x8] [] s9 K)))))) : gs_E L (d + 1) 3144 82 [gp_r (some 74), gp_i v1, gp_i v2, gp_i v3, gp_i v4, gp_i v5, gp_i v6, v7, v8] [] s K := by
  refine gs_E.stp (pc' := 84) (ls' := [gp_r (some 74), gp_i v1, gp_i v2, gp_i v3, gp_i v4, gp_i v5, gp_i v6, v7, v8]) (st' := [gp_i v6]) (s' := s) 1 rfl ?_
  refine gs_E.br (c := v6 < 0) (p1 := 135) (p2 := 87) (l1 := [gp_r (some 74), gp_i v1, gp_i v2, gp_i v3, gp_i v4, gp_i v5, gp_i v6, v7, v8]) (l2 := [gp_r (some 74), gp_i v1, gp_i v2, gp_i v3, gp_i v4, gp_i v5, gp_i v6, v7, v8]) (s1 := []) (s2 := []) rfl gs_b1 (fun hc => ?_) (fun hc => ?_)
  · replace H := H.1 hc
    refine gs_E.stp (pc' := 138) (ls' := [gp_r (some 74), gp_i v1, gp_i v2, gp_i v3, gp_i v4, gp_i v5, gp_i v6, v7, v8]) (st' := [gp_i v5, gp_r (some 74)]) (s' := s) 2 rfl ?_
    refine gs_E.call (args := [gp_r (some 74), gp_i v5]) (m := 2) (y' := 3119) (st' := []) rfl H (fun r s1 H => ?_)
    obtain ⟨x2, rfl, H⟩ := H
    show gs_E L (d + 1) 3144 141 [gp_r (some 74), gp_i v1, gp_i v2, gp_i v3, gp_i v4, gp_i v5, gp_i v6, v7, v8] [gp_i x2] s1 K
    refine gs_E.stp (pc' := 143) (ls' := [gp_r (some 74), gp_i v1, gp_i v2, gp_i v3, gp_i v4, gp_i v5, gp_i v6, v7, v8]) (st' := [gp_i 6, gp_i x2]) (s' := s1) 1 rfl ?_
    refine gs_E.br (c := ¬ x2 = 6) (p1 := 155) (p2 := 146) (l1 := [gp_r (some 74), gp_i v1, gp_i v2, gp_i v3, gp_i v4, gp_i v5, gp_i v6, v7, v8]) (l2 := [gp_r (some 74), gp_i v1, gp_i v2, gp_i v3, gp_i v4, gp_i v5, gp_i v6, v7, v8]) (s1 := []) (s2 := []) rfl gs_b2 (fun hc => ?_) (fun hc => ?_)
    · replace H := H.2 hc
      refine gs_E.stp (pc' := 157) (ls' := [gp_r (some 74), gp_i v1, gp_i v2, gp_i v3, gp_i v4, gp_i v5, gp_i v6, v7, v8]) (st' := [gp_i v1, gp_r (some 74)]) (s' := s1) 2 rfl ?_
      refine gs_E.call (args := [gp_r (some 74), gp_i v1]) (m := 2) (y' := 3123) (st' := []) rfl H (fun r s3 H => ?_)
      obtain ⟨x4, rfl, H⟩ := H
      show gs_E L (d + 1) 3144 160 [gp_r (some 74), gp_i v1, gp_i v2, gp_i v3, gp_i v4, gp_i v5, gp_i v6, v7, v8] [gp_i x4] s3 K
      exact H
    · replace H := H.1 (Decidable.byContradiction hc)
      refine gs_E.stp (pc' := 149) (ls' := [gp_r (some 74), gp_i v1, gp_i v2, gp_i v3, gp_i v4, gp_i v5, gp_i v6, v7, v8]) (st' := [gp_i 6, gp_r (some 74)]) (s' := s1) 2 rfl ?_
      refine gs_E.call (args := [gp_r (some 74), gp_i 6]) (m := 2) (y' := 3074) (st' := []) rfl H (fun r s5 H => ?_)
      obtain ⟨x6, rfl, H⟩ := H
      show gs_E L (d + 1) 3144 152 [gp_r (some 74), gp_i v1, gp_i v2, gp_i v3, gp_i v4, gp_i v5, gp_i v6, v7, v8] [gp_i x6] s5 K
      refine gs_E.stp (pc' := 160) (ls' := [gp_r (some 74), gp_i v1, gp_i v2, gp_i v3, gp_i v4, gp_i v5, gp_i v6, v7, v8]) (st' := [gp_i x6]) (s' := s5) 1 rfl ?_
      exact H
  · replace H := H.2 hc
    refine gs_E.stp (pc' := 98) (ls' := [gp_r (some 74), gp_i v1, gp_i v2, gp_i v3, gp_i v4, gp_i v5, gp_i v6, v7, v8]) (st' := [gp_i (gp_wr ((gp_wr (20 * v2)) + v6)), gp_r (some 83)]) (s' := s) 7 rfl ?_
    refine gs_E.ck (pc' := 99) (ls' := [gp_r (some 74), gp_i v1, gp_i v2, gp_i v3, gp_i v4, gp_i v5, gp_i v6, v7, v8]) (st' := [gp_i (gp_I s 83 (gp_wr ((gp_wr (20 * v2)) + v6)).toNat)]) (s' := s) rfl (Or.inl ⟨rfl, H.1.1, H.1.2⟩) ?_
    replace H := H.2
    refine gs_E.stp (pc' := 108) (ls' := [gp_r (some 74), gp_i v1, gp_i v2, gp_i v3, gp_i v4, gp_i v5, gp_i v6, gp_i (gp_I s 83 (gp_wr ((gp_wr (20 * v2)) + v6)).toNat), v8]) (st' := [gp_i (gp_I s 83 (gp_wr ((gp_wr (20 * v2)) + v6)).toNat), gp_i (gp_I s 83 (gp_wr ((gp_wr (20 * v2)) + v6)).toNat), gp_l (0#64), gp_l (0#64), gp_r (some 74)]) (s' := s) 6 rfl ?_
    refine gs_E.call (args := [gp_r (some 74), gp_l (0#64), gp_l (0#64), gp_i (gp_I s 83 (gp_wr ((gp_wr (20 * v2)) + v6)).toNat), gp_i (gp_I s 83 (gp_wr ((gp_wr (20 * v2)) + v6)).toNat)]) (m := 9) (y' := 3088) (st' := []) rfl H (fun r s7 H => ?_)
    obtain ⟨x8, rfl, H⟩ := H
    show gs_E L (d + 1) 3144 111 [gp_r (some 74), gp_i v1, gp_i v2, gp_i v3, gp_i v4, gp_i v5, gp_i v6, gp_i (gp_I s 83 (gp_wr ((gp_wr (20 * v2)) + v6)).toNat), v8] [gp_i x8] s7 K
    refine gs_E.stp (pc' := 124) (ls' := [gp_r (some 74), gp_i v1, gp_i v2, gp_i v3, gp_i v4, gp_i v5, gp_i v6, gp_i (gp_I s 83 (gp_wr ((gp_wr (20 * v2)) + v6)).toNat), gp_i x8]) (st' := [gp_i 0, gp_i 0, gp_l ((1#64) <<< (v5 % 64).toNat), gp_l ((1#64) <<< (x8 % 64).toNat), gp_r (some 74)]) (s' := s7) 10 rfl ?_
    refine gs_E.call (args := [gp_r (some 74), gp_l ((1#64) <<< (x8 % 64).toNat), gp_l ((1#64) <<< (v5 % 64).toNat), gp_i 0, gp_i 0]) (m := 9) (y' := 3088) (st' := []) rfl H (fun r s9 H => ?_)
    obtain ⟨x10, rfl, H⟩ := H
    show gs_E L (d + 1) 3144 127 [gp_r (some 74), gp_i v1, gp_i v2, gp_i v3, gp_i v4, gp_i v5, gp_i v6, gp_i (gp_I s 83 (gp_wr ((gp_wr (20 * v2)) + v6)).toNat), gp_i x8] [gp_i x10] s9 K
    refine gs_E.stp (pc' := 82) (ls' := [gp_r (some 74), gp_i v1, gp_i v2, gp_i v3, gp_i v4, gp_i x10, gp_i (gp_wr (v6 + (-1))), gp_i (gp_I s 83 (gp_wr ((gp_wr (20 * v2)) + v6)).toNat), gp_i x8]) (st' := []) (s' := s9) 3 rfl ?_
    exact H

set_option maxRecDepth 100000 in
/-- GatheredPointsModel.ladder, pc 160 -/
theorem s_3144_160 {L d : Nat} {K : Option gV → gH → Prop} {s : gH} (v1 : Int) (v2 : Int) (v3 : Int) (v4 : Int) (v5 : Int) (v6 : Int) (v7 : gV) (v8 : gV) (w0 : Int) (H : K (some (gp_i w0)) s) : gs_E L (d + 1) 3144 160 [gp_r (some 74), gp_i v1, gp_i v2, gp_i v3, gp_i v4, gp_i v5, gp_i v6, v7, v8] [gp_i w0] s K := by
  exact gs_E.ret (r := (some (gp_i w0))) rfl H

set_option maxRecDepth 100000 in
/-- GatheredPointsModel.waits, pc 0 -/
theorem s_3145_e {L d : Nat} {K : Option gV → gH → Prop} {s : gH} (p0 : Int) (p1 : Int) (H : gs_C L d 3075 1 [gp_i p0] s (fun r s1 => ∃ x2, r = some (gp_i x2) ∧ ((x2 = 0 → gs_E L (d + 1) 3145 19 [gp_r (some 74), gp_i p0, gp_i p1] [] s1 K) ∧ (¬ x2 = 0 → gs_C L d 3073 6 [gp_l (BitVec.ofInt 64 p1), gp_l (0#64), gp_l (BitVec.ofInt 64 20)] s1 (fun r s3 => ∃ x4, r = some (gp_i x4) ∧ ((x4 = 0 → gs_E L (d + 1) 3145 19 [gp_r (some 74), gp_i p0, gp_i p1] [] s3 K) ∧ (¬ x4 = 0 → gs_C L d 3122 4 [gp_r (some 74), gp_i p1] s3 (fun r s5 => r = none ∧ gs_C L d 3123 2 [gp_r (some 74), gp_i p0] s5 (fun r s6 => ∃ x7, r = some (gp_i x7) ∧ K (some (gp_i x7)) s6))))))))) : gs_C L (d + 1) 3145 3 [gp_r (some 74), gp_i p0, gp_i p1] s K := by
  show gs_E L (d + 1) 3145 0 [gp_r (some 74), gp_i p0, gp_i p1] [] s K
  refine gs_E.stp (pc' := 1) (ls' := [gp_r (some 74), gp_i p0, gp_i p1]) (st' := [gp_i p0]) (s' := s) 1 rfl ?_
  refine gs_E.call (args := [gp_i p0]) (m := 1) (y' := 3075) (st' := []) rfl H (fun r s1 H => ?_)
  obtain ⟨x2, rfl, H⟩ := H
  show gs_E L (d + 1) 3145 4 [gp_r (some 74), gp_i p0, gp_i p1] [gp_i x2] s1 K
  refine gs_E.br (c := x2 = 0) (p1 := 19) (p2 := 7) (l1 := [gp_r (some 74), gp_i p0, gp_i p1]) (l2 := [gp_r (some 74), gp_i p0, gp_i p1]) (s1 := []) (s2 := []) rfl gs_b1 (fun hc => ?_) (fun hc => ?_)
  · replace H := H.1 hc
    exact H
  · replace H := H.2 hc
    refine gs_E.stp (pc' := 13) (ls' := [gp_r (some 74), gp_i p0, gp_i p1]) (st' := [gp_l (BitVec.ofInt 64 20), gp_l (0#64), gp_l (BitVec.ofInt 64 p1)]) (s' := s1) 4 rfl ?_
    refine gs_E.call (args := [gp_l (BitVec.ofInt 64 p1), gp_l (0#64), gp_l (BitVec.ofInt 64 20)]) (m := 6) (y' := 3073) (st' := []) rfl H (fun r s3 H => ?_)
    obtain ⟨x4, rfl, H⟩ := H
    show gs_E L (d + 1) 3145 16 [gp_r (some 74), gp_i p0, gp_i p1] [gp_i x4] s3 K
    refine gs_E.br (c := ¬ x4 = 0) (p1 := 25) (p2 := 19) (l1 := [gp_r (some 74), gp_i p0, gp_i p1]) (l2 := [gp_r (some 74), gp_i p0, gp_i p1]) (s1 := []) (s2 := []) rfl gs_b2 (fun hc => ?_) (fun hc => ?_)
    · replace H := H.2 hc
      refine gs_E.stp (pc' := 27) (ls' := [gp_r (some 74), gp_i p0, gp_i p1]) (st' := [gp_i p1, gp_r (some 74)]) (s' := s3) 2 rfl ?_
      refine gs_E.call (args := [gp_r (some 74), gp_i p1]) (m := 4) (y' := 3122) (st' := []) rfl H (fun r s5 H => ?_)
      obtain ⟨rfl, H⟩ := H
      show gs_E L (d + 1) 3145 30 [gp_r (some 74), gp_i p0, gp_i p1] [] s5 K
      refine gs_E.stp (pc' := 32) (ls' := [gp_r (some 74), gp_i p0, gp_i p1]) (st' := [gp_i p0, gp_r (some 74)]) (s' := s5) 2 rfl ?_
      refine gs_E.call (args := [gp_r (some 74), gp_i p0]) (m := 2) (y' := 3123) (st' := []) rfl H (fun r s6 H => ?_)
      obtain ⟨x7, rfl, H⟩ := H
      show gs_E L (d + 1) 3145 35 [gp_r (some 74), gp_i p0, gp_i p1] [gp_i x7] s6 K
      exact gs_E.ret (r := (some (gp_i x7))) rfl H
    · replace H := H.1 (Decidable.byContradiction hc)
      exact H

set_option maxRecDepth 100000 in
/-- GatheredPointsModel.waits, pc 19 -/
theorem s_3145_19 {L d : Nat} {K : Option gV → gH → Prop} {s : gH} (v1 : Int) (v2 : Int) (H : gs_C L d 3074 2 [gp_r (some 74), gp_i 1] s (fun r s1 => ∃ x2, r = some (gp_i x2) ∧ K (some (gp_i x2)) s1)) : gs_E L (d + 1) 3145 19 [gp_r (some 74), gp_i v1, gp_i v2] [] s K := by
  refine gs_E.stp (pc' := 21) (ls' := [gp_r (some 74), gp_i v1, gp_i v2]) (st' := [gp_i 1, gp_r (some 74)]) (s' := s) 2 rfl ?_
  refine gs_E.call (args := [gp_r (some 74), gp_i 1]) (m := 2) (y' := 3074) (st' := []) rfl H (fun r s1 H => ?_)
  obtain ⟨x2, rfl, H⟩ := H
  show gs_E L (d + 1) 3145 24 [gp_r (some 74), gp_i v1, gp_i v2] [gp_i x2] s1 K
  exact gs_E.ret (r := (some (gp_i x2))) rfl H

set_option maxRecDepth 100000 in
/-- GatheredPointsModel.join, pc 0 -/
theorem s_3146_e {L d : Nat} {K : Option gV → gH → Prop} {s : gH} (p0 : Int) (p1 : Int) (p2 : Int) (H : gs_C L d 3075 1 [gp_i p0] s (fun r s1 => ∃ x2, r = some (gp_i x2) ∧ ((x2 = 0 → gs_E L (d + 1) 3146 21 [gp_r (some 74), gp_i p0, gp_i p1, gp_i p2, gp_n] [] s1 K) ∧ (¬ x2 = 0 → gs_C L d 3075 1 [gp_i p1] s1 (fun r s3 => ∃ x4, r = some (gp_i x4) ∧ ((x4 = 0 → gs_E L (d + 1) 3146 21 [gp_r (some 74), gp_i p0, gp_i p1, gp_i p2, gp_n] [] s3 K) ∧ (¬ x4 = 0 → gs_C L d 3075 1 [gp_i p2] s3 (fun r s5 => ∃ x6, r = some (gp_i x6) ∧ ((x6 = 0 → gs_E L (d + 1) 3146 21 [gp_r (some 74), gp_i p0, gp_i p1, gp_i p2, gp_n] [] s5 K) ∧ (¬ x6 = 0 → gs_C L d 3120 4 [gp_r (some 74), gp_i p0, gp_i p1] s5 (fun r s7 => ∃ x8, r = some (gp_i x8) ∧ ((x8 = 0 → gs_C L d 3123 2 [gp_r (some 74), gp_i p2] s7 (fun r s9 => ∃ x10, r = some (gp_i x10) ∧ gs_E L (d + 1) 3146 54 [gp_r (some 74), gp_i p0, gp_i p1, gp_i p2, gp_i x8] [gp_i x10] s9 K)) ∧ (¬ x8 = 0 → gs_C L d 3074 2 [gp_r (some 74), gp_i x8] s7 (fun r s11 => ∃ x12, r = some (gp_i x12) ∧ gs_E L (d + 1) 3146 54 [gp_r (some 74), gp_i p0, gp_i p1, gp_i p2, gp_i x8] [gp_i x12] s11 K)))))))))))))) : gs_C L (d + 1) 3146 5 [gp_r (some 74), gp_i p0, gp_i p1, gp_i p2] s K := by
  show gs_E L (d + 1) 3146 0 [gp_r (some 74), gp_i p0, gp_i p1, gp_i p2, gp_n] [] s K
  refine gs_E.stp (pc' := 1) (ls' := [gp_r (some 74), gp_i p0, gp_i p1, gp_i p2, gp_n]) (st' := [gp_i p0]) (s' := s) 1 rfl ?_
  refine gs_E.call (args := [gp_i p0]) (m := 1) (y' := 3075) (st' := []) rfl H (fun r s1 H => ?_)
  obtain ⟨x2, rfl, H⟩ := H
  show gs_E L (d + 1) 3146 4 [gp_r (some 74), gp_i p0, gp_i p1, gp_i p2, gp_n] [gp_i x2] s1 K
  refine gs_E.br (c := x2 = 0) (p1 := 21) (p2 := 7) (l1 := [gp_r (some 74), gp_i p0, gp_i p1, gp_i p2, gp_n]) (l2 := [gp_r (some 74), gp_i p0, gp_i p1, gp_i p2, gp_n]) (s1 := []) (s2 := []) rfl gs_b1 (fun hc => ?_) (fun hc => ?_)
  · replace H := H.1 hc
    exact H
  · replace H := H.2 hc
    refine gs_E.stp (pc' := 8) (ls' := [gp_r (some 74), gp_i p0, gp_i p1, gp_i p2, gp_n]) (st' := [gp_i p1]) (s' := s1) 1 rfl ?_
    refine gs_E.call (args := [gp_i p1]) (m := 1) (y' := 3075) (st' := []) rfl H (fun r s3 H => ?_)
    obtain ⟨x4, rfl, H⟩ := H
    show gs_E L (d + 1) 3146 11 [gp_r (some 74), gp_i p0, gp_i p1, gp_i p2, gp_n] [gp_i x4] s3 K
    refine gs_E.br (c := x4 = 0) (p1 := 21) (p2 := 14) (l1 := [gp_r (some 74), gp_i p0, gp_i p1, gp_i p2, gp_n]) (l2 := [gp_r (some 74), gp_i p0, gp_i p1, gp_i p2, gp_n]) (s1 := []) (s2 := []) rfl gs_b1 (fun hc => ?_) (fun hc => ?_)
    · replace H := H.1 hc
      exact H
    · replace H := H.2 hc
      refine gs_E.stp (pc' := 15) (ls' := [gp_r (some 74), gp_i p0, gp_i p1, gp_i p2, gp_n]) (st' := [gp_i p2]) (s' := s3) 1 rfl ?_
      refine gs_E.call (args := [gp_i p2]) (m := 1) (y' := 3075) (st' := []) rfl H (fun r s5 H => ?_)
      obtain ⟨x6, rfl, H⟩ := H
      show gs_E L (d + 1) 3146 18 [gp_r (some 74), gp_i p0, gp_i p1, gp_i p2, gp_n] [gp_i x6] s5 K
      refine gs_E.br (c := ¬ x6 = 0) (p1 := 27) (p2 := 21) (l1 := [gp_r (some 74), gp_i p0, gp_i p1, gp_i p2, gp_n]) (l2 := [gp_r (some 74), gp_i p0, gp_i p1, gp_i p2, gp_n]) (s1 := []) (s2 := []) rfl gs_b2 (fun hc => ?_) (fun hc => ?_)
      · replace H := H.2 hc
        refine gs_E.stp (pc' := 30) (ls' := [gp_r (some 74), gp_i p0, gp_i p1, gp_i p2, gp_n]) (st' := [gp_i p1, gp_i p0, gp_r (some 74)]) (s' := s5) 3 rfl ?_
        refine gs_E.call (args := [gp_r (some 74), gp_i p0, gp_i p1]) (m := 4) (y' := 3120) (st' := []) rfl H (fun r s7 H => ?_)
        obtain ⟨x8, rfl, H⟩ := H
        show gs_E L (d + 1) 3146 33 [gp_r (some 74), gp_i p0, gp_i p1, gp_i p2, gp_n] [gp_i x8] s7 K
        refine gs_E.stp (pc' := 37) (ls' := [gp_r (some 74), gp_i p0, gp_i p1, gp_i p2, gp_i x8]) (st' := [gp_i x8]) (s' := s7) 2 rfl ?_
        refine gs_E.br (c := x8 = 0) (p1 := 49) (p2 := 40) (l1 := [gp_r (some 74), gp_i p0, gp_i p1, gp_i p2, gp_i x8]) (l2 := [gp_r (some 74), gp_i p0, gp_i p1, gp_i p2, gp_i x8]) (s1 := []) (s2 := []) rfl gs_b1 (fun hc => ?_) (fun hc => ?_)
        · replace H := H.1 hc
          refine gs_E.stp (pc' := 51) (ls' := [gp_r (some 74), gp_i p0, gp_i p1, gp_i p2, gp_i x8]) (st' := [gp_i p2, gp_r (some 74)]) (s' := s7) 2 rfl ?_
          refine gs_E.call (args := [gp_r (some 74), gp_i p2]) (m := 2) (y' := 3123) (st' := []) rfl H (fun r s9 H => ?_)
          obtain ⟨x10, rfl, H⟩ := H
          show gs_E L (d + 1) 3146 54 [gp_r (some 74), gp_i p0, gp_i p1, gp_i p2, gp_i x8] [gp_i x10] s9 K
          exact H
        · replace H := H.2 hc
          refine gs_E.stp (pc' := 43) (ls' := [gp_r (some 74), gp_i p0, gp_i p1, gp_i p2, gp_i x8]) (st' := [gp_i x8, gp_r (some 74)]) (s' := s7) 2 rfl ?_
          refine gs_E.call (args := [gp_r (some 74), gp_i x8]) (m := 2) (y' := 3074) (st' := []) rfl H (fun r s11 H => ?_)
          obtain ⟨x12, rfl, H⟩ := H
          show gs_E L (d + 1) 3146 46 [gp_r (some 74), gp_i p0, gp_i p1, gp_i p2, gp_i x8] [gp_i x12] s11 K
          refine gs_E.stp (pc' := 54) (ls' := [gp_r (some 74), gp_i p0, gp_i p1, gp_i p2, gp_i x8]) (st' := [gp_i x12]) (s' := s11) 1 rfl ?_
          exact H
      · replace H := H.1 (Decidable.byContradiction hc)
        exact H

set_option maxRecDepth 100000 in
/-- GatheredPointsModel.join, pc 21 -/
theorem s_3146_21 {L d : Nat} {K : Option gV → gH → Prop} {s : gH} (v1 : Int) (v2 : Int) (v3 : Int) (v4 : gV) (H : gs_C L d 3074 2 [gp_r (some 74), gp_i 1] s (fun r s1 => ∃ x2, r = some (gp_i x2) ∧ K (some (gp_i x2)) s1)) : gs_E L (d + 1) 3146 21 [gp_r (some 74), gp_i v1, gp_i v2, gp_i v3, v4] [] s K := by
  refine gs_E.stp (pc' := 23) (ls' := [gp_r (some 74), gp_i v1, gp_i v2, gp_i v3, v4]) (st' := [gp_i 1, gp_r (some 74)]) (s' := s) 2 rfl ?_
  refine gs_E.call (args := [gp_r (some 74), gp_i 1]) (m := 2) (y' := 3074) (st' := []) rfl H (fun r s1 H => ?_)
  obtain ⟨x2, rfl, H⟩ := H
  show gs_E L (d + 1) 3146 26 [gp_r (some 74), gp_i v1, gp_i v2, gp_i v3, v4] [gp_i x2] s1 K
  exact gs_E.ret (r := (some (gp_i x2))) rfl H

set_option maxRecDepth 100000 in
/-- GatheredPointsModel.join, pc 54 -/
theorem s_3146_54 {L d : Nat} {K : Option gV → gH → Prop} {s : gH} (v1 : Int) (v2 : Int) (v3 : Int) (v4 : Int) (w0 : Int) (H : K (some (gp_i w0)) s) : gs_E L (d + 1) 3146 54 [gp_r (some 74), gp_i v1, gp_i v2, gp_i v3, gp_i v4] [gp_i w0] s K := by
  exact gs_E.ret (r := (some (gp_i w0))) rfl H

set_option maxRecDepth 100000 in
/-- GatheredPointsModel.negate, pc 0 -/
theorem s_3147_e {L d : Nat} {K : Option gV → gH → Prop} {s : gH} (p0 : Int) (p1 : Int) (H : gs_C L d 3075 1 [gp_i p0] s (fun r s1 => ∃ x2, r = some (gp_i x2) ∧ ((x2 = 0 → gs_E L (d + 1) 3147 14 [gp_r (some 74), gp_i p0, gp_i p1] [] s1 K) ∧ (¬ x2 = 0 → gs_C L d 3075 1 [gp_i p1] s1 (fun r s3 => ∃ x4, r = some (gp_i x4) ∧ ((x4 = 0 → gs_E L (d + 1) 3147 14 [gp_r (some 74), gp_i p0, gp_i p1] [] s3 K) ∧ (¬ x4 = 0 → gs_C L d 3121 8 [gp_r (some 74), gp_i p0] s3 (fun r s5 => r = none ∧ gs_C L d 3123 2 [gp_r (some 74), gp_i p1] s5 (fun r s6 => ∃ x7, r = some (gp_i x7) ∧ K (some (gp_i x7)) s6))))))))) : gs_C L (d + 1) 3147 3 [gp_r (some 74), gp_i p0, gp_i p1] s K := by
  show gs_E L (d + 1) 3147 0 [gp_r (some 74), gp_i p0, gp_i p1] [] s K
  refine gs_E.stp (pc' := 1) (ls' := [gp_r (some 74), gp_i p0, gp_i p1]) (st' := [gp_i p0]) (s' := s) 1 rfl ?_
  refine gs_E.call (args := [gp_i p0]) (m := 1) (y' := 3075) (st' := []) rfl H (fun r s1 H => ?_)
  obtain ⟨x2, rfl, H⟩ := H
  show gs_E L (d + 1) 3147 4 [gp_r (some 74), gp_i p0, gp_i p1] [gp_i x2] s1 K
  refine gs_E.br (c := x2 = 0) (p1 := 14) (p2 := 7) (l1 := [gp_r (some 74), gp_i p0, gp_i p1]) (l2 := [gp_r (some 74), gp_i p0, gp_i p1]) (s1 := []) (s2 := []) rfl gs_b1 (fun hc => ?_) (fun hc => ?_)
  · replace H := H.1 hc
    exact H
  · replace H := H.2 hc
    refine gs_E.stp (pc' := 8) (ls' := [gp_r (some 74), gp_i p0, gp_i p1]) (st' := [gp_i p1]) (s' := s1) 1 rfl ?_
    refine gs_E.call (args := [gp_i p1]) (m := 1) (y' := 3075) (st' := []) rfl H (fun r s3 H => ?_)
    obtain ⟨x4, rfl, H⟩ := H
    show gs_E L (d + 1) 3147 11 [gp_r (some 74), gp_i p0, gp_i p1] [gp_i x4] s3 K
    refine gs_E.br (c := ¬ x4 = 0) (p1 := 20) (p2 := 14) (l1 := [gp_r (some 74), gp_i p0, gp_i p1]) (l2 := [gp_r (some 74), gp_i p0, gp_i p1]) (s1 := []) (s2 := []) rfl gs_b2 (fun hc => ?_) (fun hc => ?_)
    · replace H := H.2 hc
      refine gs_E.stp (pc' := 22) (ls' := [gp_r (some 74), gp_i p0, gp_i p1]) (st' := [gp_i p0, gp_r (some 74)]) (s' := s3) 2 rfl ?_
      refine gs_E.call (args := [gp_r (some 74), gp_i p0]) (m := 8) (y' := 3121) (st' := []) rfl H (fun r s5 H => ?_)
      obtain ⟨rfl, H⟩ := H
      show gs_E L (d + 1) 3147 25 [gp_r (some 74), gp_i p0, gp_i p1] [] s5 K
      refine gs_E.stp (pc' := 27) (ls' := [gp_r (some 74), gp_i p0, gp_i p1]) (st' := [gp_i p1, gp_r (some 74)]) (s' := s5) 2 rfl ?_
      refine gs_E.call (args := [gp_r (some 74), gp_i p1]) (m := 2) (y' := 3123) (st' := []) rfl H (fun r s6 H => ?_)
      obtain ⟨x7, rfl, H⟩ := H
      show gs_E L (d + 1) 3147 30 [gp_r (some 74), gp_i p0, gp_i p1] [gp_i x7] s6 K
      exact gs_E.ret (r := (some (gp_i x7))) rfl H
    · replace H := H.1 (Decidable.byContradiction hc)
      exact H

set_option maxRecDepth 100000 in
/-- GatheredPointsModel.negate, pc 14 -/
theorem s_3147_14 {L d : Nat} {K : Option gV → gH → Prop} {s : gH} (v1 : Int) (v2 : Int) (H : gs_C L d 3074 2 [gp_r (some 74), gp_i 1] s (fun r s1 => ∃ x2, r = some (gp_i x2) ∧ K (some (gp_i x2)) s1)) : gs_E L (d + 1) 3147 14 [gp_r (some 74), gp_i v1, gp_i v2] [] s K := by
  refine gs_E.stp (pc' := 16) (ls' := [gp_r (some 74), gp_i v1, gp_i v2]) (st' := [gp_i 1, gp_r (some 74)]) (s' := s) 2 rfl ?_
  refine gs_E.call (args := [gp_r (some 74), gp_i 1]) (m := 2) (y' := 3074) (st' := []) rfl H (fun r s1 H => ?_)
  obtain ⟨x2, rfl, H⟩ := H
  show gs_E L (d + 1) 3147 19 [gp_r (some 74), gp_i v1, gp_i v2] [gp_i x2] s1 K
  exact gs_E.ret (r := (some (gp_i x2))) rfl H

set_option maxRecDepth 100000 in
/-- GatheredPointsModel.holdsPart, pc 0 -/
theorem s_3148_e {L d : Nat} {K : Option gV → gH → Prop} {s : gH} (p0 : Int) (p1 : Int) (p2 : Int) (H : gs_C L d 3085 1 [gp_r (some 74)] s (fun r s1 => r = none ∧ gs_C L d 3096 8 [gp_r (some 74), gp_i p0] s1 (fun r s2 => ∃ x3, r = some (gp_i x3) ∧ ((0 ≤ p1 ∧ p1 < 64) ∧ gs_C L d 3093 9 [gp_r (some 74), gp_i (gp_I s2 89 p1.toNat), gp_i 19] s2 (fun r s4 => r = none ∧ gs_C L d 3123 2 [gp_r (some 74), gp_i p2] s4 (fun r s5 => ∃ x6, r = some (gp_i x6) ∧ K (some (gp_i x6)) s5)))))) : gs_C L (d + 1) 3148 4 [gp_r (some 74), gp_i p0, gp_i p1, gp_i p2] s K := by
  show gs_E L (d + 1) 3148 0 [gp_r (some 74), gp_i p0, gp_i p1, gp_i p2] [] s K
  refine gs_E.stp (pc' := 1) (ls' := [gp_r (some 74), gp_i p0, gp_i p1, gp_i p2]) (st' := [gp_r (some 74)]) (s' := s) 1 rfl ?_
  refine gs_E.call (args := [gp_r (some 74)]) (m := 1) (y' := 3085) (st' := []) rfl H (fun r s1 H => ?_)
  obtain ⟨rfl, H⟩ := H
  show gs_E L (d + 1) 3148 4 [gp_r (some 74), gp_i p0, gp_i p1, gp_i p2] [] s1 K
  refine gs_E.stp (pc' := 6) (ls' := [gp_r (some 74), gp_i p0, gp_i p1, gp_i p2]) (st' := [gp_i p0, gp_r (some 74)]) (s' := s1) 2 rfl ?_
  refine gs_E.call (args := [gp_r (some 74), gp_i p0]) (m := 8) (y' := 3096) (st' := []) rfl H (fun r s2 H => ?_)
  obtain ⟨x3, rfl, H⟩ := H
  show gs_E L (d + 1) 3148 9 [gp_r (some 74), gp_i p0, gp_i p1, gp_i p2] [gp_i x3] s2 K
  refine gs_E.stp (pc' := 16) (ls' := [gp_r (some 74), gp_i p0, gp_i p1, gp_i p2]) (st' := [gp_i p1, gp_r (some 89), gp_r (some 74)]) (s' := s2) 5 rfl ?_
  refine gs_E.ck (pc' := 17) (ls' := [gp_r (some 74), gp_i p0, gp_i p1, gp_i p2]) (st' := [gp_i (gp_I s2 89 p1.toNat), gp_r (some 74)]) (s' := s2) rfl (Or.inl ⟨rfl, H.1.1, H.1.2⟩) ?_
  replace H := H.2
  refine gs_E.stp (pc' := 19) (ls' := [gp_r (some 74), gp_i p0, gp_i p1, gp_i p2]) (st' := [gp_i 19, gp_i (gp_I s2 89 p1.toNat), gp_r (some 74)]) (s' := s2) 1 rfl ?_
  refine gs_E.call (args := [gp_r (some 74), gp_i (gp_I s2 89 p1.toNat), gp_i 19]) (m := 9) (y' := 3093) (st' := []) rfl H (fun r s4 H => ?_)
  obtain ⟨rfl, H⟩ := H
  show gs_E L (d + 1) 3148 22 [gp_r (some 74), gp_i p0, gp_i p1, gp_i p2] [] s4 K
  refine gs_E.stp (pc' := 24) (ls' := [gp_r (some 74), gp_i p0, gp_i p1, gp_i p2]) (st' := [gp_i p2, gp_r (some 74)]) (s' := s4) 2 rfl ?_
  refine gs_E.call (args := [gp_r (some 74), gp_i p2]) (m := 2) (y' := 3123) (st' := []) rfl H (fun r s5 H => ?_)
  obtain ⟨x6, rfl, H⟩ := H
  show gs_E L (d + 1) 3148 27 [gp_r (some 74), gp_i p0, gp_i p1, gp_i p2] [gp_i x6] s5 K
  exact gs_E.ret (r := (some (gp_i x6))) rfl H

set_option maxRecDepth 100000 in
/-- GatheredPointsModel.option, pc 0 -/
theorem s_3149_e {L d : Nat} {K : Option gV → gH → Prop} {s : gH} (p0 : Int) (p1 : Int) (p2 : Int) (p3 : Int) (H : gs_C L d 3075 1 [gp_i p0] s (fun r s1 => ∃ x2, r = some (gp_i x2) ∧ ((x2 = 0 → gs_E L (d + 1) 3149 22 [gp_r (some 74), gp_i p0, gp_i p1, gp_i p2, gp_i p3, gp_n] [] s1 K) ∧ (¬ x2 = 0 → gs_C L d 3077 1 [gp_i p1] s1 (fun r s3 => ∃ x4, r = some (gp_i x4) ∧ ((x4 = 0 → gs_E L (d + 1) 3149 22 [gp_r (some 74), gp_i p0, gp_i p1, gp_i p2, gp_i p3, gp_n] [] s3 K) ∧ (¬ x4 = 0 → gs_C L d 3075 1 [gp_i p3] s3 (fun r s5 => ∃ x6, r = some (gp_i x6) ∧ ((x6 = 0 → gs_E L (d + 1) 3149 22 [gp_r (some 74), gp_i p0, gp_i p1, gp_i p2, gp_i p3, gp_n] [] s5 K) ∧ (¬ x6 = 0 → ((p2 < 0 → gs_E L (d + 1) 3149 51 [gp_r (some 74), gp_i p0, gp_i p1, gp_i p2, gp_i p3, gp_n] [gp_i (-1)] s5 K) ∧ (¬ p2 < 0 → gs_C L d 3081 2 [gp_r (some 74), gp_i p0] s5 (fun r s7 => ∃ x8, r = some (gp_i x8) ∧ gs_C L d 3082 4 [gp_r (some 74), gp_i p0, gp_i x8, gp_i p1] s7 (fun r s9 => ∃ m10, r = some (gp_l m10) ∧ gs_C L d 3080 5 [gp_l m10, gp_i p2] s9 (fun r s11 => ∃ x12, r = some (gp_i x12) ∧ gs_E L (d + 1) 3149 51 [gp_r (some 74), gp_i p0, gp_i p1, gp_i p2, gp_i p3, gp_n] [gp_i x12] s11 K))))))))))))))) : gs_C L (d + 1) 3149 6 [gp_r (some 74), gp_i p0, gp_i p1, gp_i p2, gp_i p3] s K := by
  show gs_E L (d + 1) 3149 0 [gp_r (some 74), gp_i p0, gp_i p1, gp_i p2, gp_i p3, gp_n] [] s K
  refine gs_E.stp (pc' := 1) (ls' := [gp_r (some 74), gp_i p0, gp_i p1, gp_i p2, gp_i p3, gp_n]) (st' := [gp_i p0]) (s' := s) 1 rfl ?_
  refine gs_E.call (args := [gp_i p0]) (m := 1) (y' := 3075) (st' := []) rfl H (fun r s1 H => ?_)
  obtain ⟨x2, rfl, H⟩ := H
  show gs_E L (d + 1) 3149 4 [gp_r (some 74), gp_i p0, gp_i p1, gp_i p2, gp_i p3, gp_n] [gp_i x2] s1 K
  refine gs_E.br (c := x2 = 0) (p1 := 22) (p2 := 7) (l1 := [gp_r (some 74), gp_i p0, gp_i p1, gp_i p2, gp_i p3, gp_n]) (l2 := [gp_r (some 74), gp_i p0, gp_i p1, gp_i p2, gp_i p3, gp_n]) (s1 := []) (s2 := []) rfl gs_b1 (fun hc => ?_) (fun hc => ?_)
  · replace H := H.1 hc
    exact H
  · replace H := H.2 hc
    refine gs_E.stp (pc' := 8) (ls' := [gp_r (some 74), gp_i p0, gp_i p1, gp_i p2, gp_i p3, gp_n]) (st' := [gp_i p1]) (s' := s1) 1 rfl ?_
    refine gs_E.call (args := [gp_i p1]) (m := 1) (y' := 3077) (st' := []) rfl H (fun r s3 H => ?_)
    obtain ⟨x4, rfl, H⟩ := H
    show gs_E L (d + 1) 3149 11 [gp_r (some 74), gp_i p0, gp_i p1, gp_i p2, gp_i p3, gp_n] [gp_i x4] s3 K
    refine gs_E.br (c := x4 = 0) (p1 := 22) (p2 := 14) (l1 := [gp_r (some 74), gp_i p0, gp_i p1, gp_i p2, gp_i p3, gp_n]) (l2 := [gp_r (some 74), gp_i p0, gp_i p1, gp_i p2, gp_i p3, gp_n]) (s1 := []) (s2 := []) rfl gs_b1 (fun hc => ?_) (fun hc => ?_)
    · replace H := H.1 hc
      exact H
    · replace H := H.2 hc
      refine gs_E.stp (pc' := 16) (ls' := [gp_r (some 74), gp_i p0, gp_i p1, gp_i p2, gp_i p3, gp_n]) (st' := [gp_i p3]) (s' := s3) 1 rfl ?_
      refine gs_E.call (args := [gp_i p3]) (m := 1) (y' := 3075) (st' := []) rfl H (fun r s5 H => ?_)
      obtain ⟨x6, rfl, H⟩ := H
      show gs_E L (d + 1) 3149 19 [gp_r (some 74), gp_i p0, gp_i p1, gp_i p2, gp_i p3, gp_n] [gp_i x6] s5 K
      refine gs_E.br (c := ¬ x6 = 0) (p1 := 28) (p2 := 22) (l1 := [gp_r (some 74), gp_i p0, gp_i p1, gp_i p2, gp_i p3, gp_n]) (l2 := [gp_r (some 74), gp_i p0, gp_i p1, gp_i p2, gp_i p3, gp_n]) (s1 := []) (s2 := []) rfl gs_b2 (fun hc => ?_) (fun hc => ?_)
      · replace H := H.2 hc
        refine gs_E.stp (pc' := 29) (ls' := [gp_r (some 74), gp_i p0, gp_i p1, gp_i p2, gp_i p3, gp_n]) (st' := [gp_i p2]) (s' := s5) 1 rfl ?_
        refine gs_E.br (c := ¬ p2 < 0) (p1 := 36) (p2 := 32) (l1 := [gp_r (some 74), gp_i p0, gp_i p1, gp_i p2, gp_i p3, gp_n]) (l2 := [gp_r (some 74), gp_i p0, gp_i p1, gp_i p2, gp_i p3, gp_n]) (s1 := []) (s2 := []) rfl gs_b2 (fun hc => ?_) (fun hc => ?_)
        · replace H := H.2 hc
          refine gs_E.stp (pc' := 40) (ls' := [gp_r (some 74), gp_i p0, gp_i p1, gp_i p2, gp_i p3, gp_n]) (st' := [gp_i p0, gp_r (some 74), gp_i p0, gp_r (some 74)]) (s' := s5) 4 rfl ?_
          refine gs_E.call (args := [gp_r (some 74), gp_i p0]) (m := 2) (y' := 3081) (st' := [gp_i p0, gp_r (some 74)]) rfl H (fun r s7 H => ?_)
          obtain ⟨x8, rfl, H⟩ := H
          show gs_E L (d + 1) 3149 43 [gp_r (some 74), gp_i p0, gp_i p1, gp_i p2, gp_i p3, gp_n] [gp_i x8, gp_i p0, gp_r (some 74)] s7 K
          refine gs_E.stp (pc' := 44) (ls' := [gp_r (some 74), gp_i p0, gp_i p1, gp_i p2, gp_i p3, gp_n]) (st' := [gp_i p1, gp_i x8, gp_i p0, gp_r (some 74)]) (s' := s7) 1 rfl ?_
          refine gs_E.call (args := [gp_r (some 74), gp_i p0, gp_i x8, gp_i p1]) (m := 4) (y' := 3082) (st' := []) rfl H (fun r s9 H => ?_)
          obtain ⟨m10, rfl, H⟩ := H
          show gs_E L (d + 1) 3149 47 [gp_r (some 74), gp_i p0, gp_i p1, gp_i p2, gp_i p3, gp_n] [gp_l m10] s9 K
          refine gs_E.stp (pc' := 48) (ls' := [gp_r (some 74), gp_i p0, gp_i p1, gp_i p2, gp_i p3, gp_n]) (st' := [gp_i p2, gp_l m10]) (s' := s9) 1 rfl ?_
          refine gs_E.call (args := [gp_l m10, gp_i p2]) (m := 5) (y' := 3080) (st' := []) rfl H (fun r s11 H => ?_)
          obtain ⟨x12, rfl, H⟩ := H
          show gs_E L (d + 1) 3149 51 [gp_r (some 74), gp_i p0, gp_i p1, gp_i p2, gp_i p3, gp_n] [gp_i x12] s11 K
          exact H
        · replace H := H.1 (Decidable.byContradiction hc)
          refine gs_E.stp (pc' := 51) (ls' := [gp_r (some 74), gp_i p0, gp_i p1, gp_i p2, gp_i p3, gp_n]) (st' := [gp_i (-1)]) (s' := s5) 2 rfl ?_
          exact H
      · replace H := H.1 (Decidable.byContradiction hc)
        exact H

set_option maxRecDepth 100000 in
/-- GatheredPointsModel.option, pc 22 -/
theorem s_3149_22 {L d : Nat} {K : Option gV → gH → Prop} {s : gH} (v1 : Int) (v2 : Int) (v3 : Int) (v4 : Int) (v5 : gV) (H : gs_C L d 3074 2 [gp_r (some 74), gp_i 1] s (fun r s1 => ∃ x2, r = some (gp_i x2) ∧ K (some (gp_i x2)) s1)) : gs_E L (d + 1) 3149 22 [gp_r (some 74), gp_i v1, gp_i v2, gp_i v3, gp_i v4, v5] [] s K := by
  refine gs_E.stp (pc' := 24) (ls' := [gp_r (some 74), gp_i v1, gp_i v2, gp_i v3, gp_i v4, v5]) (st' := [gp_i 1, gp_r (some 74)]) (s' := s) 2 rfl ?_
  refine gs_E.call (args := [gp_r (some 74), gp_i 1]) (m := 2) (y' := 3074) (st' := []) rfl H (fun r s1 H => ?_)
  obtain ⟨x2, rfl, H⟩ := H
  show gs_E L (d + 1) 3149 27 [gp_r (some 74), gp_i v1, gp_i v2, gp_i v3, gp_i v4, v5] [gp_i x2] s1 K
  exact gs_E.ret (r := (some (gp_i x2))) rfl H

set_option maxRecDepth 100000 in
/-- GatheredPointsModel.option, pc 51 -/
theorem s_3149_51 {L d : Nat} {K : Option gV → gH → Prop} {s : gH} (v1 : Int) (v2 : Int) (v3 : Int) (v4 : Int) (v5 : gV) (w0 : Int) (H : ((w0 < 0 → gs_C L d 3074 2 [gp_r (some 74), gp_i 2] s (fun r s3 => ∃ x4, r = some (gp_i x4) ∧ gs_E L (d + 1) 3149 75 [gp_r (some 74), gp_i v1, gp_i v2, gp_i v3, gp_i v4, gp_i w0] [gp_i x4] s3 K)) ∧ (¬ w0 < 0 → gs_C L d 3148 4 [gp_r (some 74), gp_i v1, gp_i w0, gp_i v4] s (fun r s1 => ∃ x2, r = some (gp_i x2) ∧ gs_E L (d + 1) 3149 75 [gp_r (some 74), gp_i v1, gp_i v2, gp_i v3, gp_i v4, gp_i w0] [gp_i x2] s1 K)))) : gs_E L (d + 1) 3149 51 [gp_r (some 74), gp_i v1, gp_i v2, gp_i v3, gp_i v4, v5] [gp_i w0] s K := by
  refine gs_E.stp (pc' := 55) (ls' := [gp_r (some 74), gp_i v1, gp_i v2, gp_i v3, gp_i v4, gp_i w0]) (st' := [gp_i w0]) (s' := s) 2 rfl ?_
  refine gs_E.br (c := ¬ w0 < 0) (p1 := 66) (p2 := 58) (l1 := [gp_r (some 74), gp_i v1, gp_i v2, gp_i v3, gp_i v4, gp_i w0]) (l2 := [gp_r (some 74), gp_i v1, gp_i v2, gp_i v3, gp_i v4, gp_i w0]) (s1 := []) (s2 := []) rfl gs_b2 (fun hc => ?_) (fun hc => ?_)
  · replace H := H.2 hc
    refine gs_E.stp (pc' := 72) (ls' := [gp_r (some 74), gp_i v1, gp_i v2, gp_i v3, gp_i v4, gp_i w0]) (st' := [gp_i v4, gp_i w0, gp_i v1, gp_r (some 74)]) (s' := s) 4 rfl ?_
    refine gs_E.call (args := [gp_r (some 74), gp_i v1, gp_i w0, gp_i v4]) (m := 4) (y' := 3148) (st' := []) rfl H (fun r s1 H => ?_)
    obtain ⟨x2, rfl, H⟩ := H
    show gs_E L (d + 1) 3149 75 [gp_r (some 74), gp_i v1, gp_i v2, gp_i v3, gp_i v4, gp_i w0] [gp_i x2] s1 K
    exact H
  · replace H := H.1 (Decidable.byContradiction hc)
    refine gs_E.stp (pc' := 60) (ls' := [gp_r (some 74), gp_i v1, gp_i v2, gp_i v3, gp_i v4, gp_i w0]) (st' := [gp_i 2, gp_r (some 74)]) (s' := s) 2 rfl ?_
    refine gs_E.call (args := [gp_r (some 74), gp_i 2]) (m := 2) (y' := 3074) (st' := []) rfl H (fun r s3 H => ?_)
    obtain ⟨x4, rfl, H⟩ := H
    show gs_E L (d + 1) 3149 63 [gp_r (some 74), gp_i v1, gp_i v2, gp_i v3, gp_i v4, gp_i w0] [gp_i x4] s3 K
    refine gs_E.stp (pc' := 75) (ls' := [gp_r (some 74), gp_i v1, gp_i v2, gp_i v3, gp_i v4, gp_i w0]) (st' := [gp_i x4]) (s' := s3) 1 rfl ?_
    exact H

set_option maxRecDepth 100000 in
/-- GatheredPointsModel.option, pc 75 -/
theorem s_3149_75 {L d : Nat} {K : Option gV → gH → Prop} {s : gH} (v1 : Int) (v2 : Int) (v3 : Int) (v4 : Int) (v5 : Int) (w0 : Int) (H : K (some (gp_i w0)) s) : gs_E L (d + 1) 3149 75 [gp_r (some 74), gp_i v1, gp_i v2, gp_i v3, gp_i v4, gp_i v5] [gp_i w0] s K := by
  exact gs_E.ret (r := (some (gp_i w0))) rfl H

set_option maxRecDepth 100000 in
/-- GatheredPointsModel.gameOf, pc 0 -/
theorem s_3150_e {L d : Nat} {K : Option gV → gH → Prop} {s : gH} (p0 : Int) (p1 : Int) (H : gs_C L d 3075 1 [gp_i p0] s (fun r s1 => ∃ x2, r = some (gp_i x2) ∧ ((x2 = 0 → gs_E L (d + 1) 3150 19 [gp_r (some 74), gp_i p0, gp_i p1, gp_n] [] s1 K) ∧ (¬ x2 = 0 → gs_C L d 3073 6 [gp_l (BitVec.ofInt 64 p1), gp_l (0#64), gp_l (BitVec.ofInt 64 12)] s1 (fun r s3 => ∃ x4, r = some (gp_i x4) ∧ ((x4 = 0 → gs_E L (d + 1) 3150 19 [gp_r (some 74), gp_i p0, gp_i p1, gp_n] [] s3 K) ∧ (¬ x4 = 0 → gs_C L d 3081 2 [gp_r (some 74), gp_i p0] s3 (fun r s5 => ∃ x6, r = some (gp_i x6) ∧ ((p1 = 0 → ((0 ≤ p0 ∧ p0 < 85) ∧ K (some (gp_i (gp_I s5 81 p0.toNat))) s5)) ∧ (p1 = 1 → ((0 ≤ (gp_wr ((gp_wr (64 * p0)) + x6)) ∧ (gp_wr ((gp_wr (64 * p0)) + x6)) < 5440) ∧ K (some (gp_i (gp_I s5 80 (gp_wr ((gp_wr (64 * p0)) + x6)).toNat))) s5)) ∧ (p1 = 2 → gs_C L d 3082 4 [gp_r (some 74), gp_i p0, gp_i x6, gp_i (gp_wr (p1 - 2))] s5 (fun r s7 => ∃ m8, r = some (gp_l m8) ∧ gs_C L d 3079 4 [gp_l m8] s7 (fun r s9 => ∃ x10, r = some (gp_i x10) ∧ K (some (gp_i x10)) s9))) ∧ (p1 = 3 → gs_C L d 3082 4 [gp_r (some 74), gp_i p0, gp_i x6, gp_i (gp_wr (p1 - 2))] s5 (fun r s11 => ∃ m12, r = some (gp_l m12) ∧ gs_C L d 3079 4 [gp_l m12] s11 (fun r s13 => ∃ x14, r = some (gp_i x14) ∧ K (some (gp_i x14)) s13))) ∧ (p1 = 4 → gs_C L d 3082 4 [gp_r (some 74), gp_i p0, gp_i x6, gp_i (gp_wr (p1 - 4))] s5 (fun r s15 => ∃ m16, r = some (gp_l m16) ∧ (((gp_cmp m16 (0#64)) = 0 → gs_C L d 3083 4 [gp_r (some 74), gp_i p0, gp_i x6, gp_i (gp_wr (p1 - 4))] s15 (fun r s17 => ∃ x18, r = some (gp_i x18) ∧ gs_E L (d + 1) 3150 163 [gp_r (some 74), gp_i p0, gp_i p1, gp_i x6] [gp_i x18] s17 K)) ∧ (¬ (gp_cmp m16 (0#64)) = 0 → gs_C L d 3074 2 [gp_r (some 74), gp_i 2] s15 (fun r s19 => ∃ x20, r = some (gp_i x20) ∧ gs_E L (d + 1) 3150 163 [gp_r (some 74), gp_i p0, gp_i p1, gp_i x6] [gp_i x20] s19 K))))) ∧ (p1 = 5 → gs_C L d 3082 4 [gp_r (some 74), gp_i p0, gp_i x6, gp_i (gp_wr (p1 - 4))] s5 (fun r s21 => ∃ m22, r = some (gp_l m22) ∧ (((gp_cmp m22 (0#64)) = 0 → gs_C L d 3083 4 [gp_r (some 74), gp_i p0, gp_i x6, gp_i (gp_wr (p1 - 4))] s21 (fun r s23 => ∃ x24, r = some (gp_i x24) ∧ gs_E L (d + 1) 3150 163 [gp_r (some 74), gp_i p0, gp_i p1, gp_i x6] [gp_i x24] s23 K)) ∧ (¬ (gp_cmp m22 (0#64)) = 0 → gs_C L d 3074 2 [gp_r (some 74), gp_i 2] s21 (fun r s25 => ∃ x26, r = some (gp_i x26) ∧ gs_E L (d + 1) 3150 163 [gp_r (some 74), gp_i p0, gp_i p1, gp_i x6] [gp_i x26] s25 K))))) ∧ (p1 = 6 → gs_C L d 3099 3 [gp_r (some 74), gp_i p0] s5 (fun r s27 => r = none ∧ ((p1 = 6 → ((0 ≤ x6 ∧ x6 < 64) ∧ gs_E L (d + 1) 3150 190 [gp_r (some 74), gp_i p0, gp_i p1, gp_i x6] [gp_i (gp_I s27 90 x6.toNat)] s27 K)) ∧ (¬ p1 = 6 → ((0 ≤ x6 ∧ x6 < 64) ∧ gs_E L (d + 1) 3150 190 [gp_r (some 74), gp_i p0, gp_i p1, gp_i x6] [gp_i (gp_I s27 91 x6.toNat)] s27 K))))) ∧ (p1 = 7 → gs_C L d 3099 3 [gp_r (some 74), gp_i p0] s5 (fun r s28 => r = none ∧ ((p1 = 6 → ((0 ≤ x6 ∧ x6 < 64) ∧ gs_E L (d + 1) 3150 190 [gp_r (some 74), gp_i p0, gp_i p1, gp_i x6] [gp_i (gp_I s28 90 x6.toNat)] s28 K)) ∧ (¬ p1 = 6 → ((0 ≤ x6 ∧ x6 < 64) ∧ gs_E L (d + 1) 3150 190 [gp_r (some 74), gp_i p0, gp_i p1, gp_i x6] [gp_i (gp_I s28 91 x6.toNat)] s28 K))))) ∧ (p1 = 8 → gs_C L d 3101 3 [gp_r (some 74), gp_i p0] s5 (fun r s29 => r = none ∧ ((p1 = 8 → ((0 ≤ x6 ∧ x6 < 64) ∧ gs_E L (d + 1) 3150 249 [gp_r (some 74), gp_i p0, gp_i p1, gp_i x6] [gp_i (gp_I s29 92 x6.toNat)] s29 K)) ∧ (¬ p1 = 8 → ((p1 = 9 → ((0 ≤ x6 ∧ x6 < 64) ∧ gs_E L (d + 1) 3150 249 [gp_r (some 74), gp_i p0, gp_i p1, gp_i x6] [gp_i (gp_I s29 93 x6.toNat)] s29 K)) ∧ (¬ p1 = 9 → gs_C L d 3102 4 [gp_r (some 74), gp_i x6, gp_i (gp_wr (p1 - 10))] s29 (fun r s30 => ∃ x31, r = some (gp_i x31) ∧ gs_E L (d + 1) 3150 249 [gp_r (some 74), gp_i p0, gp_i p1, gp_i x6] [gp_i x31] s30 K))))))) ∧ (p1 = 9 → gs_C L d 3101 3 [gp_r (some 74), gp_i p0] s5 (fun r s32 => r = none ∧ ((p1 = 8 → ((0 ≤ x6 ∧ x6 < 64) ∧ gs_E L (d + 1) 3150 249 [gp_r (some 74), gp_i p0, gp_i p1, gp_i x6] [gp_i (gp_I s32 92 x6.toNat)] s32 K)) ∧ (¬ p1 = 8 → ((p1 = 9 → ((0 ≤ x6 ∧ x6 < 64) ∧ gs_E L (d + 1) 3150 249 [gp_r (some 74), gp_i p0, gp_i p1, gp_i x6] [gp_i (gp_I s32 93 x6.toNat)] s32 K)) ∧ (¬ p1 = 9 → gs_C L d 3102 4 [gp_r (some 74), gp_i x6, gp_i (gp_wr (p1 - 10))] s32 (fun r s33 => ∃ x34, r = some (gp_i x34) ∧ gs_E L (d + 1) 3150 249 [gp_r (some 74), gp_i p0, gp_i p1, gp_i x6] [gp_i x34] s33 K))))))) ∧ (p1 = 10 → gs_C L d 3101 3 [gp_r (some 74), gp_i p0] s5 (fun r s35 => r = none ∧ ((p1 = 8 → ((0 ≤ x6 ∧ x6 < 64) ∧ gs_E L (d + 1) 3150 249 [gp_r (some 74), gp_i p0, gp_i p1, gp_i x6] [gp_i (gp_I s35 92 x6.toNat)] s35 K)) ∧ (¬ p1 = 8 → ((p1 = 9 → ((0 ≤ x6 ∧ x6 < 64) ∧ gs_E L (d + 1) 3150 249 [gp_r (some 74), gp_i p0, gp_i p1, gp_i x6] [gp_i (gp_I s35 93 x6.toNat)] s35 K)) ∧ (¬ p1 = 9 → gs_C L d 3102 4 [gp_r (some 74), gp_i x6, gp_i (gp_wr (p1 - 10))] s35 (fun r s36 => ∃ x37, r = some (gp_i x37) ∧ gs_E L (d + 1) 3150 249 [gp_r (some 74), gp_i p0, gp_i p1, gp_i x6] [gp_i x37] s36 K))))))) ∧ (p1 = 11 → gs_C L d 3101 3 [gp_r (some 74), gp_i p0] s5 (fun r s38 => r = none ∧ ((p1 = 8 → ((0 ≤ x6 ∧ x6 < 64) ∧ gs_E L (d + 1) 3150 249 [gp_r (some 74), gp_i p0, gp_i p1, gp_i x6] [gp_i (gp_I s38 92 x6.toNat)] s38 K)) ∧ (¬ p1 = 8 → ((p1 = 9 → ((0 ≤ x6 ∧ x6 < 64) ∧ gs_E L (d + 1) 3150 249 [gp_r (some 74), gp_i p0, gp_i p1, gp_i x6] [gp_i (gp_I s38 93 x6.toNat)] s38 K)) ∧ (¬ p1 = 9 → gs_C L d 3102 4 [gp_r (some 74), gp_i x6, gp_i (gp_wr (p1 - 10))] s38 (fun r s39 => ∃ x40, r = some (gp_i x40) ∧ gs_E L (d + 1) 3150 249 [gp_r (some 74), gp_i p0, gp_i p1, gp_i x6] [gp_i x40] s39 K))))))) ∧ (p1 = 12 → gs_C L d 3103 9 [gp_r (some 74), gp_i p0] s5 (fun r s41 => ∃ x42, r = some (gp_i x42) ∧ ((x42 = 0 → gs_E L (d + 1) 3150 204 [gp_r (some 74), gp_i p0, gp_i p1, gp_i x6] [gp_i 0] s41 K) ∧ (¬ x42 = 0 → gs_E L (d + 1) 3150 204 [gp_r (some 74), gp_i p0, gp_i p1, gp_i x6] [gp_i 1] s41 K)))) ∧ ((p1 < 0 ∨ 12 < p1) → gs_C L d 3101 3 [gp_r (some 74), gp_i p0] s5 (fun r s43 => r = none ∧ ((p1 = 8 → ((0 ≤ x6 ∧ x6 < 64) ∧ gs_E L (d + 1) 3150 249 [gp_r (some 74), gp_i p0, gp_i p1, gp_i x6] [gp_i (gp_I s43 92 x6.toNat)] s43 K)) ∧ (¬ p1 = 8 → ((p1 = 9 → ((0 ≤ x6 ∧ x6 < 64) ∧ gs_E L (d + 1) 3150 249 [gp_r (some 74), gp_i p0, gp_i p1, gp_i x6] [gp_i (gp_I s43 93 x6.toNat)] s43 K)) ∧ (¬ p1 = 9 → gs_C L d 3102 4 [gp_r (some 74), gp_i x6, gp_i (gp_wr (p1 - 10))] s43 (fun r s44 => ∃ x45, r = some (gp_i x45) ∧ gs_E L (d + 1) 3150 249 [gp_r (some 74), gp_i p0, gp_i p1, gp_i x6] [gp_i x45] s44 K)))))))))))))))) : gs_C L (d + 1) 3150 4 [gp_r (some 74), gp_i p0, gp_i p1] s K := by
  show gs_E L (d + 1) 3150 0 [gp_r (some 74), gp_i p0, gp_i p1, gp_n] [] s K
  refine gs_E.stp (pc' := 1) (ls' := [gp_r (some 74), gp_i p0, gp_i p1, gp_n]) (st' := [gp_i p0]) (s' := s) 1 rfl ?_
  refine gs_E.call (args := [gp_i p0]) (m := 1) (y' := 3075) (st' := []) rfl H (fun r s1 H => ?_)
  obtain ⟨x2, rfl, H⟩ := H
  show gs_E L (d + 1) 3150 4 [gp_r (some 74), gp_i p0, gp_i p1, gp_n] [gp_i x2] s1 K
  refine gs_E.br (c := x2 = 0) (p1 := 19) (p2 := 7) (l1 := [gp_r (some 74), gp_i p0, gp_i p1, gp_n]) (l2 := [gp_r (some 74), gp_i p0, gp_i p1, gp_n]) (s1 := []) (s2 := []) rfl gs_b1 (fun hc => ?_) (fun hc => ?_)
  · replace H := H.1 hc
    exact H
  · replace H := H.2 hc
    refine gs_E.stp (pc' := 13) (ls' := [gp_r (some 74), gp_i p0, gp_i p1, gp_n]) (st' := [gp_l (BitVec.ofInt 64 12), gp_l (0#64), gp_l (BitVec.ofInt 64 p1)]) (s' := s1) 4 rfl ?_
    refine gs_E.call (args := [gp_l (BitVec.ofInt 64 p1), gp_l (0#64), gp_l (BitVec.ofInt 64 12)]) (m := 6) (y' := 3073) (st' := []) rfl H (fun r s3 H => ?_)
    obtain ⟨x4, rfl, H⟩ := H
    show gs_E L (d + 1) 3150 16 [gp_r (some 74), gp_i p0, gp_i p1, gp_n] [gp_i x4] s3 K
    refine gs_E.br (c := ¬ x4 = 0) (p1 := 25) (p2 := 19) (l1 := [gp_r (some 74), gp_i p0, gp_i p1, gp_n]) (l2 := [gp_r (some 74), gp_i p0, gp_i p1, gp_n]) (s1 := []) (s2 := []) rfl gs_b2 (fun hc => ?_) (fun hc => ?_)
    · replace H := H.2 hc
      refine gs_E.stp (pc' := 27) (ls' := [gp_r (some 74), gp_i p0, gp_i p1, gp_n]) (st' := [gp_i p0, gp_r (some 74)]) (s' := s3) 2 rfl ?_
      refine gs_E.call (args := [gp_r (some 74), gp_i p0]) (m := 2) (y' := 3081) (st' := []) rfl H (fun r s5 H => ?_)
      obtain ⟨x6, rfl, H⟩ := H
      show gs_E L (d + 1) 3150 30 [gp_r (some 74), gp_i p0, gp_i p1, gp_n] [gp_i x6] s5 K
      refine gs_E.stp (pc' := 32) (ls' := [gp_r (some 74), gp_i p0, gp_i p1, gp_i x6]) (st' := [gp_i p1]) (s' := s5) 2 rfl ?_
      have hsw : (p1 = 0 ∨ p1 = 1 ∨ p1 = 2 ∨ p1 = 3 ∨ p1 = 4 ∨ p1 = 5 ∨ p1 = 6 ∨ p1 = 7 ∨ p1 = 8 ∨ p1 = 9 ∨ p1 = 10 ∨ p1 = 11 ∨ p1 = 12) ∨ (p1 < 0 ∨ 12 < p1) := by omega
      rcases hsw with (hsw | hsw | hsw | hsw | hsw | hsw | hsw | hsw | hsw | hsw | hsw | hsw | hsw) | hsw
      · replace H := H.1 hsw
        refine gs_E.swi (v := 0) (pc' := 100) (ls' := [gp_r (some 74), gp_i p0, gp_i p1, gp_i x6]) (st' := []) hsw rfl ?_
        refine gs_E.stp (pc' := 105) (ls' := [gp_r (some 74), gp_i p0, gp_i p1, gp_i x6]) (st' := [gp_i p0, gp_r (some 81)]) (s' := s5) 3 rfl ?_
        refine gs_E.ck (pc' := 106) (ls' := [gp_r (some 74), gp_i p0, gp_i p1, gp_i x6]) (st' := [gp_i (gp_I s5 81 p0.toNat)]) (s' := s5) rfl (Or.inl ⟨rfl, H.1.1, H.1.2⟩) ?_
        replace H := H.2
        exact gs_E.ret (r := (some (gp_i (gp_I s5 81 p0.toNat)))) rfl H
      · replace H := H.2.1 hsw
        refine gs_E.swi (v := 1) (pc' := 107) (ls' := [gp_r (some 74), gp_i p0, gp_i p1, gp_i x6]) (st' := []) hsw rfl ?_
        refine gs_E.stp (pc' := 117) (ls' := [gp_r (some 74), gp_i p0, gp_i p1, gp_i x6]) (st' := [gp_i (gp_wr ((gp_wr (64 * p0)) + x6)), gp_r (some 80)]) (s' := s5) 7 rfl ?_
        refine gs_E.ck (pc' := 118) (ls' := [gp_r (some 74), gp_i p0, gp_i p1, gp_i x6]) (st' := [gp_i (gp_I s5 80 (gp_wr ((gp_wr (64 * p0)) + x6)).toNat)]) (s' := s5) rfl (Or.inl ⟨rfl, H.1.1, H.1.2⟩) ?_
        replace H := H.2
        exact gs_E.ret (r := (some (gp_i (gp_I s5 80 (gp_wr ((gp_wr (64 * p0)) + x6)).toNat)))) rfl H
      · replace H := H.2.2.1 hsw
        refine gs_E.swi (v := 2) (pc' := 119) (ls' := [gp_r (some 74), gp_i p0, gp_i p1, gp_i x6]) (st' := []) hsw rfl ?_
        refine gs_E.stp (pc' := 125) (ls' := [gp_r (some 74), gp_i p0, gp_i p1, gp_i x6]) (st' := [gp_i (gp_wr (p1 - 2)), gp_i x6, gp_i p0, gp_r (some 74)]) (s' := s5) 6 rfl ?_
        refine gs_E.call (args := [gp_r (some 74), gp_i p0, gp_i x6, gp_i (gp_wr (p1 - 2))]) (m := 4) (y' := 3082) (st' := []) rfl H (fun r s7 H => ?_)
        obtain ⟨m8, rfl, H⟩ := H
        show gs_E L (d + 1) 3150 128 [gp_r (some 74), gp_i p0, gp_i p1, gp_i x6] [gp_l m8] s7 K
        refine gs_E.call (args := [gp_l m8]) (m := 4) (y' := 3079) (st' := []) rfl H (fun r s9 H => ?_)
        obtain ⟨x10, rfl, H⟩ := H
        show gs_E L (d + 1) 3150 131 [gp_r (some 74), gp_i p0, gp_i p1, gp_i x6] [gp_i x10] s9 K
        exact gs_E.ret (r := (some (gp_i x10))) rfl H
      · replace H := H.2.2.2.1 hsw
        refine gs_E.swi (v := 3) (pc' := 119) (ls' := [gp_r (some 74), gp_i p0, gp_i p1, gp_i x6]) (st' := []) hsw rfl ?_
        refine gs_E.stp (pc' := 125) (ls' := [gp_r (some 74), gp_i p0, gp_i p1, gp_i x6]) (st' := [gp_i (gp_wr (p1 - 2)), gp_i x6, gp_i p0, gp_r (some 74)]) (s' := s5) 6 rfl ?_
        refine gs_E.call (args := [gp_r (some 74), gp_i p0, gp_i x6, gp_i (gp_wr (p1 - 2))]) (m := 4) (y' := 3082) (st' := []) rfl H (fun r s11 H => ?_)
        obtain ⟨m12, rfl, H⟩ := H
        show gs_E L (d + 1) 3150 128 [gp_r (some 74), gp_i p0, gp_i p1, gp_i x6] [gp_l m12] s11 K
        refine gs_E.call (args := [gp_l m12]) (m := 4) (y' := 3079) (st' := []) rfl H (fun r s13 H => ?_)
        obtain ⟨x14, rfl, H⟩ := H
        show gs_E L (d + 1) 3150 131 [gp_r (some 74), gp_i p0, gp_i p1, gp_i x6] [gp_i x14] s13 K
        exact gs_E.ret (r := (some (gp_i x14))) rfl H
      · replace H := H.2.2.2.2.1 hsw
        refine gs_E.swi (v := 4) (pc' := 132) (ls' := [gp_r (some 74), gp_i p0, gp_i p1, gp_i x6]) (st' := []) hsw rfl ?_
        refine gs_E.stp (pc' := 138) (ls' := [gp_r (some 74), gp_i p0, gp_i p1, gp_i x6]) (st' := [gp_i (gp_wr (p1 - 4)), gp_i x6, gp_i p0, gp_r (some 74)]) (s' := s5) 6 rfl ?_
        refine gs_E.call (args := [gp_r (some 74), gp_i p0, gp_i x6, gp_i (gp_wr (p1 - 4))]) (m := 4) (y' := 3082) (st' := []) rfl H (fun r s15 H => ?_)
        obtain ⟨m16, rfl, H⟩ := H
        show gs_E L (d + 1) 3150 141 [gp_r (some 74), gp_i p0, gp_i p1, gp_i x6] [gp_l m16] s15 K
        refine gs_E.stp (pc' := 143) (ls' := [gp_r (some 74), gp_i p0, gp_i p1, gp_i x6]) (st' := [gp_i (gp_cmp m16 (0#64))]) (s' := s15) 2 rfl ?_
        refine gs_E.br (c := (gp_cmp m16 (0#64)) = 0) (p1 := 154) (p2 := 146) (l1 := [gp_r (some 74), gp_i p0, gp_i p1, gp_i x6]) (l2 := [gp_r (some 74), gp_i p0, gp_i p1, gp_i x6]) (s1 := []) (s2 := []) rfl gs_b1 (fun hc => ?_) (fun hc => ?_)
        · replace H := H.1 hc
          refine gs_E.stp (pc' := 160) (ls' := [gp_r (some 74), gp_i p0, gp_i p1, gp_i x6]) (st' := [gp_i (gp_wr (p1 - 4)), gp_i x6, gp_i p0, gp_r (some 74)]) (s' := s15) 6 rfl ?_
          refine gs_E.call (args := [gp_r (some 74), gp_i p0, gp_i x6, gp_i (gp_wr (p1 - 4))]) (m := 4) (y' := 3083) (st' := []) rfl H (fun r s17 H => ?_)
          obtain ⟨x18, rfl, H⟩ := H
          show gs_E L (d + 1) 3150 163 [gp_r (some 74), gp_i p0, gp_i p1, gp_i x6] [gp_i x18] s17 K
          exact H
        · replace H := H.2 hc
          refine gs_E.stp (pc' := 148) (ls' := [gp_r (some 74), gp_i p0, gp_i p1, gp_i x6]) (st' := [gp_i 2, gp_r (some 74)]) (s' := s15) 2 rfl ?_
          refine gs_E.call (args := [gp_r (some 74), gp_i 2]) (m := 2) (y' := 3074) (st' := []) rfl H (fun r s19 H => ?_)
          obtain ⟨x20, rfl, H⟩ := H
          show gs_E L (d + 1) 3150 151 [gp_r (some 74), gp_i p0, gp_i p1, gp_i x6] [gp_i x20] s19 K
          refine gs_E.stp (pc' := 163) (ls' := [gp_r (some 74), gp_i p0, gp_i p1, gp_i x6]) (st' := [gp_i x20]) (s' := s19) 1 rfl ?_
          exact H
      · replace H := H.2.2.2.2.2.1 hsw
        refine gs_E.swi (v := 5) (pc' := 132) (ls' := [gp_r (some 74), gp_i p0, gp_i p1, gp_i x6]) (st' := []) hsw rfl ?_
        refine gs_E.stp (pc' := 138) (ls' := [gp_r (some 74), gp_i p0, gp_i p1, gp_i x6]) (st' := [gp_i (gp_wr (p1 - 4)), gp_i x6, gp_i p0, gp_r (some 74)]) (s' := s5) 6 rfl ?_
        refine gs_E.call (args := [gp_r (some 74), gp_i p0, gp_i x6, gp_i (gp_wr (p1 - 4))]) (m := 4) (y' := 3082) (st' := []) rfl H (fun r s21 H => ?_)
        obtain ⟨m22, rfl, H⟩ := H
        show gs_E L (d + 1) 3150 141 [gp_r (some 74), gp_i p0, gp_i p1, gp_i x6] [gp_l m22] s21 K
        refine gs_E.stp (pc' := 143) (ls' := [gp_r (some 74), gp_i p0, gp_i p1, gp_i x6]) (st' := [gp_i (gp_cmp m22 (0#64))]) (s' := s21) 2 rfl ?_
        refine gs_E.br (c := (gp_cmp m22 (0#64)) = 0) (p1 := 154) (p2 := 146) (l1 := [gp_r (some 74), gp_i p0, gp_i p1, gp_i x6]) (l2 := [gp_r (some 74), gp_i p0, gp_i p1, gp_i x6]) (s1 := []) (s2 := []) rfl gs_b1 (fun hc => ?_) (fun hc => ?_)
        · replace H := H.1 hc
          refine gs_E.stp (pc' := 160) (ls' := [gp_r (some 74), gp_i p0, gp_i p1, gp_i x6]) (st' := [gp_i (gp_wr (p1 - 4)), gp_i x6, gp_i p0, gp_r (some 74)]) (s' := s21) 6 rfl ?_
          refine gs_E.call (args := [gp_r (some 74), gp_i p0, gp_i x6, gp_i (gp_wr (p1 - 4))]) (m := 4) (y' := 3083) (st' := []) rfl H (fun r s23 H => ?_)
          obtain ⟨x24, rfl, H⟩ := H
          show gs_E L (d + 1) 3150 163 [gp_r (some 74), gp_i p0, gp_i p1, gp_i x6] [gp_i x24] s23 K
          exact H
        · replace H := H.2 hc
          refine gs_E.stp (pc' := 148) (ls' := [gp_r (some 74), gp_i p0, gp_i p1, gp_i x6]) (st' := [gp_i 2, gp_r (some 74)]) (s' := s21) 2 rfl ?_
          refine gs_E.call (args := [gp_r (some 74), gp_i 2]) (m := 2) (y' := 3074) (st' := []) rfl H (fun r s25 H => ?_)
          obtain ⟨x26, rfl, H⟩ := H
          show gs_E L (d + 1) 3150 151 [gp_r (some 74), gp_i p0, gp_i p1, gp_i x6] [gp_i x26] s25 K
          refine gs_E.stp (pc' := 163) (ls' := [gp_r (some 74), gp_i p0, gp_i p1, gp_i x6]) (st' := [gp_i x26]) (s' := s25) 1 rfl ?_
          exact H
      · replace H := H.2.2.2.2.2.2.1 hsw
        refine gs_E.swi (v := 6) (pc' := 164) (ls' := [gp_r (some 74), gp_i p0, gp_i p1, gp_i x6]) (st' := []) hsw rfl ?_
        refine gs_E.stp (pc' := 166) (ls' := [gp_r (some 74), gp_i p0, gp_i p1, gp_i x6]) (st' := [gp_i p0, gp_r (some 74)]) (s' := s5) 2 rfl ?_
        refine gs_E.call (args := [gp_r (some 74), gp_i p0]) (m := 3) (y' := 3099) (st' := []) rfl H (fun r s27 H => ?_)
        obtain ⟨rfl, H⟩ := H
        show gs_E L (d + 1) 3150 169 [gp_r (some 74), gp_i p0, gp_i p1, gp_i x6] [] s27 K
        refine gs_E.stp (pc' := 172) (ls' := [gp_r (some 74), gp_i p0, gp_i p1, gp_i x6]) (st' := [gp_i 6, gp_i p1]) (s' := s27) 2 rfl ?_
        refine gs_E.br (c := ¬ p1 = 6) (p1 := 184) (p2 := 175) (l1 := [gp_r (some 74), gp_i p0, gp_i p1, gp_i x6]) (l2 := [gp_r (some 74), gp_i p0, gp_i p1, gp_i x6]) (s1 := []) (s2 := []) rfl gs_b2 (fun hc => ?_) (fun hc => ?_)
        · replace H := H.2 hc
          refine gs_E.stp (pc' := 189) (ls' := [gp_r (some 74), gp_i p0, gp_i p1, gp_i x6]) (st' := [gp_i x6, gp_r (some 91)]) (s' := s27) 3 rfl ?_
          refine gs_E.ck (pc' := 190) (ls' := [gp_r (some 74), gp_i p0, gp_i p1, gp_i x6]) (st' := [gp_i (gp_I s27 91 x6.toNat)]) (s' := s27) rfl (Or.inl ⟨rfl, H.1.1, H.1.2⟩) ?_
          replace H := H.2
          exact H
        · replace H := H.1 (Decidable.byContradiction hc)
          refine gs_E.stp (pc' := 180) (ls' := [gp_r (some 74), gp_i p0, gp_i p1, gp_i x6]) (st' := [gp_i x6, gp_r (some 90)]) (s' := s27) 3 rfl ?_
          refine gs_E.ck (pc' := 181) (ls' := [gp_r (some 74), gp_i p0, gp_i p1, gp_i x6]) (st' := [gp_i (gp_I s27 90 x6.toNat)]) (s' := s27) rfl (Or.inl ⟨rfl, H.1.1, H.1.2⟩) ?_
          replace H := H.2
          refine gs_E.stp (pc' := 190) (ls' := [gp_r (some 74), gp_i p0, gp_i p1, gp_i x6]) (st' := [gp_i (gp_I s27 90 x6.toNat)]) (s' := s27) 1 rfl ?_
          exact H
      · replace H := H.2.2.2.2.2.2.2.1 hsw
        refine gs_E.swi (v := 7) (pc' := 164) (ls' := [gp_r (some 74), gp_i p0, gp_i p1, gp_i x6]) (st' := []) hsw rfl ?_
        refine gs_E.stp (pc' := 166) (ls' := [gp_r (some 74), gp_i p0, gp_i p1, gp_i x6]) (st' := [gp_i p0, gp_r (some 74)]) (s' := s5) 2 rfl ?_
        refine gs_E.call (args := [gp_r (some 74), gp_i p0]) (m := 3) (y' := 3099) (st' := []) rfl H (fun r s28 H => ?_)
        obtain ⟨rfl, H⟩ := H
        show gs_E L (d + 1) 3150 169 [gp_r (some 74), gp_i p0, gp_i p1, gp_i x6] [] s28 K
        refine gs_E.stp (pc' := 172) (ls' := [gp_r (some 74), gp_i p0, gp_i p1, gp_i x6]) (st' := [gp_i 6, gp_i p1]) (s' := s28) 2 rfl ?_
        refine gs_E.br (c := ¬ p1 = 6) (p1 := 184) (p2 := 175) (l1 := [gp_r (some 74), gp_i p0, gp_i p1, gp_i x6]) (l2 := [gp_r (some 74), gp_i p0, gp_i p1, gp_i x6]) (s1 := []) (s2 := []) rfl gs_b2 (fun hc => ?_) (fun hc => ?_)
        · replace H := H.2 hc
          refine gs_E.stp (pc' := 189) (ls' := [gp_r (some 74), gp_i p0, gp_i p1, gp_i x6]) (st' := [gp_i x6, gp_r (some 91)]) (s' := s28) 3 rfl ?_
          refine gs_E.ck (pc' := 190) (ls' := [gp_r (some 74), gp_i p0, gp_i p1, gp_i x6]) (st' := [gp_i (gp_I s28 91 x6.toNat)]) (s' := s28) rfl (Or.inl ⟨rfl, H.1.1, H.1.2⟩) ?_
          replace H := H.2
          exact H
        · replace H := H.1 (Decidable.byContradiction hc)
          refine gs_E.stp (pc' := 180) (ls' := [gp_r (some 74), gp_i p0, gp_i p1, gp_i x6]) (st' := [gp_i x6, gp_r (some 90)]) (s' := s28) 3 rfl ?_
          refine gs_E.ck (pc' := 181) (ls' := [gp_r (some 74), gp_i p0, gp_i p1, gp_i x6]) (st' := [gp_i (gp_I s28 90 x6.toNat)]) (s' := s28) rfl (Or.inl ⟨rfl, H.1.1, H.1.2⟩) ?_
          replace H := H.2
          refine gs_E.stp (pc' := 190) (ls' := [gp_r (some 74), gp_i p0, gp_i p1, gp_i x6]) (st' := [gp_i (gp_I s28 90 x6.toNat)]) (s' := s28) 1 rfl ?_
          exact H
      · replace H := H.2.2.2.2.2.2.2.2.1 hsw
        refine gs_E.swi (v := 8) (pc' := 205) (ls' := [gp_r (some 74), gp_i p0, gp_i p1, gp_i x6]) (st' := []) hsw rfl ?_
        refine gs_E.stp (pc' := 207) (ls' := [gp_r (some 74), gp_i p0, gp_i p1, gp_i x6]) (st' := [gp_i p0, gp_r (some 74)]) (s' := s5) 2 rfl ?_
        refine gs_E.call (args := [gp_r (some 74), gp_i p0]) (m := 3) (y' := 3101) (st' := []) rfl H (fun r s29 H => ?_)
        obtain ⟨rfl, H⟩ := H
        show gs_E L (d + 1) 3150 210 [gp_r (some 74), gp_i p0, gp_i p1, gp_i x6] [] s29 K
        refine gs_E.stp (pc' := 213) (ls' := [gp_r (some 74), gp_i p0, gp_i p1, gp_i x6]) (st' := [gp_i 8, gp_i p1]) (s' := s29) 2 rfl ?_
        refine gs_E.br (c := ¬ p1 = 8) (p1 := 225) (p2 := 216) (l1 := [gp_r (some 74), gp_i p0, gp_i p1, gp_i x6]) (l2 := [gp_r (some 74), gp_i p0, gp_i p1, gp_i x6]) (s1 := []) (s2 := []) rfl gs_b2 (fun hc => ?_) (fun hc => ?_)
        · replace H := H.2 hc
          refine gs_E.stp (pc' := 228) (ls' := [gp_r (some 74), gp_i p0, gp_i p1, gp_i x6]) (st' := [gp_i 9, gp_i p1]) (s' := s29) 2 rfl ?_
          refine gs_E.br (c := ¬ p1 = 9) (p1 := 240) (p2 := 231) (l1 := [gp_r (some 74), gp_i p0, gp_i p1, gp_i x6]) (l2 := [gp_r (some 74), gp_i p0, gp_i p1, gp_i x6]) (s1 := []) (s2 := []) rfl gs_b2 (fun hc => ?_) (fun hc => ?_)
          · replace H := H.2 hc
            refine gs_E.stp (pc' := 246) (ls' := [gp_r (some 74), gp_i p0, gp_i p1, gp_i x6]) (st' := [gp_i (gp_wr (p1 - 10)), gp_i x6, gp_r (some 74)]) (s' := s29) 5 rfl ?_
            refine gs_E.call (args := [gp_r (some 74), gp_i x6, gp_i (gp_wr (p1 - 10))]) (m := 4) (y' := 3102) (st' := []) rfl H (fun r s30 H => ?_)
            obtain ⟨x31, rfl, H⟩ := H
            show gs_E L (d + 1) 3150 249 [gp_r (some 74), gp_i p0, gp_i p1, gp_i x6] [gp_i x31] s30 K
            exact H
          · replace H := H.1 (Decidable.byContradiction hc)
            refine gs_E.stp (pc' := 236) (ls' := [gp_r (some 74), gp_i p0, gp_i p1, gp_i x6]) (st' := [gp_i x6, gp_r (some 93)]) (s' := s29) 3 rfl ?_
            refine gs_E.ck (pc' := 237) (ls' := [gp_r (some 74), gp_i p0, gp_i p1, gp_i x6]) (st' := [gp_i (gp_I s29 93 x6.toNat)]) (s' := s29) rfl (Or.inl ⟨rfl, H.1.1, H.1.2⟩) ?_
            replace H := H.2
            refine gs_E.stp (pc' := 249) (ls' := [gp_r (some 74), gp_i p0, gp_i p1, gp_i x6]) (st' := [gp_i (gp_I s29 93 x6.toNat)]) (s' := s29) 1 rfl ?_
            exact H
        · replace H := H.1 (Decidable.byContradiction hc)
          refine gs_E.stp (pc' := 221) (ls' := [gp_r (some 74), gp_i p0, gp_i p1, gp_i x6]) (st' := [gp_i x6, gp_r (some 92)]) (s' := s29) 3 rfl ?_
          refine gs_E.ck (pc' := 222) (ls' := [gp_r (some 74), gp_i p0, gp_i p1, gp_i x6]) (st' := [gp_i (gp_I s29 92 x6.toNat)]) (s' := s29) rfl (Or.inl ⟨rfl, H.1.1, H.1.2⟩) ?_
          replace H := H.2
          refine gs_E.stp (pc' := 249) (ls' := [gp_r (some 74), gp_i p0, gp_i p1, gp_i x6]) (st' := [gp_i (gp_I s29 92 x6.toNat)]) (s' := s29) 1 rfl ?_
          exact H
      · replace H := H.2.2.2.2.2.2.2.2.2.1 hsw
        refine gs_E.swi (v := 9) (pc' := 205) (ls' := [gp_r (some 74), gp_i p0, gp_i p1, gp_i x6]) (st' := []) hsw rfl ?_
        refine gs_E.stp (pc' := 207) (ls' := [gp_r (some 74), gp_i p0, gp_i p1, gp_i x6]) (st' := [gp_i p0, gp_r (some 74)]) (s' := s5) 2 rfl ?_
        refine gs_E.call (args := [gp_r (some 74), gp_i p0]) (m := 3) (y' := 3101) (st' := []) rfl H (fun r s32 H => ?_)
        obtain ⟨rfl, H⟩ := H
        show gs_E L (d + 1) 3150 210 [gp_r (some 74), gp_i p0, gp_i p1, gp_i x6] [] s32 K
        refine gs_E.stp (pc' := 213) (ls' := [gp_r (some 74), gp_i p0, gp_i p1, gp_i x6]) (st' := [gp_i 8, gp_i p1]) (s' := s32) 2 rfl ?_
        refine gs_E.br (c := ¬ p1 = 8) (p1 := 225) (p2 := 216) (l1 := [gp_r (some 74), gp_i p0, gp_i p1, gp_i x6]) (l2 := [gp_r (some 74), gp_i p0, gp_i p1, gp_i x6]) (s1 := []) (s2 := []) rfl gs_b2 (fun hc => ?_) (fun hc => ?_)
        · replace H := H.2 hc
          refine gs_E.stp (pc' := 228) (ls' := [gp_r (some 74), gp_i p0, gp_i p1, gp_i x6]) (st' := [gp_i 9, gp_i p1]) (s' := s32) 2 rfl ?_
          refine gs_E.br (c := ¬ p1 = 9) (p1 := 240) (p2 := 231) (l1 := [gp_r (some 74), gp_i p0, gp_i p1, gp_i x6]) (l2 := [gp_r (some 74), gp_i p0, gp_i p1, gp_i x6]) (s1 := []) (s2 := []) rfl gs_b2 (fun hc => ?_) (fun hc => ?_)
          · replace H := H.2 hc
            refine gs_E.stp (pc' := 246) (ls' := [gp_r (some 74), gp_i p0, gp_i p1, gp_i x6]) (st' := [gp_i (gp_wr (p1 - 10)), gp_i x6, gp_r (some 74)]) (s' := s32) 5 rfl ?_
            refine gs_E.call (args := [gp_r (some 74), gp_i x6, gp_i (gp_wr (p1 - 10))]) (m := 4) (y' := 3102) (st' := []) rfl H (fun r s33 H => ?_)
            obtain ⟨x34, rfl, H⟩ := H
            show gs_E L (d + 1) 3150 249 [gp_r (some 74), gp_i p0, gp_i p1, gp_i x6] [gp_i x34] s33 K
            exact H
          · replace H := H.1 (Decidable.byContradiction hc)
            refine gs_E.stp (pc' := 236) (ls' := [gp_r (some 74), gp_i p0, gp_i p1, gp_i x6]) (st' := [gp_i x6, gp_r (some 93)]) (s' := s32) 3 rfl ?_
            refine gs_E.ck (pc' := 237) (ls' := [gp_r (some 74), gp_i p0, gp_i p1, gp_i x6]) (st' := [gp_i (gp_I s32 93 x6.toNat)]) (s' := s32) rfl (Or.inl ⟨rfl, H.1.1, H.1.2⟩) ?_
            replace H := H.2
            refine gs_E.stp (pc' := 249) (ls' := [gp_r (some 74), gp_i p0, gp_i p1, gp_i x6]) (st' := [gp_i (gp_I s32 93 x6.toNat)]) (s' := s32) 1 rfl ?_
            exact H
        · replace H := H.1 (Decidable.byContradiction hc)
          refine gs_E.stp (pc' := 221) (ls' := [gp_r (some 74), gp_i p0, gp_i p1, gp_i x6]) (st' := [gp_i x6, gp_r (some 92)]) (s' := s32) 3 rfl ?_
          refine gs_E.ck (pc' := 222) (ls' := [gp_r (some 74), gp_i p0, gp_i p1, gp_i x6]) (st' := [gp_i (gp_I s32 92 x6.toNat)]) (s' := s32) rfl (Or.inl ⟨rfl, H.1.1, H.1.2⟩) ?_
          replace H := H.2
          refine gs_E.stp (pc' := 249) (ls' := [gp_r (some 74), gp_i p0, gp_i p1, gp_i x6]) (st' := [gp_i (gp_I s32 92 x6.toNat)]) (s' := s32) 1 rfl ?_
          exact H
      · replace H := H.2.2.2.2.2.2.2.2.2.2.1 hsw
        refine gs_E.swi (v := 10) (pc' := 205) (ls' := [gp_r (some 74), gp_i p0, gp_i p1, gp_i x6]) (st' := []) hsw rfl ?_
        refine gs_E.stp (pc' := 207) (ls' := [gp_r (some 74), gp_i p0, gp_i p1, gp_i x6]) (st' := [gp_i p0, gp_r (some 74)]) (s' := s5) 2 rfl ?_
        refine gs_E.call (args := [gp_r (some 74), gp_i p0]) (m := 3) (y' := 3101) (st' := []) rfl H (fun r s35 H => ?_)
        obtain ⟨rfl, H⟩ := H
        show gs_E L (d + 1) 3150 210 [gp_r (some 74), gp_i p0, gp_i p1, gp_i x6] [] s35 K
        refine gs_E.stp (pc' := 213) (ls' := [gp_r (some 74), gp_i p0, gp_i p1, gp_i x6]) (st' := [gp_i 8, gp_i p1]) (s' := s35) 2 rfl ?_
        refine gs_E.br (c := ¬ p1 = 8) (p1 := 225) (p2 := 216) (l1 := [gp_r (some 74), gp_i p0, gp_i p1, gp_i x6]) (l2 := [gp_r (some 74), gp_i p0, gp_i p1, gp_i x6]) (s1 := []) (s2 := []) rfl gs_b2 (fun hc => ?_) (fun hc => ?_)
        · replace H := H.2 hc
          refine gs_E.stp (pc' := 228) (ls' := [gp_r (some 74), gp_i p0, gp_i p1, gp_i x6]) (st' := [gp_i 9, gp_i p1]) (s' := s35) 2 rfl ?_
          refine gs_E.br (c := ¬ p1 = 9) (p1 := 240) (p2 := 231) (l1 := [gp_r (some 74), gp_i p0, gp_i p1, gp_i x6]) (l2 := [gp_r (some 74), gp_i p0, gp_i p1, gp_i x6]) (s1 := []) (s2 := []) rfl gs_b2 (fun hc => ?_) (fun hc => ?_)
          · replace H := H.2 hc
            refine gs_E.stp (pc' := 246) (ls' := [gp_r (some 74), gp_i p0, gp_i p1, gp_i x6]) (st' := [gp_i (gp_wr (p1 - 10)), gp_i x6, gp_r (some 74)]) (s' := s35) 5 rfl ?_
            refine gs_E.call (args := [gp_r (some 74), gp_i x6, gp_i (gp_wr (p1 - 10))]) (m := 4) (y' := 3102) (st' := []) rfl H (fun r s36 H => ?_)
            obtain ⟨x37, rfl, H⟩ := H
            show gs_E L (d + 1) 3150 249 [gp_r (some 74), gp_i p0, gp_i p1, gp_i x6] [gp_i x37] s36 K
            exact H
          · replace H := H.1 (Decidable.byContradiction hc)
            refine gs_E.stp (pc' := 236) (ls' := [gp_r (some 74), gp_i p0, gp_i p1, gp_i x6]) (st' := [gp_i x6, gp_r (some 93)]) (s' := s35) 3 rfl ?_
            refine gs_E.ck (pc' := 237) (ls' := [gp_r (some 74), gp_i p0, gp_i p1, gp_i x6]) (st' := [gp_i (gp_I s35 93 x6.toNat)]) (s' := s35) rfl (Or.inl ⟨rfl, H.1.1, H.1.2⟩) ?_
            replace H := H.2
            refine gs_E.stp (pc' := 249) (ls' := [gp_r (some 74), gp_i p0, gp_i p1, gp_i x6]) (st' := [gp_i (gp_I s35 93 x6.toNat)]) (s' := s35) 1 rfl ?_
            exact H
        · replace H := H.1 (Decidable.byContradiction hc)
          refine gs_E.stp (pc' := 221) (ls' := [gp_r (some 74), gp_i p0, gp_i p1, gp_i x6]) (st' := [gp_i x6, gp_r (some 92)]) (s' := s35) 3 rfl ?_
          refine gs_E.ck (pc' := 222) (ls' := [gp_r (some 74), gp_i p0, gp_i p1, gp_i x6]) (st' := [gp_i (gp_I s35 92 x6.toNat)]) (s' := s35) rfl (Or.inl ⟨rfl, H.1.1, H.1.2⟩) ?_
          replace H := H.2
          refine gs_E.stp (pc' := 249) (ls' := [gp_r (some 74), gp_i p0, gp_i p1, gp_i x6]) (st' := [gp_i (gp_I s35 92 x6.toNat)]) (s' := s35) 1 rfl ?_
          exact H
      · replace H := H.2.2.2.2.2.2.2.2.2.2.2.1 hsw
        refine gs_E.swi (v := 11) (pc' := 205) (ls' := [gp_r (some 74), gp_i p0, gp_i p1, gp_i x6]) (st' := []) hsw rfl ?_
        refine gs_E.stp (pc' := 207) (ls' := [gp_r (some 74), gp_i p0, gp_i p1, gp_i x6]) (st' := [gp_i p0, gp_r (some 74)]) (s' := s5) 2 rfl ?_
        refine gs_E.call (args := [gp_r (some 74), gp_i p0]) (m := 3) (y' := 3101) (st' := []) rfl H (fun r s38 H => ?_)
        obtain ⟨rfl, H⟩ := H
        show gs_E L (d + 1) 3150 210 [gp_r (some 74), gp_i p0, gp_i p1, gp_i x6] [] s38 K
        refine gs_E.stp (pc' := 213) (ls' := [gp_r (some 74), gp_i p0, gp_i p1, gp_i x6]) (st' := [gp_i 8, gp_i p1]) (s' := s38) 2 rfl ?_
        refine gs_E.br (c := ¬ p1 = 8) (p1 := 225) (p2 := 216) (l1 := [gp_r (some 74), gp_i p0, gp_i p1, gp_i x6]) (l2 := [gp_r (some 74), gp_i p0, gp_i p1, gp_i x6]) (s1 := []) (s2 := []) rfl gs_b2 (fun hc => ?_) (fun hc => ?_)
        · replace H := H.2 hc
          refine gs_E.stp (pc' := 228) (ls' := [gp_r (some 74), gp_i p0, gp_i p1, gp_i x6]) (st' := [gp_i 9, gp_i p1]) (s' := s38) 2 rfl ?_
          refine gs_E.br (c := ¬ p1 = 9) (p1 := 240) (p2 := 231) (l1 := [gp_r (some 74), gp_i p0, gp_i p1, gp_i x6]) (l2 := [gp_r (some 74), gp_i p0, gp_i p1, gp_i x6]) (s1 := []) (s2 := []) rfl gs_b2 (fun hc => ?_) (fun hc => ?_)
          · replace H := H.2 hc
            refine gs_E.stp (pc' := 246) (ls' := [gp_r (some 74), gp_i p0, gp_i p1, gp_i x6]) (st' := [gp_i (gp_wr (p1 - 10)), gp_i x6, gp_r (some 74)]) (s' := s38) 5 rfl ?_
            refine gs_E.call (args := [gp_r (some 74), gp_i x6, gp_i (gp_wr (p1 - 10))]) (m := 4) (y' := 3102) (st' := []) rfl H (fun r s39 H => ?_)
            obtain ⟨x40, rfl, H⟩ := H
            show gs_E L (d + 1) 3150 249 [gp_r (some 74), gp_i p0, gp_i p1, gp_i x6] [gp_i x40] s39 K
            exact H
          · replace H := H.1 (Decidable.byContradiction hc)
            refine gs_E.stp (pc' := 236) (ls' := [gp_r (some 74), gp_i p0, gp_i p1, gp_i x6]) (st' := [gp_i x6, gp_r (some 93)]) (s' := s38) 3 rfl ?_
            refine gs_E.ck (pc' := 237) (ls' := [gp_r (some 74), gp_i p0, gp_i p1, gp_i x6]) (st' := [gp_i (gp_I s38 93 x6.toNat)]) (s' := s38) rfl (Or.inl ⟨rfl, H.1.1, H.1.2⟩) ?_
            replace H := H.2
            refine gs_E.stp (pc' := 249) (ls' := [gp_r (some 74), gp_i p0, gp_i p1, gp_i x6]) (st' := [gp_i (gp_I s38 93 x6.toNat)]) (s' := s38) 1 rfl ?_
            exact H
        · replace H := H.1 (Decidable.byContradiction hc)
          refine gs_E.stp (pc' := 221) (ls' := [gp_r (some 74), gp_i p0, gp_i p1, gp_i x6]) (st' := [gp_i x6, gp_r (some 92)]) (s' := s38) 3 rfl ?_
          refine gs_E.ck (pc' := 222) (ls' := [gp_r (some 74), gp_i p0, gp_i p1, gp_i x6]) (st' := [gp_i (gp_I s38 92 x6.toNat)]) (s' := s38) rfl (Or.inl ⟨rfl, H.1.1, H.1.2⟩) ?_
          replace H := H.2
          refine gs_E.stp (pc' := 249) (ls' := [gp_r (some 74), gp_i p0, gp_i p1, gp_i x6]) (st' := [gp_i (gp_I s38 92 x6.toNat)]) (s' := s38) 1 rfl ?_
          exact H
      · replace H := H.2.2.2.2.2.2.2.2.2.2.2.2.1 hsw
        refine gs_E.swi (v := 12) (pc' := 191) (ls' := [gp_r (some 74), gp_i p0, gp_i p1, gp_i x6]) (st' := []) hsw rfl ?_
        refine gs_E.stp (pc' := 193) (ls' := [gp_r (some 74), gp_i p0, gp_i p1, gp_i x6]) (st' := [gp_i p0, gp_r (some 74)]) (s' := s5) 2 rfl ?_
        refine gs_E.call (args := [gp_r (some 74), gp_i p0]) (m := 9) (y' := 3103) (st' := []) rfl H (fun r s41 H => ?_)
        obtain ⟨x42, rfl, H⟩ := H
        show gs_E L (d + 1) 3150 196 [gp_r (some 74), gp_i p0, gp_i p1, gp_i x6] [gp_i x42] s41 K
        refine gs_E.br (c := x42 = 0) (p1 := 203) (p2 := 199) (l1 := [gp_r (some 74), gp_i p0, gp_i p1, gp_i x6]) (l2 := [gp_r (some 74), gp_i p0, gp_i p1, gp_i x6]) (s1 := []) (s2 := []) rfl gs_b1 (fun hc => ?_) (fun hc => ?_)
        · replace H := H.1 hc
          refine gs_E.stp (pc' := 204) (ls' := [gp_r (some 74), gp_i p0, gp_i p1, gp_i x6]) (st' := [gp_i 0]) (s' := s41) 1 rfl ?_
          exact H
        · replace H := H.2 hc
          refine gs_E.stp (pc' := 204) (ls' := [gp_r (some 74), gp_i p0, gp_i p1, gp_i x6]) (st' := [gp_i 1]) (s' := s41) 2 rfl ?_
          exact H
      · replace H := H.2.2.2.2.2.2.2.2.2.2.2.2.2 hsw
        refine gs_E.swo (pc' := 205) (ls' := [gp_r (some 74), gp_i p0, gp_i p1, gp_i x6]) (st' := []) (C := p1 < 0 ∨ 12 < p1) (B := _) rfl hsw ?_
        refine gs_E.stp (pc' := 207) (ls' := [gp_r (some 74), gp_i p0, gp_i p1, gp_i x6]) (st' := [gp_i p0, gp_r (some 74)]) (s' := s5) 2 rfl ?_
        refine gs_E.call (args := [gp_r (some 74), gp_i p0]) (m := 3) (y' := 3101) (st' := []) rfl H (fun r s43 H => ?_)
        obtain ⟨rfl, H⟩ := H
        show gs_E L (d + 1) 3150 210 [gp_r (some 74), gp_i p0, gp_i p1, gp_i x6] [] s43 K
        refine gs_E.stp (pc' := 213) (ls' := [gp_r (some 74), gp_i p0, gp_i p1, gp_i x6]) (st' := [gp_i 8, gp_i p1]) (s' := s43) 2 rfl ?_
        refine gs_E.br (c := ¬ p1 = 8) (p1 := 225) (p2 := 216) (l1 := [gp_r (some 74), gp_i p0, gp_i p1, gp_i x6]) (l2 := [gp_r (some 74), gp_i p0, gp_i p1, gp_i x6]) (s1 := []) (s2 := []) rfl gs_b2 (fun hc => ?_) (fun hc => ?_)
        · replace H := H.2 hc
          refine gs_E.stp (pc' := 228) (ls' := [gp_r (some 74), gp_i p0, gp_i p1, gp_i x6]) (st' := [gp_i 9, gp_i p1]) (s' := s43) 2 rfl ?_
          refine gs_E.br (c := ¬ p1 = 9) (p1 := 240) (p2 := 231) (l1 := [gp_r (some 74), gp_i p0, gp_i p1, gp_i x6]) (l2 := [gp_r (some 74), gp_i p0, gp_i p1, gp_i x6]) (s1 := []) (s2 := []) rfl gs_b2 (fun hc => ?_) (fun hc => ?_)
          · replace H := H.2 hc
            refine gs_E.stp (pc' := 246) (ls' := [gp_r (some 74), gp_i p0, gp_i p1, gp_i x6]) (st' := [gp_i (gp_wr (p1 - 10)), gp_i x6, gp_r (some 74)]) (s' := s43) 5 rfl ?_
            refine gs_E.call (args := [gp_r (some 74), gp_i x6, gp_i (gp_wr (p1 - 10))]) (m := 4) (y' := 3102) (st' := []) rfl H (fun r s44 H => ?_)
            obtain ⟨x45, rfl, H⟩ := H
            show gs_E L (d + 1) 3150 249 [gp_r (some 74), gp_i p0, gp_i p1, gp_i x6] [gp_i x45] s44 K
            exact H
          · replace H := H.1 (Decidable.byContradiction hc)
            refine gs_E.stp (pc' := 236) (ls' := [gp_r (some 74), gp_i p0, gp_i p1, gp_i x6]) (st' := [gp_i x6, gp_r (some 93)]) (s' := s43) 3 rfl ?_
            refine gs_E.ck (pc' := 237) (ls' := [gp_r (some 74), gp_i p0, gp_i p1, gp_i x6]) (st' := [gp_i (gp_I s43 93 x6.toNat)]) (s' := s43) rfl (Or.inl ⟨rfl, H.1.1, H.1.2⟩) ?_
            replace H := H.2
            refine gs_E.stp (pc' := 249) (ls' := [gp_r (some 74), gp_i p0, gp_i p1, gp_i x6]) (st' := [gp_i (gp_I s43 93 x6.toNat)]) (s' := s43) 1 rfl ?_
            exact H
        · replace H := H.1 (Decidable.byContradiction hc)
          refine gs_E.stp (pc' := 221) (ls' := [gp_r (some 74), gp_i p0, gp_i p1, gp_i x6]) (st' := [gp_i x6, gp_r (some 92)]) (s' := s43) 3 rfl ?_
          refine gs_E.ck (pc' := 222) (ls' := [gp_r (some 74), gp_i p0, gp_i p1, gp_i x6]) (st' := [gp_i (gp_I s43 92 x6.toNat)]) (s' := s43) rfl (Or.inl ⟨rfl, H.1.1, H.1.2⟩) ?_
          replace H := H.2
          refine gs_E.stp (pc' := 249) (ls' := [gp_r (some 74), gp_i p0, gp_i p1, gp_i x6]) (st' := [gp_i (gp_I s43 92 x6.toNat)]) (s' := s43) 1 rfl ?_
          exact H
    · replace H := H.1 (Decidable.byContradiction hc)
      exact H

set_option maxRecDepth 100000 in
/-- GatheredPointsModel.gameOf, pc 19 -/
theorem s_3150_19 {L d : Nat} {K : Option gV → gH → Prop} {s : gH} (v1 : Int) (v2 : Int) (v3 : gV) (H : gs_C L d 3074 2 [gp_r (some 74), gp_i 1] s (fun r s1 => ∃ x2, r = some (gp_i x2) ∧ K (some (gp_i x2)) s1)) : gs_E L (d + 1) 3150 19 [gp_r (some 74), gp_i v1, gp_i v2, v3] [] s K := by
  refine gs_E.stp (pc' := 21) (ls' := [gp_r (some 74), gp_i v1, gp_i v2, v3]) (st' := [gp_i 1, gp_r (some 74)]) (s' := s) 2 rfl ?_
  refine gs_E.call (args := [gp_r (some 74), gp_i 1]) (m := 2) (y' := 3074) (st' := []) rfl H (fun r s1 H => ?_)
  obtain ⟨x2, rfl, H⟩ := H
  show gs_E L (d + 1) 3150 24 [gp_r (some 74), gp_i v1, gp_i v2, v3] [gp_i x2] s1 K
  exact gs_E.ret (r := (some (gp_i x2))) rfl H

set_option maxRecDepth 100000 in
/-- GatheredPointsModel.gameOf, pc 163 -/
theorem s_3150_163 {L d : Nat} {K : Option gV → gH → Prop} {s : gH} (v1 : Int) (v2 : Int) (v3 : Int) (w0 : Int) (H : K (some (gp_i w0)) s) : gs_E L (d + 1) 3150 163 [gp_r (some 74), gp_i v1, gp_i v2, gp_i v3] [gp_i w0] s K := by
  exact gs_E.ret (r := (some (gp_i w0))) rfl H

set_option maxRecDepth 100000 in
/-- GatheredPointsModel.gameOf, pc 190 -/
theorem s_3150_190 {L d : Nat} {K : Option gV → gH → Prop} {s : gH} (v1 : Int) (v2 : Int) (v3 : Int) (w0 : Int) (H : K (some (gp_i w0)) s) : gs_E L (d + 1) 3150 190 [gp_r (some 74), gp_i v1, gp_i v2, gp_i v3] [gp_i w0] s K := by
  exact gs_E.ret (r := (some (gp_i w0))) rfl H

set_option maxRecDepth 100000 in
/-- GatheredPointsModel.gameOf, pc 204 -/
theorem s_3150_204 {L d : Nat} {K : Option gV → gH → Prop} {s : gH} (v1 : Int) (v2 : Int) (v3 : Int) (w0 : Int) (H : K (some (gp_i w0)) s) : gs_E L (d + 1) 3150 204 [gp_r (some 74), gp_i v1, gp_i v2, gp_i v3] [gp_i w0] s K := by
  exact gs_E.ret (r := (some (gp_i w0))) rfl H

set_option maxRecDepth 100000 in
/-- GatheredPointsModel.gameOf, pc 249 -/
theorem s_3150_249 {L d : Nat} {K : Option gV → gH → Prop} {s : gH} (v1 : Int) (v2 : Int) (v3 : Int) (w0 : Int) (H : K (some (gp_i w0)) s) : gs_E L (d + 1) 3150 249 [gp_r (some 74), gp_i v1, gp_i v2, gp_i v3] [gp_i w0] s K := by
  exact gs_E.ret (r := (some (gp_i w0))) rfl H

set_option maxRecDepth 100000 in
/-- GatheredPointsModel.order, pc 0 -/
theorem s_3151_e {L d : Nat} {K : Option gV → gH → Prop} {s : gH} (p0 : Int) (p1 : Int) (H : gs_C L d 3075 1 [gp_i p0] s (fun r s1 => ∃ x2, r = some (gp_i x2) ∧ ((x2 = 0 → gs_E L (d + 1) 3151 14 [gp_r (some 74), gp_i p0, gp_i p1] [] s1 K) ∧ (¬ x2 = 0 → gs_C L d 3075 1 [gp_i p1] s1 (fun r s3 => ∃ x4, r = some (gp_i x4) ∧ ((x4 = 0 → gs_E L (d + 1) 3151 14 [gp_r (some 74), gp_i p0, gp_i p1] [] s3 K) ∧ (¬ x4 = 0 → gs_C L d 3089 2 [gp_r (some 74)] s3 (fun r s5 => r = none ∧ gs_C L d 3081 2 [gp_r (some 74), gp_i p0] s5 (fun r s6 => ∃ x7, r = some (gp_i x7) ∧ gs_C L d 3081 2 [gp_r (some 74), gp_i p1] s6 (fun r s8 => ∃ x9, r = some (gp_i x9) ∧ gs_C L d 3090 9 [gp_r (some 74), gp_i p0, gp_i x7, gp_i p1, gp_i x9] s8 (fun r s10 => ∃ x11, r = some (gp_i x11) ∧ K (some (gp_i x11)) s10))))))))))) : gs_C L (d + 1) 3151 3 [gp_r (some 74), gp_i p0, gp_i p1] s K := by
  show gs_E L (d + 1) 3151 0 [gp_r (some 74), gp_i p0, gp_i p1] [] s K
  refine gs_E.stp (pc' := 1) (ls' := [gp_r (some 74), gp_i p0, gp_i p1]) (st' := [gp_i p0]) (s' := s) 1 rfl ?_
  refine gs_E.call (args := [gp_i p0]) (m := 1) (y' := 3075) (st' := []) rfl H (fun r s1 H => ?_)
  obtain ⟨x2, rfl, H⟩ := H
  show gs_E L (d + 1) 3151 4 [gp_r (some 74), gp_i p0, gp_i p1] [gp_i x2] s1 K
  refine gs_E.br (c := x2 = 0) (p1 := 14) (p2 := 7) (l1 := [gp_r (some 74), gp_i p0, gp_i p1]) (l2 := [gp_r (some 74), gp_i p0, gp_i p1]) (s1 := []) (s2 := []) rfl gs_b1 (fun hc => ?_) (fun hc => ?_)
  · replace H := H.1 hc
    exact H
  · replace H := H.2 hc
    refine gs_E.stp (pc' := 8) (ls' := [gp_r (some 74), gp_i p0, gp_i p1]) (st' := [gp_i p1]) (s' := s1) 1 rfl ?_
    refine gs_E.call (args := [gp_i p1]) (m := 1) (y' := 3075) (st' := []) rfl H (fun r s3 H => ?_)
    obtain ⟨x4, rfl, H⟩ := H
    show gs_E L (d + 1) 3151 11 [gp_r (some 74), gp_i p0, gp_i p1] [gp_i x4] s3 K
    refine gs_E.br (c := ¬ x4 = 0) (p1 := 20) (p2 := 14) (l1 := [gp_r (some 74), gp_i p0, gp_i p1]) (l2 := [gp_r (some 74), gp_i p0, gp_i p1]) (s1 := []) (s2 := []) rfl gs_b2 (fun hc => ?_) (fun hc => ?_)
    · replace H := H.2 hc
      refine gs_E.stp (pc' := 21) (ls' := [gp_r (some 74), gp_i p0, gp_i p1]) (st' := [gp_r (some 74)]) (s' := s3) 1 rfl ?_
      refine gs_E.call (args := [gp_r (some 74)]) (m := 2) (y' := 3089) (st' := []) rfl H (fun r s5 H => ?_)
      obtain ⟨rfl, H⟩ := H
      show gs_E L (d + 1) 3151 24 [gp_r (some 74), gp_i p0, gp_i p1] [] s5 K
      refine gs_E.stp (pc' := 28) (ls' := [gp_r (some 74), gp_i p0, gp_i p1]) (st' := [gp_i p0, gp_r (some 74), gp_i p0, gp_r (some 74)]) (s' := s5) 4 rfl ?_
      refine gs_E.call (args := [gp_r (some 74), gp_i p0]) (m := 2) (y' := 3081) (st' := [gp_i p0, gp_r (some 74)]) rfl H (fun r s6 H => ?_)
      obtain ⟨x7, rfl, H⟩ := H
      show gs_E L (d + 1) 3151 31 [gp_r (some 74), gp_i p0, gp_i p1] [gp_i x7, gp_i p0, gp_r (some 74)] s6 K
      refine gs_E.stp (pc' := 34) (ls' := [gp_r (some 74), gp_i p0, gp_i p1]) (st' := [gp_i p1, gp_r (some 74), gp_i p1, gp_i x7, gp_i p0, gp_r (some 74)]) (s' := s6) 3 rfl ?_
      refine gs_E.call (args := [gp_r (some 74), gp_i p1]) (m := 2) (y' := 3081) (st' := [gp_i p1, gp_i x7, gp_i p0, gp_r (some 74)]) rfl H (fun r s8 H => ?_)
      obtain ⟨x9, rfl, H⟩ := H
      show gs_E L (d + 1) 3151 37 [gp_r (some 74), gp_i p0, gp_i p1] [gp_i x9, gp_i p1, gp_i x7, gp_i p0, gp_r (some 74)] s8 K
      refine gs_E.call (args := [gp_r (some 74), gp_i p0, gp_i x7, gp_i p1, gp_i x9]) (m := 9) (y' := 3090) (st' := []) rfl H (fun r s10 H => ?_)
      obtain ⟨x11, rfl, H⟩ := H
      show gs_E L (d + 1) 3151 40 [gp_r (some 74), gp_i p0, gp_i p1] [gp_i x11] s10 K
      exact gs_E.ret (r := (some (gp_i x11))) rfl H
    · replace H := H.1 (Decidable.byContradiction hc)
      exact H

set_option maxRecDepth 100000 in
/-- GatheredPointsModel.order, pc 14 -/
theorem s_3151_14 {L d : Nat} {K : Option gV → gH → Prop} {s : gH} (v1 : Int) (v2 : Int) (H : gs_C L d 3074 2 [gp_r (some 74), gp_i 1] s (fun r s1 => ∃ x2, r = some (gp_i x2) ∧ K (some (gp_i x2)) s1)) : gs_E L (d + 1) 3151 14 [gp_r (some 74), gp_i v1, gp_i v2] [] s K := by
  refine gs_E.stp (pc' := 16) (ls' := [gp_r (some 74), gp_i v1, gp_i v2]) (st' := [gp_i 1, gp_r (some 74)]) (s' := s) 2 rfl ?_
  refine gs_E.call (args := [gp_r (some 74), gp_i 1]) (m := 2) (y' := 3074) (st' := []) rfl H (fun r s1 H => ?_)
  obtain ⟨x2, rfl, H⟩ := H
  show gs_E L (d + 1) 3151 19 [gp_r (some 74), gp_i v1, gp_i v2] [gp_i x2] s1 K
  exact gs_E.ret (r := (some (gp_i x2))) rfl H

set_option maxRecDepth 100000 in
/-- GatheredPointsModel.compare, pc 0 -/
theorem s_3152_e {L d : Nat} {K : Option gV → gH → Prop} {s : gH} (p0 : Int) (p1 : Int) (H : gs_C L d 3075 1 [gp_i p0] s (fun r s1 => ∃ x2, r = some (gp_i x2) ∧ ((x2 = 0 → gs_E L (d + 1) 3152 14 [gp_r (some 74), gp_i p0, gp_i p1, gp_n] [] s1 K) ∧ (¬ x2 = 0 → gs_C L d 3075 1 [gp_i p1] s1 (fun r s3 => ∃ x4, r = some (gp_i x4) ∧ ((x4 = 0 → gs_E L (d + 1) 3152 14 [gp_r (some 74), gp_i p0, gp_i p1, gp_n] [] s3 K) ∧ (¬ x4 = 0 → gs_C L d 3103 9 [gp_r (some 74), gp_i p0] s3 (fun r s5 => ∃ x6, r = some (gp_i x6) ∧ ((x6 = 0 → gs_E L (d + 1) 3152 36 [gp_r (some 74), gp_i p0, gp_i p1, gp_n] [] s5 K) ∧ (¬ x6 = 0 → gs_C L d 3103 9 [gp_r (some 74), gp_i p1] s5 (fun r s7 => ∃ x8, r = some (gp_i x8) ∧ ((x8 = 0 → gs_E L (d + 1) 3152 36 [gp_r (some 74), gp_i p0, gp_i p1, gp_n] [] s7 K) ∧ (¬ x8 = 0 → gs_C L d 3104 4 [gp_r (some 74), gp_i p0, gp_i p1] s7 (fun r s9 => r = none ∧ gs_C L d 3081 2 [gp_r (some 74), gp_i p0] s9 (fun r s10 => ∃ x11, r = some (gp_i x11) ∧ gs_C L d 3081 2 [gp_r (some 74), gp_i p1] s10 (fun r s12 => ∃ x13, r = some (gp_i x13) ∧ gs_C L d 3105 7 [gp_r (some 74), gp_i p0, gp_i x11, gp_i p1, gp_i x13, gp_i 0] s12 (fun r s14 => ∃ x15, r = some (gp_i x15) ∧ ((x15 = 0 → gs_E L (d + 1) 3152 73 [gp_r (some 74), gp_i p0, gp_i p1, gp_n] [gp_i 0] s14 K) ∧ (¬ x15 = 0 → gs_E L (d + 1) 3152 73 [gp_r (some 74), gp_i p0, gp_i p1, gp_n] [gp_i 1] s14 K))))))))))))))))))) : gs_C L (d + 1) 3152 4 [gp_r (some 74), gp_i p0, gp_i p1] s K := by
  show gs_E L (d + 1) 3152 0 [gp_r (some 74), gp_i p0, gp_i p1, gp_n] [] s K
  refine gs_E.stp (pc' := 1) (ls' := [gp_r (some 74), gp_i p0, gp_i p1, gp_n]) (st' := [gp_i p0]) (s' := s) 1 rfl ?_
  refine gs_E.call (args := [gp_i p0]) (m := 1) (y' := 3075) (st' := []) rfl H (fun r s1 H => ?_)
  obtain ⟨x2, rfl, H⟩ := H
  show gs_E L (d + 1) 3152 4 [gp_r (some 74), gp_i p0, gp_i p1, gp_n] [gp_i x2] s1 K
  refine gs_E.br (c := x2 = 0) (p1 := 14) (p2 := 7) (l1 := [gp_r (some 74), gp_i p0, gp_i p1, gp_n]) (l2 := [gp_r (some 74), gp_i p0, gp_i p1, gp_n]) (s1 := []) (s2 := []) rfl gs_b1 (fun hc => ?_) (fun hc => ?_)
  · replace H := H.1 hc
    exact H
  · replace H := H.2 hc
    refine gs_E.stp (pc' := 8) (ls' := [gp_r (some 74), gp_i p0, gp_i p1, gp_n]) (st' := [gp_i p1]) (s' := s1) 1 rfl ?_
    refine gs_E.call (args := [gp_i p1]) (m := 1) (y' := 3075) (st' := []) rfl H (fun r s3 H => ?_)
    obtain ⟨x4, rfl, H⟩ := H
    show gs_E L (d + 1) 3152 11 [gp_r (some 74), gp_i p0, gp_i p1, gp_n] [gp_i x4] s3 K
    refine gs_E.br (c := ¬ x4 = 0) (p1 := 20) (p2 := 14) (l1 := [gp_r (some 74), gp_i p0, gp_i p1, gp_n]) (l2 := [gp_r (some 74), gp_i p0, gp_i p1, gp_n]) (s1 := []) (s2 := []) rfl gs_b2 (fun hc => ?_) (fun hc => ?_)
    · replace H := H.2 hc
      refine gs_E.stp (pc' := 22) (ls' := [gp_r (some 74), gp_i p0, gp_i p1, gp_n]) (st' := [gp_i p0, gp_r (some 74)]) (s' := s3) 2 rfl ?_
      refine gs_E.call (args := [gp_r (some 74), gp_i p0]) (m := 9) (y' := 3103) (st' := []) rfl H (fun r s5 H => ?_)
      obtain ⟨x6, rfl, H⟩ := H
      show gs_E L (d + 1) 3152 25 [gp_r (some 74), gp_i p0, gp_i p1, gp_n] [gp_i x6] s5 K
      refine gs_E.br (c := x6 = 0) (p1 := 36) (p2 := 28) (l1 := [gp_r (some 74), gp_i p0, gp_i p1, gp_n]) (l2 := [gp_r (some 74), gp_i p0, gp_i p1, gp_n]) (s1 := []) (s2 := []) rfl gs_b1 (fun hc => ?_) (fun hc => ?_)
      · replace H := H.1 hc
        exact H
      · replace H := H.2 hc
        refine gs_E.stp (pc' := 30) (ls' := [gp_r (some 74), gp_i p0, gp_i p1, gp_n]) (st' := [gp_i p1, gp_r (some 74)]) (s' := s5) 2 rfl ?_
        refine gs_E.call (args := [gp_r (some 74), gp_i p1]) (m := 9) (y' := 3103) (st' := []) rfl H (fun r s7 H => ?_)
        obtain ⟨x8, rfl, H⟩ := H
        show gs_E L (d + 1) 3152 33 [gp_r (some 74), gp_i p0, gp_i p1, gp_n] [gp_i x8] s7 K
        refine gs_E.br (c := ¬ x8 = 0) (p1 := 42) (p2 := 36) (l1 := [gp_r (some 74), gp_i p0, gp_i p1, gp_n]) (l2 := [gp_r (some 74), gp_i p0, gp_i p1, gp_n]) (s1 := []) (s2 := []) rfl gs_b2 (fun hc => ?_) (fun hc => ?_)
        · replace H := H.2 hc
          refine gs_E.stp (pc' := 45) (ls' := [gp_r (some 74), gp_i p0, gp_i p1, gp_n]) (st' := [gp_i p1, gp_i p0, gp_r (some 74)]) (s' := s7) 3 rfl ?_
          refine gs_E.call (args := [gp_r (some 74), gp_i p0, gp_i p1]) (m := 4) (y' := 3104) (st' := []) rfl H (fun r s9 H => ?_)
          obtain ⟨rfl, H⟩ := H
          show gs_E L (d + 1) 3152 48 [gp_r (some 74), gp_i p0, gp_i p1, gp_n] [] s9 K
          refine gs_E.stp (pc' := 52) (ls' := [gp_r (some 74), gp_i p0, gp_i p1, gp_n]) (st' := [gp_i p0, gp_r (some 74), gp_i p0, gp_r (some 74)]) (s' := s9) 4 rfl ?_
          refine gs_E.call (args := [gp_r (some 74), gp_i p0]) (m := 2) (y' := 3081) (st' := [gp_i p0, gp_r (some 74)]) rfl H (fun r s10 H => ?_)
          obtain ⟨x11, rfl, H⟩ := H
          show gs_E L (d + 1) 3152 55 [gp_r (some 74), gp_i p0, gp_i p1, gp_n] [gp_i x11, gp_i p0, gp_r (some 74)] s10 K
          refine gs_E.stp (pc' := 58) (ls' := [gp_r (some 74), gp_i p0, gp_i p1, gp_n]) (st' := [gp_i p1, gp_r (some 74), gp_i p1, gp_i x11, gp_i p0, gp_r (some 74)]) (s' := s10) 3 rfl ?_
          refine gs_E.call (args := [gp_r (some 74), gp_i p1]) (m := 2) (y' := 3081) (st' := [gp_i p1, gp_i x11, gp_i p0, gp_r (some 74)]) rfl H (fun r s12 H => ?_)
          obtain ⟨x13, rfl, H⟩ := H
          show gs_E L (d + 1) 3152 61 [gp_r (some 74), gp_i p0, gp_i p1, gp_n] [gp_i x13, gp_i p1, gp_i x11, gp_i p0, gp_r (some 74)] s12 K
          refine gs_E.stp (pc' := 62) (ls' := [gp_r (some 74), gp_i p0, gp_i p1, gp_n]) (st' := [gp_i 0, gp_i x13, gp_i p1, gp_i x11, gp_i p0, gp_r (some 74)]) (s' := s12) 1 rfl ?_
          refine gs_E.call (args := [gp_r (some 74), gp_i p0, gp_i x11, gp_i p1, gp_i x13, gp_i 0]) (m := 7) (y' := 3105) (st' := []) rfl H (fun r s14 H => ?_)
          obtain ⟨x15, rfl, H⟩ := H
          show gs_E L (d + 1) 3152 65 [gp_r (some 74), gp_i p0, gp_i p1, gp_n] [gp_i x15] s14 K
          refine gs_E.br (c := x15 = 0) (p1 := 72) (p2 := 68) (l1 := [gp_r (some 74), gp_i p0, gp_i p1, gp_n]) (l2 := [gp_r (some 74), gp_i p0, gp_i p1, gp_n]) (s1 := []) (s2 := []) rfl gs_b1 (fun hc => ?_) (fun hc => ?_)
          · replace H := H.1 hc
            refine gs_E.stp (pc' := 73) (ls' := [gp_r (some 74), gp_i p0, gp_i p1, gp_n]) (st' := [gp_i 0]) (s' := s14) 1 rfl ?_
            exact H
          · replace H := H.2 hc
            refine gs_E.stp (pc' := 73) (ls' := [gp_r (some 74), gp_i p0, gp_i p1, gp_n]) (st' := [gp_i 1]) (s' := s14) 2 rfl ?_
            exact H
        · replace H := H.1 (Decidable.byContradiction hc)
          exact H
    · replace H := H.1 (Decidable.byContradiction hc)
      exact H

set_option maxRecDepth 100000 in
/-- GatheredPointsModel.compare, pc 14 -/
theorem s_3152_14 {L d : Nat} {K : Option gV → gH → Prop} {s : gH} (v1 : Int) (v2 : Int) (v3 : gV) (H : gs_C L d 3074 2 [gp_r (some 74), gp_i 1] s (fun r s1 => ∃ x2, r = some (gp_i x2) ∧ K (some (gp_i x2)) s1)) : gs_E L (d + 1) 3152 14 [gp_r (some 74), gp_i v1, gp_i v2, v3] [] s K := by
  refine gs_E.stp (pc' := 16) (ls' := [gp_r (some 74), gp_i v1, gp_i v2, v3]) (st' := [gp_i 1, gp_r (some 74)]) (s' := s) 2 rfl ?_
  refine gs_E.call (args := [gp_r (some 74), gp_i 1]) (m := 2) (y' := 3074) (st' := []) rfl H (fun r s1 H => ?_)
  obtain ⟨x2, rfl, H⟩ := H
  show gs_E L (d + 1) 3152 19 [gp_r (some 74), gp_i v1, gp_i v2, v3] [gp_i x2] s1 K
  exact gs_E.ret (r := (some (gp_i x2))) rfl H

set_option maxRecDepth 100000 in
/-- GatheredPointsModel.compare, pc 36 -/
theorem s_3152_36 {L d : Nat} {K : Option gV → gH → Prop} {s : gH} (v1 : Int) (v2 : Int) (v3 : gV) (H : gs_C L d 3074 2 [gp_r (some 74), gp_i 3] s (fun r s1 => ∃ x2, r = some (gp_i x2) ∧ K (some (gp_i x2)) s1)) : gs_E L (d + 1) 3152 36 [gp_r (some 74), gp_i v1, gp_i v2, v3] [] s K := by
  refine gs_E.stp (pc' := 38) (ls' := [gp_r (some 74), gp_i v1, gp_i v2, v3]) (st' := [gp_i 3, gp_r (some 74)]) (s' := s) 2 rfl ?_
  refine gs_E.call (args := [gp_r (some 74), gp_i 3]) (m := 2) (y' := 3074) (st' := []) rfl H (fun r s1 H => ?_)
  obtain ⟨x2, rfl, H⟩ := H
  show gs_E L (d + 1) 3152 41 [gp_r (some 74), gp_i v1, gp_i v2, v3] [gp_i x2] s1 K
  exact gs_E.ret (r := (some (gp_i x2))) rfl H

set_option maxRecDepth 100000 in
/-- GatheredPointsModel.compare, pc 73 -/
theorem s_3152_73 {L d : Nat} {K : Option gV → gH → Prop} {s : gH} (v1 : Int) (v2 : Int) (v3 : gV) (w0 : Int) (H : gs_C L d 3081 2 [gp_r (some 74), gp_i v2] s (fun r s1 => ∃ x2, r = some (gp_i x2) ∧ gs_C L d 3081 2 [gp_r (some 74), gp_i v1] s1 (fun r s3 => ∃ x4, r = some (gp_i x4) ∧ gs_C L d 3105 7 [gp_r (some 74), gp_i v2, gp_i x2, gp_i v1, gp_i x4, gp_i 1] s3 (fun r s5 => ∃ x6, r = some (gp_i x6) ∧ ((x6 = 0 → gs_E L (d + 1) 3152 100 [gp_r (some 74), gp_i v1, gp_i v2, gp_i w0] [gp_i 0, gp_i w0] s5 K) ∧ (¬ x6 = 0 → gs_E L (d + 1) 3152 100 [gp_r (some 74), gp_i v1, gp_i v2, gp_i w0] [gp_i 2, gp_i w0] s5 K)))))) : gs_E L (d + 1) 3152 73 [gp_r (some 74), gp_i v1, gp_i v2, v3] [gp_i w0] s K := by
  refine gs_E.stp (pc' := 79) (ls' := [gp_r (some 74), gp_i v1, gp_i v2, gp_i w0]) (st' := [gp_i v2, gp_r (some 74), gp_i v2, gp_r (some 74), gp_i w0]) (s' := s) 6 rfl ?_
  refine gs_E.call (args := [gp_r (some 74), gp_i v2]) (m := 2) (y' := 3081) (st' := [gp_i v2, gp_r (some 74), gp_i w0]) rfl H (fun r s1 H => ?_)
  obtain ⟨x2, rfl, H⟩ := H
  show gs_E L (d + 1) 3152 82 [gp_r (some 74), gp_i v1, gp_i v2, gp_i w0] [gp_i x2, gp_i v2, gp_r (some 74), gp_i w0] s1 K
  refine gs_E.stp (pc' := 85) (ls' := [gp_r (some 74), gp_i v1, gp_i v2, gp_i w0]) (st' := [gp_i v1, gp_r (some 74), gp_i v1, gp_i x2, gp_i v2, gp_r (some 74), gp_i w0]) (s' := s1) 3 rfl ?_
  refine gs_E.call (args := [gp_r (some 74), gp_i v1]) (m := 2) (y' := 3081) (st' := [gp_i v1, gp_i x2, gp_i v2, gp_r (some 74), gp_i w0]) rfl H (fun r s3 H => ?_)
  obtain ⟨x4, rfl, H⟩ := H
  show gs_E L (d + 1) 3152 88 [gp_r (some 74), gp_i v1, gp_i v2, gp_i w0] [gp_i x4, gp_i v1, gp_i x2, gp_i v2, gp_r (some 74), gp_i w0] s3 K
  refine gs_E.stp (pc' := 89) (ls' := [gp_r (some 74), gp_i v1, gp_i v2, gp_i w0]) (st' := [gp_i 1, gp_i x4, gp_i v1, gp_i x2, gp_i v2, gp_r (some 74), gp_i w0]) (s' := s3) 1 rfl ?_
  refine gs_E.call (args := [gp_r (some 74), gp_i v2, gp_i x2, gp_i v1, gp_i x4, gp_i 1]) (m := 7) (y' := 3105) (st' := [gp_i w0]) rfl H (fun r s5 H => ?_)
  obtain ⟨x6, rfl, H⟩ := H
  show gs_E L (d + 1) 3152 92 [gp_r (some 74), gp_i v1, gp_i v2, gp_i w0] [gp_i x6, gp_i w0] s5 K
  refine gs_E.br (c := x6 = 0) (p1 := 99) (p2 := 95) (l1 := [gp_r (some 74), gp_i v1, gp_i v2, gp_i w0]) (l2 := [gp_r (some 74), gp_i v1, gp_i v2, gp_i w0]) (s1 := [gp_i w0]) (s2 := [gp_i w0]) rfl gs_b1 (fun hc => ?_) (fun hc => ?_)
  · replace H := H.1 hc
    refine gs_E.stp (pc' := 100) (ls' := [gp_r (some 74), gp_i v1, gp_i v2, gp_i w0]) (st' := [gp_i 0, gp_i w0]) (s' := s5) 1 rfl ?_
    exact H
  · replace H := H.2 hc
    refine gs_E.stp (pc' := 100) (ls' := [gp_r (some 74), gp_i v1, gp_i v2, gp_i w0]) (st' := [gp_i 2, gp_i w0]) (s' := s5) 2 rfl ?_
    exact H

set_option maxRecDepth 100000 in
/-- GatheredPointsModel.compare, pc 100 -/
theorem s_3152_100 {L d : Nat} {K : Option gV → gH → Prop} {s : gH} (v1 : Int) (v2 : Int) (v3 : Int) (w0 : Int) (w1 : Int) (H : K (some (gp_i (gp_wr (w0 + w1)))) s) : gs_E L (d + 1) 3152 100 [gp_r (some 74), gp_i v1, gp_i v2, gp_i v3] [gp_i w1, gp_i w0] s K := by
  refine gs_E.stp (pc' := 101) (ls' := [gp_r (some 74), gp_i v1, gp_i v2, gp_i v3]) (st' := [gp_i (gp_wr (w0 + w1))]) (s' := s) 1 rfl ?_
  exact gs_E.ret (r := (some (gp_i (gp_wr (w0 + w1))))) rfl H

set_option maxRecDepth 100000 in
/-- GatheredPointsModel.answer, pc 0 -/
theorem s_3153_e {L d : Nat} {K : Option gV → gH → Prop} {s : gH} (p0 : Int) (p1 : Int) (p2 : Int) (p3 : Int) (H : gs_C L d 3075 1 [gp_i p0] s (fun r s1 => ∃ x2, r = some (gp_i x2) ∧ ((x2 = 0 → gs_E L (d + 1) 3153 21 [gp_r (some 74), gp_i p0, gp_i p1, gp_i p2, gp_i p3, gp_n, gp_n, gp_n] [] s1 K) ∧ (¬ x2 = 0 → gs_C L d 3075 1 [gp_i p1] s1 (fun r s3 => ∃ x4, r = some (gp_i x4) ∧ ((x4 = 0 → gs_E L (d + 1) 3153 21 [gp_r (some 74), gp_i p0, gp_i p1, gp_i p2, gp_i p3, gp_n, gp_n, gp_n] [] s3 K) ∧ (¬ x4 = 0 → gs_C L d 3077 1 [gp_i p2] s3 (fun r s5 => ∃ x6, r = some (gp_i x6) ∧ ((x6 = 0 → gs_E L (d + 1) 3153 21 [gp_r (some 74), gp_i p0, gp_i p1, gp_i p2, gp_i p3, gp_n, gp_n, gp_n] [] s5 K) ∧ (¬ x6 = 0 → gs_C L d 3103 9 [gp_r (some 74), gp_i p0] s5 (fun r s7 => ∃ x8, r = some (gp_i x8) ∧ ((x8 = 0 → gs_E L (d + 1) 3153 43 [gp_r (some 74), gp_i p0, gp_i p1, gp_i p2, gp_i p3, gp_n, gp_n, gp_n] [] s7 K) ∧ (¬ x8 = 0 → gs_C L d 3103 9 [gp_r (some 74), gp_i p1] s7 (fun r s9 => ∃ x10, r = some (gp_i x10) ∧ ((x10 = 0 → gs_E L (d + 1) 3153 43 [gp_r (some 74), gp_i p0, gp_i p1, gp_i p2, gp_i p3, gp_n, gp_n, gp_n] [] s9 K) ∧ (¬ x10 = 0 → gs_C L d 3104 4 [gp_r (some 74), gp_i p0, gp_i p1] s9 (fun r s11 => r = none ∧ gs_C L d 3081 2 [gp_r (some 74), gp_i p0] s11 (fun r s12 => ∃ x13, r = some (gp_i x13) ∧ gs_C L d 3081 2 [gp_r (some 74), gp_i p1] s12 (fun r s14 => ∃ x15, r = some (gp_i x15) ∧ gs_C L d 3105 7 [gp_r (some 74), gp_i p0, gp_i x13, gp_i p1, gp_i x15, gp_i 0] s14 (fun r s16 => ∃ x17, r = some (gp_i x17) ∧ ((x17 = 0 → gs_C L d 3074 2 [gp_r (some 74), gp_i 5] s16 (fun r s18 => ∃ x19, r = some (gp_i x19) ∧ K (some (gp_i x19)) s18)) ∧ (¬ x17 = 0 → ((p3 < 0 → gs_E L (d + 1) 3153 134 [gp_r (some 74), gp_i p0, gp_i p1, gp_i p2, gp_i p3, gp_i x13, gp_i x15, gp_n] [gp_i (-1)] s16 K) ∧ (¬ p3 < 0 → ((p2 = 0 → ((0 ≤ (gp_wr ((gp_wr (64 * p1)) + x15)) ∧ (gp_wr ((gp_wr (64 * p1)) + x15)) < 5440) ∧ gs_E L (d + 1) 3153 129 [gp_r (some 74), gp_i p0, gp_i p1, gp_i p2, gp_i p3, gp_i x13, gp_i x15, gp_n] [gp_l (gp_L s16 76 (gp_wr ((gp_wr (64 * p1)) + x15)).toNat)] s16 K)) ∧ (¬ p2 = 0 → ((0 ≤ (gp_wr ((gp_wr (64 * p0)) + x13)) ∧ (gp_wr ((gp_wr (64 * p0)) + x13)) < 5440) ∧ gs_E L (d + 1) 3153 129 [gp_r (some 74), gp_i p0, gp_i p1, gp_i p2, gp_i p3, gp_i x13, gp_i x15, gp_n] [gp_l (gp_L s16 77 (gp_wr ((gp_wr (64 * p0)) + x13)).toNat)] s16 K))))))))))))))))))))))))))) : gs_C L (d + 1) 3153 8 [gp_r (some 74), gp_i p0, gp_i p1, gp_i p2, gp_i p3] s K := by
  show gs_E L (d + 1) 3153 0 [gp_r (some 74), gp_i p0, gp_i p1, gp_i p2, gp_i p3, gp_n, gp_n, gp_n] [] s K
  refine gs_E.stp (pc' := 1) (ls' := [gp_r (some 74), gp_i p0, gp_i p1, gp_i p2, gp_i p3, gp_n, gp_n, gp_n]) (st' := [gp_i p0]) (s' := s) 1 rfl ?_
  refine gs_E.call (args := [gp_i p0]) (m := 1) (y' := 3075) (st' := []) rfl H (fun r s1 H => ?_)
  obtain ⟨x2, rfl, H⟩ := H
  show gs_E L (d + 1) 3153 4 [gp_r (some 74), gp_i p0, gp_i p1, gp_i p2, gp_i p3, gp_n, gp_n, gp_n] [gp_i x2] s1 K
  refine gs_E.br (c := x2 = 0) (p1 := 21) (p2 := 7) (l1 := [gp_r (some 74), gp_i p0, gp_i p1, gp_i p2, gp_i p3, gp_n, gp_n, gp_n]) (l2 := [gp_r (some 74), gp_i p0, gp_i p1, gp_i p2, gp_i p3, gp_n, gp_n, gp_n]) (s1 := []) (s2 := []) rfl gs_b1 (fun hc => ?_) (fun hc => ?_)
  · replace H := H.1 hc
    exact H
  · replace H := H.2 hc
    refine gs_E.stp (pc' := 8) (ls' := [gp_r (some 74), gp_i p0, gp_i p1, gp_i p2, gp_i p3, gp_n, gp_n, gp_n]) (st' := [gp_i p1]) (s' := s1) 1 rfl ?_
    refine gs_E.call (args := [gp_i p1]) (m := 1) (y' := 3075) (st' := []) rfl H (fun r s3 H => ?_)
    obtain ⟨x4, rfl, H⟩ := H
    show gs_E L (d + 1) 3153 11 [gp_r (some 74), gp_i p0, gp_i p1, gp_i p2, gp_i p3, gp_n, gp_n, gp_n] [gp_i x4] s3 K
    refine gs_E.br (c := x4 = 0) (p1 := 21) (p2 := 14) (l1 := [gp_r (some 74), gp_i p0, gp_i p1, gp_i p2, gp_i p3, gp_n, gp_n, gp_n]) (l2 := [gp_r (some 74), gp_i p0, gp_i p1, gp_i p2, gp_i p3, gp_n, gp_n, gp_n]) (s1 := []) (s2 := []) rfl gs_b1 (fun hc => ?_) (fun hc => ?_)
    · replace H := H.1 hc
      exact H
    · replace H := H.2 hc
      refine gs_E.stp (pc' := 15) (ls' := [gp_r (some 74), gp_i p0, gp_i p1, gp_i p2, gp_i p3, gp_n, gp_n, gp_n]) (st' := [gp_i p2]) (s' := s3) 1 rfl ?_
      refine gs_E.call (args := [gp_i p2]) (m := 1) (y' := 3077) (st' := []) rfl H (fun r s5 H => ?_)
      obtain ⟨x6, rfl, H⟩ := H
      show gs_E L (d + 1) 3153 18 [gp_r (some 74), gp_i p0, gp_i p1, gp_i p2, gp_i p3, gp_n, gp_n, gp_n] [gp_i x6] s5 K
      refine gs_E.br (c := ¬ x6 = 0) (p1 := 27) (p2 := 21) (l1 := [gp_r (some 74), gp_i p0, gp_i p1, gp_i p2, gp_i p3, gp_n, gp_n, gp_n]) (l2 := [gp_r (some 74), gp_i p0, gp_i p1, gp_i p2, gp_i p3, gp_n, gp_n, gp_n]) (s1 := []) (s2 := []) rfl gs_b2 (fun hc => ?_) (fun hc => ?_)
      · replace H := H.2 hc
        refine gs_E.stp (pc' := 29) (ls' := [gp_r (some 74), gp_i p0, gp_i p1, gp_i p2, gp_i p3, gp_n, gp_n, gp_n]) (st' := [gp_i p0, gp_r (some 74)]) (s' := s5) 2 rfl ?_
        refine gs_E.call (args := [gp_r (some 74), gp_i p0]) (m := 9) (y' := 3103) (st' := []) rfl H (fun r s7 H => ?_)
        obtain ⟨x8, rfl, H⟩ := H
        show gs_E L (d + 1) 3153 32 [gp_r (some 74), gp_i p0, gp_i p1, gp_i p2, gp_i p3, gp_n, gp_n, gp_n] [gp_i x8] s7 K
        refine gs_E.br (c := x8 = 0) (p1 := 43) (p2 := 35) (l1 := [gp_r (some 74), gp_i p0, gp_i p1, gp_i p2, gp_i p3, gp_n, gp_n, gp_n]) (l2 := [gp_r (some 74), gp_i p0, gp_i p1, gp_i p2, gp_i p3, gp_n, gp_n, gp_n]) (s1 := []) (s2 := []) rfl gs_b1 (fun hc => ?_) (fun hc => ?_)
        · replace H := H.1 hc
          exact H
        · replace H := H.2 hc
          refine gs_E.stp (pc' := 37) (ls' := [gp_r (some 74), gp_i p0, gp_i p1, gp_i p2, gp_i p3, gp_n, gp_n, gp_n]) (st' := [gp_i p1, gp_r (some 74)]) (s' := s7) 2 rfl ?_
          refine gs_E.call (args := [gp_r (some 74), gp_i p1]) (m := 9) (y' := 3103) (st' := []) rfl H (fun r s9 H => ?_)
          obtain ⟨x10, rfl, H⟩ := H
          show gs_E L (d + 1) 3153 40 [gp_r (some 74), gp_i p0, gp_i p1, gp_i p2, gp_i p3, gp_n, gp_n, gp_n] [gp_i x10] s9 K
          refine gs_E.br (c := ¬ x10 = 0) (p1 := 49) (p2 := 43) (l1 := [gp_r (some 74), gp_i p0, gp_i p1, gp_i p2, gp_i p3, gp_n, gp_n, gp_n]) (l2 := [gp_r (some 74), gp_i p0, gp_i p1, gp_i p2, gp_i p3, gp_n, gp_n, gp_n]) (s1 := []) (s2 := []) rfl gs_b2 (fun hc => ?_) (fun hc => ?_)
          · replace H := H.2 hc
            refine gs_E.stp (pc' := 52) (ls' := [gp_r (some 74), gp_i p0, gp_i p1, gp_i p2, gp_i p3, gp_n, gp_n, gp_n]) (st' := [gp_i p1, gp_i p0, gp_r (some 74)]) (s' := s9) 3 rfl ?_
            refine gs_E.call (args := [gp_r (some 74), gp_i p0, gp_i p1]) (m := 4) (y' := 3104) (st' := []) rfl H (fun r s11 H => ?_)
            obtain ⟨rfl, H⟩ := H
            show gs_E L (d + 1) 3153 55 [gp_r (some 74), gp_i p0, gp_i p1, gp_i p2, gp_i p3, gp_n, gp_n, gp_n] [] s11 K
            refine gs_E.stp (pc' := 57) (ls' := [gp_r (some 74), gp_i p0, gp_i p1, gp_i p2, gp_i p3, gp_n, gp_n, gp_n]) (st' := [gp_i p0, gp_r (some 74)]) (s' := s11) 2 rfl ?_
            refine gs_E.call (args := [gp_r (some 74), gp_i p0]) (m := 2) (y' := 3081) (st' := []) rfl H (fun r s12 H => ?_)
            obtain ⟨x13, rfl, H⟩ := H
            show gs_E L (d + 1) 3153 60 [gp_r (some 74), gp_i p0, gp_i p1, gp_i p2, gp_i p3, gp_n, gp_n, gp_n] [gp_i x13] s12 K
            refine gs_E.stp (pc' := 64) (ls' := [gp_r (some 74), gp_i p0, gp_i p1, gp_i p2, gp_i p3, gp_i x13, gp_n, gp_n]) (st' := [gp_i p1, gp_r (some 74)]) (s' := s12) 3 rfl ?_
            refine gs_E.call (args := [gp_r (some 74), gp_i p1]) (m := 2) (y' := 3081) (st' := []) rfl H (fun r s14 H => ?_)
            obtain ⟨x15, rfl, H⟩ := H
            show gs_E L (d + 1) 3153 67 [gp_r (some 74), gp_i p0, gp_i p1, gp_i p2, gp_i p3, gp_i x13, gp_n, gp_n] [gp_i x15] s14 K
            refine gs_E.stp (pc' := 77) (ls' := [gp_r (some 74), gp_i p0, gp_i p1, gp_i p2, gp_i p3, gp_i x13, gp_i x15, gp_n]) (st' := [gp_i 0, gp_i x15, gp_i p1, gp_i x13, gp_i p0, gp_r (some 74)]) (s' := s14) 7 rfl ?_
            refine gs_E.call (args := [gp_r (some 74), gp_i p0, gp_i x13, gp_i p1, gp_i x15, gp_i 0]) (m := 7) (y' := 3105) (st' := []) rfl H (fun r s16 H => ?_)
            obtain ⟨x17, rfl, H⟩ := H
            show gs_E L (d + 1) 3153 80 [gp_r (some 74), gp_i p0, gp_i p1, gp_i p2, gp_i p3, gp_i x13, gp_i x15, gp_n] [gp_i x17] s16 K
            refine gs_E.br (c := ¬ x17 = 0) (p1 := 89) (p2 := 83) (l1 := [gp_r (some 74), gp_i p0, gp_i p1, gp_i p2, gp_i p3, gp_i x13, gp_i x15, gp_n]) (l2 := [gp_r (some 74), gp_i p0, gp_i p1, gp_i p2, gp_i p3, gp_i x13, gp_i x15, gp_n]) (s1 := []) (s2 := []) rfl gs_b2 (fun hc => ?_) (fun hc => ?_)
            · replace H := H.2 hc
              refine gs_E.stp (pc' := 91) (ls' := [gp_r (some 74), gp_i p0, gp_i p1, gp_i p2, gp_i p3, gp_i x13, gp_i x15, gp_n]) (st' := [gp_i p3]) (s' := s16) 1 rfl ?_
              refine gs_E.br (c := ¬ p3 < 0) (p1 := 98) (p2 := 94) (l1 := [gp_r (some 74), gp_i p0, gp_i p1, gp_i p2, gp_i p3, gp_i x13, gp_i x15, gp_n]) (l2 := [gp_r (some 74), gp_i p0, gp_i p1, gp_i p2, gp_i p3, gp_i x13, gp_i x15, gp_n]) (s1 := []) (s2 := []) rfl gs_b2 (fun hc => ?_) (fun hc => ?_)
              · replace H := H.2 hc
                refine gs_E.stp (pc' := 99) (ls' := [gp_r (some 74), gp_i p0, gp_i p1, gp_i p2, gp_i p3, gp_i x13, gp_i x15, gp_n]) (st' := [gp_i p2]) (s' := s16) 1 rfl ?_
                refine gs_E.br (c := ¬ p2 = 0) (p1 := 117) (p2 := 102) (l1 := [gp_r (some 74), gp_i p0, gp_i p1, gp_i p2, gp_i p3, gp_i x13, gp_i x15, gp_n]) (l2 := [gp_r (some 74), gp_i p0, gp_i p1, gp_i p2, gp_i p3, gp_i x13, gp_i x15, gp_n]) (s1 := []) (s2 := []) rfl gs_b2 (fun hc => ?_) (fun hc => ?_)
                · replace H := H.2 hc
                  refine gs_E.stp (pc' := 128) (ls' := [gp_r (some 74), gp_i p0, gp_i p1, gp_i p2, gp_i p3, gp_i x13, gp_i x15, gp_n]) (st' := [gp_i (gp_wr ((gp_wr (64 * p0)) + x13)), gp_r (some 77)]) (s' := s16) 7 rfl ?_
                  refine gs_E.ck (pc' := 129) (ls' := [gp_r (some 74), gp_i p0, gp_i p1, gp_i p2, gp_i p3, gp_i x13, gp_i x15, gp_n]) (st' := [gp_l (gp_L s16 77 (gp_wr ((gp_wr (64 * p0)) + x13)).toNat)]) (s' := s16) rfl ⟨rfl, H.1.1, H.1.2⟩ ?_
                  replace H := H.2
                  exact H
                · replace H := H.1 (Decidable.byContradiction hc)
                  refine gs_E.stp (pc' := 113) (ls' := [gp_r (some 74), gp_i p0, gp_i p1, gp_i p2, gp_i p3, gp_i x13, gp_i x15, gp_n]) (st' := [gp_i (gp_wr ((gp_wr (64 * p1)) + x15)), gp_r (some 76)]) (s' := s16) 7 rfl ?_
                  refine gs_E.ck (pc' := 114) (ls' := [gp_r (some 74), gp_i p0, gp_i p1, gp_i p2, gp_i p3, gp_i x13, gp_i x15, gp_n]) (st' := [gp_l (gp_L s16 76 (gp_wr ((gp_wr (64 * p1)) + x15)).toNat)]) (s' := s16) rfl ⟨rfl, H.1.1, H.1.2⟩ ?_
                  replace H := H.2
                  refine gs_E.stp (pc' := 129) (ls' := [gp_r (some 74), gp_i p0, gp_i p1, gp_i p2, gp_i p3, gp_i x13, gp_i x15, gp_n]) (st' := [gp_l (gp_L s16 76 (gp_wr ((gp_wr (64 * p1)) + x15)).toNat)]) (s' := s16) 1 rfl ?_
                  exact H
              · replace H := H.1 (Decidable.byContradiction hc)
                refine gs_E.stp (pc' := 134) (ls' := [gp_r (some 74), gp_i p0, gp_i p1, gp_i p2, gp_i p3, gp_i x13, gp_i x15, gp_n]) (st' := [gp_i (-1)]) (s' := s16) 2 rfl ?_
                exact H
            · replace H := H.1 (Decidable.byContradiction hc)
              refine gs_E.stp (pc' := 85) (ls' := [gp_r (some 74), gp_i p0, gp_i p1, gp_i p2, gp_i p3, gp_i x13, gp_i x15, gp_n]) (st' := [gp_i 5, gp_r (some 74)]) (s' := s16) 2 rfl ?_
              refine gs_E.call (args := [gp_r (some 74), gp_i 5]) (m := 2) (y' := 3074) (st' := []) rfl H (fun r s18 H => ?_)
              obtain ⟨x19, rfl, H⟩ := H
              show gs_E L (d + 1) 3153 88 [gp_r (some 74), gp_i p0, gp_i p1, gp_i p2, gp_i p3, gp_i x13, gp_i x15, gp_n] [gp_i x19] s18 K
              exact gs_E.ret (r := (some (gp_i x19))) rfl H
          · replace H := H.1 (Decidable.byContradiction hc)
            exact H
      · replace H := H.1 (Decidable.byContradiction hc)
        exact H

set_option maxRecDepth 100000 in
/-- GatheredPointsModel.answer, pc 21 -/
theorem s_3153_21 {L d : Nat} {K : Option gV → gH → Prop} {s : gH} (v1 : Int) (v2 : Int) (v3 : Int) (v4 : Int) (v5 : gV) (v6 : gV) (v7 : gV) (H : gs_C L d 3074 2 [gp_r (some 74), gp_i 1] s (fun r s1 => ∃ x2, r = some (gp_i x2) ∧ K (some (gp_i x2)) s1)) : gs_E L (d + 1) 3153 21 [gp_r (some 74), gp_i v1, gp_i v2, gp_i v3, gp_i v4, v5, v6, v7] [] s K := by
  refine gs_E.stp (pc' := 23) (ls' := [gp_r (some 74), gp_i v1, gp_i v2, gp_i v3, gp_i v4, v5, v6, v7]) (st' := [gp_i 1, gp_r (some 74)]) (s' := s) 2 rfl ?_
  refine gs_E.call (args := [gp_r (some 74), gp_i 1]) (m := 2) (y' := 3074) (st' := []) rfl H (fun r s1 H => ?_)
  obtain ⟨x2, rfl, H⟩ := H
  show gs_E L (d + 1) 3153 26 [gp_r (some 74), gp_i v1, gp_i v2, gp_i v3, gp_i v4, v5, v6, v7] [gp_i x2] s1 K
  exact gs_E.ret (r := (some (gp_i x2))) rfl H

set_option maxRecDepth 100000 in
/-- GatheredPointsModel.answer, pc 43 -/
theorem s_3153_43 {L d : Nat} {K : Option gV → gH → Prop} {s : gH} (v1 : Int) (v2 : Int) (v3 : Int) (v4 : Int) (v5 : gV) (v6 : gV) (v7 : gV) (H : gs_C L d 3074 2 [gp_r (some 74), gp_i 3] s (fun r s1 => ∃ x2, r = some (gp_i x2) ∧ K (some (gp_i x2)) s1)) : gs_E L (d + 1) 3153 43 [gp_r (some 74), gp_i v1, gp_i v2, gp_i v3, gp_i v4, v5, v6, v7] [] s K := by
  refine gs_E.stp (pc' := 45) (ls' := [gp_r (some 74), gp_i v1, gp_i v2, gp_i v3, gp_i v4, v5, v6, v7]) (st' := [gp_i 3, gp_r (some 74)]) (s' := s) 2 rfl ?_
  refine gs_E.call (args := [gp_r (some 74), gp_i 3]) (m := 2) (y' := 3074) (st' := []) rfl H (fun r s1 H => ?_)
  obtain ⟨x2, rfl, H⟩ := H
  show gs_E L (d + 1) 3153 48 [gp_r (some 74), gp_i v1, gp_i v2, gp_i v3, gp_i v4, v5, v6, v7] [gp_i x2] s1 K
  exact gs_E.ret (r := (some (gp_i x2))) rfl H

set_option maxRecDepth 100000 in
/-- GatheredPointsModel.answer, pc 129 -/
theorem s_3153_129 {L d : Nat} {K : Option gV → gH → Prop} {s : gH} (v1 : Int) (v2 : Int) (v3 : Int) (v4 : Int) (v5 : Int) (v6 : Int) (v7 : gV) (w0 : BitVec 64) (H : gs_C L d 3080 5 [gp_l w0, gp_i v4] s (fun r s1 => ∃ x2, r = some (gp_i x2) ∧ gs_E L (d + 1) 3153 134 [gp_r (some 74), gp_i v1, gp_i v2, gp_i v3, gp_i v4, gp_i v5, gp_i v6, v7] [gp_i x2] s1 K)) : gs_E L (d + 1) 3153 129 [gp_r (some 74), gp_i v1, gp_i v2, gp_i v3, gp_i v4, gp_i v5, gp_i v6, v7] [gp_l w0] s K := by
  refine gs_E.stp (pc' := 131) (ls' := [gp_r (some 74), gp_i v1, gp_i v2, gp_i v3, gp_i v4, gp_i v5, gp_i v6, v7]) (st' := [gp_i v4, gp_l w0]) (s' := s) 1 rfl ?_
  refine gs_E.call (args := [gp_l w0, gp_i v4]) (m := 5) (y' := 3080) (st' := []) rfl H (fun r s1 H => ?_)
  obtain ⟨x2, rfl, H⟩ := H
  show gs_E L (d + 1) 3153 134 [gp_r (some 74), gp_i v1, gp_i v2, gp_i v3, gp_i v4, gp_i v5, gp_i v6, v7] [gp_i x2] s1 K
  exact H

set_option maxRecDepth 100000 in
/-- GatheredPointsModel.answer, pc 134 -/
theorem s_3153_134 {L d : Nat} {K : Option gV → gH → Prop} {s : gH} (v1 : Int) (v2 : Int) (v3 : Int) (v4 : Int) (v5 : Int) (v6 : Int) (v7 : gV) (w0 : Int) (H : ((w0 < 0 → gs_C L d 3074 2 [gp_r (some 74), gp_i 2] s (fun r s5 => ∃ x6, r = some (gp_i x6) ∧ K (some (gp_i x6)) s5)) ∧ (¬ w0 < 0 → ((v3 = 0 → gs_C L d 3107 11 [gp_r (some 74), gp_i v1, gp_i v5, gp_i v2, gp_i w0, gp_i 0] s (fun r s3 => ∃ x4, r = some (gp_i x4) ∧ gs_E L (d + 1) 3153 176 [gp_r (some 74), gp_i v1, gp_i v2, gp_i v3, gp_i v4, gp_i v5, gp_i v6, gp_i w0] [gp_i x4] s3 K)) ∧ (¬ v3 = 0 → gs_C L d 3108 11 [gp_r (some 74), gp_i v1, gp_i w0, gp_i v2, gp_i v6, gp_i 0] s (fun r s1 => ∃ x2, r = some (gp_i x2) ∧ gs_E L (d + 1) 3153 176 [gp_r (some 74), gp_i v1, gp_i v2, gp_i v3, gp_i v4, gp_i v5, gp_i v6, gp_i w0] [gp_i x2] s1 K)))))) : gs_E L (d + 1) 3153 134 [gp_r (some 74), gp_i v1, gp_i v2, gp_i v3, gp_i v4, gp_i v5, gp_i v6, v7] [gp_i w0] s K := by
  refine gs_E.stp (pc' := 138) (ls' := [gp_r (some 74), gp_i v1, gp_i v2, gp_i v3, gp_i v4, gp_i v5, gp_i v6, gp_i w0]) (st' := [gp_i w0]) (s' := s) 2 rfl ?_
  refine gs_E.br (c := ¬ w0 < 0) (p1 := 147) (p2 := 141) (l1 := [gp_r (some 74), gp_i v1, gp_i v2, gp_i v3, gp_i v4, gp_i v5, gp_i v6, gp_i w0]) (l2 := [gp_r (some 74), gp_i v1, gp_i v2, gp_i v3, gp_i v4, gp_i v5, gp_i v6, gp_i w0]) (s1 := []) (s2 := []) rfl gs_b2 (fun hc => ?_) (fun hc => ?_)
  · replace H := H.2 hc
    refine gs_E.stp (pc' := 148) (ls' := [gp_r (some 74), gp_i v1, gp_i v2, gp_i v3, gp_i v4, gp_i v5, gp_i v6, gp_i w0]) (st' := [gp_i v3]) (s' := s) 1 rfl ?_
    refine gs_E.br (c := ¬ v3 = 0) (p1 := 165) (p2 := 151) (l1 := [gp_r (some 74), gp_i v1, gp_i v2, gp_i v3, gp_i v4, gp_i v5, gp_i v6, gp_i w0]) (l2 := [gp_r (some 74), gp_i v1, gp_i v2, gp_i v3, gp_i v4, gp_i v5, gp_i v6, gp_i w0]) (s1 := []) (s2 := []) rfl gs_b2 (fun hc => ?_) (fun hc => ?_)
    · replace H := H.2 hc
      refine gs_E.stp (pc' := 173) (ls' := [gp_r (some 74), gp_i v1, gp_i v2, gp_i v3, gp_i v4, gp_i v5, gp_i v6, gp_i w0]) (st' := [gp_i 0, gp_i v6, gp_i v2, gp_i w0, gp_i v1, gp_r (some 74)]) (s' := s) 6 rfl ?_
      refine gs_E.call (args := [gp_r (some 74), gp_i v1, gp_i w0, gp_i v2, gp_i v6, gp_i 0]) (m := 11) (y' := 3108) (st' := []) rfl H (fun r s1 H => ?_)
      obtain ⟨x2, rfl, H⟩ := H
      show gs_E L (d + 1) 3153 176 [gp_r (some 74), gp_i v1, gp_i v2, gp_i v3, gp_i v4, gp_i v5, gp_i v6, gp_i w0] [gp_i x2] s1 K
      exact H
    · replace H := H.1 (Decidable.byContradiction hc)
      refine gs_E.stp (pc' := 159) (ls' := [gp_r (some 74), gp_i v1, gp_i v2, gp_i v3, gp_i v4, gp_i v5, gp_i v6, gp_i w0]) (st' := [gp_i 0, gp_i w0, gp_i v2, gp_i v5, gp_i v1, gp_r (some 74)]) (s' := s) 6 rfl ?_
      refine gs_E.call (args := [gp_r (some 74), gp_i v1, gp_i v5, gp_i v2, gp_i w0, gp_i 0]) (m := 11) (y' := 3107) (st' := []) rfl H (fun r s3 H => ?_)
      obtain ⟨x4, rfl, H⟩ := H
      show gs_E L (d + 1) 3153 162 [gp_r (some 74), gp_i v1, gp_i v2, gp_i v3, gp_i v4, gp_i v5, gp_i v6, gp_i w0] [gp_i x4] s3 K
      refine gs_E.stp (pc' := 176) (ls' := [gp_r (some 74), gp_i v1, gp_i v2, gp_i v3, gp_i v4, gp_i v5, gp_i v6, gp_i w0]) (st' := [gp_i x4]) (s' := s3) 1 rfl ?_
      exact H
  · replace H := H.1 (Decidable.byContradiction hc)
    refine gs_E.stp (pc' := 143) (ls' := [gp_r (some 74), gp_i v1, gp_i v2, gp_i v3, gp_i v4, gp_i v5, gp_i v6, gp_i w0]) (st' := [gp_i 2, gp_r (some 74)]) (s' := s) 2 rfl ?_
    refine gs_E.call (args := [gp_r (some 74), gp_i 2]) (m := 2) (y' := 3074) (st' := []) rfl H (fun r s5 H => ?_)
    obtain ⟨x6, rfl, H⟩ := H
    show gs_E L (d + 1) 3153 146 [gp_r (some 74), gp_i v1, gp_i v2, gp_i v3, gp_i v4, gp_i v5, gp_i v6, gp_i w0] [gp_i x6] s5 K
    exact gs_E.ret (r := (some (gp_i x6))) rfl H

set_option maxRecDepth 100000 in
/-- GatheredPointsModel.answer, pc 176 -/
theorem s_3153_176 {L d : Nat} {K : Option gV → gH → Prop} {s : gH} (v1 : Int) (v2 : Int) (v3 : Int) (v4 : Int) (v5 : Int) (v6 : Int) (v7 : Int) (w0 : Int) (H : K (some (gp_i w0)) s) : gs_E L (d + 1) 3153 176 [gp_r (some 74), gp_i v1, gp_i v2, gp_i v3, gp_i v4, gp_i v5, gp_i v6, gp_i v7] [gp_i w0] s K := by
  exact gs_E.ret (r := (some (gp_i w0))) rfl H

set_option maxRecDepth 100000 in
/-- GatheredPointsModel.reduce, pc 0 -/
theorem s_3154_e {L d : Nat} {K : Option gV → gH → Prop} {s : gH} (p0 : Int) (p1 : Int) (H : gs_C L d 3075 1 [gp_i p0] s (fun r s1 => ∃ x2, r = some (gp_i x2) ∧ ((x2 = 0 → gs_E L (d + 1) 3154 14 [gp_r (some 74), gp_i p0, gp_i p1] [] s1 K) ∧ (¬ x2 = 0 → gs_C L d 3075 1 [gp_i p1] s1 (fun r s3 => ∃ x4, r = some (gp_i x4) ∧ ((x4 = 0 → gs_E L (d + 1) 3154 14 [gp_r (some 74), gp_i p0, gp_i p1] [] s3 K) ∧ (¬ x4 = 0 → gs_C L d 3103 9 [gp_r (some 74), gp_i p0] s3 (fun r s5 => ∃ x6, r = some (gp_i x6) ∧ ((x6 = 0 → gs_C L d 3074 2 [gp_r (some 74), gp_i 3] s5 (fun r s10 => ∃ x11, r = some (gp_i x11) ∧ K (some (gp_i x11)) s10)) ∧ (¬ x6 = 0 → gs_C L d 3109 7 [gp_r (some 74), gp_i p0] s5 (fun r s7 => r = none ∧ gs_C L d 3123 2 [gp_r (some 74), gp_i p1] s7 (fun r s8 => ∃ x9, r = some (gp_i x9) ∧ K (some (gp_i x9)) s8)))))))))))) : gs_C L (d + 1) 3154 3 [gp_r (some 74), gp_i p0, gp_i p1] s K := by
  show gs_E L (d + 1) 3154 0 [gp_r (some 74), gp_i p0, gp_i p1] [] s K
  refine gs_E.stp (pc' := 1) (ls' := [gp_r (some 74), gp_i p0, gp_i p1]) (st' := [gp_i p0]) (s' := s) 1 rfl ?_
  refine gs_E.call (args := [gp_i p0]) (m := 1) (y' := 3075) (st' := []) rfl H (fun r s1 H => ?_)
  obtain ⟨x2, rfl, H⟩ := H
  show gs_E L (d + 1) 3154 4 [gp_r (some 74), gp_i p0, gp_i p1] [gp_i x2] s1 K
  refine gs_E.br (c := x2 = 0) (p1 := 14) (p2 := 7) (l1 := [gp_r (some 74), gp_i p0, gp_i p1]) (l2 := [gp_r (some 74), gp_i p0, gp_i p1]) (s1 := []) (s2 := []) rfl gs_b1 (fun hc => ?_) (fun hc => ?_)
  · replace H := H.1 hc
    exact H
  · replace H := H.2 hc
    refine gs_E.stp (pc' := 8) (ls' := [gp_r (some 74), gp_i p0, gp_i p1]) (st' := [gp_i p1]) (s' := s1) 1 rfl ?_
    refine gs_E.call (args := [gp_i p1]) (m := 1) (y' := 3075) (st' := []) rfl H (fun r s3 H => ?_)
    obtain ⟨x4, rfl, H⟩ := H
    show gs_E L (d + 1) 3154 11 [gp_r (some 74), gp_i p0, gp_i p1] [gp_i x4] s3 K
    refine gs_E.br (c := ¬ x4 = 0) (p1 := 20) (p2 := 14) (l1 := [gp_r (some 74), gp_i p0, gp_i p1]) (l2 := [gp_r (some 74), gp_i p0, gp_i p1]) (s1 := []) (s2 := []) rfl gs_b2 (fun hc => ?_) (fun hc => ?_)
    · replace H := H.2 hc
      refine gs_E.stp (pc' := 22) (ls' := [gp_r (some 74), gp_i p0, gp_i p1]) (st' := [gp_i p0, gp_r (some 74)]) (s' := s3) 2 rfl ?_
      refine gs_E.call (args := [gp_r (some 74), gp_i p0]) (m := 9) (y' := 3103) (st' := []) rfl H (fun r s5 H => ?_)
      obtain ⟨x6, rfl, H⟩ := H
      show gs_E L (d + 1) 3154 25 [gp_r (some 74), gp_i p0, gp_i p1] [gp_i x6] s5 K
      refine gs_E.br (c := ¬ x6 = 0) (p1 := 34) (p2 := 28) (l1 := [gp_r (some 74), gp_i p0, gp_i p1]) (l2 := [gp_r (some 74), gp_i p0, gp_i p1]) (s1 := []) (s2 := []) rfl gs_b2 (fun hc => ?_) (fun hc => ?_)
      · replace H := H.2 hc
        refine gs_E.stp (pc' := 36) (ls' := [gp_r (some 74), gp_i p0, gp_i p1]) (st' := [gp_i p0, gp_r (some 74)]) (s' := s5) 2 rfl ?_
        refine gs_E.call (args := [gp_r (some 74), gp_i p0]) (m := 7) (y' := 3109) (st' := []) rfl H (fun r s7 H => ?_)
        obtain ⟨rfl, H⟩ := H
        show gs_E L (d + 1) 3154 39 [gp_r (some 74), gp_i p0, gp_i p1] [] s7 K
        refine gs_E.stp (pc' := 41) (ls' := [gp_r (some 74), gp_i p0, gp_i p1]) (st' := [gp_i p1, gp_r (some 74)]) (s' := s7) 2 rfl ?_
        refine gs_E.call (args := [gp_r (some 74), gp_i p1]) (m := 2) (y' := 3123) (st' := []) rfl H (fun r s8 H => ?_)
        obtain ⟨x9, rfl, H⟩ := H
        show gs_E L (d + 1) 3154 44 [gp_r (some 74), gp_i p0, gp_i p1] [gp_i x9] s8 K
        exact gs_E.ret (r := (some (gp_i x9))) rfl H
      · replace H := H.1 (Decidable.byContradiction hc)
        refine gs_E.stp (pc' := 30) (ls' := [gp_r (some 74), gp_i p0, gp_i p1]) (st' := [gp_i 3, gp_r (some 74)]) (s' := s5) 2 rfl ?_
        refine gs_E.call (args := [gp_r (some 74), gp_i 3]) (m := 2) (y' := 3074) (st' := []) rfl H (fun r s10 H => ?_)
        obtain ⟨x11, rfl, H⟩ := H
        show gs_E L (d + 1) 3154 33 [gp_r (some 74), gp_i p0, gp_i p1] [gp_i x11] s10 K
        exact gs_E.ret (r := (some (gp_i x11))) rfl H
    · replace H := H.1 (Decidable.byContradiction hc)
      exact H

set_option maxRecDepth 100000 in
/-- GatheredPointsModel.reduce, pc 14 -/
theorem s_3154_14 {L d : Nat} {K : Option gV → gH → Prop} {s : gH} (v1 : Int) (v2 : Int) (H : gs_C L d 3074 2 [gp_r (some 74), gp_i 1] s (fun r s1 => ∃ x2, r = some (gp_i x2) ∧ K (some (gp_i x2)) s1)) : gs_E L (d + 1) 3154 14 [gp_r (some 74), gp_i v1, gp_i v2] [] s K := by
  refine gs_E.stp (pc' := 16) (ls' := [gp_r (some 74), gp_i v1, gp_i v2]) (st' := [gp_i 1, gp_r (some 74)]) (s' := s) 2 rfl ?_
  refine gs_E.call (args := [gp_r (some 74), gp_i 1]) (m := 2) (y' := 3074) (st' := []) rfl H (fun r s1 H => ?_)
  obtain ⟨x2, rfl, H⟩ := H
  show gs_E L (d + 1) 3154 19 [gp_r (some 74), gp_i v1, gp_i v2] [gp_i x2] s1 K
  exact gs_E.ret (r := (some (gp_i x2))) rfl H

set_option maxRecDepth 100000 in
/-- GatheredPointsModel.isSetOfThree, pc 0 -/
theorem s_3155_e {L d : Nat} {K : Option gV → gH → Prop} {s : gH} (p0 : Int) (H : gs_C L d 3073 6 [gp_l (BitVec.ofInt 64 p0), gp_l (1#64), gp_l (BitVec.ofInt 64 255)] s (fun r s1 => ∃ x2, r = some (gp_i x2) ∧ ((x2 = 0 → gs_E L (d + 1) 3155 25 [gp_i p0] [] s1 K) ∧ (¬ x2 = 0 → gs_C L d 3079 4 [gp_l (BitVec.ofInt 64 p0)] s1 (fun r s3 => ∃ x4, r = some (gp_i x4) ∧ ((3 < x4 → gs_E L (d + 1) 3155 25 [gp_i p0] [] s3 K) ∧ (¬ 3 < x4 → gs_E L (d + 1) 3155 26 [gp_i p0] [gp_i 1] s3 K))))))) : gs_C L (d + 1) 3155 1 [gp_i p0] s K := by
  show gs_E L (d + 1) 3155 0 [gp_i p0] [] s K
  refine gs_E.stp (pc' := 6) (ls' := [gp_i p0]) (st' := [gp_l (BitVec.ofInt 64 255), gp_l (1#64), gp_l (BitVec.ofInt 64 p0)]) (s' := s) 4 rfl ?_
  refine gs_E.call (args := [gp_l (BitVec.ofInt 64 p0), gp_l (1#64), gp_l (BitVec.ofInt 64 255)]) (m := 6) (y' := 3073) (st' := []) rfl H (fun r s1 H => ?_)
  obtain ⟨x2, rfl, H⟩ := H
  show gs_E L (d + 1) 3155 9 [gp_i p0] [gp_i x2] s1 K
  refine gs_E.br (c := x2 = 0) (p1 := 25) (p2 := 12) (l1 := [gp_i p0]) (l2 := [gp_i p0]) (s1 := []) (s2 := []) rfl gs_b1 (fun hc => ?_) (fun hc => ?_)
  · replace H := H.1 hc
    exact H
  · replace H := H.2 hc
    refine gs_E.stp (pc' := 14) (ls' := [gp_i p0]) (st' := [gp_l (BitVec.ofInt 64 p0)]) (s' := s1) 2 rfl ?_
    refine gs_E.call (args := [gp_l (BitVec.ofInt 64 p0)]) (m := 4) (y' := 3079) (st' := []) rfl H (fun r s3 H => ?_)
    obtain ⟨x4, rfl, H⟩ := H
    show gs_E L (d + 1) 3155 17 [gp_i p0] [gp_i x4] s3 K
    refine gs_E.stp (pc' := 18) (ls' := [gp_i p0]) (st' := [gp_i 3, gp_i x4]) (s' := s3) 1 rfl ?_
    refine gs_E.br (c := 3 < x4) (p1 := 25) (p2 := 21) (l1 := [gp_i p0]) (l2 := [gp_i p0]) (s1 := []) (s2 := []) rfl gs_b1 (fun hc => ?_) (fun hc => ?_)
    · replace H := H.1 hc
      exact H
    · replace H := H.2 hc
      refine gs_E.stp (pc' := 26) (ls' := [gp_i p0]) (st' := [gp_i 1]) (s' := s3) 2 rfl ?_
      exact H

set_option maxRecDepth 100000 in
/-- GatheredPointsModel.isSetOfThree, pc 25 -/
theorem s_3155_25 {L d : Nat} {K : Option gV → gH → Prop} {s : gH} (v0 : Int) (H : gs_E L (d + 1) 3155 26 [gp_i v0] [gp_i 0] s K) : gs_E L (d + 1) 3155 25 [gp_i v0] [] s K := by
  refine gs_E.stp (pc' := 26) (ls' := [gp_i v0]) (st' := [gp_i 0]) (s' := s) 1 rfl ?_
  exact H

set_option maxRecDepth 100000 in
/-- GatheredPointsModel.isSetOfThree, pc 26 -/
theorem s_3155_26 {L d : Nat} {K : Option gV → gH → Prop} {s : gH} (v0 : Int) (w0 : Int) (H : ((w0 = 0 ∨ w0 = 1) ∧ K (some (gp_i w0)) s)) : gs_E L (d + 1) 3155 26 [gp_i v0] [gp_i w0] s K := by
  exact gs_E.retz (r := (some (gp_i w0))) rfl H.1 H.2

set_option maxRecDepth 100000 in
/-- GatheredPointsModel.works, pc 0 -/
theorem s_3156_e {L d : Nat} {K : Option gV → gH → Prop} {s : gH}  (H : ((0 ≤ (gp_I s 106 0) ∧ (gp_I s 106 0) < 85) ∧ ((1 < (gp_I s 74 49) → ((0 ≤ (gp_I s 106 1) ∧ (gp_I s 106 1) < 85) ∧ gs_E L (d + 1) 3156 35 [gp_r (some 74), gp_i (gp_I s 81 (gp_I s 106 0).toNat), gp_n, gp_n, gp_n, gp_n, gp_n] [gp_i (gp_I s 81 (gp_I s 106 1).toNat)] s K)) ∧ (¬ 1 < (gp_I s 74 49) → gs_E L (d + 1) 3156 35 [gp_r (some 74), gp_i (gp_I s 81 (gp_I s 106 0).toNat), gp_n, gp_n, gp_n, gp_n, gp_n] [gp_i 1] s K)))) : gs_C L (d + 1) 3156 7 [gp_r (some 74)] s K := by
  show gs_E L (d + 1) 3156 0 [gp_r (some 74), gp_n, gp_n, gp_n, gp_n, gp_n, gp_n] [] s K
  refine gs_E.stp (pc' := 10) (ls' := [gp_r (some 74), gp_n, gp_n, gp_n, gp_n, gp_n, gp_n]) (st' := [gp_i (gp_I s 106 0), gp_r (some 81)]) (s' := s) 6 rfl ?_
  refine gs_E.ck (pc' := 11) (ls' := [gp_r (some 74), gp_n, gp_n, gp_n, gp_n, gp_n, gp_n]) (st' := [gp_i (gp_I s 81 (gp_I s 106 0).toNat)]) (s' := s) rfl (Or.inl ⟨rfl, H.1.1, H.1.2⟩) ?_
  replace H := H.2
  refine gs_E.stp (pc' := 17) (ls' := [gp_r (some 74), gp_i (gp_I s 81 (gp_I s 106 0).toNat), gp_n, gp_n, gp_n, gp_n, gp_n]) (st' := [gp_i 1, gp_i (gp_I s 74 49)]) (s' := s) 4 rfl ?_
  refine gs_E.br (c := ¬ 1 < (gp_I s 74 49)) (p1 := 34) (p2 := 20) (l1 := [gp_r (some 74), gp_i (gp_I s 81 (gp_I s 106 0).toNat), gp_n, gp_n, gp_n, gp_n, gp_n]) (l2 := [gp_r (some 74), gp_i (gp_I s 81 (gp_I s 106 0).toNat), gp_n, gp_n, gp_n, gp_n, gp_n]) (s1 := []) (s2 := []) rfl gs_b2 (fun hc => ?_) (fun hc => ?_)
  · replace H := H.2 hc
    refine gs_E.stp (pc' := 35) (ls' := [gp_r (some 74), gp_i (gp_I s 81 (gp_I s 106 0).toNat), gp_n, gp_n, gp_n, gp_n, gp_n]) (st' := [gp_i 1]) (s' := s) 1 rfl ?_
    exact H
  · replace H := H.1 (Decidable.byContradiction hc)
    refine gs_E.stp (pc' := 30) (ls' := [gp_r (some 74), gp_i (gp_I s 81 (gp_I s 106 0).toNat), gp_n, gp_n, gp_n, gp_n, gp_n]) (st' := [gp_i (gp_I s 106 1), gp_r (some 81)]) (s' := s) 6 rfl ?_
    refine gs_E.ck (pc' := 31) (ls' := [gp_r (some 74), gp_i (gp_I s 81 (gp_I s 106 0).toNat), gp_n, gp_n, gp_n, gp_n, gp_n]) (st' := [gp_i (gp_I s 81 (gp_I s 106 1).toNat)]) (s' := s) rfl (Or.inl ⟨rfl, H.1.1, H.1.2⟩) ?_
    replace H := H.2
    refine gs_E.stp (pc' := 35) (ls' := [gp_r (some 74), gp_i (gp_I s 81 (gp_I s 106 0).toNat), gp_n, gp_n, gp_n, gp_n, gp_n]) (st' := [gp_i (gp_I s 81 (gp_I s 106 1).toNat)]) (s' := s) 1 rfl ?_
    exact H

set_option maxRecDepth 100000 in
/-- GatheredPointsModel.works, pc 35 -/
theorem s_3156_35 {L d : Nat} {K : Option gV → gH → Prop} {s : gH} (v1 : Int) (v2 : gV) (v3 : gV) (v4 : gV) (v5 : gV) (v6 : gV) (w0 : Int) (H : ((2 < (gp_I s 74 49) → ((0 ≤ (gp_I s 106 2) ∧ (gp_I s 106 2) < 85) ∧ gs_E L (d + 1) 3156 59 [gp_r (some 74), gp_i v1, gp_i w0, v3, v4, v5, v6] [gp_i (gp_I s 81 (gp_I s 106 2).toNat)] s K)) ∧ (¬ 2 < (gp_I s 74 49) → gs_E L (d + 1) 3156 59 [gp_r (some 74), gp_i v1, gp_i w0, v3, v4, v5, v6] [gp_i 1] s K))) : gs_E L (d + 1) 3156 35 [gp_r (some 74), gp_i v1, v2, v3, v4, v5, v6] [gp_i w0] s K := by
  refine gs_E.stp (pc' := 41) (ls' := [gp_r (some 74), gp_i v1, gp_i w0, v3, v4, v5, v6]) (st' := [gp_i 2, gp_i (gp_I s 74 49)]) (s' := s) 4 rfl ?_
  refine gs_E.br (c := ¬ 2 < (gp_I s 74 49)) (p1 := 58) (p2 := 44) (l1 := [gp_r (some 74), gp_i v1, gp_i w0, v3, v4, v5, v6]) (l2 := [gp_r (some 74), gp_i v1, gp_i w0, v3, v4, v5, v6]) (s1 := []) (s2 := []) rfl gs_b2 (fun hc => ?_) (fun hc => ?_)
  · replace H := H.2 hc
    refine gs_E.stp (pc' := 59) (ls' := [gp_r (some 74), gp_i v1, gp_i w0, v3, v4, v5, v6]) (st' := [gp_i 1]) (s' := s) 1 rfl ?_
    exact H
  · replace H := H.1 (Decidable.byContradiction hc)
    refine gs_E.stp (pc' := 54) (ls' := [gp_r (some 74), gp_i v1, gp_i w0, v3, v4, v5, v6]) (st' := [gp_i (gp_I s 106 2), gp_r (some 81)]) (s' := s) 6 rfl ?_
    refine gs_E.ck (pc' := 55) (ls' := [gp_r (some 74), gp_i v1, gp_i w0, v3, v4, v5, v6]) (st' := [gp_i (gp_I s 81 (gp_I s 106 2).toNat)]) (s' := s) rfl (Or.inl ⟨rfl, H.1.1, H.1.2⟩) ?_
    replace H := H.2
    refine gs_E.stp (pc' := 59) (ls' := [gp_r (some 74), gp_i v1, gp_i w0, v3, v4, v5, v6]) (st' := [gp_i (gp_I s 81 (gp_I s 106 2).toNat)]) (s' := s) 1 rfl ?_
    exact H

set_option maxRecDepth 100000 in
/-- GatheredPointsModel.works, pc 59 -/
theorem s_3156_59 {L d : Nat} {K : Option gV → gH → Prop} {s : gH} (v1 : Int) (v2 : Int) (v3 : gV) (v4 : gV) (v5 : gV) (v6 : gV) (w0 : Int) (H : gs_E L (d + 1) 3156 63 [gp_r (some 74), gp_i v1, gp_i v2, gp_i w0, gp_i 0, v5, v6] [] s K) : gs_E L (d + 1) 3156 59 [gp_r (some 74), gp_i v1, gp_i v2, v3, v4, v5, v6] [gp_i w0] s K := by
  refine gs_E.stp (pc' := 63) (ls' := [gp_r (some 74), gp_i v1, gp_i v2, gp_i w0, gp_i 0, v5, v6]) (st' := []) (s' := s) 3 rfl ?_
  exact H

set_option maxRecDepth 100000 in
/-- GatheredPointsModel.works, pc 63 -/
theorem s_3156_63 {L d : Nat} {K : Option gV → gH → Prop} {s : gH} (v1 : Int) (v2 : Int) (v3 : Int) (v4 : Int) (v5 : gV) (v6 : gV) (H : ((v4 < v1 → gs_E L (d + 1) 3156 72 [gp_r (some 74), gp_i v1, gp_i v2, gp_i v3, gp_i v4, gp_i 0, v6] [] s K) ∧ (¬ v4 < v1 → K none s))) : gs_E L (d + 1) 3156 63 [gp_r (some 74), gp_i v1, gp_i v2, gp_i v3, gp_i v4, v5, v6] [] s K := by
  refine gs_E.stp (pc' := 66) (ls' := [gp_r (some 74), gp_i v1, gp_i v2, gp_i v3, gp_i v4, v5, v6]) (st' := [gp_i v1, gp_i v4]) (s' := s) 2 rfl ?_
  refine gs_E.br (c := ¬ v4 < v1) (p1 := 115) (p2 := 69) (l1 := [gp_r (some 74), gp_i v1, gp_i v2, gp_i v3, gp_i v4, v5, v6]) (l2 := [gp_r (some 74), gp_i v1, gp_i v2, gp_i v3, gp_i v4, v5, v6]) (s1 := []) (s2 := []) rfl gs_b2 (fun hc => ?_) (fun hc => ?_)
  · replace H := H.2 hc
    exact gs_E.ret (r := none) rfl H
  · replace H := H.1 (Decidable.byContradiction hc)
    refine gs_E.stp (pc' := 72) (ls' := [gp_r (some 74), gp_i v1, gp_i v2, gp_i v3, gp_i v4, gp_i 0, v6]) (st' := []) (s' := s) 2 rfl ?_
    exact H

set_option maxRecDepth 100000 in
/-- GatheredPointsModel.works, pc 72 -/
theorem s_3156_72 {L d : Nat} {K : Option gV → gH → Prop} {s : gH} (v1 : Int) (v2 : Int) (v3 : Int) (v4 : Int) (v5 : Int) (v6 : gV) (H : ((v5 < v2 → gs_E L (d + 1) 3156 81 [gp_r (some 74), gp_i v1, gp_i v2, gp_i v3, gp_i v4, gp_i v5, gp_i 0] [] s K) ∧ (¬ v5 < v2 → gs_E L (d + 1) 3156 63 [gp_r (some 74), gp_i v1, gp_i v2, gp_i v3, gp_i (gp_wr (v4 + 1)), gp_i v5, v6] [] s K))) : gs_E L (d + 1) 3156 72 [gp_r (some 74), gp_i v1, gp_i v2, gp_i v3, gp_i v4, gp_i v5, v6] [] s K := by
  refine gs_E.stp (pc' := 75) (ls' := [gp_r (some 74), gp_i v1, gp_i v2, gp_i v3, gp_i v4, gp_i v5, v6]) (st' := [gp_i v2, gp_i v5]) (s' := s) 2 rfl ?_
  refine gs_E.br (c := ¬ v5 < v2) (p1 := 109) (p2 := 78) (l1 := [gp_r (some 74), gp_i v1, gp_i v2, gp_i v3, gp_i v4, gp_i v5, v6]) (l2 := [gp_r (some 74), gp_i v1, gp_i v2, gp_i v3, gp_i v4, gp_i v5, v6]) (s1 := []) (s2 := []) rfl gs_b2 (fun hc => ?_) (fun hc => ?_)
  · replace H := H.2 hc
    refine gs_E.stp (pc' := 63) (ls' := [gp_r (some 74), gp_i v1, gp_i v2, gp_i v3, gp_i (gp_wr (v4 + 1)), gp_i v5, v6]) (st' := []) (s' := s) 2 rfl ?_
    exact H
  · replace H := H.1 (Decidable.byContradiction hc)
    refine gs_E.stp (pc' := 81) (ls' := [gp_r (some 74), gp_i v1, gp_i v2, gp_i v3, gp_i v4, gp_i v5, gp_i 0]) (st' := []) (s' := s) 2 rfl ?_
    exact H

set_option maxRecDepth 100000 in
/-- GatheredPointsModel.works, pc 81 -/
theorem s_3156_81 {L d : Nat} {K : Option gV → gH → Prop} {s : gH} (v1 : Int) (v2 : Int) (v3 : Int) (v4 : Int) (v5 : Int) (v6 : Int) (H : ((v6 < v3 → gs_C L d 3158 17 [gp_r (some 74), gp_i v4, gp_i v5, gp_i v6] s (fun r s1 => r = none ∧ gs_E L (d + 1) 3156 81 [gp_r (some 74), gp_i v1, gp_i v2, gp_i v3, gp_i v4, gp_i v5, gp_i (gp_wr (v6 + 1))] [] s1 K)) ∧ (¬ v6 < v3 → gs_E L (d + 1) 3156 72 [gp_r (some 74), gp_i v1, gp_i v2, gp_i v3, gp_i v4, gp_i (gp_wr (v5 + 1)), gp_i v6] [] s K))) : gs_E L (d + 1) 3156 81 [gp_r (some 74), gp_i v1, gp_i v2, gp_i v3, gp_i v4, gp_i v5, gp_i v6] [] s K := by
  refine gs_E.stp (pc' := 84) (ls' := [gp_r (some 74), gp_i v1, gp_i v2, gp_i v3, gp_i v4, gp_i v5, gp_i v6]) (st' := [gp_i v3, gp_i v6]) (s' := s) 2 rfl ?_
  refine gs_E.br (c := ¬ v6 < v3) (p1 := 103) (p2 := 87) (l1 := [gp_r (some 74), gp_i v1, gp_i v2, gp_i v3, gp_i v4, gp_i v5, gp_i v6]) (l2 := [gp_r (some 74), gp_i v1, gp_i v2, gp_i v3, gp_i v4, gp_i v5, gp_i v6]) (s1 := []) (s2 := []) rfl gs_b2 (fun hc => ?_) (fun hc => ?_)
  · replace H := H.2 hc
    refine gs_E.stp (pc' := 72) (ls' := [gp_r (some 74), gp_i v1, gp_i v2, gp_i v3, gp_i v4, gp_i (gp_wr (v5 + 1)), gp_i v6]) (st' := []) (s' := s) 2 rfl ?_
    exact H
  · replace H := H.1 (Decidable.byContradiction hc)
    refine gs_E.stp (pc' := 94) (ls' := [gp_r (some 74), gp_i v1, gp_i v2, gp_i v3, gp_i v4, gp_i v5, gp_i v6]) (st' := [gp_i v6, gp_i v5, gp_i v4, gp_r (some 74)]) (s' := s) 4 rfl ?_
    refine gs_E.call (args := [gp_r (some 74), gp_i v4, gp_i v5, gp_i v6]) (m := 17) (y' := 3158) (st' := []) rfl H (fun r s1 H => ?_)
    obtain ⟨rfl, H⟩ := H
    show gs_E L (d + 1) 3156 97 [gp_r (some 74), gp_i v1, gp_i v2, gp_i v3, gp_i v4, gp_i v5, gp_i v6] [] s1 K
    refine gs_E.stp (pc' := 81) (ls' := [gp_r (some 74), gp_i v1, gp_i v2, gp_i v3, gp_i v4, gp_i v5, gp_i (gp_wr (v6 + 1))]) (st' := []) (s' := s1) 2 rfl ?_
    exact H

set_option maxRecDepth 100000 in
/-- GatheredPointsModel.code, pc 0 -/
theorem s_3157_e {L d : Nat} {K : Option gV → gH → Prop} {s : gH} (p0 : Int) (p1 : Int) (p2 : Int) (H : K (some (gp_i (gp_wr ((gp_wr ((gp_wr (4096 * p0)) + (gp_wr (64 * p1)))) + p2)))) s) : gs_C L d 3157 3 [gp_i p0, gp_i p1, gp_i p2] s K := by
  show gs_E L d 3157 0 [gp_i p0, gp_i p1, gp_i p2] [] s K
  refine gs_E.stp (pc' := 12) (ls' := [gp_i p0, gp_i p1, gp_i p2]) (st' := [gp_i (gp_wr ((gp_wr ((gp_wr (4096 * p0)) + (gp_wr (64 * p1)))) + p2))]) (s' := s) 9 rfl ?_
  exact gs_E.ret (r := (some (gp_i (gp_wr ((gp_wr ((gp_wr (4096 * p0)) + (gp_wr (64 * p1)))) + p2))))) rfl H

set_option maxRecDepth 100000 in
/-- GatheredPointsModel.worksAt, pc 0 -/
theorem s_3158_e {L d : Nat} {K : Option gV → gH → Prop} {s : gH} (p0 : Int) (p1 : Int) (p2 : Int) (H : (∀ s1, s1 = gp_wI s 110 0 p0 → (∀ s2, s2 = gp_wI s1 110 1 p1 → (∀ s3, s3 = gp_wI s2 110 2 p2 → gs_C L d 3157 3 [gp_i p0, gp_i p1, gp_i p2] s3 (fun r s4 => ∃ x5, r = some (gp_i x5) ∧ gs_E L (d + 1) 3158 32 [gp_r (some 74), gp_i p0, gp_i p1, gp_i p2, gp_i x5, gp_i 0, gp_n, gp_n, gp_n, gp_n, gp_n, gp_n, gp_n, gp_n, gp_n, gp_n, gp_n] [] s4 K))))) : gs_C L (d + 1) 3158 17 [gp_r (some 74), gp_i p0, gp_i p1, gp_i p2] s K := by
  show gs_E L (d + 1) 3158 0 [gp_r (some 74), gp_i p0, gp_i p1, gp_i p2, gp_n, gp_n, gp_n, gp_n, gp_n, gp_n, gp_n, gp_n, gp_n, gp_n, gp_n, gp_n, gp_n] [] s K
  refine gs_E.stp (pc' := 7) (ls' := [gp_r (some 74), gp_i p0, gp_i p1, gp_i p2, gp_n, gp_n, gp_n, gp_n, gp_n, gp_n, gp_n, gp_n, gp_n, gp_n, gp_n, gp_n, gp_n]) (st' := []) (s' := gp_wI s 110 0 p0) 5 rfl ?_
  replace H := H _ rfl
  generalize gp_wI s 110 0 p0 = s1 at H ⊢
  refine gs_E.stp (pc' := 14) (ls' := [gp_r (some 74), gp_i p0, gp_i p1, gp_i p2, gp_n, gp_n, gp_n, gp_n, gp_n, gp_n, gp_n, gp_n, gp_n, gp_n, gp_n, gp_n, gp_n]) (st' := []) (s' := gp_wI s1 110 1 p1) 5 rfl ?_
  replace H := H _ rfl
  generalize gp_wI s1 110 1 p1 = s2 at H ⊢
  refine gs_E.stp (pc' := 21) (ls' := [gp_r (some 74), gp_i p0, gp_i p1, gp_i p2, gp_n, gp_n, gp_n, gp_n, gp_n, gp_n, gp_n, gp_n, gp_n, gp_n, gp_n, gp_n, gp_n]) (st' := []) (s' := gp_wI s2 110 2 p2) 5 rfl ?_
  replace H := H _ rfl
  generalize gp_wI s2 110 2 p2 = s3 at H ⊢
  refine gs_E.stp (pc' := 24) (ls' := [gp_r (some 74), gp_i p0, gp_i p1, gp_i p2, gp_n, gp_n, gp_n, gp_n, gp_n, gp_n, gp_n, gp_n, gp_n, gp_n, gp_n, gp_n, gp_n]) (st' := [gp_i p2, gp_i p1, gp_i p0]) (s' := s3) 3 rfl ?_
  refine gs_E.call (args := [gp_i p0, gp_i p1, gp_i p2]) (m := 3) (y' := 3157) (st' := []) rfl H (fun r s4 H => ?_)
  obtain ⟨x5, rfl, H⟩ := H
  show gs_E L (d + 1) 3158 27 [gp_r (some 74), gp_i p0, gp_i p1, gp_i p2, gp_n, gp_n, gp_n, gp_n, gp_n, gp_n, gp_n, gp_n, gp_n, gp_n, gp_n, gp_n, gp_n] [gp_i x5] s4 K
  refine gs_E.stp (pc' := 32) (ls' := [gp_r (some 74), gp_i p0, gp_i p1, gp_i p2, gp_i x5, gp_i 0, gp_n, gp_n, gp_n, gp_n, gp_n, gp_n, gp_n, gp_n, gp_n, gp_n, gp_n]) (st' := []) (s' := s4) 3 rfl ?_
  exact H

set_option maxRecDepth 100000 in
/-- GatheredPointsModel.worksAt, pc 32 -/
theorem s_3158_32 {L d : Nat} {K : Option gV → gH → Prop} {s : gH} (v1 : Int) (v2 : Int) (v3 : Int) (v4 : Int) (v5 : Int) (v6 : gV) (v7 : gV) (v8 : gV) (v9 : gV) (v10 : gV) (v11 : gV) (v12 : gV) (v13 : gV) (v14 : gV) (v15 : gV) (v16 : gV) (H : ((v5 < 2 → gs_E L (d + 1) 3158 50 [gp_r (some 74), gp_i v1, gp_i v2, gp_i v3, gp_i v4, gp_i v5, gp_i 0, gp_i 0, gp_i 0, gp_i 0, v10, v11, v12, v13, v14, v15, v16] [] s K) ∧ (¬ v5 < 2 → K none s))) : gs_E L (d + 1) 3158 32 [gp_r (some 74), gp_i v1, gp_i v2, gp_i v3, gp_i v4, gp_i v5, v6, v7, v8, v9, v10, v11, v12, v13, v14, v15, v16] [] s K := by
  refine gs_E.stp (pc' := 35) (ls' := [gp_r (some 74), gp_i v1, gp_i v2, gp_i v3, gp_i v4, gp_i v5, v6, v7, v8, v9, v10, v11, v12, v13, v14, v15, v16]) (st' := [gp_i 2, gp_i v5]) (s' := s) 2 rfl ?_
  refine gs_E.br (c := ¬ v5 < 2) (p1 := 307) (p2 := 38) (l1 := [gp_r (some 74), gp_i v1, gp_i v2, gp_i v3, gp_i v4, gp_i v5, v6, v7, v8, v9, v10, v11, v12, v13, v14, v15, v16]) (l2 := [gp_r (some 74), gp_i v1, gp_i v2, gp_i v3, gp_i v4, gp_i v5, v6, v7, v8, v9, v10, v11, v12, v13, v14, v15, v16]) (s1 := []) (s2 := []) rfl gs_b2 (fun hc => ?_) (fun hc => ?_)
  · replace H := H.2 hc
    exact gs_E.ret (r := none) rfl H
  · replace H := H.1 (Decidable.byContradiction hc)
    refine gs_E.stp (pc' := 50) (ls' := [gp_r (some 74), gp_i v1, gp_i v2, gp_i v3, gp_i v4, gp_i v5, gp_i 0, gp_i 0, gp_i 0, gp_i 0, v10, v11, v12, v13, v14, v15, v16]) (st' := []) (s' := s) 8 rfl ?_
    exact H

set_option maxRecDepth 100000 in
/-- GatheredPointsModel.worksAt, pc 50 -/
theorem s_3158_50 {L d : Nat} {K : Option gV → gH → Prop} {s : gH} (v1 : Int) (v2 : Int) (v3 : Int) (v4 : Int) (v5 : Int) (v6 : Int) (v7 : Int) (v8 : Int) (v9 : Int) (v10 : gV) (v11 : gV) (v12 : gV) (v13 : gV) (v14 : gV) (v15 : gV) (v16 : gV) (H : ((v9 < (gp_I s 74 49) → ((0 ≤ v9 ∧ v9 < 3) ∧ ((0 ≤ v9 ∧ v9 < 3) ∧ gs_C L d 3082 4 [gp_r (some 74), gp_i (gp_I s 106 v9.toNat), gp_i (gp_I s 110 v9.toNat), gp_i v5] s (fun r s1 => ∃ m2, r = some (gp_l m2) ∧ (((gp_cmp m2 (0#64)) = 0 → ((0 ≤ v9 ∧ v9 < 3) ∧ ((0 ≤ v9 ∧ v9 < 3) ∧ gs_C L d 3083 4 [gp_r (some 74), gp_i (gp_I s1 106 v9.toNat), gp_i (gp_I s1 110 v9.toNat), gp_i v5] s1 (fun r s3 => ∃ x4, r = some (gp_i x4) ∧ gs_E L (d + 1) 3158 114 [gp_r (some 74), gp_i v1, gp_i v2, gp_i v3, gp_i v4, gp_i v5, gp_i v6, gp_i v7, gp_i v8, gp_i v9, gp_l m2, gp_n, v12, v13, v14, v15, v16] [gp_i x4, gp_i v6] s3 K)))) ∧ (¬ (gp_cmp m2 (0#64)) = 0 → gs_E L (d + 1) 3158 114 [gp_r (some 74), gp_i v1, gp_i v2, gp_i v3, gp_i v4, gp_i v5, gp_i v6, gp_i v7, gp_i v8, gp_i v9, gp_l m2, gp_n, v12, v13, v14, v15, v16] [gp_i 0, gp_i v6] s1 K)))))) ∧ (¬ v9 < (gp_I s 74 49) → ((v5 = 0 → ((v8 = 0 → gs_E L (d + 1) 3158 278 [gp_r (some 74), gp_i v1, gp_i v2, gp_i v3, gp_i v4, gp_i v5, gp_i v6, gp_i v7, gp_i v8, gp_i v9, v10, v11, v12, v13, v14, v15, v16] [gp_i v6, gp_i v4, gp_r (some 108)] s K) ∧ (¬ v8 = 0 → gs_E L (d + 1) 3158 278 [gp_r (some 74), gp_i v1, gp_i v2, gp_i v3, gp_i v4, gp_i v5, gp_i v6, gp_i v7, gp_i v8, gp_i v9, v10, v11, v12, v13, v14, v15, v16] [gp_i v7, gp_i v4, gp_r (some 108)] s K))) ∧ (¬ v5 = 0 → ((v8 = 0 → gs_E L (d + 1) 3158 300 [gp_r (some 74), gp_i v1, gp_i v2, gp_i v3, gp_i v4, gp_i v5, gp_i v6, gp_i v7, gp_i v8, gp_i v9, v10, v11, v12, v13, v14, v15, v16] [gp_i v6, gp_i v4, gp_r (some 109)] s K) ∧ (¬ v8 = 0 → gs_E L (d + 1) 3158 300 [gp_r (some 74), gp_i v1, gp_i v2, gp_i v3, gp_i v4, gp_i v5, gp_i v6, gp_i v7, gp_i v8, gp_i v9, v10, v11, v12, v13, v14, v15, v16] [gp_i v7, gp_i v4, gp_r (some 109)] s K))))))) : gs_E L (d + 1) 3158 50 [gp_r (some 74), gp_i v1, gp_i v2, gp_i v3, gp_i v4, gp_i v5, gp_i v6, gp_i v7, gp_i v8, gp_i v9, v10, v11, v12, v13, v14, v15, v16] [] s K := by
  refine gs_E.stp (pc' := 56) (ls' := [gp_r (some 74), gp_i v1, gp_i v2, gp_i v3, gp_i v4, gp_i v5, gp_i v6, gp_i v7, gp_i v8, gp_i v9, v10, v11, v12, v13, v14, v15, v16]) (st' := [gp_i (gp_I s 74 49), gp_i v9]) (s' := s) 3 rfl ?_
  refine gs_E.br (c := ¬ v9 < (gp_I s 74 49)) (p1 := 255) (p2 := 59) (l1 := [gp_r (some 74), gp_i v1, gp_i v2, gp_i v3, gp_i v4, gp_i v5, gp_i v6, gp_i v7, gp_i v8, gp_i v9, v10, v11, v12, v13, v14, v15, v16]) (l2 := [gp_r (some 74), gp_i v1, gp_i v2, gp_i v3, gp_i v4, gp_i v5, gp_i v6, gp_i v7, gp_i v8, gp_i v9, v10, v11, v12, v13, v14, v15, v16]) (s1 := []) (s2 := []) rfl gs_b2 (fun hc => ?_) (fun hc => ?_)
  · replace H := H.2 hc
    refine gs_E.stp (pc' := 257) (ls' := [gp_r (some 74), gp_i v1, gp_i v2, gp_i v3, gp_i v4, gp_i v5, gp_i v6, gp_i v7, gp_i v8, gp_i v9, v10, v11, v12, v13, v14, v15, v16]) (st' := [gp_i v5]) (s' := s) 1 rfl ?_
    refine gs_E.br (c := ¬ v5 = 0) (p1 := 282) (p2 := 260) (l1 := [gp_r (some 74), gp_i v1, gp_i v2, gp_i v3, gp_i v4, gp_i v5, gp_i v6, gp_i v7, gp_i v8, gp_i v9, v10, v11, v12, v13, v14, v15, v16]) (l2 := [gp_r (some 74), gp_i v1, gp_i v2, gp_i v3, gp_i v4, gp_i v5, gp_i v6, gp_i v7, gp_i v8, gp_i v9, v10, v11, v12, v13, v14, v15, v16]) (s1 := []) (s2 := []) rfl gs_b2 (fun hc => ?_) (fun hc => ?_)
    · replace H := H.2 hc
      refine gs_E.stp (pc' := 290) (ls' := [gp_r (some 74), gp_i v1, gp_i v2, gp_i v3, gp_i v4, gp_i v5, gp_i v6, gp_i v7, gp_i v8, gp_i v9, v10, v11, v12, v13, v14, v15, v16]) (st' := [gp_i v8, gp_i v4, gp_r (some 109)]) (s' := s) 4 rfl ?_
      refine gs_E.br (c := v8 = 0) (p1 := 298) (p2 := 293) (l1 := [gp_r (some 74), gp_i v1, gp_i v2, gp_i v3, gp_i v4, gp_i v5, gp_i v6, gp_i v7, gp_i v8, gp_i v9, v10, v11, v12, v13, v14, v15, v16]) (l2 := [gp_r (some 74), gp_i v1, gp_i v2, gp_i v3, gp_i v4, gp_i v5, gp_i v6, gp_i v7, gp_i v8, gp_i v9, v10, v11, v12, v13, v14, v15, v16]) (s1 := [gp_i v4, gp_r (some 109)]) (s2 := [gp_i v4, gp_r (some 109)]) rfl gs_b1 (fun hc => ?_) (fun hc => ?_)
      · replace H := H.1 hc
        refine gs_E.stp (pc' := 300) (ls' := [gp_r (some 74), gp_i v1, gp_i v2, gp_i v3, gp_i v4, gp_i v5, gp_i v6, gp_i v7, gp_i v8, gp_i v9, v10, v11, v12, v13, v14, v15, v16]) (st' := [gp_i v6, gp_i v4, gp_r (some 109)]) (s' := s) 1 rfl ?_
        exact H
      · replace H := H.2 hc
        refine gs_E.stp (pc' := 300) (ls' := [gp_r (some 74), gp_i v1, gp_i v2, gp_i v3, gp_i v4, gp_i v5, gp_i v6, gp_i v7, gp_i v8, gp_i v9, v10, v11, v12, v13, v14, v15, v16]) (st' := [gp_i v7, gp_i v4, gp_r (some 109)]) (s' := s) 2 rfl ?_
        exact H
    · replace H := H.1 (Decidable.byContradiction hc)
      refine gs_E.stp (pc' := 268) (ls' := [gp_r (some 74), gp_i v1, gp_i v2, gp_i v3, gp_i v4, gp_i v5, gp_i v6, gp_i v7, gp_i v8, gp_i v9, v10, v11, v12, v13, v14, v15, v16]) (st' := [gp_i v8, gp_i v4, gp_r (some 108)]) (s' := s) 4 rfl ?_
      refine gs_E.br (c := v8 = 0) (p1 := 276) (p2 := 271) (l1 := [gp_r (some 74), gp_i v1, gp_i v2, gp_i v3, gp_i v4, gp_i v5, gp_i v6, gp_i v7, gp_i v8, gp_i v9, v10, v11, v12, v13, v14, v15, v16]) (l2 := [gp_r (some 74), gp_i v1, gp_i v2, gp_i v3, gp_i v4, gp_i v5, gp_i v6, gp_i v7, gp_i v8, gp_i v9, v10, v11, v12, v13, v14, v15, v16]) (s1 := [gp_i v4, gp_r (some 108)]) (s2 := [gp_i v4, gp_r (some 108)]) rfl gs_b1 (fun hc => ?_) (fun hc => ?_)
      · replace H := H.1 hc
        refine gs_E.stp (pc' := 278) (ls' := [gp_r (some 74), gp_i v1, gp_i v2, gp_i v3, gp_i v4, gp_i v5, gp_i v6, gp_i v7, gp_i v8, gp_i v9, v10, v11, v12, v13, v14, v15, v16]) (st' := [gp_i v6, gp_i v4, gp_r (some 108)]) (s' := s) 1 rfl ?_
        exact H
      · replace H := H.2 hc
        refine gs_E.stp (pc' := 278) (ls' := [gp_r (some 74), gp_i v1, gp_i v2, gp_i v3, gp_i v4, gp_i v5, gp_i v6, gp_i v7, gp_i v8, gp_i v9, v10, v11, v12, v13, v14, v15, v16]) (st' := [gp_i v7, gp_i v4, gp_r (some 108)]) (s' := s) 2 rfl ?_
        exact H
  · replace H := H.1 (Decidable.byContradiction hc)
    refine gs_E.stp (pc' := 66) (ls' := [gp_r (some 74), gp_i v1, gp_i v2, gp_i v3, gp_i v4, gp_i v5, gp_i v6, gp_i v7, gp_i v8, gp_i v9, v10, v11, v12, v13, v14, v15, v16]) (st' := [gp_i v9, gp_r (some 106), gp_r (some 74)]) (s' := s) 4 rfl ?_
    refine gs_E.ck (pc' := 67) (ls' := [gp_r (some 74), gp_i v1, gp_i v2, gp_i v3, gp_i v4, gp_i v5, gp_i v6, gp_i v7, gp_i v8, gp_i v9, v10, v11, v12, v13, v14, v15, v16]) (st' := [gp_i (gp_I s 106 v9.toNat), gp_r (some 74)]) (s' := s) rfl (Or.inl ⟨rfl, H.1.1, H.1.2⟩) ?_
    replace H := H.2
    refine gs_E.stp (pc' := 73) (ls' := [gp_r (some 74), gp_i v1, gp_i v2, gp_i v3, gp_i v4, gp_i v5, gp_i v6, gp_i v7, gp_i v8, gp_i v9, v10, v11, v12, v13, v14, v15, v16]) (st' := [gp_i v9, gp_r (some 110), gp_i (gp_I s 106 v9.toNat), gp_r (some 74)]) (s' := s) 3 rfl ?_
    refine gs_E.ck (pc' := 74) (ls' := [gp_r (some 74), gp_i v1, gp_i v2, gp_i v3, gp_i v4, gp_i v5, gp_i v6, gp_i v7, gp_i v8, gp_i v9, v10, v11, v12, v13, v14, v15, v16]) (st' := [gp_i (gp_I s 110 v9.toNat), gp_i (gp_I s 106 v9.toNat), gp_r (some 74)]) (s' := s) rfl (Or.inl ⟨rfl, H.1.1, H.1.2⟩) ?_
    replace H := H.2
    refine gs_E.stp (pc' := 76) (ls' := [gp_r (some 74), gp_i v1, gp_i v2, gp_i v3, gp_i v4, gp_i v5, gp_i v6, gp_i v7, gp_i v8, gp_i v9, v10, v11, v12, v13, v14, v15, v16]) (st' := [gp_i v5, gp_i (gp_I s 110 v9.toNat), gp_i (gp_I s 106 v9.toNat), gp_r (some 74)]) (s' := s) 1 rfl ?_
    refine gs_E.call (args := [gp_r (some 74), gp_i (gp_I s 106 v9.toNat), gp_i (gp_I s 110 v9.toNat), gp_i v5]) (m := 4) (y' := 3082) (st' := []) rfl H (fun r s1 H => ?_)
    obtain ⟨m2, rfl, H⟩ := H
    show gs_E L (d + 1) 3158 79 [gp_r (some 74), gp_i v1, gp_i v2, gp_i v3, gp_i v4, gp_i v5, gp_i v6, gp_i v7, gp_i v8, gp_i v9, v10, v11, v12, v13, v14, v15, v16] [gp_l m2] s1 K
    refine gs_E.stp (pc' := 87) (ls' := [gp_r (some 74), gp_i v1, gp_i v2, gp_i v3, gp_i v4, gp_i v5, gp_i v6, gp_i v7, gp_i v8, gp_i v9, gp_l m2, gp_n, v12, v13, v14, v15, v16]) (st' := [gp_i (gp_cmp m2 (0#64)), gp_i v6]) (s' := s1) 5 rfl ?_
    refine gs_E.br (c := ¬ (gp_cmp m2 (0#64)) = 0) (p1 := 113) (p2 := 90) (l1 := [gp_r (some 74), gp_i v1, gp_i v2, gp_i v3, gp_i v4, gp_i v5, gp_i v6, gp_i v7, gp_i v8, gp_i v9, gp_l m2, gp_n, v12, v13, v14, v15, v16]) (l2 := [gp_r (some 74), gp_i v1, gp_i v2, gp_i v3, gp_i v4, gp_i v5, gp_i v6, gp_i v7, gp_i v8, gp_i v9, gp_l m2, gp_n, v12, v13, v14, v15, v16]) (s1 := [gp_i v6]) (s2 := [gp_i v6]) rfl gs_b2 (fun hc => ?_) (fun hc => ?_)
    · replace H := H.2 hc
      refine gs_E.stp (pc' := 114) (ls' := [gp_r (some 74), gp_i v1, gp_i v2, gp_i v3, gp_i v4, gp_i v5, gp_i v6, gp_i v7, gp_i v8, gp_i v9, gp_l m2, gp_n, v12, v13, v14, v15, v16]) (st' := [gp_i 0, gp_i v6]) (s' := s1) 1 rfl ?_
      exact H
    · replace H := H.1 (Decidable.byContradiction hc)
      refine gs_E.stp (pc' := 97) (ls' := [gp_r (some 74), gp_i v1, gp_i v2, gp_i v3, gp_i v4, gp_i v5, gp_i v6, gp_i v7, gp_i v8, gp_i v9, gp_l m2, gp_n, v12, v13, v14, v15, v16]) (st' := [gp_i v9, gp_r (some 106), gp_r (some 74), gp_i v6]) (s' := s1) 4 rfl ?_
      refine gs_E.ck (pc' := 98) (ls' := [gp_r (some 74), gp_i v1, gp_i v2, gp_i v3, gp_i v4, gp_i v5, gp_i v6, gp_i v7, gp_i v8, gp_i v9, gp_l m2, gp_n, v12, v13, v14, v15, v16]) (st' := [gp_i (gp_I s1 106 v9.toNat), gp_r (some 74), gp_i v6]) (s' := s1) rfl (Or.inl ⟨rfl, H.1.1, H.1.2⟩) ?_
      replace H := H.2
      refine gs_E.stp (pc' := 104) (ls' := [gp_r (some 74), gp_i v1, gp_i v2, gp_i v3, gp_i v4, gp_i v5, gp_i v6, gp_i v7, gp_i v8, gp_i v9, gp_l m2, gp_n, v12, v13, v14, v15, v16]) (st' := [gp_i v9, gp_r (some 110), gp_i (gp_I s1 106 v9.toNat), gp_r (some 74), gp_i v6]) (s' := s1) 3 rfl ?_
      refine gs_E.ck (pc' := 105) (ls' := [gp_r (some 74), gp_i v1, gp_i v2, gp_i v3, gp_i v4, gp_i v5, gp_i v6, gp_i v7, gp_i v8, gp_i v9, gp_l m2, gp_n, v12, v13, v14, v15, v16]) (st' := [gp_i (gp_I s1 110 v9.toNat), gp_i (gp_I s1 106 v9.toNat), gp_r (some 74), gp_i v6]) (s' := s1) rfl (Or.inl ⟨rfl, H.1.1, H.1.2⟩) ?_
      replace H := H.2
      refine gs_E.stp (pc' := 107) (ls' := [gp_r (some 74), gp_i v1, gp_i v2, gp_i v3, gp_i v4, gp_i v5, gp_i v6, gp_i v7, gp_i v8, gp_i v9, gp_l m2, gp_n, v12, v13, v14, v15, v16]) (st' := [gp_i v5, gp_i (gp_I s1 110 v9.toNat), gp_i (gp_I s1 106 v9.toNat), gp_r (some 74), gp_i v6]) (s' := s1) 1 rfl ?_
      refine gs_E.call (args := [gp_r (some 74), gp_i (gp_I s1 106 v9.toNat), gp_i (gp_I s1 110 v9.toNat), gp_i v5]) (m := 4) (y' := 3083) (st' := [gp_i v6]) rfl H (fun r s3 H => ?_)
      obtain ⟨x4, rfl, H⟩ := H
      show gs_E L (d + 1) 3158 110 [gp_r (some 74), gp_i v1, gp_i v2, gp_i v3, gp_i v4, gp_i v5, gp_i v6, gp_i v7, gp_i v8, gp_i v9, gp_l m2, gp_n, v12, v13, v14, v15, v16] [gp_i x4, gp_i v6] s3 K
      refine gs_E.stp (pc' := 114) (ls' := [gp_r (some 74), gp_i v1, gp_i v2, gp_i v3, gp_i v4, gp_i v5, gp_i v6, gp_i v7, gp_i v8, gp_i v9, gp_l m2, gp_n, v12, v13, v14, v15, v16]) (st' := [gp_i x4, gp_i v6]) (s' := s3) 1 rfl ?_
      exact H

set_option maxRecDepth 100000 in
/-- GatheredPointsModel.worksAt, pc 114 -/
theorem s_3158_114 {L d : Nat} {K : Option gV → gH → Prop} {s : gH} (v1 : Int) (v2 : Int) (v3 : Int) (v4 : Int) (v5 : Int) (v6 : Int) (v7 : Int) (v8 : Int) (v9 : Int) (v10 : BitVec 64) (v12 : gV) (v13 : gV) (v14 : gV) (v15 : gV) (v16 : gV) (w0 : Int) (w1 : Int) (H : ((v9 = 0 → gs_E L (d + 1) 3158 140 [gp_r (some 74), gp_i v1, gp_i v2, gp_i v3, gp_i v4, gp_i v5, gp_i (gp_wr (w0 + w1)), gp_i v7, gp_i v8, gp_i v9, gp_l v10, gp_n, v12, v13, v14, v15, v16] [gp_i 4096] s K) ∧ (¬ v9 = 0 → ((v9 = 1 → gs_E L (d + 1) 3158 140 [gp_r (some 74), gp_i v1, gp_i v2, gp_i v3, gp_i v4, gp_i v5, gp_i (gp_wr (w0 + w1)), gp_i v7, gp_i v8, gp_i v9, gp_l v10, gp_n, v12, v13, v14, v15, v16] [gp_i 64] s K) ∧ (¬ v9 = 1 → gs_E L (d + 1) 3158 140 [gp_r (some 74), gp_i v1, gp_i v2, gp_i v3, gp_i v4, gp_i v5, gp_i (gp_wr (w0 + w1)), gp_i v7, gp_i v8, gp_i v9, gp_l v10, gp_n, v12, v13, v14, v15, v16] [gp_i 1] s K))))) : gs_E L (d + 1) 3158 114 [gp_r (some 74), gp_i v1, gp_i v2, gp_i v3, gp_i v4, gp_i v5, gp_i v6, gp_i v7, gp_i v8, gp_i v9, gp_l v10, gp_n, v12, v13, v14, v15, v16] [gp_i w1, gp_i w0] s K := by
  refine gs_E.stp (pc' := 119) (ls' := [gp_r (some 74), gp_i v1, gp_i v2, gp_i v3, gp_i v4, gp_i v5, gp_i (gp_wr (w0 + w1)), gp_i v7, gp_i v8, gp_i v9, gp_l v10, gp_n, v12, v13, v14, v15, v16]) (st' := [gp_i v9]) (s' := s) 3 rfl ?_
  refine gs_E.br (c := ¬ v9 = 0) (p1 := 128) (p2 := 122) (l1 := [gp_r (some 74), gp_i v1, gp_i v2, gp_i v3, gp_i v4, gp_i v5, gp_i (gp_wr (w0 + w1)), gp_i v7, gp_i v8, gp_i v9, gp_l v10, gp_n, v12, v13, v14, v15, v16]) (l2 := [gp_r (some 74), gp_i v1, gp_i v2, gp_i v3, gp_i v4, gp_i v5, gp_i (gp_wr (w0 + w1)), gp_i v7, gp_i v8, gp_i v9, gp_l v10, gp_n, v12, v13, v14, v15, v16]) (s1 := []) (s2 := []) rfl gs_b2 (fun hc => ?_) (fun hc => ?_)
  · replace H := H.2 hc
    refine gs_E.stp (pc' := 131) (ls' := [gp_r (some 74), gp_i v1, gp_i v2, gp_i v3, gp_i v4, gp_i v5, gp_i (gp_wr (w0 + w1)), gp_i v7, gp_i v8, gp_i v9, gp_l v10, gp_n, v12, v13, v14, v15, v16]) (st' := [gp_i 1, gp_i v9]) (s' := s) 2 rfl ?_
    refine gs_E.br (c := ¬ v9 = 1) (p1 := 139) (p2 := 134) (l1 := [gp_r (some 74), gp_i v1, gp_i v2, gp_i v3, gp_i v4, gp_i v5, gp_i (gp_wr (w0 + w1)), gp_i v7, gp_i v8, gp_i v9, gp_l v10, gp_n, v12, v13, v14, v15, v16]) (l2 := [gp_r (some 74), gp_i v1, gp_i v2, gp_i v3, gp_i v4, gp_i v5, gp_i (gp_wr (w0 + w1)), gp_i v7, gp_i v8, gp_i v9, gp_l v10, gp_n, v12, v13, v14, v15, v16]) (s1 := []) (s2 := []) rfl gs_b2 (fun hc => ?_) (fun hc => ?_)
    · replace H := H.2 hc
      refine gs_E.stp (pc' := 140) (ls' := [gp_r (some 74), gp_i v1, gp_i v2, gp_i v3, gp_i v4, gp_i v5, gp_i (gp_wr (w0 + w1)), gp_i v7, gp_i v8, gp_i v9, gp_l v10, gp_n, v12, v13, v14, v15, v16]) (st' := [gp_i 1]) (s' := s) 1 rfl ?_
      exact H
    · replace H := H.1 (Decidable.byContradiction hc)
      refine gs_E.stp (pc' := 140) (ls' := [gp_r (some 74), gp_i v1, gp_i v2, gp_i v3, gp_i v4, gp_i v5, gp_i (gp_wr (w0 + w1)), gp_i v7, gp_i v8, gp_i v9, gp_l v10, gp_n, v12, v13, v14, v15, v16]) (st' := [gp_i 64]) (s' := s) 2 rfl ?_
      exact H
  · replace H := H.1 (Decidable.byContradiction hc)
    refine gs_E.stp (pc' := 140) (ls' := [gp_r (some 74), gp_i v1, gp_i v2, gp_i v3, gp_i v4, gp_i v5, gp_i (gp_wr (w0 + w1)), gp_i v7, gp_i v8, gp_i v9, gp_l v10, gp_n, v12, v13, v14, v15, v16]) (st' := [gp_i 4096]) (s' := s) 2 rfl ?_
    exact H

set_option maxRecDepth 100000 in
/-- GatheredPointsModel.worksAt, pc 140 -/
theorem s_3158_140 {L d : Nat} {K : Option gV → gH → Prop} {s : gH} (v1 : Int) (v2 : Int) (v3 : Int) (v4 : Int) (v5 : Int) (v6 : Int) (v7 : Int) (v8 : Int) (v9 : Int) (v10 : BitVec 64) (v12 : gV) (v13 : gV) (v14 : gV) (v15 : gV) (v16 : gV) (w0 : Int) (H : gs_E L (d + 1) 3158 146 [gp_r (some 74), gp_i v1, gp_i v2, gp_i v3, gp_i v4, gp_i v5, gp_i v6, gp_i v7, gp_i v8, gp_i v9, gp_l v10, gp_n, gp_i w0, gp_l v10, gp_n, v15, v16] [] s K) : gs_E L (d + 1) 3158 140 [gp_r (some 74), gp_i v1, gp_i v2, gp_i v3, gp_i v4, gp_i v5, gp_i v6, gp_i v7, gp_i v8, gp_i v9, gp_l v10, gp_n, v12, v13, v14, v15, v16] [gp_i w0] s K := by
  refine gs_E.stp (pc' := 146) (ls' := [gp_r (some 74), gp_i v1, gp_i v2, gp_i v3, gp_i v4, gp_i v5, gp_i v6, gp_i v7, gp_i v8, gp_i v9, gp_l v10, gp_n, gp_i w0, gp_l v10, gp_n, v15, v16]) (st' := []) (s' := s) 3 rfl ?_
  exact H

set_option maxRecDepth 100000 in
/-- GatheredPointsModel.worksAt, pc 146 -/
theorem s_3158_146 {L d : Nat} {K : Option gV → gH → Prop} {s : gH} (v1 : Int) (v2 : Int) (v3 : Int) (v4 : Int) (v5 : Int) (v6 : Int) (v7 : Int) (v8 : Int) (v9 : Int) (v10 : BitVec 64) (v12 : Int) (v13 : BitVec 64) (v15 : gV) (v16 : gV) (H : (((gp_cmp v13 (0#64)) = 0 → gs_E L (d + 1) 3158 50 [gp_r (some 74), gp_i v1, gp_i v2, gp_i v3, gp_i v4, gp_i v5, gp_i v6, gp_i v7, gp_i v8, gp_i (gp_wr (v9 + 1)), gp_l v10, gp_n, gp_i v12, gp_l v13, gp_n, v15, v16] [] s K) ∧ (¬ (gp_cmp v13 (0#64)) = 0 → gs_C L d 3584 3 [gp_l v13] s (fun r s1 => ∃ x2, r = some (gp_i x2) ∧ ((0 ≤ v9 ∧ v9 < 3) ∧ ((v5 = 0 → ((0 ≤ (gp_wr (v4 + (gp_wr ((gp_wr (x2 - (gp_I s1 110 v9.toNat))) * v12)))) ∧ (gp_wr (v4 + (gp_wr ((gp_wr (x2 - (gp_I s1 110 v9.toNat))) * v12)))) < 262144) ∧ gs_E L (d + 1) 3158 196 [gp_r (some 74), gp_i v1, gp_i v2, gp_i v3, gp_i v4, gp_i v5, gp_i v6, gp_i v7, gp_i v8, gp_i v9, gp_l v10, gp_n, gp_i v12, gp_l v13, gp_n, gp_i (gp_wr (v4 + (gp_wr ((gp_wr (x2 - (gp_I s1 110 v9.toNat))) * v12)))), v16] [gp_i (gp_I s1 109 (gp_wr (v4 + (gp_wr ((gp_wr (x2 - (gp_I s1 110 v9.toNat))) * v12)))).toNat)] s1 K)) ∧ (¬ v5 = 0 → ((0 ≤ (gp_wr (v4 + (gp_wr ((gp_wr (x2 - (gp_I s1 110 v9.toNat))) * v12)))) ∧ (gp_wr (v4 + (gp_wr ((gp_wr (x2 - (gp_I s1 110 v9.toNat))) * v12)))) < 262144) ∧ gs_E L (d + 1) 3158 196 [gp_r (some 74), gp_i v1, gp_i v2, gp_i v3, gp_i v4, gp_i v5, gp_i v6, gp_i v7, gp_i v8, gp_i v9, gp_l v10, gp_n, gp_i v12, gp_l v13, gp_n, gp_i (gp_wr (v4 + (gp_wr ((gp_wr (x2 - (gp_I s1 110 v9.toNat))) * v12)))), v16] [gp_i (gp_I s1 108 (gp_wr (v4 + (gp_wr ((gp_wr (x2 - (gp_I s1 110 v9.toNat))) * v12)))).toNat)] s1 K)))))))) : gs_E L (d + 1) 3158 146 [gp_r (some 74), gp_i v1, gp_i v2, gp_i v3, gp_i v4, gp_i v5, gp_i v6, gp_i v7, gp_i v8, gp_i v9, gp_l v10, gp_n, gp_i v12, gp_l v13, gp_n, v15, v16] [] s K := by
  refine gs_E.stp (pc' := 150) (ls' := [gp_r (some 74), gp_i v1, gp_i v2, gp_i v3, gp_i v4, gp_i v5, gp_i v6, gp_i v7, gp_i v8, gp_i v9, gp_l v10, gp_n, gp_i v12, gp_l v13, gp_n, v15, v16]) (st' := [gp_i (gp_cmp v13 (0#64))]) (s' := s) 3 rfl ?_
  refine gs_E.br (c := (gp_cmp v13 (0#64)) = 0) (p1 := 249) (p2 := 153) (l1 := [gp_r (some 74), gp_i v1, gp_i v2, gp_i v3, gp_i v4, gp_i v5, gp_i v6, gp_i v7, gp_i v8, gp_i v9, gp_l v10, gp_n, gp_i v12, gp_l v13, gp_n, v15, v16]) (l2 := [gp_r (some 74), gp_i v1, gp_i v2, gp_i v3, gp_i v4, gp_i v5, gp_i v6, gp_i v7, gp_i v8, gp_i v9, gp_l v10, gp_n, gp_i v12, gp_l v13, gp_n, v15, v16]) (s1 := []) (s2 := []) rfl gs_b1 (fun hc => ?_) (fun hc => ?_)
  · replace H := H.1 hc
    refine gs_E.stp (pc' := 50) (ls' := [gp_r (some 74), gp_i v1, gp_i v2, gp_i v3, gp_i v4, gp_i v5, gp_i v6, gp_i v7, gp_i v8, gp_i (gp_wr (v9 + 1)), gp_l v10, gp_n, gp_i v12, gp_l v13, gp_n, v15, v16]) (st' := []) (s' := s) 2 rfl ?_
    exact H
  · replace H := H.2 hc
    refine gs_E.stp (pc' := 157) (ls' := [gp_r (some 74), gp_i v1, gp_i v2, gp_i v3, gp_i v4, gp_i v5, gp_i v6, gp_i v7, gp_i v8, gp_i v9, gp_l v10, gp_n, gp_i v12, gp_l v13, gp_n, v15, v16]) (st' := [gp_l v13, gp_i v4]) (s' := s) 2 rfl ?_
    refine gs_E.call (args := [gp_l v13]) (m := 3) (y' := 3584) (st' := [gp_i v4]) rfl H (fun r s1 H => ?_)
    obtain ⟨x2, rfl, H⟩ := H
    show gs_E L (d + 1) 3158 160 [gp_r (some 74), gp_i v1, gp_i v2, gp_i v3, gp_i v4, gp_i v5, gp_i v6, gp_i v7, gp_i v8, gp_i v9, gp_l v10, gp_n, gp_i v12, gp_l v13, gp_n, v15, v16] [gp_i x2, gp_i v4] s1 K
    refine gs_E.stp (pc' := 166) (ls' := [gp_r (some 74), gp_i v1, gp_i v2, gp_i v3, gp_i v4, gp_i v5, gp_i v6, gp_i v7, gp_i v8, gp_i v9, gp_l v10, gp_n, gp_i v12, gp_l v13, gp_n, v15, v16]) (st' := [gp_i v9, gp_r (some 110), gp_i x2, gp_i v4]) (s' := s1) 3 rfl ?_
    refine gs_E.ck (pc' := 167) (ls' := [gp_r (some 74), gp_i v1, gp_i v2, gp_i v3, gp_i v4, gp_i v5, gp_i v6, gp_i v7, gp_i v8, gp_i v9, gp_l v10, gp_n, gp_i v12, gp_l v13, gp_n, v15, v16]) (st' := [gp_i (gp_I s1 110 v9.toNat), gp_i x2, gp_i v4]) (s' := s1) rfl (Or.inl ⟨rfl, H.1.1, H.1.2⟩) ?_
    replace H := H.2
    refine gs_E.stp (pc' := 176) (ls' := [gp_r (some 74), gp_i v1, gp_i v2, gp_i v3, gp_i v4, gp_i v5, gp_i v6, gp_i v7, gp_i v8, gp_i v9, gp_l v10, gp_n, gp_i v12, gp_l v13, gp_n, gp_i (gp_wr (v4 + (gp_wr ((gp_wr (x2 - (gp_I s1 110 v9.toNat))) * v12)))), v16]) (st' := [gp_i v5]) (s' := s1) 6 rfl ?_
    refine gs_E.br (c := ¬ v5 = 0) (p1 := 189) (p2 := 179) (l1 := [gp_r (some 74), gp_i v1, gp_i v2, gp_i v3, gp_i v4, gp_i v5, gp_i v6, gp_i v7, gp_i v8, gp_i v9, gp_l v10, gp_n, gp_i v12, gp_l v13, gp_n, gp_i (gp_wr (v4 + (gp_wr ((gp_wr (x2 - (gp_I s1 110 v9.toNat))) * v12)))), v16]) (l2 := [gp_r (some 74), gp_i v1, gp_i v2, gp_i v3, gp_i v4, gp_i v5, gp_i v6, gp_i v7, gp_i v8, gp_i v9, gp_l v10, gp_n, gp_i v12, gp_l v13, gp_n, gp_i (gp_wr (v4 + (gp_wr ((gp_wr (x2 - (gp_I s1 110 v9.toNat))) * v12)))), v16]) (s1 := []) (s2 := []) rfl gs_b2 (fun hc => ?_) (fun hc => ?_)
    · replace H := H.2 hc
      refine gs_E.stp (pc' := 195) (ls' := [gp_r (some 74), gp_i v1, gp_i v2, gp_i v3, gp_i v4, gp_i v5, gp_i v6, gp_i v7, gp_i v8, gp_i v9, gp_l v10, gp_n, gp_i v12, gp_l v13, gp_n, gp_i (gp_wr (v4 + (gp_wr ((gp_wr (x2 - (gp_I s1 110 v9.toNat))) * v12)))), v16]) (st' := [gp_i (gp_wr (v4 + (gp_wr ((gp_wr (x2 - (gp_I s1 110 v9.toNat))) * v12)))), gp_r (some 108)]) (s' := s1) 3 rfl ?_
      refine gs_E.ck (pc' := 196) (ls' := [gp_r (some 74), gp_i v1, gp_i v2, gp_i v3, gp_i v4, gp_i v5, gp_i v6, gp_i v7, gp_i v8, gp_i v9, gp_l v10, gp_n, gp_i v12, gp_l v13, gp_n, gp_i (gp_wr (v4 + (gp_wr ((gp_wr (x2 - (gp_I s1 110 v9.toNat))) * v12)))), v16]) (st' := [gp_i (gp_I s1 108 (gp_wr (v4 + (gp_wr ((gp_wr (x2 - (gp_I s1 110 v9.toNat))) * v12)))).toNat)]) (s' := s1) rfl (Or.inl ⟨rfl, H.1.1, H.1.2⟩) ?_
      replace H := H.2
      exact H
    · replace H := H.1 (Decidable.byContradiction hc)
      refine gs_E.stp (pc' := 185) (ls' := [gp_r (some 74), gp_i v1, gp_i v2, gp_i v3, gp_i v4, gp_i v5, gp_i v6, gp_i v7, gp_i v8, gp_i v9, gp_l v10, gp_n, gp_i v12, gp_l v13, gp_n, gp_i (gp_wr (v4 + (gp_wr ((gp_wr (x2 - (gp_I s1 110 v9.toNat))) * v12)))), v16]) (st' := [gp_i (gp_wr (v4 + (gp_wr ((gp_wr (x2 - (gp_I s1 110 v9.toNat))) * v12)))), gp_r (some 109)]) (s' := s1) 3 rfl ?_
      refine gs_E.ck (pc' := 186) (ls' := [gp_r (some 74), gp_i v1, gp_i v2, gp_i v3, gp_i v4, gp_i v5, gp_i v6, gp_i v7, gp_i v8, gp_i v9, gp_l v10, gp_n, gp_i v12, gp_l v13, gp_n, gp_i (gp_wr (v4 + (gp_wr ((gp_wr (x2 - (gp_I s1 110 v9.toNat))) * v12)))), v16]) (st' := [gp_i (gp_I s1 109 (gp_wr (v4 + (gp_wr ((gp_wr (x2 - (gp_I s1 110 v9.toNat))) * v12)))).toNat)]) (s' := s1) rfl (Or.inl ⟨rfl, H.1.1, H.1.2⟩) ?_
      replace H := H.2
      refine gs_E.stp (pc' := 196) (ls' := [gp_r (some 74), gp_i v1, gp_i v2, gp_i v3, gp_i v4, gp_i v5, gp_i v6, gp_i v7, gp_i v8, gp_i v9, gp_l v10, gp_n, gp_i v12, gp_l v13, gp_n, gp_i (gp_wr (v4 + (gp_wr ((gp_wr (x2 - (gp_I s1 110 v9.toNat))) * v12)))), v16]) (st' := [gp_i (gp_I s1 109 (gp_wr (v4 + (gp_wr ((gp_wr (x2 - (gp_I s1 110 v9.toNat))) * v12)))).toNat)]) (s' := s1) 1 rfl ?_
      exact H

set_option maxRecDepth 100000 in
/-- GatheredPointsModel.worksAt, pc 196 -/
theorem s_3158_196 {L d : Nat} {K : Option gV → gH → Prop} {s : gH} (v1 : Int) (v2 : Int) (v3 : Int) (v4 : Int) (v5 : Int) (v6 : Int) (v7 : Int) (v8 : Int) (v9 : Int) (v10 : BitVec 64) (v12 : Int) (v13 : BitVec 64) (v15 : Int) (v16 : gV) (w0 : Int) (H : ((v8 = 0 → gs_E L (d + 1) 3158 225 [gp_r (some 74), gp_i v1, gp_i v2, gp_i v3, gp_i v4, gp_i v5, gp_i v6, gp_i v7, gp_i v8, gp_i v9, gp_l v10, gp_n, gp_i v12, gp_l v13, gp_n, gp_i v15, gp_i w0] [] s K) ∧ (¬ v8 = 0 → ((v5 = 0 → ((v7 < w0 → gs_E L (d + 1) 3158 225 [gp_r (some 74), gp_i v1, gp_i v2, gp_i v3, gp_i v4, gp_i v5, gp_i v6, gp_i v7, gp_i v8, gp_i v9, gp_l v10, gp_n, gp_i v12, gp_l v13, gp_n, gp_i v15, gp_i w0] [] s K) ∧ (¬ v7 < w0 → gs_E L (d + 1) 3158 230 [gp_r (some 74), gp_i v1, gp_i v2, gp_i v3, gp_i v4, gp_i v5, gp_i v6, gp_i v7, gp_i v8, gp_i v9, gp_l v10, gp_n, gp_i v12, gp_l v13, gp_n, gp_i v15, gp_i w0] [] s K))) ∧ (¬ v5 = 0 → ((w0 < v7 → gs_E L (d + 1) 3158 225 [gp_r (some 74), gp_i v1, gp_i v2, gp_i v3, gp_i v4, gp_i v5, gp_i v6, gp_i v7, gp_i v8, gp_i v9, gp_l v10, gp_n, gp_i v12, gp_l v13, gp_n, gp_i v15, gp_i w0] [] s K) ∧ (¬ w0 < v7 → gs_E L (d + 1) 3158 230 [gp_r (some 74), gp_i v1, gp_i v2, gp_i v3, gp_i v4, gp_i v5, gp_i v6, gp_i v7, gp_i v8, gp_i v9, gp_l v10, gp_n, gp_i v12, gp_l v13, gp_n, gp_i v15, gp_i w0] [] s K))))))) : gs_E L (d + 1) 3158 196 [gp_r (some 74), gp_i v1, gp_i v2, gp_i v3, gp_i v4, gp_i v5, gp_i v6, gp_i v7, gp_i v8, gp_i v9, gp_l v10, gp_n, gp_i v12, gp_l v13, gp_n, gp_i v15, v16] [gp_i w0] s K := by
  refine gs_E.stp (pc' := 200) (ls' := [gp_r (some 74), gp_i v1, gp_i v2, gp_i v3, gp_i v4, gp_i v5, gp_i v6, gp_i v7, gp_i v8, gp_i v9, gp_l v10, gp_n, gp_i v12, gp_l v13, gp_n, gp_i v15, gp_i w0]) (st' := [gp_i v8]) (s' := s) 2 rfl ?_
  refine gs_E.br (c := v8 = 0) (p1 := 225) (p2 := 203) (l1 := [gp_r (some 74), gp_i v1, gp_i v2, gp_i v3, gp_i v4, gp_i v5, gp_i v6, gp_i v7, gp_i v8, gp_i v9, gp_l v10, gp_n, gp_i v12, gp_l v13, gp_n, gp_i v15, gp_i w0]) (l2 := [gp_r (some 74), gp_i v1, gp_i v2, gp_i v3, gp_i v4, gp_i v5, gp_i v6, gp_i v7, gp_i v8, gp_i v9, gp_l v10, gp_n, gp_i v12, gp_l v13, gp_n, gp_i v15, gp_i w0]) (s1 := []) (s2 := []) rfl gs_b1 (fun hc => ?_) (fun hc => ?_)
  · replace H := H.1 hc
    exact H
  · replace H := H.2 hc
    refine gs_E.stp (pc' := 205) (ls' := [gp_r (some 74), gp_i v1, gp_i v2, gp_i v3, gp_i v4, gp_i v5, gp_i v6, gp_i v7, gp_i v8, gp_i v9, gp_l v10, gp_n, gp_i v12, gp_l v13, gp_n, gp_i v15, gp_i w0]) (st' := [gp_i v5]) (s' := s) 1 rfl ?_
    refine gs_E.br (c := ¬ v5 = 0) (p1 := 218) (p2 := 208) (l1 := [gp_r (some 74), gp_i v1, gp_i v2, gp_i v3, gp_i v4, gp_i v5, gp_i v6, gp_i v7, gp_i v8, gp_i v9, gp_l v10, gp_n, gp_i v12, gp_l v13, gp_n, gp_i v15, gp_i w0]) (l2 := [gp_r (some 74), gp_i v1, gp_i v2, gp_i v3, gp_i v4, gp_i v5, gp_i v6, gp_i v7, gp_i v8, gp_i v9, gp_l v10, gp_n, gp_i v12, gp_l v13, gp_n, gp_i v15, gp_i w0]) (s1 := []) (s2 := []) rfl gs_b2 (fun hc => ?_) (fun hc => ?_)
    · replace H := H.2 hc
      refine gs_E.stp (pc' := 222) (ls' := [gp_r (some 74), gp_i v1, gp_i v2, gp_i v3, gp_i v4, gp_i v5, gp_i v6, gp_i v7, gp_i v8, gp_i v9, gp_l v10, gp_n, gp_i v12, gp_l v13, gp_n, gp_i v15, gp_i w0]) (st' := [gp_i v7, gp_i w0]) (s' := s) 2 rfl ?_
      refine gs_E.br (c := ¬ w0 < v7) (p1 := 230) (p2 := 225) (l1 := [gp_r (some 74), gp_i v1, gp_i v2, gp_i v3, gp_i v4, gp_i v5, gp_i v6, gp_i v7, gp_i v8, gp_i v9, gp_l v10, gp_n, gp_i v12, gp_l v13, gp_n, gp_i v15, gp_i w0]) (l2 := [gp_r (some 74), gp_i v1, gp_i v2, gp_i v3, gp_i v4, gp_i v5, gp_i v6, gp_i v7, gp_i v8, gp_i v9, gp_l v10, gp_n, gp_i v12, gp_l v13, gp_n, gp_i v15, gp_i w0]) (s1 := []) (s2 := []) rfl gs_b2 (fun hc => ?_) (fun hc => ?_)
      · replace H := H.2 hc
        exact H
      · replace H := H.1 (Decidable.byContradiction hc)
        exact H
    · replace H := H.1 (Decidable.byContradiction hc)
      refine gs_E.stp (pc' := 212) (ls' := [gp_r (some 74), gp_i v1, gp_i v2, gp_i v3, gp_i v4, gp_i v5, gp_i v6, gp_i v7, gp_i v8, gp_i v9, gp_l v10, gp_n, gp_i v12, gp_l v13, gp_n, gp_i v15, gp_i w0]) (st' := [gp_i v7, gp_i w0]) (s' := s) 2 rfl ?_
      refine gs_E.br (c := ¬ v7 < w0) (p1 := 230) (p2 := 215) (l1 := [gp_r (some 74), gp_i v1, gp_i v2, gp_i v3, gp_i v4, gp_i v5, gp_i v6, gp_i v7, gp_i v8, gp_i v9, gp_l v10, gp_n, gp_i v12, gp_l v13, gp_n, gp_i v15, gp_i w0]) (l2 := [gp_r (some 74), gp_i v1, gp_i v2, gp_i v3, gp_i v4, gp_i v5, gp_i v6, gp_i v7, gp_i v8, gp_i v9, gp_l v10, gp_n, gp_i v12, gp_l v13, gp_n, gp_i v15, gp_i w0]) (s1 := []) (s2 := []) rfl gs_b2 (fun hc => ?_) (fun hc => ?_)
      · replace H := H.2 hc
        exact H
      · replace H := H.1 (Decidable.byContradiction hc)
        refine gs_E.stp (pc' := 225) (ls' := [gp_r (some 74), gp_i v1, gp_i v2, gp_i v3, gp_i v4, gp_i v5, gp_i v6, gp_i v7, gp_i v8, gp_i v9, gp_l v10, gp_n, gp_i v12, gp_l v13, gp_n, gp_i v15, gp_i w0]) (st' := []) (s' := s) 1 rfl ?_
        exact H

set_option maxRecDepth 100000 in
/-- GatheredPointsModel.worksAt, pc 225 -/
theorem s_3158_225 {L d : Nat} {K : Option gV → gH → Prop} {s : gH} (v1 : Int) (v2 : Int) (v3 : Int) (v4 : Int) (v5 : Int) (v6 : Int) (v7 : Int) (v8 : Int) (v9 : Int) (v10 : BitVec 64) (v12 : Int) (v13 : BitVec 64) (v15 : Int) (v16 : Int) (H : gs_E L (d + 1) 3158 232 [gp_r (some 74), gp_i v1, gp_i v2, gp_i v3, gp_i v4, gp_i v5, gp_i v6, gp_i v7, gp_i v8, gp_i v9, gp_l v10, gp_n, gp_i v12, gp_l v13, gp_n, gp_i v15, gp_i v16] [gp_i v16] s K) : gs_E L (d + 1) 3158 225 [gp_r (some 74), gp_i v1, gp_i v2, gp_i v3, gp_i v4, gp_i v5, gp_i v6, gp_i v7, gp_i v8, gp_i v9, gp_l v10, gp_n, gp_i v12, gp_l v13, gp_n, gp_i v15, gp_i v16] [] s K := by
  refine gs_E.stp (pc' := 232) (ls' := [gp_r (some 74), gp_i v1, gp_i v2, gp_i v3, gp_i v4, gp_i v5, gp_i v6, gp_i v7, gp_i v8, gp_i v9, gp_l v10, gp_n, gp_i v12, gp_l v13, gp_n, gp_i v15, gp_i v16]) (st' := [gp_i v16]) (s' := s) 2 rfl ?_
  exact H

set_option maxRecDepth 100000 in
/-- GatheredPointsModel.worksAt, pc 230 -/
theorem s_3158_230 {L d : Nat} {K : Option gV → gH → Prop} {s : gH} (v1 : Int) (v2 : Int) (v3 : Int) (v4 : Int) (v5 : Int) (v6 : Int) (v7 : Int) (v8 : Int) (v9 : Int) (v10 : BitVec 64) (v12 : Int) (v13 : BitVec 64) (v15 : Int) (v16 : Int) (H : gs_E L (d + 1) 3158 232 [gp_r (some 74), gp_i v1, gp_i v2, gp_i v3, gp_i v4, gp_i v5, gp_i v6, gp_i v7, gp_i v8, gp_i v9, gp_l v10, gp_n, gp_i v12, gp_l v13, gp_n, gp_i v15, gp_i v16] [gp_i v7] s K) : gs_E L (d + 1) 3158 230 [gp_r (some 74), gp_i v1, gp_i v2, gp_i v3, gp_i v4, gp_i v5, gp_i v6, gp_i v7, gp_i v8, gp_i v9, gp_l v10, gp_n, gp_i v12, gp_l v13, gp_n, gp_i v15, gp_i v16] [] s K := by
  refine gs_E.stp (pc' := 232) (ls' := [gp_r (some 74), gp_i v1, gp_i v2, gp_i v3, gp_i v4, gp_i v5, gp_i v6, gp_i v7, gp_i v8, gp_i v9, gp_l v10, gp_n, gp_i v12, gp_l v13, gp_n, gp_i v15, gp_i v16]) (st' := [gp_i v7]) (s' := s) 1 rfl ?_
  exact H

set_option maxRecDepth 100000 in
/-- GatheredPointsModel.worksAt, pc 232 -/
theorem s_3158_232 {L d : Nat} {K : Option gV → gH → Prop} {s : gH} (v1 : Int) (v2 : Int) (v3 : Int) (v4 : Int) (v5 : Int) (v6 : Int) (v7 : Int) (v8 : Int) (v9 : Int) (v10 : BitVec 64) (v12 : Int) (v13 : BitVec 64) (v15 : Int) (v16 : Int) (w0 : Int) (H : gs_E L (d + 1) 3158 146 [gp_r (some 74), gp_i v1, gp_i v2, gp_i v3, gp_i v4, gp_i v5, gp_i v6, gp_i w0, gp_i 1, gp_i v9, gp_l v10, gp_n, gp_i v12, gp_l (v13 &&& (v13 - (1#64))), gp_n, gp_i v15, gp_i v16] [] s K) : gs_E L (d + 1) 3158 232 [gp_r (some 74), gp_i v1, gp_i v2, gp_i v3, gp_i v4, gp_i v5, gp_i v6, gp_i v7, gp_i v8, gp_i v9, gp_l v10, gp_n, gp_i v12, gp_l v13, gp_n, gp_i v15, gp_i v16] [gp_i w0] s K := by
  refine gs_E.stp (pc' := 146) (ls' := [gp_r (some 74), gp_i v1, gp_i v2, gp_i v3, gp_i v4, gp_i v5, gp_i v6, gp_i w0, gp_i 1, gp_i v9, gp_l v10, gp_n, gp_i v12, gp_l (v13 &&& (v13 - (1#64))), gp_n, gp_i v15, gp_i v16]) (st' := []) (s' := s) 10 rfl ?_
  exact H

set_option maxRecDepth 100000 in
/-- GatheredPointsModel.worksAt, pc 278 -/
theorem s_3158_278 {L d : Nat} {K : Option gV → gH → Prop} {s : gH} (v1 : Int) (v2 : Int) (v3 : Int) (v4 : Int) (v5 : Int) (v6 : Int) (v7 : Int) (v8 : Int) (v9 : Int) (v10 : gV) (v11 : gV) (v12 : gV) (v13 : gV) (v14 : gV) (v15 : gV) (v16 : gV) (w1 : Int) (w2 : Int) (H : ((0 ≤ w1 ∧ w1 < 262144) ∧ (∀ s1, s1 = gp_wI s 108 w1.toNat w2 → gs_E L (d + 1) 3158 301 [gp_r (some 74), gp_i v1, gp_i v2, gp_i v3, gp_i v4, gp_i v5, gp_i v6, gp_i v7, gp_i v8, gp_i v9, v10, v11, v12, v13, v14, v15, v16] [] s1 K))) : gs_E L (d + 1) 3158 278 [gp_r (some 74), gp_i v1, gp_i v2, gp_i v3, gp_i v4, gp_i v5, gp_i v6, gp_i v7, gp_i v8, gp_i v9, v10, v11, v12, v13, v14, v15, v16] [gp_i w2, gp_i w1, gp_r (some 108)] s K := by
  refine gs_E.ck (pc' := 279) (ls' := [gp_r (some 74), gp_i v1, gp_i v2, gp_i v3, gp_i v4, gp_i v5, gp_i v6, gp_i v7, gp_i v8, gp_i v9, v10, v11, v12, v13, v14, v15, v16]) (st' := []) (s' := gp_wI s 108 w1.toNat w2) rfl ⟨rfl, H.1.1, H.1.2⟩ ?_
  replace H := H.2 _ rfl
  generalize gp_wI s 108 w1.toNat w2 = s1 at H ⊢
  refine gs_E.stp (pc' := 301) (ls' := [gp_r (some 74), gp_i v1, gp_i v2, gp_i v3, gp_i v4, gp_i v5, gp_i v6, gp_i v7, gp_i v8, gp_i v9, v10, v11, v12, v13, v14, v15, v16]) (st' := []) (s' := s1) 1 rfl ?_
  exact H

set_option maxRecDepth 100000 in
/-- GatheredPointsModel.worksAt, pc 300 -/
theorem s_3158_300 {L d : Nat} {K : Option gV → gH → Prop} {s : gH} (v1 : Int) (v2 : Int) (v3 : Int) (v4 : Int) (v5 : Int) (v6 : Int) (v7 : Int) (v8 : Int) (v9 : Int) (v10 : gV) (v11 : gV) (v12 : gV) (v13 : gV) (v14 : gV) (v15 : gV) (v16 : gV) (w1 : Int) (w2 : Int) (H : ((0 ≤ w1 ∧ w1 < 262144) ∧ (∀ s1, s1 = gp_wI s 109 w1.toNat w2 → gs_E L (d + 1) 3158 301 [gp_r (some 74), gp_i v1, gp_i v2, gp_i v3, gp_i v4, gp_i v5, gp_i v6, gp_i v7, gp_i v8, gp_i v9, v10, v11, v12, v13, v14, v15, v16] [] s1 K))) : gs_E L (d + 1) 3158 300 [gp_r (some 74), gp_i v1, gp_i v2, gp_i v3, gp_i v4, gp_i v5, gp_i v6, gp_i v7, gp_i v8, gp_i v9, v10, v11, v12, v13, v14, v15, v16] [gp_i w2, gp_i w1, gp_r (some 109)] s K := by
  refine gs_E.ck (pc' := 301) (ls' := [gp_r (some 74), gp_i v1, gp_i v2, gp_i v3, gp_i v4, gp_i v5, gp_i v6, gp_i v7, gp_i v8, gp_i v9, v10, v11, v12, v13, v14, v15, v16]) (st' := []) (s' := gp_wI s 109 w1.toNat w2) rfl ⟨rfl, H.1.1, H.1.2⟩ ?_
  replace H := H.2 _ rfl
  generalize gp_wI s 109 w1.toNat w2 = s1 at H ⊢
  exact H

set_option maxRecDepth 100000 in
/-- GatheredPointsModel.worksAt, pc 301 -/
theorem s_3158_301 {L d : Nat} {K : Option gV → gH → Prop} {s : gH} (v1 : Int) (v2 : Int) (v3 : Int) (v4 : Int) (v5 : Int) (v6 : Int) (v7 : Int) (v8 : Int) (v9 : Int) (v10 : gV) (v11 : gV) (v12 : gV) (v13 : gV) (v14 : gV) (v15 : gV) (v16 : gV) (H : gs_E L (d + 1) 3158 32 [gp_r (some 74), gp_i v1, gp_i v2, gp_i v3, gp_i v4, gp_i (gp_wr (v5 + 1)), gp_i v6, gp_i v7, gp_i v8, gp_i v9, v10, v11, v12, v13, v14, v15, v16] [] s K) : gs_E L (d + 1) 3158 301 [gp_r (some 74), gp_i v1, gp_i v2, gp_i v3, gp_i v4, gp_i v5, gp_i v6, gp_i v7, gp_i v8, gp_i v9, v10, v11, v12, v13, v14, v15, v16] [] s K := by
  refine gs_E.stp (pc' := 32) (ls' := [gp_r (some 74), gp_i v1, gp_i v2, gp_i v3, gp_i v4, gp_i (gp_wr (v5 + 1)), gp_i v6, gp_i v7, gp_i v8, gp_i v9, v10, v11, v12, v13, v14, v15, v16]) (st' := []) (s' := s) 2 rfl ?_
  exact H

set_option maxRecDepth 100000 in
/-- GatheredPointsModel.setsUp, pc 0 -/
theorem s_3159_e {L d : Nat} {K : Option gV → gH → Prop} {s : gH} (p0 : Int) (H : (∀ s1, s1 = gp_wI s 74 49 0 → gs_E L (d + 1) 3159 7 [gp_r (some 74), gp_i p0, gp_i 0] [] s1 K)) : gs_C L (d + 1) 3159 3 [gp_r (some 74), gp_i p0] s K := by
  show gs_E L (d + 1) 3159 0 [gp_r (some 74), gp_i p0, gp_n] [] s K
  refine gs_E.stp (pc' := 5) (ls' := [gp_r (some 74), gp_i p0, gp_n]) (st' := []) (s' := gp_wI s 74 49 0) 3 rfl ?_
  replace H := H _ rfl
  generalize gp_wI s 74 49 0 = s1 at H ⊢
  refine gs_E.stp (pc' := 7) (ls' := [gp_r (some 74), gp_i p0, gp_i 0]) (st' := []) (s' := s1) 2 rfl ?_
  exact H

set_option maxRecDepth 100000 in
/-- GatheredPointsModel.setsUp, pc 7 -/
theorem s_3159_7 {L d : Nat} {K : Option gV → gH → Prop} {s : gH} (v1 : Int) (v2 : Int) (H : ((v2 < 8 → gs_C L d 3078 3 [gp_l (BitVec.ofInt 64 v1), gp_i v2] s (fun r s1 => ∃ x2, r = some (gp_i x2) ∧ ((x2 = 0 → gs_E L (d + 1) 3159 56 [gp_r (some 74), gp_i v1, gp_i v2] [] s1 K) ∧ (¬ x2 = 0 → ((0 ≤ (gp_I s1 74 49) ∧ (gp_I s1 74 49) < 3) ∧ (∀ s3, s3 = gp_wI s1 106 (gp_I s1 74 49).toNat v2 → gs_C L d 3081 2 [gp_r (some 74), gp_i v2] s3 (fun r s4 => ∃ x5, r = some (gp_i x5) ∧ ((0 ≤ (gp_I s3 74 49) ∧ (gp_I s3 74 49) < 3) ∧ (∀ s6, s6 = gp_wI s4 107 (gp_I s3 74 49).toNat x5 → (∀ s7, s7 = gp_wI s6 74 49 (gp_wr ((gp_I s6 74 49) + 1)) → gs_E L (d + 1) 3159 56 [gp_r (some 74), gp_i v1, gp_i v2] [] s7 K)))))))))) ∧ (¬ v2 < 8 → K none s))) : gs_E L (d + 1) 3159 7 [gp_r (some 74), gp_i v1, gp_i v2] [] s K := by
  refine gs_E.stp (pc' := 10) (ls' := [gp_r (some 74), gp_i v1, gp_i v2]) (st' := [gp_i 8, gp_i v2]) (s' := s) 2 rfl ?_
  refine gs_E.br (c := ¬ v2 < 8) (p1 := 62) (p2 := 13) (l1 := [gp_r (some 74), gp_i v1, gp_i v2]) (l2 := [gp_r (some 74), gp_i v1, gp_i v2]) (s1 := []) (s2 := []) rfl gs_b2 (fun hc => ?_) (fun hc => ?_)
  · replace H := H.2 hc
    exact gs_E.ret (r := none) rfl H
  · replace H := H.1 (Decidable.byContradiction hc)
    refine gs_E.stp (pc' := 16) (ls' := [gp_r (some 74), gp_i v1, gp_i v2]) (st' := [gp_i v2, gp_l (BitVec.ofInt 64 v1)]) (s' := s) 3 rfl ?_
    refine gs_E.call (args := [gp_l (BitVec.ofInt 64 v1), gp_i v2]) (m := 3) (y' := 3078) (st' := []) rfl H (fun r s1 H => ?_)
    obtain ⟨x2, rfl, H⟩ := H
    show gs_E L (d + 1) 3159 19 [gp_r (some 74), gp_i v1, gp_i v2] [gp_i x2] s1 K
    refine gs_E.br (c := x2 = 0) (p1 := 56) (p2 := 22) (l1 := [gp_r (some 74), gp_i v1, gp_i v2]) (l2 := [gp_r (some 74), gp_i v1, gp_i v2]) (s1 := []) (s2 := []) rfl gs_b1 (fun hc => ?_) (fun hc => ?_)
    · replace H := H.1 hc
      exact H
    · replace H := H.2 hc
      refine gs_E.stp (pc' := 31) (ls' := [gp_r (some 74), gp_i v1, gp_i v2]) (st' := [gp_i v2, gp_i (gp_I s1 74 49), gp_r (some 106)]) (s' := s1) 5 rfl ?_
      refine gs_E.ck (pc' := 32) (ls' := [gp_r (some 74), gp_i v1, gp_i v2]) (st' := []) (s' := gp_wI s1 106 (gp_I s1 74 49).toNat v2) rfl ⟨rfl, H.1.1, H.1.2⟩ ?_
      replace H := H.2 _ rfl
      generalize gp_wI s1 106 (gp_I s1 74 49).toNat v2 = s3 at H ⊢
      refine gs_E.stp (pc' := 42) (ls' := [gp_r (some 74), gp_i v1, gp_i v2]) (st' := [gp_i v2, gp_r (some 74), gp_i (gp_I s3 74 49), gp_r (some 107)]) (s' := s3) 6 rfl ?_
      refine gs_E.call (args := [gp_r (some 74), gp_i v2]) (m := 2) (y' := 3081) (st' := [gp_i (gp_I s3 74 49), gp_r (some 107)]) rfl H (fun r s4 H => ?_)
      obtain ⟨x5, rfl, H⟩ := H
      show gs_E L (d + 1) 3159 45 [gp_r (some 74), gp_i v1, gp_i v2] [gp_i x5, gp_i (gp_I s3 74 49), gp_r (some 107)] s4 K
      refine gs_E.ck (pc' := 46) (ls' := [gp_r (some 74), gp_i v1, gp_i v2]) (st' := []) (s' := gp_wI s4 107 (gp_I s3 74 49).toNat x5) rfl ⟨rfl, H.1.1, H.1.2⟩ ?_
      replace H := H.2 _ rfl
      generalize gp_wI s4 107 (gp_I s3 74 49).toNat x5 = s6 at H ⊢
      refine gs_E.stp (pc' := 56) (ls' := [gp_r (some 74), gp_i v1, gp_i v2]) (st' := []) (s' := gp_wI s6 74 49 (gp_wr ((gp_I s6 74 49) + 1))) 6 rfl ?_
      replace H := H _ rfl
      generalize gp_wI s6 74 49 (gp_wr ((gp_I s6 74 49) + 1)) = s7 at H ⊢
      exact H

set_option maxRecDepth 100000 in
/-- GatheredPointsModel.setsUp, pc 56 -/
theorem s_3159_56 {L d : Nat} {K : Option gV → gH → Prop} {s : gH} (v1 : Int) (v2 : Int) (H : gs_E L (d + 1) 3159 7 [gp_r (some 74), gp_i v1, gp_i (gp_wr (v2 + 1))] [] s K) : gs_E L (d + 1) 3159 56 [gp_r (some 74), gp_i v1, gp_i v2] [] s K := by
  refine gs_E.stp (pc' := 7) (ls' := [gp_r (some 74), gp_i v1, gp_i (gp_wr (v2 + 1))]) (st' := []) (s' := s) 2 rfl ?_
  exact H

set_option maxRecDepth 100000 in
/-- GatheredPointsModel.scoreNow, pc 0 -/
theorem s_3160_e {L d : Nat} {K : Option gV → gH → Prop} {s : gH} (p0 : Int) (H : ((1 < (gp_I s 74 49) → gs_E L (d + 1) 3160 24 [gp_r (some 74), gp_i p0, gp_n] [gp_i (gp_I s 107 1), gp_i (gp_I s 107 0)] s K) ∧ (¬ 1 < (gp_I s 74 49) → gs_E L (d + 1) 3160 24 [gp_r (some 74), gp_i p0, gp_n] [gp_i 0, gp_i (gp_I s 107 0)] s K))) : gs_C L (d + 1) 3160 3 [gp_r (some 74), gp_i p0] s K := by
  show gs_E L (d + 1) 3160 0 [gp_r (some 74), gp_i p0, gp_n] [] s K
  refine gs_E.stp (pc' := 11) (ls' := [gp_r (some 74), gp_i p0, gp_n]) (st' := [gp_i 1, gp_i (gp_I s 74 49), gp_i (gp_I s 107 0)]) (s' := s) 7 rfl ?_
  refine gs_E.br (c := ¬ 1 < (gp_I s 74 49)) (p1 := 23) (p2 := 14) (l1 := [gp_r (some 74), gp_i p0, gp_n]) (l2 := [gp_r (some 74), gp_i p0, gp_n]) (s1 := [gp_i (gp_I s 107 0)]) (s2 := [gp_i (gp_I s 107 0)]) rfl gs_b2 (fun hc => ?_) (fun hc => ?_)
  · replace H := H.2 hc
    refine gs_E.stp (pc' := 24) (ls' := [gp_r (some 74), gp_i p0, gp_n]) (st' := [gp_i 0, gp_i (gp_I s 107 0)]) (s' := s) 1 rfl ?_
    exact H
  · replace H := H.1 (Decidable.byContradiction hc)
    refine gs_E.stp (pc' := 24) (ls' := [gp_r (some 74), gp_i p0, gp_n]) (st' := [gp_i (gp_I s 107 1), gp_i (gp_I s 107 0)]) (s' := s) 5 rfl ?_
    exact H

set_option maxRecDepth 100000 in
/-- GatheredPointsModel.scoreNow, pc 24 -/
theorem s_3160_24 {L d : Nat} {K : Option gV → gH → Prop} {s : gH} (v1 : Int) (v2 : gV) (w0 : Int) (w1 : Int) (H : ((2 < (gp_I s 74 49) → gs_E L (d + 1) 3160 42 [gp_r (some 74), gp_i v1, v2] [gp_i (gp_I s 107 2), gp_i w1, gp_i w0] s K) ∧ (¬ 2 < (gp_I s 74 49) → gs_E L (d + 1) 3160 42 [gp_r (some 74), gp_i v1, v2] [gp_i 0, gp_i w1, gp_i w0] s K))) : gs_E L (d + 1) 3160 24 [gp_r (some 74), gp_i v1, v2] [gp_i w1, gp_i w0] s K := by
  refine gs_E.stp (pc' := 29) (ls' := [gp_r (some 74), gp_i v1, v2]) (st' := [gp_i 2, gp_i (gp_I s 74 49), gp_i w1, gp_i w0]) (s' := s) 3 rfl ?_
  refine gs_E.br (c := ¬ 2 < (gp_I s 74 49)) (p1 := 41) (p2 := 32) (l1 := [gp_r (some 74), gp_i v1, v2]) (l2 := [gp_r (some 74), gp_i v1, v2]) (s1 := [gp_i w1, gp_i w0]) (s2 := [gp_i w1, gp_i w0]) rfl gs_b2 (fun hc => ?_) (fun hc => ?_)
  · replace H := H.2 hc
    refine gs_E.stp (pc' := 42) (ls' := [gp_r (some 74), gp_i v1, v2]) (st' := [gp_i 0, gp_i w1, gp_i w0]) (s' := s) 1 rfl ?_
    exact H
  · replace H := H.1 (Decidable.byContradiction hc)
    refine gs_E.stp (pc' := 42) (ls' := [gp_r (some 74), gp_i v1, v2]) (st' := [gp_i (gp_I s 107 2), gp_i w1, gp_i w0]) (s' := s) 5 rfl ?_
    exact H

set_option maxRecDepth 100000 in
/-- GatheredPointsModel.scoreNow, pc 42 -/
theorem s_3160_42 {L d : Nat} {K : Option gV → gH → Prop} {s : gH} (v1 : Int) (v2 : gV) (w0 : Int) (w1 : Int) (w2 : Int) (H : gs_C L d 3157 3 [gp_i w0, gp_i w1, gp_i w2] s (fun r s1 => ∃ x2, r = some (gp_i x2) ∧ ((v1 = 0 → ((0 ≤ x2 ∧ x2 < 262144) ∧ gs_E L (d + 1) 3160 65 [gp_r (some 74), gp_i v1, gp_i x2] [gp_i (gp_I s1 108 x2.toNat)] s1 K)) ∧ (¬ v1 = 0 → ((0 ≤ x2 ∧ x2 < 262144) ∧ gs_E L (d + 1) 3160 65 [gp_r (some 74), gp_i v1, gp_i x2] [gp_i (gp_I s1 109 x2.toNat)] s1 K))))) : gs_E L (d + 1) 3160 42 [gp_r (some 74), gp_i v1, v2] [gp_i w2, gp_i w1, gp_i w0] s K := by
  refine gs_E.call (args := [gp_i w0, gp_i w1, gp_i w2]) (m := 3) (y' := 3157) (st' := []) rfl H (fun r s1 H => ?_)
  obtain ⟨x2, rfl, H⟩ := H
  show gs_E L (d + 1) 3160 45 [gp_r (some 74), gp_i v1, v2] [gp_i x2] s1 K
  refine gs_E.stp (pc' := 47) (ls' := [gp_r (some 74), gp_i v1, gp_i x2]) (st' := [gp_i v1]) (s' := s1) 2 rfl ?_
  refine gs_E.br (c := ¬ v1 = 0) (p1 := 59) (p2 := 50) (l1 := [gp_r (some 74), gp_i v1, gp_i x2]) (l2 := [gp_r (some 74), gp_i v1, gp_i x2]) (s1 := []) (s2 := []) rfl gs_b2 (fun hc => ?_) (fun hc => ?_)
  · replace H := H.2 hc
    refine gs_E.stp (pc' := 64) (ls' := [gp_r (some 74), gp_i v1, gp_i x2]) (st' := [gp_i x2, gp_r (some 109)]) (s' := s1) 3 rfl ?_
    refine gs_E.ck (pc' := 65) (ls' := [gp_r (some 74), gp_i v1, gp_i x2]) (st' := [gp_i (gp_I s1 109 x2.toNat)]) (s' := s1) rfl (Or.inl ⟨rfl, H.1.1, H.1.2⟩) ?_
    replace H := H.2
    exact H
  · replace H := H.1 (Decidable.byContradiction hc)
    refine gs_E.stp (pc' := 55) (ls' := [gp_r (some 74), gp_i v1, gp_i x2]) (st' := [gp_i x2, gp_r (some 108)]) (s' := s1) 3 rfl ?_
    refine gs_E.ck (pc' := 56) (ls' := [gp_r (some 74), gp_i v1, gp_i x2]) (st' := [gp_i (gp_I s1 108 x2.toNat)]) (s' := s1) rfl (Or.inl ⟨rfl, H.1.1, H.1.2⟩) ?_
    replace H := H.2
    refine gs_E.stp (pc' := 65) (ls' := [gp_r (some 74), gp_i v1, gp_i x2]) (st' := [gp_i (gp_I s1 108 x2.toNat)]) (s' := s1) 1 rfl ?_
    exact H

set_option maxRecDepth 100000 in
/-- GatheredPointsModel.scoreNow, pc 65 -/
theorem s_3160_65 {L d : Nat} {K : Option gV → gH → Prop} {s : gH} (v1 : Int) (v2 : Int) (w0 : Int) (H : K (some (gp_i w0)) s) : gs_E L (d + 1) 3160 65 [gp_r (some 74), gp_i v1, gp_i v2] [gp_i w0] s K := by
  exact gs_E.ret (r := (some (gp_i w0))) rfl H

set_option maxRecDepth 100000 in
/-- GatheredPointsModel.bestMove, pc 0 -/
theorem s_3161_e {L d : Nat} {K : Option gV → gH → Prop} {s : gH} (p0 : Int) (H : ((1 < (gp_I s 74 49) → gs_E L (d + 1) 3161 24 [gp_r (some 74), gp_i p0, gp_n, gp_n, gp_n, gp_n, gp_n, gp_n, gp_n, gp_n, gp_n, gp_n] [gp_i (gp_I s 107 1), gp_i (gp_I s 107 0)] s K) ∧ (¬ 1 < (gp_I s 74 49) → gs_E L (d + 1) 3161 24 [gp_r (some 74), gp_i p0, gp_n, gp_n, gp_n, gp_n, gp_n, gp_n, gp_n, gp_n, gp_n, gp_n] [gp_i 0, gp_i (gp_I s 107 0)] s K))) : gs_C L (d + 1) 3161 12 [gp_r (some 74), gp_i p0] s K := by
  show gs_E L (d + 1) 3161 0 [gp_r (some 74), gp_i p0, gp_n, gp_n, gp_n, gp_n, gp_n, gp_n, gp_n, gp_n, gp_n, gp_n] [] s K
  refine gs_E.stp (pc' := 11) (ls' := [gp_r (some 74), gp_i p0, gp_n, gp_n, gp_n, gp_n, gp_n, gp_n, gp_n, gp_n, gp_n, gp_n]) (st' := [gp_i 1, gp_i (gp_I s 74 49), gp_i (gp_I s 107 0)]) (s' := s) 7 rfl ?_
  refine gs_E.br (c := ¬ 1 < (gp_I s 74 49)) (p1 := 23) (p2 := 14) (l1 := [gp_r (some 74), gp_i p0, gp_n, gp_n, gp_n, gp_n, gp_n, gp_n, gp_n, gp_n, gp_n, gp_n]) (l2 := [gp_r (some 74), gp_i p0, gp_n, gp_n, gp_n, gp_n, gp_n, gp_n, gp_n, gp_n, gp_n, gp_n]) (s1 := [gp_i (gp_I s 107 0)]) (s2 := [gp_i (gp_I s 107 0)]) rfl gs_b2 (fun hc => ?_) (fun hc => ?_)
  · replace H := H.2 hc
    refine gs_E.stp (pc' := 24) (ls' := [gp_r (some 74), gp_i p0, gp_n, gp_n, gp_n, gp_n, gp_n, gp_n, gp_n, gp_n, gp_n, gp_n]) (st' := [gp_i 0, gp_i (gp_I s 107 0)]) (s' := s) 1 rfl ?_
    exact H
  · replace H := H.1 (Decidable.byContradiction hc)
    refine gs_E.stp (pc' := 24) (ls' := [gp_r (some 74), gp_i p0, gp_n, gp_n, gp_n, gp_n, gp_n, gp_n, gp_n, gp_n, gp_n, gp_n]) (st' := [gp_i (gp_I s 107 1), gp_i (gp_I s 107 0)]) (s' := s) 5 rfl ?_
    exact H

set_option maxRecDepth 100000 in
/-- GatheredPointsModel.bestMove, pc 24 -/
theorem s_3161_24 {L d : Nat} {K : Option gV → gH → Prop} {s : gH} (v1 : Int) (v2 : gV) (v3 : gV) (v4 : gV) (v5 : gV) (v6 : gV) (v7 : gV) (v8 : gV) (v9 : gV) (v10 : gV) (v11 : gV) (w0 : Int) (w1 : Int) (H : ((2 < (gp_I s 74 49) → gs_E L (d + 1) 3161 42 [gp_r (some 74), gp_i v1, v2, v3, v4, v5, v6, v7, v8, v9, v10, v11] [gp_i (gp_I s 107 2), gp_i w1, gp_i w0] s K) ∧ (¬ 2 < (gp_I s 74 49) → gs_E L (d + 1) 3161 42 [gp_r (some 74), gp_i v1, v2, v3, v4, v5, v6, v7, v8, v9, v10, v11] [gp_i 0, gp_i w1, gp_i w0] s K))) : gs_E L (d + 1) 3161 24 [gp_r (some 74), gp_i v1, v2, v3, v4, v5, v6, v7, v8, v9, v10, v11] [gp_i w1, gp_i w0] s K := by
  refine gs_E.stp (pc' := 29) (ls' := [gp_r (some 74), gp_i v1, v2, v3, v4, v5, v6, v7, v8, v9, v10, v11]) (st' := [gp_i 2, gp_i (gp_I s 74 49), gp_i w1, gp_i w0]) (s' := s) 3 rfl ?_
  refine gs_E.br (c := ¬ 2 < (gp_I s 74 49)) (p1 := 41) (p2 := 32) (l1 := [gp_r (some 74), gp_i v1, v2, v3, v4, v5, v6, v7, v8, v9, v10, v11]) (l2 := [gp_r (some 74), gp_i v1, v2, v3, v4, v5, v6, v7, v8, v9, v10, v11]) (s1 := [gp_i w1, gp_i w0]) (s2 := [gp_i w1, gp_i w0]) rfl gs_b2 (fun hc => ?_) (fun hc => ?_)
  · replace H := H.2 hc
    refine gs_E.stp (pc' := 42) (ls' := [gp_r (some 74), gp_i v1, v2, v3, v4, v5, v6, v7, v8, v9, v10, v11]) (st' := [gp_i 0, gp_i w1, gp_i w0]) (s' := s) 1 rfl ?_
    exact H
  · replace H := H.1 (Decidable.byContradiction hc)
    refine gs_E.stp (pc' := 42) (ls' := [gp_r (some 74), gp_i v1, v2, v3, v4, v5, v6, v7, v8, v9, v10, v11]) (st' := [gp_i (gp_I s 107 2), gp_i w1, gp_i w0]) (s' := s) 5 rfl ?_
    exact H

set_option maxRecDepth 100000 in
/-- GatheredPointsModel.bestMove, pc 42 -/
theorem s_3161_42 {L d : Nat} {K : Option gV → gH → Prop} {s : gH} (v1 : Int) (v2 : gV) (v3 : gV) (v4 : gV) (v5 : gV) (v6 : gV) (v7 : gV) (v8 : gV) (v9 : gV) (v10 : gV) (v11 : gV) (w0 : Int) (w1 : Int) (w2 : Int) (H : gs_C L d 3157 3 [gp_i w0, gp_i w1, gp_i w2] s (fun r s1 => ∃ x2, r = some (gp_i x2) ∧ gs_E L (d + 1) 3161 54 [gp_r (some 74), gp_i v1, gp_i x2, gp_i (-1), gp_i 0, gp_i 0, v6, v7, v8, v9, v10, v11] [] s1 K)) : gs_E L (d + 1) 3161 42 [gp_r (some 74), gp_i v1, v2, v3, v4, v5, v6, v7, v8, v9, v10, v11] [gp_i w2, gp_i w1, gp_i w0] s K := by
  refine gs_E.call (args := [gp_i w0, gp_i w1, gp_i w2]) (m := 3) (y' := 3157) (st' := []) rfl H (fun r s1 H => ?_)
  obtain ⟨x2, rfl, H⟩ := H
  show gs_E L (d + 1) 3161 45 [gp_r (some 74), gp_i v1, v2, v3, v4, v5, v6, v7, v8, v9, v10, v11] [gp_i x2] s1 K
  refine gs_E.stp (pc' := 54) (ls' := [gp_r (some 74), gp_i v1, gp_i x2, gp_i (-1), gp_i 0, gp_i 0, v6, v7, v8, v9, v10, v11]) (st' := []) (s' := s1) 7 rfl ?_
  exact H

set_option maxRecDepth 100000 in
/-- GatheredPointsModel.bestMove, pc 54 -/
theorem s_3161_54 {L d : Nat} {K : Option gV → gH → Prop} {s : gH} (v1 : Int) (v2 : Int) (v3 : Int) (v4 : Int) (v5 : Int) (v6 : gV) (v7 : gV) (v8 : gV) (v9 : gV) (v10 : gV) (v11 : gV) (H : ((v5 < (gp_I s 74 49) → ((0 ≤ v5 ∧ v5 < 3) ∧ ((0 ≤ v5 ∧ v5 < 3) ∧ gs_C L d 3082 4 [gp_r (some 74), gp_i (gp_I s 106 v5.toNat), gp_i (gp_I s 107 v5.toNat), gp_i v1] s (fun r s1 => ∃ m2, r = some (gp_l m2) ∧ ((v5 = 0 → gs_E L (d + 1) 3161 107 [gp_r (some 74), gp_i v1, gp_i v2, gp_i v3, gp_i v4, gp_i v5, gp_l m2, gp_n, v8, v9, v10, v11] [gp_i 4096] s1 K) ∧ (¬ v5 = 0 → ((v5 = 1 → gs_E L (d + 1) 3161 107 [gp_r (some 74), gp_i v1, gp_i v2, gp_i v3, gp_i v4, gp_i v5, gp_l m2, gp_n, v8, v9, v10, v11] [gp_i 64] s1 K) ∧ (¬ v5 = 1 → gs_E L (d + 1) 3161 107 [gp_r (some 74), gp_i v1, gp_i v2, gp_i v3, gp_i v4, gp_i v5, gp_l m2, gp_n, v8, v9, v10, v11] [gp_i 1] s1 K)))))))) ∧ (¬ v5 < (gp_I s 74 49) → K (some (gp_i v3)) s))) : gs_E L (d + 1) 3161 54 [gp_r (some 74), gp_i v1, gp_i v2, gp_i v3, gp_i v4, gp_i v5, v6, v7, v8, v9, v10, v11] [] s K := by
  refine gs_E.stp (pc' := 60) (ls' := [gp_r (some 74), gp_i v1, gp_i v2, gp_i v3, gp_i v4, gp_i v5, v6, v7, v8, v9, v10, v11]) (st' := [gp_i (gp_I s 74 49), gp_i v5]) (s' := s) 3 rfl ?_
  refine gs_E.br (c := ¬ v5 < (gp_I s 74 49)) (p1 := 217) (p2 := 63) (l1 := [gp_r (some 74), gp_i v1, gp_i v2, gp_i v3, gp_i v4, gp_i v5, v6, v7, v8, v9, v10, v11]) (l2 := [gp_r (some 74), gp_i v1, gp_i v2, gp_i v3, gp_i v4, gp_i v5, v6, v7, v8, v9, v10, v11]) (s1 := []) (s2 := []) rfl gs_b2 (fun hc => ?_) (fun hc => ?_)
  · replace H := H.2 hc
    refine gs_E.stp (pc' := 218) (ls' := [gp_r (some 74), gp_i v1, gp_i v2, gp_i v3, gp_i v4, gp_i v5, v6, v7, v8, v9, v10, v11]) (st' := [gp_i v3]) (s' := s) 1 rfl ?_
    exact gs_E.ret (r := (some (gp_i v3))) rfl H
  · replace H := H.1 (Decidable.byContradiction hc)
    refine gs_E.stp (pc' := 70) (ls' := [gp_r (some 74), gp_i v1, gp_i v2, gp_i v3, gp_i v4, gp_i v5, v6, v7, v8, v9, v10, v11]) (st' := [gp_i v5, gp_r (some 106), gp_r (some 74)]) (s' := s) 4 rfl ?_
    refine gs_E.ck (pc' := 71) (ls' := [gp_r (some 74), gp_i v1, gp_i v2, gp_i v3, gp_i v4, gp_i v5, v6, v7, v8, v9, v10, v11]) (st' := [gp_i (gp_I s 106 v5.toNat), gp_r (some 74)]) (s' := s) rfl (Or.inl ⟨rfl, H.1.1, H.1.2⟩) ?_
    replace H := H.2
    refine gs_E.stp (pc' := 77) (ls' := [gp_r (some 74), gp_i v1, gp_i v2, gp_i v3, gp_i v4, gp_i v5, v6, v7, v8, v9, v10, v11]) (st' := [gp_i v5, gp_r (some 107), gp_i (gp_I s 106 v5.toNat), gp_r (some 74)]) (s' := s) 3 rfl ?_
    refine gs_E.ck (pc' := 78) (ls' := [gp_r (some 74), gp_i v1, gp_i v2, gp_i v3, gp_i v4, gp_i v5, v6, v7, v8, v9, v10, v11]) (st' := [gp_i (gp_I s 107 v5.toNat), gp_i (gp_I s 106 v5.toNat), gp_r (some 74)]) (s' := s) rfl (Or.inl ⟨rfl, H.1.1, H.1.2⟩) ?_
    replace H := H.2
    refine gs_E.stp (pc' := 79) (ls' := [gp_r (some 74), gp_i v1, gp_i v2, gp_i v3, gp_i v4, gp_i v5, v6, v7, v8, v9, v10, v11]) (st' := [gp_i v1, gp_i (gp_I s 107 v5.toNat), gp_i (gp_I s 106 v5.toNat), gp_r (some 74)]) (s' := s) 1 rfl ?_
    refine gs_E.call (args := [gp_r (some 74), gp_i (gp_I s 106 v5.toNat), gp_i (gp_I s 107 v5.toNat), gp_i v1]) (m := 4) (y' := 3082) (st' := []) rfl H (fun r s1 H => ?_)
    obtain ⟨m2, rfl, H⟩ := H
    show gs_E L (d + 1) 3161 82 [gp_r (some 74), gp_i v1, gp_i v2, gp_i v3, gp_i v4, gp_i v5, v6, v7, v8, v9, v10, v11] [gp_l m2] s1 K
    refine gs_E.stp (pc' := 86) (ls' := [gp_r (some 74), gp_i v1, gp_i v2, gp_i v3, gp_i v4, gp_i v5, gp_l m2, gp_n, v8, v9, v10, v11]) (st' := [gp_i v5]) (s' := s1) 2 rfl ?_
    refine gs_E.br (c := ¬ v5 = 0) (p1 := 95) (p2 := 89) (l1 := [gp_r (some 74), gp_i v1, gp_i v2, gp_i v3, gp_i v4, gp_i v5, gp_l m2, gp_n, v8, v9, v10, v11]) (l2 := [gp_r (some 74), gp_i v1, gp_i v2, gp_i v3, gp_i v4, gp_i v5, gp_l m2, gp_n, v8, v9, v10, v11]) (s1 := []) (s2 := []) rfl gs_b2 (fun hc => ?_) (fun hc => ?_)
    · replace H := H.2 hc
      refine gs_E.stp (pc' := 98) (ls' := [gp_r (some 74), gp_i v1, gp_i v2, gp_i v3, gp_i v4, gp_i v5, gp_l m2, gp_n, v8, v9, v10, v11]) (st' := [gp_i 1, gp_i v5]) (s' := s1) 2 rfl ?_
      refine gs_E.br (c := ¬ v5 = 1) (p1 := 106) (p2 := 101) (l1 := [gp_r (some 74), gp_i v1, gp_i v2, gp_i v3, gp_i v4, gp_i v5, gp_l m2, gp_n, v8, v9, v10, v11]) (l2 := [gp_r (some 74), gp_i v1, gp_i v2, gp_i v3, gp_i v4, gp_i v5, gp_l m2, gp_n, v8, v9, v10, v11]) (s1 := []) (s2 := []) rfl gs_b2 (fun hc => ?_) (fun hc => ?_)
      · replace H := H.2 hc
        refine gs_E.stp (pc' := 107) (ls' := [gp_r (some 74), gp_i v1, gp_i v2, gp_i v3, gp_i v4, gp_i v5, gp_l m2, gp_n, v8, v9, v10, v11]) (st' := [gp_i 1]) (s' := s1) 1 rfl ?_
        exact H
      · replace H := H.1 (Decidable.byContradiction hc)
        refine gs_E.stp (pc' := 107) (ls' := [gp_r (some 74), gp_i v1, gp_i v2, gp_i v3, gp_i v4, gp_i v5, gp_l m2, gp_n, v8, v9, v10, v11]) (st' := [gp_i 64]) (s' := s1) 2 rfl ?_
        exact H
    · replace H := H.1 (Decidable.byContradiction hc)
      refine gs_E.stp (pc' := 107) (ls' := [gp_r (some 74), gp_i v1, gp_i v2, gp_i v3, gp_i v4, gp_i v5, gp_l m2, gp_n, v8, v9, v10, v11]) (st' := [gp_i 4096]) (s' := s1) 2 rfl ?_
      exact H

set_option maxRecDepth 100000 in
/-- GatheredPointsModel.bestMove, pc 107 -/
theorem s_3161_107 {L d : Nat} {K : Option gV → gH → Prop} {s : gH} (v1 : Int) (v2 : Int) (v3 : Int) (v4 : Int) (v5 : Int) (v6 : BitVec 64) (v8 : gV) (v9 : gV) (v10 : gV) (v11 : gV) (w0 : Int) (H : gs_E L (d + 1) 3161 112 [gp_r (some 74), gp_i v1, gp_i v2, gp_i v3, gp_i v4, gp_i v5, gp_l v6, gp_n, gp_i w0, gp_i 0, v10, v11] [] s K) : gs_E L (d + 1) 3161 107 [gp_r (some 74), gp_i v1, gp_i v2, gp_i v3, gp_i v4, gp_i v5, gp_l v6, gp_n, v8, v9, v10, v11] [gp_i w0] s K := by
  refine gs_E.stp (pc' := 112) (ls' := [gp_r (some 74), gp_i v1, gp_i v2, gp_i v3, gp_i v4, gp_i v5, gp_l v6, gp_n, gp_i w0, gp_i 0, v10, v11]) (st' := []) (s' := s) 3 rfl ?_
  exact H

set_option maxRecDepth 100000 in
/-- GatheredPointsModel.bestMove, pc 112 -/
theorem s_3161_112 {L d : Nat} {K : Option gV → gH → Prop} {s : gH} (v1 : Int) (v2 : Int) (v3 : Int) (v4 : Int) (v5 : Int) (v6 : BitVec 64) (v8 : Int) (v9 : Int) (v10 : gV) (v11 : gV) (H : gs_C L d 3079 4 [gp_l v6] s (fun r s1 => ∃ x2, r = some (gp_i x2) ∧ ((v9 < x2 → gs_C L d 3080 5 [gp_l v6, gp_i v9] s1 (fun r s3 => ∃ x4, r = some (gp_i x4) ∧ ((0 ≤ v5 ∧ v5 < 3) ∧ ((v1 = 0 → ((0 ≤ (gp_wr (v2 + (gp_wr ((gp_wr (x4 - (gp_I s3 107 v5.toNat))) * v8)))) ∧ (gp_wr (v2 + (gp_wr ((gp_wr (x4 - (gp_I s3 107 v5.toNat))) * v8)))) < 262144) ∧ gs_E L (d + 1) 3161 165 [gp_r (some 74), gp_i v1, gp_i v2, gp_i v3, gp_i v4, gp_i v5, gp_l v6, gp_n, gp_i v8, gp_i v9, gp_i (gp_wr (v2 + (gp_wr ((gp_wr (x4 - (gp_I s3 107 v5.toNat))) * v8)))), v11] [gp_i (gp_I s3 109 (gp_wr (v2 + (gp_wr ((gp_wr (x4 - (gp_I s3 107 v5.toNat))) * v8)))).toNat)] s3 K)) ∧ (¬ v1 = 0 → ((0 ≤ (gp_wr (v2 + (gp_wr ((gp_wr (x4 - (gp_I s3 107 v5.toNat))) * v8)))) ∧ (gp_wr (v2 + (gp_wr ((gp_wr (x4 - (gp_I s3 107 v5.toNat))) * v8)))) < 262144) ∧ gs_E L (d + 1) 3161 165 [gp_r (some 74), gp_i v1, gp_i v2, gp_i v3, gp_i v4, gp_i v5, gp_l v6, gp_n, gp_i v8, gp_i v9, gp_i (gp_wr (v2 + (gp_wr ((gp_wr (x4 - (gp_I s3 107 v5.toNat))) * v8)))), v11] [gp_i (gp_I s3 108 (gp_wr (v2 + (gp_wr ((gp_wr (x4 - (gp_I s3 107 v5.toNat))) * v8)))).toNat)] s3 K)))))) ∧ (¬ v9 < x2 → gs_E L (d + 1) 3161 54 [gp_r (some 74), gp_i v1, gp_i v2, gp_i v3, gp_i v4, gp_i (gp_wr (v5 + 1)), gp_l v6, gp_n, gp_i v8, gp_i v9, v10, v11] [] s1 K)))) : gs_E L (d + 1) 3161 112 [gp_r (some 74), gp_i v1, gp_i v2, gp_i v3, gp_i v4, gp_i v5, gp_l v6, gp_n, gp_i v8, gp_i v9, v10, v11] [] s K := by
  refine gs_E.stp (pc' := 116) (ls' := [gp_r (some 74), gp_i v1, gp_i v2, gp_i v3, gp_i v4, gp_i v5, gp_l v6, gp_n, gp_i v8, gp_i v9, v10, v11]) (st' := [gp_l v6, gp_i v9]) (s' := s) 2 rfl ?_
  refine gs_E.call (args := [gp_l v6]) (m := 4) (y' := 3079) (st' := [gp_i v9]) rfl H (fun r s1 H => ?_)
  obtain ⟨x2, rfl, H⟩ := H
  show gs_E L (d + 1) 3161 119 [gp_r (some 74), gp_i v1, gp_i v2, gp_i v3, gp_i v4, gp_i v5, gp_l v6, gp_n, gp_i v8, gp_i v9, v10, v11] [gp_i x2, gp_i v9] s1 K
  refine gs_E.br (c := ¬ v9 < x2) (p1 := 211) (p2 := 122) (l1 := [gp_r (some 74), gp_i v1, gp_i v2, gp_i v3, gp_i v4, gp_i v5, gp_l v6, gp_n, gp_i v8, gp_i v9, v10, v11]) (l2 := [gp_r (some 74), gp_i v1, gp_i v2, gp_i v3, gp_i v4, gp_i v5, gp_l v6, gp_n, gp_i v8, gp_i v9, v10, v11]) (s1 := []) (s2 := []) rfl gs_b2 (fun hc => ?_) (fun hc => ?_)
  · replace H := H.2 hc
    refine gs_E.stp (pc' := 54) (ls' := [gp_r (some 74), gp_i v1, gp_i v2, gp_i v3, gp_i v4, gp_i (gp_wr (v5 + 1)), gp_l v6, gp_n, gp_i v8, gp_i v9, v10, v11]) (st' := []) (s' := s1) 2 rfl ?_
    exact H
  · replace H := H.1 (Decidable.byContradiction hc)
    refine gs_E.stp (pc' := 127) (ls' := [gp_r (some 74), gp_i v1, gp_i v2, gp_i v3, gp_i v4, gp_i v5, gp_l v6, gp_n, gp_i v8, gp_i v9, v10, v11]) (st' := [gp_i v9, gp_l v6, gp_i v2]) (s' := s1) 3 rfl ?_
    refine gs_E.call (args := [gp_l v6, gp_i v9]) (m := 5) (y' := 3080) (st' := [gp_i v2]) rfl H (fun r s3 H => ?_)
    obtain ⟨x4, rfl, H⟩ := H
    show gs_E L (d + 1) 3161 130 [gp_r (some 74), gp_i v1, gp_i v2, gp_i v3, gp_i v4, gp_i v5, gp_l v6, gp_n, gp_i v8, gp_i v9, v10, v11] [gp_i x4, gp_i v2] s3 K
    refine gs_E.stp (pc' := 136) (ls' := [gp_r (some 74), gp_i v1, gp_i v2, gp_i v3, gp_i v4, gp_i v5, gp_l v6, gp_n, gp_i v8, gp_i v9, v10, v11]) (st' := [gp_i v5, gp_r (some 107), gp_i x4, gp_i v2]) (s' := s3) 3 rfl ?_
    refine gs_E.ck (pc' := 137) (ls' := [gp_r (some 74), gp_i v1, gp_i v2, gp_i v3, gp_i v4, gp_i v5, gp_l v6, gp_n, gp_i v8, gp_i v9, v10, v11]) (st' := [gp_i (gp_I s3 107 v5.toNat), gp_i x4, gp_i v2]) (s' := s3) rfl (Or.inl ⟨rfl, H.1.1, H.1.2⟩) ?_
    replace H := H.2
    refine gs_E.stp (pc' := 145) (ls' := [gp_r (some 74), gp_i v1, gp_i v2, gp_i v3, gp_i v4, gp_i v5, gp_l v6, gp_n, gp_i v8, gp_i v9, gp_i (gp_wr (v2 + (gp_wr ((gp_wr (x4 - (gp_I s3 107 v5.toNat))) * v8)))), v11]) (st' := [gp_i v1]) (s' := s3) 6 rfl ?_
    refine gs_E.br (c := ¬ v1 = 0) (p1 := 158) (p2 := 148) (l1 := [gp_r (some 74), gp_i v1, gp_i v2, gp_i v3, gp_i v4, gp_i v5, gp_l v6, gp_n, gp_i v8, gp_i v9, gp_i (gp_wr (v2 + (gp_wr ((gp_wr (x4 - (gp_I s3 107 v5.toNat))) * v8)))), v11]) (l2 := [gp_r (some 74), gp_i v1, gp_i v2, gp_i v3, gp_i v4, gp_i v5, gp_l v6, gp_n, gp_i v8, gp_i v9, gp_i (gp_wr (v2 + (gp_wr ((gp_wr (x4 - (gp_I s3 107 v5.toNat))) * v8)))), v11]) (s1 := []) (s2 := []) rfl gs_b2 (fun hc => ?_) (fun hc => ?_)
    · replace H := H.2 hc
      refine gs_E.stp (pc' := 164) (ls' := [gp_r (some 74), gp_i v1, gp_i v2, gp_i v3, gp_i v4, gp_i v5, gp_l v6, gp_n, gp_i v8, gp_i v9, gp_i (gp_wr (v2 + (gp_wr ((gp_wr (x4 - (gp_I s3 107 v5.toNat))) * v8)))), v11]) (st' := [gp_i (gp_wr (v2 + (gp_wr ((gp_wr (x4 - (gp_I s3 107 v5.toNat))) * v8)))), gp_r (some 108)]) (s' := s3) 3 rfl ?_
      refine gs_E.ck (pc' := 165) (ls' := [gp_r (some 74), gp_i v1, gp_i v2, gp_i v3, gp_i v4, gp_i v5, gp_l v6, gp_n, gp_i v8, gp_i v9, gp_i (gp_wr (v2 + (gp_wr ((gp_wr (x4 - (gp_I s3 107 v5.toNat))) * v8)))), v11]) (st' := [gp_i (gp_I s3 108 (gp_wr (v2 + (gp_wr ((gp_wr (x4 - (gp_I s3 107 v5.toNat))) * v8)))).toNat)]) (s' := s3) rfl (Or.inl ⟨rfl, H.1.1, H.1.2⟩) ?_
      replace H := H.2
      exact H
    · replace H := H.1 (Decidable.byContradiction hc)
      refine gs_E.stp (pc' := 154) (ls' := [gp_r (some 74), gp_i v1, gp_i v2, gp_i v3, gp_i v4, gp_i v5, gp_l v6, gp_n, gp_i v8, gp_i v9, gp_i (gp_wr (v2 + (gp_wr ((gp_wr (x4 - (gp_I s3 107 v5.toNat))) * v8)))), v11]) (st' := [gp_i (gp_wr (v2 + (gp_wr ((gp_wr (x4 - (gp_I s3 107 v5.toNat))) * v8)))), gp_r (some 109)]) (s' := s3) 3 rfl ?_
      refine gs_E.ck (pc' := 155) (ls' := [gp_r (some 74), gp_i v1, gp_i v2, gp_i v3, gp_i v4, gp_i v5, gp_l v6, gp_n, gp_i v8, gp_i v9, gp_i (gp_wr (v2 + (gp_wr ((gp_wr (x4 - (gp_I s3 107 v5.toNat))) * v8)))), v11]) (st' := [gp_i (gp_I s3 109 (gp_wr (v2 + (gp_wr ((gp_wr (x4 - (gp_I s3 107 v5.toNat))) * v8)))).toNat)]) (s' := s3) rfl (Or.inl ⟨rfl, H.1.1, H.1.2⟩) ?_
      replace H := H.2
      refine gs_E.stp (pc' := 165) (ls' := [gp_r (some 74), gp_i v1, gp_i v2, gp_i v3, gp_i v4, gp_i v5, gp_l v6, gp_n, gp_i v8, gp_i v9, gp_i (gp_wr (v2 + (gp_wr ((gp_wr (x4 - (gp_I s3 107 v5.toNat))) * v8)))), v11]) (st' := [gp_i (gp_I s3 109 (gp_wr (v2 + (gp_wr ((gp_wr (x4 - (gp_I s3 107 v5.toNat))) * v8)))).toNat)]) (s' := s3) 1 rfl ?_
      exact H

set_option maxRecDepth 100000 in
/-- GatheredPointsModel.bestMove, pc 165 -/
theorem s_3161_165 {L d : Nat} {K : Option gV → gH → Prop} {s : gH} (v1 : Int) (v2 : Int) (v3 : Int) (v4 : Int) (v5 : Int) (v6 : BitVec 64) (v8 : Int) (v9 : Int) (v10 : Int) (v11 : gV) (w0 : Int) (H : ((v3 < 0 → gs_E L (d + 1) 3161 192 [gp_r (some 74), gp_i v1, gp_i v2, gp_i v3, gp_i v4, gp_i v5, gp_l v6, gp_n, gp_i v8, gp_i v9, gp_i v10, gp_i w0] [] s K) ∧ (¬ v3 < 0 → ((v1 = 0 → ((v4 < w0 → gs_E L (d + 1) 3161 192 [gp_r (some 74), gp_i v1, gp_i v2, gp_i v3, gp_i v4, gp_i v5, gp_l v6, gp_n, gp_i v8, gp_i v9, gp_i v10, gp_i w0] [] s K) ∧ (¬ v4 < w0 → gs_E L (d + 1) 3161 205 [gp_r (some 74), gp_i v1, gp_i v2, gp_i v3, gp_i v4, gp_i v5, gp_l v6, gp_n, gp_i v8, gp_i v9, gp_i v10, gp_i w0] [] s K))) ∧ (¬ v1 = 0 → ((w0 < v4 → gs_E L (d + 1) 3161 192 [gp_r (some 74), gp_i v1, gp_i v2, gp_i v3, gp_i v4, gp_i v5, gp_l v6, gp_n, gp_i v8, gp_i v9, gp_i v10, gp_i w0] [] s K) ∧ (¬ w0 < v4 → gs_E L (d + 1) 3161 205 [gp_r (some 74), gp_i v1, gp_i v2, gp_i v3, gp_i v4, gp_i v5, gp_l v6, gp_n, gp_i v8, gp_i v9, gp_i v10, gp_i w0] [] s K))))))) : gs_E L (d + 1) 3161 165 [gp_r (some 74), gp_i v1, gp_i v2, gp_i v3, gp_i v4, gp_i v5, gp_l v6, gp_n, gp_i v8, gp_i v9, gp_i v10, v11] [gp_i w0] s K := by
  refine gs_E.stp (pc' := 168) (ls' := [gp_r (some 74), gp_i v1, gp_i v2, gp_i v3, gp_i v4, gp_i v5, gp_l v6, gp_n, gp_i v8, gp_i v9, gp_i v10, gp_i w0]) (st' := [gp_i v3]) (s' := s) 2 rfl ?_
  refine gs_E.br (c := v3 < 0) (p1 := 192) (p2 := 171) (l1 := [gp_r (some 74), gp_i v1, gp_i v2, gp_i v3, gp_i v4, gp_i v5, gp_l v6, gp_n, gp_i v8, gp_i v9, gp_i v10, gp_i w0]) (l2 := [gp_r (some 74), gp_i v1, gp_i v2, gp_i v3, gp_i v4, gp_i v5, gp_l v6, gp_n, gp_i v8, gp_i v9, gp_i v10, gp_i w0]) (s1 := []) (s2 := []) rfl gs_b1 (fun hc => ?_) (fun hc => ?_)
  · replace H := H.1 hc
    exact H
  · replace H := H.2 hc
    refine gs_E.stp (pc' := 172) (ls' := [gp_r (some 74), gp_i v1, gp_i v2, gp_i v3, gp_i v4, gp_i v5, gp_l v6, gp_n, gp_i v8, gp_i v9, gp_i v10, gp_i w0]) (st' := [gp_i v1]) (s' := s) 1 rfl ?_
    refine gs_E.br (c := ¬ v1 = 0) (p1 := 185) (p2 := 175) (l1 := [gp_r (some 74), gp_i v1, gp_i v2, gp_i v3, gp_i v4, gp_i v5, gp_l v6, gp_n, gp_i v8, gp_i v9, gp_i v10, gp_i w0]) (l2 := [gp_r (some 74), gp_i v1, gp_i v2, gp_i v3, gp_i v4, gp_i v5, gp_l v6, gp_n, gp_i v8, gp_i v9, gp_i v10, gp_i w0]) (s1 := []) (s2 := []) rfl gs_b2 (fun hc => ?_) (fun hc => ?_)
    · replace H := H.2 hc
      refine gs_E.stp (pc' := 189) (ls' := [gp_r (some 74), gp_i v1, gp_i v2, gp_i v3, gp_i v4, gp_i v5, gp_l v6, gp_n, gp_i v8, gp_i v9, gp_i v10, gp_i w0]) (st' := [gp_i v4, gp_i w0]) (s' := s) 2 rfl ?_
      refine gs_E.br (c := ¬ w0 < v4) (p1 := 205) (p2 := 192) (l1 := [gp_r (some 74), gp_i v1, gp_i v2, gp_i v3, gp_i v4, gp_i v5, gp_l v6, gp_n, gp_i v8, gp_i v9, gp_i v10, gp_i w0]) (l2 := [gp_r (some 74), gp_i v1, gp_i v2, gp_i v3, gp_i v4, gp_i v5, gp_l v6, gp_n, gp_i v8, gp_i v9, gp_i v10, gp_i w0]) (s1 := []) (s2 := []) rfl gs_b2 (fun hc => ?_) (fun hc => ?_)
      · replace H := H.2 hc
        exact H
      · replace H := H.1 (Decidable.byContradiction hc)
        exact H
    · replace H := H.1 (Decidable.byContradiction hc)
      refine gs_E.stp (pc' := 179) (ls' := [gp_r (some 74), gp_i v1, gp_i v2, gp_i v3, gp_i v4, gp_i v5, gp_l v6, gp_n, gp_i v8, gp_i v9, gp_i v10, gp_i w0]) (st' := [gp_i v4, gp_i w0]) (s' := s) 2 rfl ?_
      refine gs_E.br (c := ¬ v4 < w0) (p1 := 205) (p2 := 182) (l1 := [gp_r (some 74), gp_i v1, gp_i v2, gp_i v3, gp_i v4, gp_i v5, gp_l v6, gp_n, gp_i v8, gp_i v9, gp_i v10, gp_i w0]) (l2 := [gp_r (some 74), gp_i v1, gp_i v2, gp_i v3, gp_i v4, gp_i v5, gp_l v6, gp_n, gp_i v8, gp_i v9, gp_i v10, gp_i w0]) (s1 := []) (s2 := []) rfl gs_b2 (fun hc => ?_) (fun hc => ?_)
      · replace H := H.2 hc
        exact H
      · replace H := H.1 (Decidable.byContradiction hc)
        refine gs_E.stp (pc' := 192) (ls' := [gp_r (some 74), gp_i v1, gp_i v2, gp_i v3, gp_i v4, gp_i v5, gp_l v6, gp_n, gp_i v8, gp_i v9, gp_i v10, gp_i w0]) (st' := []) (s' := s) 1 rfl ?_
        exact H

set_option maxRecDepth 100000 in
/-- GatheredPointsModel.bestMove, pc 192 -/
theorem s_3161_192 {L d : Nat} {K : Option gV → gH → Prop} {s : gH} (v1 : Int) (v2 : Int) (v3 : Int) (v4 : Int) (v5 : Int) (v6 : BitVec 64) (v8 : Int) (v9 : Int) (v10 : Int) (v11 : Int) (H : gs_E L (d + 1) 3161 205 [gp_r (some 74), gp_i v1, gp_i v2, gp_i (gp_wr ((gp_wr (100 * v5)) + v9)), gp_i v11, gp_i v5, gp_l v6, gp_n, gp_i v8, gp_i v9, gp_i v10, gp_i v11] [] s K) : gs_E L (d + 1) 3161 192 [gp_r (some 74), gp_i v1, gp_i v2, gp_i v3, gp_i v4, gp_i v5, gp_l v6, gp_n, gp_i v8, gp_i v9, gp_i v10, gp_i v11] [] s K := by
  refine gs_E.stp (pc' := 205) (ls' := [gp_r (some 74), gp_i v1, gp_i v2, gp_i (gp_wr ((gp_wr (100 * v5)) + v9)), gp_i v11, gp_i v5, gp_l v6, gp_n, gp_i v8, gp_i v9, gp_i v10, gp_i v11]) (st' := []) (s' := s) 8 rfl ?_
  exact H

set_option maxRecDepth 100000 in
/-- GatheredPointsModel.bestMove, pc 205 -/
theorem s_3161_205 {L d : Nat} {K : Option gV → gH → Prop} {s : gH} (v1 : Int) (v2 : Int) (v3 : Int) (v4 : Int) (v5 : Int) (v6 : BitVec 64) (v8 : Int) (v9 : Int) (v10 : Int) (v11 : Int) (H : gs_E L (d + 1) 3161 112 [gp_r (some 74), gp_i v1, gp_i v2, gp_i v3, gp_i v4, gp_i v5, gp_l v6, gp_n, gp_i v8, gp_i (gp_wr (v9 + 1)), gp_i v10, gp_i v11] [] s K) : gs_E L (d + 1) 3161 205 [gp_r (some 74), gp_i v1, gp_i v2, gp_i v3, gp_i v4, gp_i v5, gp_l v6, gp_n, gp_i v8, gp_i v9, gp_i v10, gp_i v11] [] s K := by
  refine gs_E.stp (pc' := 112) (ls' := [gp_r (some 74), gp_i v1, gp_i v2, gp_i v3, gp_i v4, gp_i v5, gp_l v6, gp_n, gp_i v8, gp_i (gp_wr (v9 + 1)), gp_i v10, gp_i v11]) (st' := []) (s' := s) 2 rfl ?_
  exact H

set_option maxRecDepth 100000 in
/-- GatheredPointsModel.score, pc 0 -/
theorem s_3162_e {L d : Nat} {K : Option gV → gH → Prop} {s : gH} (p0 : Int) (p1 : Int) (H : gs_C L d 3155 1 [gp_i p0] s (fun r s1 => ∃ x2, r = some (gp_i x2) ∧ ((x2 = 0 → gs_E L (d + 1) 3162 14 [gp_r (some 74), gp_i p0, gp_i p1] [] s1 K) ∧ (¬ x2 = 0 → gs_C L d 3077 1 [gp_i p1] s1 (fun r s3 => ∃ x4, r = some (gp_i x4) ∧ ((x4 = 0 → gs_E L (d + 1) 3162 14 [gp_r (some 74), gp_i p0, gp_i p1] [] s3 K) ∧ (¬ x4 = 0 → gs_C L d 3159 3 [gp_r (some 74), gp_i p0] s3 (fun r s5 => r = none ∧ gs_C L d 3156 7 [gp_r (some 74)] s5 (fun r s6 => r = none ∧ gs_C L d 3160 3 [gp_r (some 74), gp_i p1] s6 (fun r s7 => ∃ x8, r = some (gp_i x8) ∧ K (some (gp_i x8)) s7)))))))))) : gs_C L (d + 1) 3162 3 [gp_r (some 74), gp_i p0, gp_i p1] s K := by
  show gs_E L (d + 1) 3162 0 [gp_r (some 74), gp_i p0, gp_i p1] [] s K
  refine gs_E.stp (pc' := 1) (ls' := [gp_r (some 74), gp_i p0, gp_i p1]) (st' := [gp_i p0]) (s' := s) 1 rfl ?_
  refine gs_E.call (args := [gp_i p0]) (m := 1) (y' := 3155) (st' := []) rfl H (fun r s1 H => ?_)
  obtain ⟨x2, rfl, H⟩ := H
  show gs_E L (d + 1) 3162 4 [gp_r (some 74), gp_i p0, gp_i p1] [gp_i x2] s1 K
  refine gs_E.br (c := x2 = 0) (p1 := 14) (p2 := 7) (l1 := [gp_r (some 74), gp_i p0, gp_i p1]) (l2 := [gp_r (some 74), gp_i p0, gp_i p1]) (s1 := []) (s2 := []) rfl gs_b1 (fun hc => ?_) (fun hc => ?_)
  · replace H := H.1 hc
    exact H
  · replace H := H.2 hc
    refine gs_E.stp (pc' := 8) (ls' := [gp_r (some 74), gp_i p0, gp_i p1]) (st' := [gp_i p1]) (s' := s1) 1 rfl ?_
    refine gs_E.call (args := [gp_i p1]) (m := 1) (y' := 3077) (st' := []) rfl H (fun r s3 H => ?_)
    obtain ⟨x4, rfl, H⟩ := H
    show gs_E L (d + 1) 3162 11 [gp_r (some 74), gp_i p0, gp_i p1] [gp_i x4] s3 K
    refine gs_E.br (c := ¬ x4 = 0) (p1 := 20) (p2 := 14) (l1 := [gp_r (some 74), gp_i p0, gp_i p1]) (l2 := [gp_r (some 74), gp_i p0, gp_i p1]) (s1 := []) (s2 := []) rfl gs_b2 (fun hc => ?_) (fun hc => ?_)
    · replace H := H.2 hc
      refine gs_E.stp (pc' := 22) (ls' := [gp_r (some 74), gp_i p0, gp_i p1]) (st' := [gp_i p0, gp_r (some 74)]) (s' := s3) 2 rfl ?_
      refine gs_E.call (args := [gp_r (some 74), gp_i p0]) (m := 3) (y' := 3159) (st' := []) rfl H (fun r s5 H => ?_)
      obtain ⟨rfl, H⟩ := H
      show gs_E L (d + 1) 3162 25 [gp_r (some 74), gp_i p0, gp_i p1] [] s5 K
      refine gs_E.stp (pc' := 26) (ls' := [gp_r (some 74), gp_i p0, gp_i p1]) (st' := [gp_r (some 74)]) (s' := s5) 1 rfl ?_
      refine gs_E.call (args := [gp_r (some 74)]) (m := 7) (y' := 3156) (st' := []) rfl H (fun r s6 H => ?_)
      obtain ⟨rfl, H⟩ := H
      show gs_E L (d + 1) 3162 29 [gp_r (some 74), gp_i p0, gp_i p1] [] s6 K
      refine gs_E.stp (pc' := 31) (ls' := [gp_r (some 74), gp_i p0, gp_i p1]) (st' := [gp_i p1, gp_r (some 74)]) (s' := s6) 2 rfl ?_
      refine gs_E.call (args := [gp_r (some 74), gp_i p1]) (m := 3) (y' := 3160) (st' := []) rfl H (fun r s7 H => ?_)
      obtain ⟨x8, rfl, H⟩ := H
      show gs_E L (d + 1) 3162 34 [gp_r (some 74), gp_i p0, gp_i p1] [gp_i x8] s7 K
      exact gs_E.ret (r := (some (gp_i x8))) rfl H
    · replace H := H.1 (Decidable.byContradiction hc)
      exact H

set_option maxRecDepth 100000 in
/-- GatheredPointsModel.score, pc 14 -/
theorem s_3162_14 {L d : Nat} {K : Option gV → gH → Prop} {s : gH} (v1 : Int) (v2 : Int) (H : gs_C L d 3074 2 [gp_r (some 74), gp_i 1] s (fun r s1 => ∃ x2, r = some (gp_i x2) ∧ K (some (gp_i x2)) s1)) : gs_E L (d + 1) 3162 14 [gp_r (some 74), gp_i v1, gp_i v2] [] s K := by
  refine gs_E.stp (pc' := 16) (ls' := [gp_r (some 74), gp_i v1, gp_i v2]) (st' := [gp_i 1, gp_r (some 74)]) (s' := s) 2 rfl ?_
  refine gs_E.call (args := [gp_r (some 74), gp_i 1]) (m := 2) (y' := 3074) (st' := []) rfl H (fun r s1 H => ?_)
  obtain ⟨x2, rfl, H⟩ := H
  show gs_E L (d + 1) 3162 19 [gp_r (some 74), gp_i v1, gp_i v2] [gp_i x2] s1 K
  exact gs_E.ret (r := (some (gp_i x2))) rfl H

set_option maxRecDepth 100000 in
/-- GatheredPointsModel.best, pc 0 -/
theorem s_3163_e {L d : Nat} {K : Option gV → gH → Prop} {s : gH} (p0 : Int) (p1 : Int) (H : gs_C L d 3155 1 [gp_i p0] s (fun r s1 => ∃ x2, r = some (gp_i x2) ∧ ((x2 = 0 → gs_E L (d + 1) 3163 14 [gp_r (some 74), gp_i p0, gp_i p1, gp_n] [] s1 K) ∧ (¬ x2 = 0 → gs_C L d 3077 1 [gp_i p1] s1 (fun r s3 => ∃ x4, r = some (gp_i x4) ∧ ((x4 = 0 → gs_E L (d + 1) 3163 14 [gp_r (some 74), gp_i p0, gp_i p1, gp_n] [] s3 K) ∧ (¬ x4 = 0 → gs_C L d 3159 3 [gp_r (some 74), gp_i p0] s3 (fun r s5 => r = none ∧ gs_C L d 3156 7 [gp_r (some 74)] s5 (fun r s6 => r = none ∧ gs_C L d 3161 12 [gp_r (some 74), gp_i p1] s6 (fun r s7 => ∃ x8, r = some (gp_i x8) ∧ ((x8 < 0 → gs_C L d 3074 2 [gp_r (some 74), gp_i 2] s7 (fun r s9 => ∃ x10, r = some (gp_i x10) ∧ gs_E L (d + 1) 3163 64 [gp_r (some 74), gp_i p0, gp_i p1, gp_i x8] [gp_i x10] s9 K)) ∧ (¬ x8 < 0 → ((0 ≤ (gp_wr (x8.tdiv 100)) ∧ (gp_wr (x8.tdiv 100)) < 3) ∧ gs_E L (d + 1) 3163 64 [gp_r (some 74), gp_i p0, gp_i p1, gp_i x8] [gp_i (gp_wr ((gp_wr (100 * (gp_I s7 106 (gp_wr (x8.tdiv 100)).toNat))) + (x8.tmod 100)))] s7 K))))))))))))) : gs_C L (d + 1) 3163 4 [gp_r (some 74), gp_i p0, gp_i p1] s K := by
  show gs_E L (d + 1) 3163 0 [gp_r (some 74), gp_i p0, gp_i p1, gp_n] [] s K
  refine gs_E.stp (pc' := 1) (ls' := [gp_r (some 74), gp_i p0, gp_i p1, gp_n]) (st' := [gp_i p0]) (s' := s) 1 rfl ?_
  refine gs_E.call (args := [gp_i p0]) (m := 1) (y' := 3155) (st' := []) rfl H (fun r s1 H => ?_)
  obtain ⟨x2, rfl, H⟩ := H
  show gs_E L (d + 1) 3163 4 [gp_r (some 74), gp_i p0, gp_i p1, gp_n] [gp_i x2] s1 K
  refine gs_E.br (c := x2 = 0) (p1 := 14) (p2 := 7) (l1 := [gp_r (some 74), gp_i p0, gp_i p1, gp_n]) (l2 := [gp_r (some 74), gp_i p0, gp_i p1, gp_n]) (s1 := []) (s2 := []) rfl gs_b1 (fun hc => ?_) (fun hc => ?_)
  · replace H := H.1 hc
    exact H
  · replace H := H.2 hc
    refine gs_E.stp (pc' := 8) (ls' := [gp_r (some 74), gp_i p0, gp_i p1, gp_n]) (st' := [gp_i p1]) (s' := s1) 1 rfl ?_
    refine gs_E.call (args := [gp_i p1]) (m := 1) (y' := 3077) (st' := []) rfl H (fun r s3 H => ?_)
    obtain ⟨x4, rfl, H⟩ := H
    show gs_E L (d + 1) 3163 11 [gp_r (some 74), gp_i p0, gp_i p1, gp_n] [gp_i x4] s3 K
    refine gs_E.br (c := ¬ x4 = 0) (p1 := 20) (p2 := 14) (l1 := [gp_r (some 74), gp_i p0, gp_i p1, gp_n]) (l2 := [gp_r (some 74), gp_i p0, gp_i p1, gp_n]) (s1 := []) (s2 := []) rfl gs_b2 (fun hc => ?_) (fun hc => ?_)
    · replace H := H.2 hc
      refine gs_E.stp (pc' := 22) (ls' := [gp_r (some 74), gp_i p0, gp_i p1, gp_n]) (st' := [gp_i p0, gp_r (some 74)]) (s' := s3) 2 rfl ?_
      refine gs_E.call (args := [gp_r (some 74), gp_i p0]) (m := 3) (y' := 3159) (st' := []) rfl H (fun r s5 H => ?_)
      obtain ⟨rfl, H⟩ := H
      show gs_E L (d + 1) 3163 25 [gp_r (some 74), gp_i p0, gp_i p1, gp_n] [] s5 K
      refine gs_E.stp (pc' := 26) (ls' := [gp_r (some 74), gp_i p0, gp_i p1, gp_n]) (st' := [gp_r (some 74)]) (s' := s5) 1 rfl ?_
      refine gs_E.call (args := [gp_r (some 74)]) (m := 7) (y' := 3156) (st' := []) rfl H (fun r s6 H => ?_)
      obtain ⟨rfl, H⟩ := H
      show gs_E L (d + 1) 3163 29 [gp_r (some 74), gp_i p0, gp_i p1, gp_n] [] s6 K
      refine gs_E.stp (pc' := 31) (ls' := [gp_r (some 74), gp_i p0, gp_i p1, gp_n]) (st' := [gp_i p1, gp_r (some 74)]) (s' := s6) 2 rfl ?_
      refine gs_E.call (args := [gp_r (some 74), gp_i p1]) (m := 12) (y' := 3161) (st' := []) rfl H (fun r s7 H => ?_)
      obtain ⟨x8, rfl, H⟩ := H
      show gs_E L (d + 1) 3163 34 [gp_r (some 74), gp_i p0, gp_i p1, gp_n] [gp_i x8] s7 K
      refine gs_E.stp (pc' := 36) (ls' := [gp_r (some 74), gp_i p0, gp_i p1, gp_i x8]) (st' := [gp_i x8]) (s' := s7) 2 rfl ?_
      refine gs_E.br (c := ¬ x8 < 0) (p1 := 47) (p2 := 39) (l1 := [gp_r (some 74), gp_i p0, gp_i p1, gp_i x8]) (l2 := [gp_r (some 74), gp_i p0, gp_i p1, gp_i x8]) (s1 := []) (s2 := []) rfl gs_b2 (fun hc => ?_) (fun hc => ?_)
      · replace H := H.2 hc
        refine gs_E.stp (pc' := 57) (ls' := [gp_r (some 74), gp_i p0, gp_i p1, gp_i x8]) (st' := [gp_i (gp_wr (x8.tdiv 100)), gp_r (some 106), gp_i 100]) (s' := s7) 6 rfl ?_
        refine gs_E.ck (pc' := 58) (ls' := [gp_r (some 74), gp_i p0, gp_i p1, gp_i x8]) (st' := [gp_i (gp_I s7 106 (gp_wr (x8.tdiv 100)).toNat), gp_i 100]) (s' := s7) rfl (Or.inl ⟨rfl, H.1.1, H.1.2⟩) ?_
        replace H := H.2
        refine gs_E.stp (pc' := 64) (ls' := [gp_r (some 74), gp_i p0, gp_i p1, gp_i x8]) (st' := [gp_i (gp_wr ((gp_wr (100 * (gp_I s7 106 (gp_wr (x8.tdiv 100)).toNat))) + (x8.tmod 100)))]) (s' := s7) 5 rfl ?_
        exact H
      · replace H := H.1 (Decidable.byContradiction hc)
        refine gs_E.stp (pc' := 41) (ls' := [gp_r (some 74), gp_i p0, gp_i p1, gp_i x8]) (st' := [gp_i 2, gp_r (some 74)]) (s' := s7) 2 rfl ?_
        refine gs_E.call (args := [gp_r (some 74), gp_i 2]) (m := 2) (y' := 3074) (st' := []) rfl H (fun r s9 H => ?_)
        obtain ⟨x10, rfl, H⟩ := H
        show gs_E L (d + 1) 3163 44 [gp_r (some 74), gp_i p0, gp_i p1, gp_i x8] [gp_i x10] s9 K
        refine gs_E.stp (pc' := 64) (ls' := [gp_r (some 74), gp_i p0, gp_i p1, gp_i x8]) (st' := [gp_i x10]) (s' := s9) 1 rfl ?_
        exact H
    · replace H := H.1 (Decidable.byContradiction hc)
      exact H

set_option maxRecDepth 100000 in
/-- GatheredPointsModel.best, pc 14 -/
theorem s_3163_14 {L d : Nat} {K : Option gV → gH → Prop} {s : gH} (v1 : Int) (v2 : Int) (v3 : gV) (H : gs_C L d 3074 2 [gp_r (some 74), gp_i 1] s (fun r s1 => ∃ x2, r = some (gp_i x2) ∧ K (some (gp_i x2)) s1)) : gs_E L (d + 1) 3163 14 [gp_r (some 74), gp_i v1, gp_i v2, v3] [] s K := by
  refine gs_E.stp (pc' := 16) (ls' := [gp_r (some 74), gp_i v1, gp_i v2, v3]) (st' := [gp_i 1, gp_r (some 74)]) (s' := s) 2 rfl ?_
  refine gs_E.call (args := [gp_r (some 74), gp_i 1]) (m := 2) (y' := 3074) (st' := []) rfl H (fun r s1 H => ?_)
  obtain ⟨x2, rfl, H⟩ := H
  show gs_E L (d + 1) 3163 19 [gp_r (some 74), gp_i v1, gp_i v2, v3] [gp_i x2] s1 K
  exact gs_E.ret (r := (some (gp_i x2))) rfl H

set_option maxRecDepth 100000 in
/-- GatheredPointsModel.best, pc 64 -/
theorem s_3163_64 {L d : Nat} {K : Option gV → gH → Prop} {s : gH} (v1 : Int) (v2 : Int) (v3 : Int) (w0 : Int) (H : K (some (gp_i w0)) s) : gs_E L (d + 1) 3163 64 [gp_r (some 74), gp_i v1, gp_i v2, gp_i v3] [gp_i w0] s K := by
  exact gs_E.ret (r := (some (gp_i w0))) rfl H

set_option maxRecDepth 100000 in
/-- GatheredPointsModel.setsUpMatch, pc 0 -/
theorem s_3164_e {L d : Nat} {K : Option gV → gH → Prop} {s : gH}  (H : (∀ s1, s1 = gp_wI s 74 49 (gp_I s 74 55) → gs_E L d 3164 10 [gp_r (some 74), gp_i 0] [] s1 K)) : gs_C L d 3164 2 [gp_r (some 74)] s K := by
  show gs_E L d 3164 0 [gp_r (some 74), gp_n] [] s K
  refine gs_E.stp (pc' := 8) (ls' := [gp_r (some 74), gp_n]) (st' := []) (s' := gp_wI s 74 49 (gp_I s 74 55)) 4 rfl ?_
  replace H := H _ rfl
  generalize gp_wI s 74 49 (gp_I s 74 55) = s1 at H ⊢
  refine gs_E.stp (pc' := 10) (ls' := [gp_r (some 74), gp_i 0]) (st' := []) (s' := s1) 2 rfl ?_
  exact H

set_option maxRecDepth 100000 in
/-- GatheredPointsModel.setsUpMatch, pc 10 -/
theorem s_3164_10 {L d : Nat} {K : Option gV → gH → Prop} {s : gH} (v1 : Int) (H : ((v1 < (gp_I s 74 49) → ((0 ≤ v1 ∧ v1 < 3) ∧ (∀ s1, s1 = gp_wI s 106 v1.toNat (gp_wr (16 + v1)) → ((0 ≤ v1 ∧ v1 < 3) ∧ ((0 ≤ v1 ∧ v1 < 3) ∧ (∀ s2, s2 = gp_wI s1 107 v1.toNat (gp_I s1 112 v1.toNat) → gs_E L d 3164 10 [gp_r (some 74), gp_i (gp_wr (v1 + 1))] [] s2 K)))))) ∧ (¬ v1 < (gp_I s 74 49) → K none s))) : gs_E L d 3164 10 [gp_r (some 74), gp_i v1] [] s K := by
  refine gs_E.stp (pc' := 15) (ls' := [gp_r (some 74), gp_i v1]) (st' := [gp_i (gp_I s 74 49), gp_i v1]) (s' := s) 3 rfl ?_
  refine gs_E.br (c := ¬ v1 < (gp_I s 74 49)) (p1 := 46) (p2 := 18) (l1 := [gp_r (some 74), gp_i v1]) (l2 := [gp_r (some 74), gp_i v1]) (s1 := []) (s2 := []) rfl gs_b2 (fun hc => ?_) (fun hc => ?_)
  · replace H := H.2 hc
    exact gs_E.ret (r := none) rfl H
  · replace H := H.1 (Decidable.byContradiction hc)
    refine gs_E.stp (pc' := 27) (ls' := [gp_r (some 74), gp_i v1]) (st' := [gp_i (gp_wr (16 + v1)), gp_i v1, gp_r (some 106)]) (s' := s) 6 rfl ?_
    refine gs_E.ck (pc' := 28) (ls' := [gp_r (some 74), gp_i v1]) (st' := []) (s' := gp_wI s 106 v1.toNat (gp_wr (16 + v1))) rfl ⟨rfl, H.1.1, H.1.2⟩ ?_
    replace H := H.2 _ rfl
    generalize gp_wI s 106 v1.toNat (gp_wr (16 + v1)) = s1 at H ⊢
    refine gs_E.stp (pc' := 38) (ls' := [gp_r (some 74), gp_i v1]) (st' := [gp_i v1, gp_r (some 112), gp_i v1, gp_r (some 107)]) (s' := s1) 6 rfl ?_
    refine gs_E.ck (pc' := 39) (ls' := [gp_r (some 74), gp_i v1]) (st' := [gp_i (gp_I s1 112 v1.toNat), gp_i v1, gp_r (some 107)]) (s' := s1) rfl (Or.inl ⟨rfl, H.1.1, H.1.2⟩) ?_
    replace H := H.2
    refine gs_E.ck (pc' := 40) (ls' := [gp_r (some 74), gp_i v1]) (st' := []) (s' := gp_wI s1 107 v1.toNat (gp_I s1 112 v1.toNat)) rfl ⟨rfl, H.1.1, H.1.2⟩ ?_
    replace H := H.2 _ rfl
    generalize gp_wI s1 107 v1.toNat (gp_I s1 112 v1.toNat) = s2 at H ⊢
    refine gs_E.stp (pc' := 10) (ls' := [gp_r (some 74), gp_i (gp_wr (v1 + 1))]) (st' := []) (s' := s2) 2 rfl ?_
    exact H

set_option maxRecDepth 100000 in
/-- GatheredPointsModel.optionsAt, pc 0 -/
theorem s_3165_e {L d : Nat} {K : Option gV → gH → Prop} {s : gH} (p0 : Int) (H : ((0 ≤ p0 ∧ p0 < 3) ∧ gs_C L d 3082 4 [gp_r (some 74), gp_i (gp_wr (16 + p0)), gp_i (gp_I s 112 p0.toNat), gp_i (gp_I s 74 56)] s (fun r s1 => ∃ m2, r = some (gp_l m2) ∧ K (some (gp_l m2)) s1))) : gs_C L (d + 1) 3165 2 [gp_r (some 74), gp_i p0] s K := by
  show gs_E L (d + 1) 3165 0 [gp_r (some 74), gp_i p0] [] s K
  refine gs_E.stp (pc' := 10) (ls' := [gp_r (some 74), gp_i p0]) (st' := [gp_i p0, gp_r (some 112), gp_i (gp_wr (16 + p0)), gp_r (some 74)]) (s' := s) 7 rfl ?_
  refine gs_E.ck (pc' := 11) (ls' := [gp_r (some 74), gp_i p0]) (st' := [gp_i (gp_I s 112 p0.toNat), gp_i (gp_wr (16 + p0)), gp_r (some 74)]) (s' := s) rfl (Or.inl ⟨rfl, H.1.1, H.1.2⟩) ?_
  replace H := H.2
  refine gs_E.stp (pc' := 15) (ls' := [gp_r (some 74), gp_i p0]) (st' := [gp_i (gp_I s 74 56), gp_i (gp_I s 112 p0.toNat), gp_i (gp_wr (16 + p0)), gp_r (some 74)]) (s' := s) 2 rfl ?_
  refine gs_E.call (args := [gp_r (some 74), gp_i (gp_wr (16 + p0)), gp_i (gp_I s 112 p0.toNat), gp_i (gp_I s 74 56)]) (m := 4) (y' := 3082) (st' := []) rfl H (fun r s1 H => ?_)
  obtain ⟨m2, rfl, H⟩ := H
  show gs_E L (d + 1) 3165 18 [gp_r (some 74), gp_i p0] [gp_l m2] s1 K
  exact gs_E.ret (r := (some (gp_l m2))) rfl H

set_option maxRecDepth 100000 in
/-- GatheredPointsModel.allMoves, pc 0 -/
theorem s_3166_e {L d : Nat} {K : Option gV → gH → Prop} {s : gH}  (H : gs_E L (d + 1) 3166 4 [gp_r (some 74), gp_i 0, gp_i 0] [] s K) : gs_C L (d + 1) 3166 3 [gp_r (some 74)] s K := by
  show gs_E L (d + 1) 3166 0 [gp_r (some 74), gp_n, gp_n] [] s K
  refine gs_E.stp (pc' := 4) (ls' := [gp_r (some 74), gp_i 0, gp_i 0]) (st' := []) (s' := s) 4 rfl ?_
  exact H

set_option maxRecDepth 100000 in
/-- GatheredPointsModel.allMoves, pc 4 -/
theorem s_3166_4 {L d : Nat} {K : Option gV → gH → Prop} {s : gH} (v1 : Int) (v2 : Int) (H : ((v2 < (gp_I s 74 55) → gs_C L d 3165 2 [gp_r (some 74), gp_i v2] s (fun r s1 => ∃ m2, r = some (gp_l m2) ∧ gs_C L d 3079 4 [gp_l m2] s1 (fun r s3 => ∃ x4, r = some (gp_i x4) ∧ gs_E L (d + 1) 3166 4 [gp_r (some 74), gp_i (gp_wr (v1 + x4)), gp_i (gp_wr (v2 + 1))] [] s3 K))) ∧ (¬ v2 < (gp_I s 74 55) → K (some (gp_i v1)) s))) : gs_E L (d + 1) 3166 4 [gp_r (some 74), gp_i v1, gp_i v2] [] s K := by
  refine gs_E.stp (pc' := 9) (ls' := [gp_r (some 74), gp_i v1, gp_i v2]) (st' := [gp_i (gp_I s 74 55), gp_i v2]) (s' := s) 3 rfl ?_
  refine gs_E.br (c := ¬ v2 < (gp_I s 74 55)) (p1 := 29) (p2 := 12) (l1 := [gp_r (some 74), gp_i v1, gp_i v2]) (l2 := [gp_r (some 74), gp_i v1, gp_i v2]) (s1 := []) (s2 := []) rfl gs_b2 (fun hc => ?_) (fun hc => ?_)
  · replace H := H.2 hc
    refine gs_E.stp (pc' := 30) (ls' := [gp_r (some 74), gp_i v1, gp_i v2]) (st' := [gp_i v1]) (s' := s) 1 rfl ?_
    exact gs_E.ret (r := (some (gp_i v1))) rfl H
  · replace H := H.1 (Decidable.byContradiction hc)
    refine gs_E.stp (pc' := 15) (ls' := [gp_r (some 74), gp_i v1, gp_i v2]) (st' := [gp_i v2, gp_r (some 74), gp_i v1]) (s' := s) 3 rfl ?_
    refine gs_E.call (args := [gp_r (some 74), gp_i v2]) (m := 2) (y' := 3165) (st' := [gp_i v1]) rfl H (fun r s1 H => ?_)
    obtain ⟨m2, rfl, H⟩ := H
    show gs_E L (d + 1) 3166 18 [gp_r (some 74), gp_i v1, gp_i v2] [gp_l m2, gp_i v1] s1 K
    refine gs_E.call (args := [gp_l m2]) (m := 4) (y' := 3079) (st' := [gp_i v1]) rfl H (fun r s3 H => ?_)
    obtain ⟨x4, rfl, H⟩ := H
    show gs_E L (d + 1) 3166 21 [gp_r (some 74), gp_i v1, gp_i v2] [gp_i x4, gp_i v1] s3 K
    refine gs_E.stp (pc' := 4) (ls' := [gp_r (some 74), gp_i (gp_wr (v1 + x4)), gp_i (gp_wr (v2 + 1))]) (st' := []) (s' := s3) 4 rfl ?_
    exact H

set_option maxRecDepth 100000 in
/-- GatheredPointsModel.isOver, pc 0 -/
theorem s_3167_e {L d : Nat} {K : Option gV → gH → Prop} {s : gH}  (H : gs_C L d 3166 3 [gp_r (some 74)] s (fun r s1 => ∃ x2, r = some (gp_i x2) ∧ ((x2 = 0 → gs_E L (d + 1) 3167 12 [gp_r (some 74)] [gp_i 1] s1 K) ∧ (¬ x2 = 0 → gs_E L (d + 1) 3167 12 [gp_r (some 74)] [gp_i 0] s1 K)))) : gs_C L (d + 1) 3167 1 [gp_r (some 74)] s K := by
  show gs_E L (d + 1) 3167 0 [gp_r (some 74)] [] s K
  refine gs_E.stp (pc' := 1) (ls' := [gp_r (some 74)]) (st' := [gp_r (some 74)]) (s' := s) 1 rfl ?_
  refine gs_E.call (args := [gp_r (some 74)]) (m := 3) (y' := 3166) (st' := []) rfl H (fun r s1 H => ?_)
  obtain ⟨x2, rfl, H⟩ := H
  show gs_E L (d + 1) 3167 4 [gp_r (some 74)] [gp_i x2] s1 K
  refine gs_E.br (c := ¬ x2 = 0) (p1 := 11) (p2 := 7) (l1 := [gp_r (some 74)]) (l2 := [gp_r (some 74)]) (s1 := []) (s2 := []) rfl gs_b2 (fun hc => ?_) (fun hc => ?_)
  · replace H := H.2 hc
    refine gs_E.stp (pc' := 12) (ls' := [gp_r (some 74)]) (st' := [gp_i 0]) (s' := s1) 1 rfl ?_
    exact H
  · replace H := H.1 (Decidable.byContradiction hc)
    refine gs_E.stp (pc' := 12) (ls' := [gp_r (some 74)]) (st' := [gp_i 1]) (s' := s1) 2 rfl ?_
    exact H

set_option maxRecDepth 100000 in
/-- GatheredPointsModel.isOver, pc 12 -/
theorem s_3167_12 {L d : Nat} {K : Option gV → gH → Prop} {s : gH} (w0 : Int) (H : ((w0 = 0 ∨ w0 = 1) ∧ K (some (gp_i w0)) s)) : gs_E L (d + 1) 3167 12 [gp_r (some 74)] [gp_i w0] s K := by
  exact gs_E.retz (r := (some (gp_i w0))) rfl H.1 H.2

set_option maxRecDepth 100000 in
/-- GatheredPointsModel.begin, pc 0 -/
theorem s_3168_e {L d : Nat} {K : Option gV → gH → Prop} {s : gH} (p0 : Int) (p1 : Int) (H : gs_C L d 3155 1 [gp_i p0] s (fun r s1 => ∃ x2, r = some (gp_i x2) ∧ ((x2 = 0 → gs_E L (d + 1) 3168 14 [gp_r (some 74), gp_i p0, gp_i p1, gp_n] [] s1 K) ∧ (¬ x2 = 0 → gs_C L d 3077 1 [gp_i p1] s1 (fun r s3 => ∃ x4, r = some (gp_i x4) ∧ ((x4 = 0 → gs_E L (d + 1) 3168 14 [gp_r (some 74), gp_i p0, gp_i p1, gp_n] [] s3 K) ∧ (¬ x4 = 0 → (∀ s5, s5 = gp_wI s3 74 55 0 → gs_E L (d + 1) 3168 27 [gp_r (some 74), gp_i p0, gp_i p1, gp_i 0] [] s5 K)))))))) : gs_C L (d + 1) 3168 4 [gp_r (some 74), gp_i p0, gp_i p1] s K := by
  show gs_E L (d + 1) 3168 0 [gp_r (some 74), gp_i p0, gp_i p1, gp_n] [] s K
  refine gs_E.stp (pc' := 1) (ls' := [gp_r (some 74), gp_i p0, gp_i p1, gp_n]) (st' := [gp_i p0]) (s' := s) 1 rfl ?_
  refine gs_E.call (args := [gp_i p0]) (m := 1) (y' := 3155) (st' := []) rfl H (fun r s1 H => ?_)
  obtain ⟨x2, rfl, H⟩ := H
  show gs_E L (d + 1) 3168 4 [gp_r (some 74), gp_i p0, gp_i p1, gp_n] [gp_i x2] s1 K
  refine gs_E.br (c := x2 = 0) (p1 := 14) (p2 := 7) (l1 := [gp_r (some 74), gp_i p0, gp_i p1, gp_n]) (l2 := [gp_r (some 74), gp_i p0, gp_i p1, gp_n]) (s1 := []) (s2 := []) rfl gs_b1 (fun hc => ?_) (fun hc => ?_)
  · replace H := H.1 hc
    exact H
  · replace H := H.2 hc
    refine gs_E.stp (pc' := 8) (ls' := [gp_r (some 74), gp_i p0, gp_i p1, gp_n]) (st' := [gp_i p1]) (s' := s1) 1 rfl ?_
    refine gs_E.call (args := [gp_i p1]) (m := 1) (y' := 3077) (st' := []) rfl H (fun r s3 H => ?_)
    obtain ⟨x4, rfl, H⟩ := H
    show gs_E L (d + 1) 3168 11 [gp_r (some 74), gp_i p0, gp_i p1, gp_n] [gp_i x4] s3 K
    refine gs_E.br (c := ¬ x4 = 0) (p1 := 20) (p2 := 14) (l1 := [gp_r (some 74), gp_i p0, gp_i p1, gp_n]) (l2 := [gp_r (some 74), gp_i p0, gp_i p1, gp_n]) (s1 := []) (s2 := []) rfl gs_b2 (fun hc => ?_) (fun hc => ?_)
    · replace H := H.2 hc
      refine gs_E.stp (pc' := 25) (ls' := [gp_r (some 74), gp_i p0, gp_i p1, gp_n]) (st' := []) (s' := gp_wI s3 74 55 0) 3 rfl ?_
      replace H := H _ rfl
      generalize gp_wI s3 74 55 0 = s5 at H ⊢
      refine gs_E.stp (pc' := 27) (ls' := [gp_r (some 74), gp_i p0, gp_i p1, gp_i 0]) (st' := []) (s' := s5) 2 rfl ?_
      exact H
    · replace H := H.1 (Decidable.byContradiction hc)
      exact H

set_option maxRecDepth 100000 in
/-- GatheredPointsModel.begin, pc 14 -/
theorem s_3168_14 {L d : Nat} {K : Option gV → gH → Prop} {s : gH} (v1 : Int) (v2 : Int) (v3 : gV) (H : gs_C L d 3074 2 [gp_r (some 74), gp_i 1] s (fun r s1 => ∃ x2, r = some (gp_i x2) ∧ K (some (gp_i x2)) s1)) : gs_E L (d + 1) 3168 14 [gp_r (some 74), gp_i v1, gp_i v2, v3] [] s K := by
  refine gs_E.stp (pc' := 16) (ls' := [gp_r (some 74), gp_i v1, gp_i v2, v3]) (st' := [gp_i 1, gp_r (some 74)]) (s' := s) 2 rfl ?_
  refine gs_E.call (args := [gp_r (some 74), gp_i 1]) (m := 2) (y' := 3074) (st' := []) rfl H (fun r s1 H => ?_)
  obtain ⟨x2, rfl, H⟩ := H
  show gs_E L (d + 1) 3168 19 [gp_r (some 74), gp_i v1, gp_i v2, v3] [gp_i x2] s1 K
  exact gs_E.ret (r := (some (gp_i x2))) rfl H

set_option maxRecDepth 100000 in
/-- GatheredPointsModel.begin, pc 27 -/
theorem s_3168_27 {L d : Nat} {K : Option gV → gH → Prop} {s : gH} (v1 : Int) (v2 : Int) (v3 : Int) (H : ((v3 < 8 → gs_C L d 3078 3 [gp_l (BitVec.ofInt 64 v1), gp_i v3] s (fun r s6 => ∃ x7, r = some (gp_i x7) ∧ ((x7 = 0 → gs_E L (d + 1) 3168 88 [gp_r (some 74), gp_i v1, gp_i v2, gp_i v3] [] s6 K) ∧ (¬ x7 = 0 → gs_C L d 3084 6 [gp_r (some 74), gp_i v3, gp_i (gp_wr (16 + (gp_I s6 74 55)))] s6 (fun r s8 => r = none ∧ ((0 ≤ (gp_I s8 74 55) ∧ (gp_I s8 74 55) < 3) ∧ (∀ s9, s9 = gp_wI s8 111 (gp_I s8 74 55).toNat v3 → gs_C L d 3081 2 [gp_r (some 74), gp_i v3] s9 (fun r s10 => ∃ x11, r = some (gp_i x11) ∧ ((0 ≤ (gp_I s9 74 55) ∧ (gp_I s9 74 55) < 3) ∧ (∀ s12, s12 = gp_wI s10 112 (gp_I s9 74 55).toNat x11 → (∀ s13, s13 = gp_wI s12 74 55 (gp_wr ((gp_I s12 74 55) + 1)) → gs_E L (d + 1) 3168 88 [gp_r (some 74), gp_i v1, gp_i v2, gp_i v3] [] s13 K))))))))))) ∧ (¬ v3 < 8 → (∀ s1, s1 = gp_wI s 74 56 v2 → (∀ s2, s2 = gp_wI s1 74 57 0 → (∀ s3, s3 = gp_wI s2 74 58 1 → gs_C L d 3167 1 [gp_r (some 74)] s3 (fun r s4 => ∃ x5, r = some (gp_i x5) ∧ ((x5 = 0 → gs_E L (d + 1) 3168 121 [gp_r (some 74), gp_i v1, gp_i v2, gp_i v3] [gp_i 0] s4 K) ∧ (¬ x5 = 0 → gs_E L (d + 1) 3168 121 [gp_r (some 74), gp_i v1, gp_i v2, gp_i v3] [gp_i 1] s4 K))))))))) : gs_E L (d + 1) 3168 27 [gp_r (some 74), gp_i v1, gp_i v2, gp_i v3] [] s K := by
  refine gs_E.stp (pc' := 30) (ls' := [gp_r (some 74), gp_i v1, gp_i v2, gp_i v3]) (st' := [gp_i 8, gp_i v3]) (s' := s) 2 rfl ?_
  refine gs_E.br (c := ¬ v3 < 8) (p1 := 94) (p2 := 33) (l1 := [gp_r (some 74), gp_i v1, gp_i v2, gp_i v3]) (l2 := [gp_r (some 74), gp_i v1, gp_i v2, gp_i v3]) (s1 := []) (s2 := []) rfl gs_b2 (fun hc => ?_) (fun hc => ?_)
  · replace H := H.2 hc
    refine gs_E.stp (pc' := 99) (ls' := [gp_r (some 74), gp_i v1, gp_i v2, gp_i v3]) (st' := []) (s' := gp_wI s 74 56 v2) 3 rfl ?_
    replace H := H _ rfl
    generalize gp_wI s 74 56 v2 = s1 at H ⊢
    refine gs_E.stp (pc' := 104) (ls' := [gp_r (some 74), gp_i v1, gp_i v2, gp_i v3]) (st' := []) (s' := gp_wI s1 74 57 0) 3 rfl ?_
    replace H := H _ rfl
    generalize gp_wI s1 74 57 0 = s2 at H ⊢
    refine gs_E.stp (pc' := 109) (ls' := [gp_r (some 74), gp_i v1, gp_i v2, gp_i v3]) (st' := []) (s' := gp_wI s2 74 58 1) 3 rfl ?_
    replace H := H _ rfl
    generalize gp_wI s2 74 58 1 = s3 at H ⊢
    refine gs_E.stp (pc' := 110) (ls' := [gp_r (some 74), gp_i v1, gp_i v2, gp_i v3]) (st' := [gp_r (some 74)]) (s' := s3) 1 rfl ?_
    refine gs_E.call (args := [gp_r (some 74)]) (m := 1) (y' := 3167) (st' := []) rfl H (fun r s4 H => ?_)
    obtain ⟨x5, rfl, H⟩ := H
    show gs_E L (d + 1) 3168 113 [gp_r (some 74), gp_i v1, gp_i v2, gp_i v3] [gp_i x5] s4 K
    refine gs_E.br (c := x5 = 0) (p1 := 120) (p2 := 116) (l1 := [gp_r (some 74), gp_i v1, gp_i v2, gp_i v3]) (l2 := [gp_r (some 74), gp_i v1, gp_i v2, gp_i v3]) (s1 := []) (s2 := []) rfl gs_b1 (fun hc => ?_) (fun hc => ?_)
    · replace H := H.1 hc
      refine gs_E.stp (pc' := 121) (ls' := [gp_r (some 74), gp_i v1, gp_i v2, gp_i v3]) (st' := [gp_i 0]) (s' := s4) 1 rfl ?_
      exact H
    · replace H := H.2 hc
      refine gs_E.stp (pc' := 121) (ls' := [gp_r (some 74), gp_i v1, gp_i v2, gp_i v3]) (st' := [gp_i 1]) (s' := s4) 2 rfl ?_
      exact H
  · replace H := H.1 (Decidable.byContradiction hc)
    refine gs_E.stp (pc' := 36) (ls' := [gp_r (some 74), gp_i v1, gp_i v2, gp_i v3]) (st' := [gp_i v3, gp_l (BitVec.ofInt 64 v1)]) (s' := s) 3 rfl ?_
    refine gs_E.call (args := [gp_l (BitVec.ofInt 64 v1), gp_i v3]) (m := 3) (y' := 3078) (st' := []) rfl H (fun r s6 H => ?_)
    obtain ⟨x7, rfl, H⟩ := H
    show gs_E L (d + 1) 3168 39 [gp_r (some 74), gp_i v1, gp_i v2, gp_i v3] [gp_i x7] s6 K
    refine gs_E.br (c := x7 = 0) (p1 := 88) (p2 := 42) (l1 := [gp_r (some 74), gp_i v1, gp_i v2, gp_i v3]) (l2 := [gp_r (some 74), gp_i v1, gp_i v2, gp_i v3]) (s1 := []) (s2 := []) rfl gs_b1 (fun hc => ?_) (fun hc => ?_)
    · replace H := H.1 hc
      exact H
    · replace H := H.2 hc
      refine gs_E.stp (pc' := 51) (ls' := [gp_r (some 74), gp_i v1, gp_i v2, gp_i v3]) (st' := [gp_i (gp_wr (16 + (gp_I s6 74 55))), gp_i v3, gp_r (some 74)]) (s' := s6) 6 rfl ?_
      refine gs_E.call (args := [gp_r (some 74), gp_i v3, gp_i (gp_wr (16 + (gp_I s6 74 55)))]) (m := 6) (y' := 3084) (st' := []) rfl H (fun r s8 H => ?_)
      obtain ⟨rfl, H⟩ := H
      show gs_E L (d + 1) 3168 54 [gp_r (some 74), gp_i v1, gp_i v2, gp_i v3] [] s8 K
      refine gs_E.stp (pc' := 63) (ls' := [gp_r (some 74), gp_i v1, gp_i v2, gp_i v3]) (st' := [gp_i v3, gp_i (gp_I s8 74 55), gp_r (some 111)]) (s' := s8) 5 rfl ?_
      refine gs_E.ck (pc' := 64) (ls' := [gp_r (some 74), gp_i v1, gp_i v2, gp_i v3]) (st' := []) (s' := gp_wI s8 111 (gp_I s8 74 55).toNat v3) rfl ⟨rfl, H.1.1, H.1.2⟩ ?_
      replace H := H.2 _ rfl
      generalize gp_wI s8 111 (gp_I s8 74 55).toNat v3 = s9 at H ⊢
      refine gs_E.stp (pc' := 74) (ls' := [gp_r (some 74), gp_i v1, gp_i v2, gp_i v3]) (st' := [gp_i v3, gp_r (some 74), gp_i (gp_I s9 74 55), gp_r (some 112)]) (s' := s9) 6 rfl ?_
      refine gs_E.call (args := [gp_r (some 74), gp_i v3]) (m := 2) (y' := 3081) (st' := [gp_i (gp_I s9 74 55), gp_r (some 112)]) rfl H (fun r s10 H => ?_)
      obtain ⟨x11, rfl, H⟩ := H
      show gs_E L (d + 1) 3168 77 [gp_r (some 74), gp_i v1, gp_i v2, gp_i v3] [gp_i x11, gp_i (gp_I s9 74 55), gp_r (some 112)] s10 K
      refine gs_E.ck (pc' := 78) (ls' := [gp_r (some 74), gp_i v1, gp_i v2, gp_i v3]) (st' := []) (s' := gp_wI s10 112 (gp_I s9 74 55).toNat x11) rfl ⟨rfl, H.1.1, H.1.2⟩ ?_
      replace H := H.2 _ rfl
      generalize gp_wI s10 112 (gp_I s9 74 55).toNat x11 = s12 at H ⊢
      refine gs_E.stp (pc' := 88) (ls' := [gp_r (some 74), gp_i v1, gp_i v2, gp_i v3]) (st' := []) (s' := gp_wI s12 74 55 (gp_wr ((gp_I s12 74 55) + 1))) 6 rfl ?_
      replace H := H _ rfl
      generalize gp_wI s12 74 55 (gp_wr ((gp_I s12 74 55) + 1)) = s13 at H ⊢
      exact H

set_option maxRecDepth 100000 in
/-- GatheredPointsModel.begin, pc 88 -/
theorem s_3168_88 {L d : Nat} {K : Option gV → gH → Prop} {s : gH} (v1 : Int) (v2 : Int) (v3 : Int) (H : gs_E L (d + 1) 3168 27 [gp_r (some 74), gp_i v1, gp_i v2, gp_i (gp_wr (v3 + 1))] [] s K) : gs_E L (d + 1) 3168 88 [gp_r (some 74), gp_i v1, gp_i v2, gp_i v3] [] s K := by
  refine gs_E.stp (pc' := 27) (ls' := [gp_r (some 74), gp_i v1, gp_i v2, gp_i (gp_wr (v3 + 1))]) (st' := []) (s' := s) 2 rfl ?_
  exact H

set_option maxRecDepth 100000 in
/-- GatheredPointsModel.begin, pc 121 -/
theorem s_3168_121 {L d : Nat} {K : Option gV → gH → Prop} {s : gH} (v1 : Int) (v2 : Int) (v3 : Int) (w0 : Int) (H : K (some (gp_i w0)) s) : gs_E L (d + 1) 3168 121 [gp_r (some 74), gp_i v1, gp_i v2, gp_i v3] [gp_i w0] s K := by
  exact gs_E.ret (r := (some (gp_i w0))) rfl H

set_option maxRecDepth 100000 in
/-- GatheredPointsModel.moves, pc 0 -/
theorem s_3169_e {L d : Nat} {K : Option gV → gH → Prop} {s : gH} (p0 : Int) (p1 : Int) (H : ((0 ≤ (gp_I s 74 57) ∧ (gp_I s 74 57) < 200) ∧ (∀ s1, s1 = gp_wI s 113 (gp_I s 74 57).toNat p0 → ((0 ≤ (gp_I s1 74 57) ∧ (gp_I s1 74 57) < 200) ∧ (∀ s2, s2 = gp_wI s1 114 (gp_I s1 74 57).toNat p1 → ((0 ≤ p0 ∧ p0 < 3) ∧ ((0 ≤ (gp_I s2 74 57) ∧ (gp_I s2 74 57) < 200) ∧ (∀ s3, s3 = gp_wI s2 115 (gp_I s2 74 57).toNat (gp_I s2 112 p0.toNat) → (∀ s4, s4 = gp_wI s3 74 57 (gp_wr ((gp_I s3 74 57) + 1)) → gs_C L d 3165 2 [gp_r (some 74), gp_i p0] s4 (fun r s5 => ∃ m6, r = some (gp_l m6) ∧ gs_C L d 3080 5 [gp_l m6, gp_i p1] s5 (fun r s7 => ∃ x8, r = some (gp_i x8) ∧ ((0 ≤ p0 ∧ p0 < 3) ∧ (∀ s9, s9 = gp_wI s7 112 p0.toNat x8 → (∀ s10, s10 = gp_wI s9 74 56 (gp_wr (1 - (gp_I s9 74 56))) → K none s10)))))))))))))) : gs_C L (d + 1) 3169 3 [gp_r (some 74), gp_i p0, gp_i p1] s K := by
  show gs_E L (d + 1) 3169 0 [gp_r (some 74), gp_i p0, gp_i p1] [] s K
  refine gs_E.stp (pc' := 9) (ls' := [gp_r (some 74), gp_i p0, gp_i p1]) (st' := [gp_i p0, gp_i (gp_I s 74 57), gp_r (some 113)]) (s' := s) 5 rfl ?_
  refine gs_E.ck (pc' := 10) (ls' := [gp_r (some 74), gp_i p0, gp_i p1]) (st' := []) (s' := gp_wI s 113 (gp_I s 74 57).toNat p0) rfl ⟨rfl, H.1.1, H.1.2⟩ ?_
  replace H := H.2 _ rfl
  generalize gp_wI s 113 (gp_I s 74 57).toNat p0 = s1 at H ⊢
  refine gs_E.stp (pc' := 19) (ls' := [gp_r (some 74), gp_i p0, gp_i p1]) (st' := [gp_i p1, gp_i (gp_I s1 74 57), gp_r (some 114)]) (s' := s1) 5 rfl ?_
  refine gs_E.ck (pc' := 20) (ls' := [gp_r (some 74), gp_i p0, gp_i p1]) (st' := []) (s' := gp_wI s1 114 (gp_I s1 74 57).toNat p1) rfl ⟨rfl, H.1.1, H.1.2⟩ ?_
  replace H := H.2 _ rfl
  generalize gp_wI s1 114 (gp_I s1 74 57).toNat p1 = s2 at H ⊢
  refine gs_E.stp (pc' := 33) (ls' := [gp_r (some 74), gp_i p0, gp_i p1]) (st' := [gp_i p0, gp_r (some 112), gp_i (gp_I s2 74 57), gp_r (some 115)]) (s' := s2) 7 rfl ?_
  refine gs_E.ck (pc' := 34) (ls' := [gp_r (some 74), gp_i p0, gp_i p1]) (st' := [gp_i (gp_I s2 112 p0.toNat), gp_i (gp_I s2 74 57), gp_r (some 115)]) (s' := s2) rfl (Or.inl ⟨rfl, H.1.1, H.1.2⟩) ?_
  replace H := H.2
  refine gs_E.ck (pc' := 35) (ls' := [gp_r (some 74), gp_i p0, gp_i p1]) (st' := []) (s' := gp_wI s2 115 (gp_I s2 74 57).toNat (gp_I s2 112 p0.toNat)) rfl ⟨rfl, H.1.1, H.1.2⟩ ?_
  replace H := H.2 _ rfl
  generalize gp_wI s2 115 (gp_I s2 74 57).toNat (gp_I s2 112 p0.toNat) = s3 at H ⊢
  refine gs_E.stp (pc' := 45) (ls' := [gp_r (some 74), gp_i p0, gp_i p1]) (st' := []) (s' := gp_wI s3 74 57 (gp_wr ((gp_I s3 74 57) + 1))) 6 rfl ?_
  replace H := H _ rfl
  generalize gp_wI s3 74 57 (gp_wr ((gp_I s3 74 57) + 1)) = s4 at H ⊢
  refine gs_E.stp (pc' := 52) (ls' := [gp_r (some 74), gp_i p0, gp_i p1]) (st' := [gp_i p0, gp_r (some 74), gp_i p0, gp_r (some 112)]) (s' := s4) 5 rfl ?_
  refine gs_E.call (args := [gp_r (some 74), gp_i p0]) (m := 2) (y' := 3165) (st' := [gp_i p0, gp_r (some 112)]) rfl H (fun r s5 H => ?_)
  obtain ⟨m6, rfl, H⟩ := H
  show gs_E L (d + 1) 3169 55 [gp_r (some 74), gp_i p0, gp_i p1] [gp_l m6, gp_i p0, gp_r (some 112)] s5 K
  refine gs_E.stp (pc' := 56) (ls' := [gp_r (some 74), gp_i p0, gp_i p1]) (st' := [gp_i p1, gp_l m6, gp_i p0, gp_r (some 112)]) (s' := s5) 1 rfl ?_
  refine gs_E.call (args := [gp_l m6, gp_i p1]) (m := 5) (y' := 3080) (st' := [gp_i p0, gp_r (some 112)]) rfl H (fun r s7 H => ?_)
  obtain ⟨x8, rfl, H⟩ := H
  show gs_E L (d + 1) 3169 59 [gp_r (some 74), gp_i p0, gp_i p1] [gp_i x8, gp_i p0, gp_r (some 112)] s7 K
  refine gs_E.ck (pc' := 60) (ls' := [gp_r (some 74), gp_i p0, gp_i p1]) (st' := []) (s' := gp_wI s7 112 p0.toNat x8) rfl ⟨rfl, H.1.1, H.1.2⟩ ?_
  replace H := H.2 _ rfl
  generalize gp_wI s7 112 p0.toNat x8 = s9 at H ⊢
  refine gs_E.stp (pc' := 70) (ls' := [gp_r (some 74), gp_i p0, gp_i p1]) (st' := []) (s' := gp_wI s9 74 56 (gp_wr (1 - (gp_I s9 74 56)))) 6 rfl ?_
  replace H := H _ rfl
  generalize gp_wI s9 74 56 (gp_wr (1 - (gp_I s9 74 56))) = s10 at H ⊢
  exact gs_E.ret (r := none) rfl H

set_option maxRecDepth 100000 in
/-- GatheredPointsModel.boardOf, pc 0 -/
theorem s_3170_e {L d : Nat} {K : Option gV → gH → Prop} {s : gH} (p0 : Int) (H : gs_E L d 3170 2 [gp_r (some 74), gp_i p0, gp_i 0] [] s K) : gs_C L d 3170 3 [gp_r (some 74), gp_i p0] s K := by
  show gs_E L d 3170 0 [gp_r (some 74), gp_i p0, gp_n] [] s K
  refine gs_E.stp (pc' := 2) (ls' := [gp_r (some 74), gp_i p0, gp_i 0]) (st' := []) (s' := s) 2 rfl ?_
  exact H

set_option maxRecDepth 100000 in
/-- GatheredPointsModel.boardOf, pc 2 -/
theorem s_3170_2 {L d : Nat} {K : Option gV → gH → Prop} {s : gH} (v1 : Int) (v2 : Int) (H : ((v2 < (gp_I s 74 55) → ((0 ≤ v2 ∧ v2 < 3) ∧ (((gp_I s 111 v2.toNat) = v1 → K (some (gp_i v2)) s) ∧ (¬ (gp_I s 111 v2.toNat) = v1 → gs_E L d 3170 2 [gp_r (some 74), gp_i v1, gp_i (gp_wr (v2 + 1))] [] s K)))) ∧ (¬ v2 < (gp_I s 74 55) → K (some (gp_i (-1))) s))) : gs_E L d 3170 2 [gp_r (some 74), gp_i v1, gp_i v2] [] s K := by
  refine gs_E.stp (pc' := 7) (ls' := [gp_r (some 74), gp_i v1, gp_i v2]) (st' := [gp_i (gp_I s 74 55), gp_i v2]) (s' := s) 3 rfl ?_
  refine gs_E.br (c := ¬ v2 < (gp_I s 74 55)) (p1 := 28) (p2 := 10) (l1 := [gp_r (some 74), gp_i v1, gp_i v2]) (l2 := [gp_r (some 74), gp_i v1, gp_i v2]) (s1 := []) (s2 := []) rfl gs_b2 (fun hc => ?_) (fun hc => ?_)
  · replace H := H.2 hc
    refine gs_E.stp (pc' := 29) (ls' := [gp_r (some 74), gp_i v1, gp_i v2]) (st' := [gp_i (-1)]) (s' := s) 1 rfl ?_
    exact gs_E.ret (r := (some (gp_i (-1)))) rfl H
  · replace H := H.1 (Decidable.byContradiction hc)
    refine gs_E.stp (pc' := 15) (ls' := [gp_r (some 74), gp_i v1, gp_i v2]) (st' := [gp_i v2, gp_r (some 111)]) (s' := s) 3 rfl ?_
    refine gs_E.ck (pc' := 16) (ls' := [gp_r (some 74), gp_i v1, gp_i v2]) (st' := [gp_i (gp_I s 111 v2.toNat)]) (s' := s) rfl (Or.inl ⟨rfl, H.1.1, H.1.2⟩) ?_
    replace H := H.2
    refine gs_E.stp (pc' := 17) (ls' := [gp_r (some 74), gp_i v1, gp_i v2]) (st' := [gp_i v1, gp_i (gp_I s 111 v2.toNat)]) (s' := s) 1 rfl ?_
    refine gs_E.br (c := ¬ (gp_I s 111 v2.toNat) = v1) (p1 := 22) (p2 := 20) (l1 := [gp_r (some 74), gp_i v1, gp_i v2]) (l2 := [gp_r (some 74), gp_i v1, gp_i v2]) (s1 := []) (s2 := []) rfl gs_b2 (fun hc => ?_) (fun hc => ?_)
    · replace H := H.2 hc
      refine gs_E.stp (pc' := 2) (ls' := [gp_r (some 74), gp_i v1, gp_i (gp_wr (v2 + 1))]) (st' := []) (s' := s) 2 rfl ?_
      exact H
    · replace H := H.1 (Decidable.byContradiction hc)
      refine gs_E.stp (pc' := 21) (ls' := [gp_r (some 74), gp_i v1, gp_i v2]) (st' := [gp_i v2]) (s' := s) 1 rfl ?_
      exact gs_E.ret (r := (some (gp_i v2))) rfl H

set_option maxRecDepth 100000 in
/-- GatheredPointsModel.go, pc 0 -/
theorem s_3171_e {L d : Nat} {K : Option gV → gH → Prop} {s : gH} (p0 : Int) (p1 : Int) (H : (((gp_I s 74 58) = 0 → gs_C L d 3074 2 [gp_r (some 74), gp_i 2] s (fun r s16 => ∃ x17, r = some (gp_i x17) ∧ K (some (gp_i x17)) s16)) ∧ (¬ (gp_I s 74 58) = 0 → gs_C L d 3167 1 [gp_r (some 74)] s (fun r s1 => ∃ x2, r = some (gp_i x2) ∧ ((x2 = 0 → gs_C L d 3170 3 [gp_r (some 74), gp_i p0] s1 (fun r s3 => ∃ x4, r = some (gp_i x4) ∧ ((x4 < 0 → gs_E L (d + 1) 3171 56 [gp_r (some 74), gp_i p0, gp_i p1, gp_i x4] [] s3 K) ∧ (¬ x4 < 0 → gs_C L d 3165 2 [gp_r (some 74), gp_i x4] s3 (fun r s5 => ∃ m6, r = some (gp_l m6) ∧ gs_C L d 3079 4 [gp_l m6] s5 (fun r s7 => ∃ x8, r = some (gp_i x8) ∧ gs_C L d 3073 6 [gp_l (BitVec.ofInt 64 p1), gp_l (0#64), gp_l (BitVec.ofInt 64 (gp_wr (x8 - 1)))] s7 (fun r s9 => ∃ x10, r = some (gp_i x10) ∧ ((x10 = 0 → gs_E L (d + 1) 3171 56 [gp_r (some 74), gp_i p0, gp_i p1, gp_i x4] [] s9 K) ∧ (¬ x10 = 0 → gs_C L d 3169 3 [gp_r (some 74), gp_i x4, gp_i p1] s9 (fun r s11 => r = none ∧ gs_C L d 3167 1 [gp_r (some 74)] s11 (fun r s12 => ∃ x13, r = some (gp_i x13) ∧ ((x13 = 0 → gs_E L (d + 1) 3171 80 [gp_r (some 74), gp_i p0, gp_i p1, gp_i x4] [gp_i 0] s12 K) ∧ (¬ x13 = 0 → gs_E L (d + 1) 3171 80 [gp_r (some 74), gp_i p0, gp_i p1, gp_i x4] [gp_i 1] s12 K))))))))))))) ∧ (¬ x2 = 0 → gs_C L d 3074 2 [gp_r (some 74), gp_i 3] s1 (fun r s14 => ∃ x15, r = some (gp_i x15) ∧ K (some (gp_i x15)) s14))))))) : gs_C L (d + 1) 3171 4 [gp_r (some 74), gp_i p0, gp_i p1] s K := by
  show gs_E L (d + 1) 3171 0 [gp_r (some 74), gp_i p0, gp_i p1, gp_n] [] s K
  refine gs_E.stp (pc' := 4) (ls' := [gp_r (some 74), gp_i p0, gp_i p1, gp_n]) (st' := [gp_i (gp_I s 74 58)]) (s' := s) 2 rfl ?_
  refine gs_E.br (c := ¬ (gp_I s 74 58) = 0) (p1 := 13) (p2 := 7) (l1 := [gp_r (some 74), gp_i p0, gp_i p1, gp_n]) (l2 := [gp_r (some 74), gp_i p0, gp_i p1, gp_n]) (s1 := []) (s2 := []) rfl gs_b2 (fun hc => ?_) (fun hc => ?_)
  · replace H := H.2 hc
    refine gs_E.stp (pc' := 14) (ls' := [gp_r (some 74), gp_i p0, gp_i p1, gp_n]) (st' := [gp_r (some 74)]) (s' := s) 1 rfl ?_
    refine gs_E.call (args := [gp_r (some 74)]) (m := 1) (y' := 3167) (st' := []) rfl H (fun r s1 H => ?_)
    obtain ⟨x2, rfl, H⟩ := H
    show gs_E L (d + 1) 3171 17 [gp_r (some 74), gp_i p0, gp_i p1, gp_n] [gp_i x2] s1 K
    refine gs_E.br (c := x2 = 0) (p1 := 26) (p2 := 20) (l1 := [gp_r (some 74), gp_i p0, gp_i p1, gp_n]) (l2 := [gp_r (some 74), gp_i p0, gp_i p1, gp_n]) (s1 := []) (s2 := []) rfl gs_b1 (fun hc => ?_) (fun hc => ?_)
    · replace H := H.1 hc
      refine gs_E.stp (pc' := 28) (ls' := [gp_r (some 74), gp_i p0, gp_i p1, gp_n]) (st' := [gp_i p0, gp_r (some 74)]) (s' := s1) 2 rfl ?_
      refine gs_E.call (args := [gp_r (some 74), gp_i p0]) (m := 3) (y' := 3170) (st' := []) rfl H (fun r s3 H => ?_)
      obtain ⟨x4, rfl, H⟩ := H
      show gs_E L (d + 1) 3171 31 [gp_r (some 74), gp_i p0, gp_i p1, gp_n] [gp_i x4] s3 K
      refine gs_E.stp (pc' := 33) (ls' := [gp_r (some 74), gp_i p0, gp_i p1, gp_i x4]) (st' := [gp_i x4]) (s' := s3) 2 rfl ?_
      refine gs_E.br (c := x4 < 0) (p1 := 56) (p2 := 36) (l1 := [gp_r (some 74), gp_i p0, gp_i p1, gp_i x4]) (l2 := [gp_r (some 74), gp_i p0, gp_i p1, gp_i x4]) (s1 := []) (s2 := []) rfl gs_b1 (fun hc => ?_) (fun hc => ?_)
      · replace H := H.1 hc
        exact H
      · replace H := H.2 hc
        refine gs_E.stp (pc' := 41) (ls' := [gp_r (some 74), gp_i p0, gp_i p1, gp_i x4]) (st' := [gp_i x4, gp_r (some 74), gp_l (0#64), gp_l (BitVec.ofInt 64 p1)]) (s' := s3) 5 rfl ?_
        refine gs_E.call (args := [gp_r (some 74), gp_i x4]) (m := 2) (y' := 3165) (st' := [gp_l (0#64), gp_l (BitVec.ofInt 64 p1)]) rfl H (fun r s5 H => ?_)
        obtain ⟨m6, rfl, H⟩ := H
        show gs_E L (d + 1) 3171 44 [gp_r (some 74), gp_i p0, gp_i p1, gp_i x4] [gp_l m6, gp_l (0#64), gp_l (BitVec.ofInt 64 p1)] s5 K
        refine gs_E.call (args := [gp_l m6]) (m := 4) (y' := 3079) (st' := [gp_l (0#64), gp_l (BitVec.ofInt 64 p1)]) rfl H (fun r s7 H => ?_)
        obtain ⟨x8, rfl, H⟩ := H
        show gs_E L (d + 1) 3171 47 [gp_r (some 74), gp_i p0, gp_i p1, gp_i x4] [gp_i x8, gp_l (0#64), gp_l (BitVec.ofInt 64 p1)] s7 K
        refine gs_E.stp (pc' := 50) (ls' := [gp_r (some 74), gp_i p0, gp_i p1, gp_i x4]) (st' := [gp_l (BitVec.ofInt 64 (gp_wr (x8 - 1))), gp_l (0#64), gp_l (BitVec.ofInt 64 p1)]) (s' := s7) 3 rfl ?_
        refine gs_E.call (args := [gp_l (BitVec.ofInt 64 p1), gp_l (0#64), gp_l (BitVec.ofInt 64 (gp_wr (x8 - 1)))]) (m := 6) (y' := 3073) (st' := []) rfl H (fun r s9 H => ?_)
        obtain ⟨x10, rfl, H⟩ := H
        show gs_E L (d + 1) 3171 53 [gp_r (some 74), gp_i p0, gp_i p1, gp_i x4] [gp_i x10] s9 K
        refine gs_E.br (c := ¬ x10 = 0) (p1 := 62) (p2 := 56) (l1 := [gp_r (some 74), gp_i p0, gp_i p1, gp_i x4]) (l2 := [gp_r (some 74), gp_i p0, gp_i p1, gp_i x4]) (s1 := []) (s2 := []) rfl gs_b2 (fun hc => ?_) (fun hc => ?_)
        · replace H := H.2 hc
          refine gs_E.stp (pc' := 65) (ls' := [gp_r (some 74), gp_i p0, gp_i p1, gp_i x4]) (st' := [gp_i p1, gp_i x4, gp_r (some 74)]) (s' := s9) 3 rfl ?_
          refine gs_E.call (args := [gp_r (some 74), gp_i x4, gp_i p1]) (m := 3) (y' := 3169) (st' := []) rfl H (fun r s11 H => ?_)
          obtain ⟨rfl, H⟩ := H
          show gs_E L (d + 1) 3171 68 [gp_r (some 74), gp_i p0, gp_i p1, gp_i x4] [] s11 K
          refine gs_E.stp (pc' := 69) (ls' := [gp_r (some 74), gp_i p0, gp_i p1, gp_i x4]) (st' := [gp_r (some 74)]) (s' := s11) 1 rfl ?_
          refine gs_E.call (args := [gp_r (some 74)]) (m := 1) (y' := 3167) (st' := []) rfl H (fun r s12 H => ?_)
          obtain ⟨x13, rfl, H⟩ := H
          show gs_E L (d + 1) 3171 72 [gp_r (some 74), gp_i p0, gp_i p1, gp_i x4] [gp_i x13] s12 K
          refine gs_E.br (c := x13 = 0) (p1 := 79) (p2 := 75) (l1 := [gp_r (some 74), gp_i p0, gp_i p1, gp_i x4]) (l2 := [gp_r (some 74), gp_i p0, gp_i p1, gp_i x4]) (s1 := []) (s2 := []) rfl gs_b1 (fun hc => ?_) (fun hc => ?_)
          · replace H := H.1 hc
            refine gs_E.stp (pc' := 80) (ls' := [gp_r (some 74), gp_i p0, gp_i p1, gp_i x4]) (st' := [gp_i 0]) (s' := s12) 1 rfl ?_
            exact H
          · replace H := H.2 hc
            refine gs_E.stp (pc' := 80) (ls' := [gp_r (some 74), gp_i p0, gp_i p1, gp_i x4]) (st' := [gp_i 1]) (s' := s12) 2 rfl ?_
            exact H
        · replace H := H.1 (Decidable.byContradiction hc)
          exact H
    · replace H := H.2 hc
      refine gs_E.stp (pc' := 22) (ls' := [gp_r (some 74), gp_i p0, gp_i p1, gp_n]) (st' := [gp_i 3, gp_r (some 74)]) (s' := s1) 2 rfl ?_
      refine gs_E.call (args := [gp_r (some 74), gp_i 3]) (m := 2) (y' := 3074) (st' := []) rfl H (fun r s14 H => ?_)
      obtain ⟨x15, rfl, H⟩ := H
      show gs_E L (d + 1) 3171 25 [gp_r (some 74), gp_i p0, gp_i p1, gp_n] [gp_i x15] s14 K
      exact gs_E.ret (r := (some (gp_i x15))) rfl H
  · replace H := H.1 (Decidable.byContradiction hc)
    refine gs_E.stp (pc' := 9) (ls' := [gp_r (some 74), gp_i p0, gp_i p1, gp_n]) (st' := [gp_i 2, gp_r (some 74)]) (s' := s) 2 rfl ?_
    refine gs_E.call (args := [gp_r (some 74), gp_i 2]) (m := 2) (y' := 3074) (st' := []) rfl H (fun r s16 H => ?_)
    obtain ⟨x17, rfl, H⟩ := H
    show gs_E L (d + 1) 3171 12 [gp_r (some 74), gp_i p0, gp_i p1, gp_n] [gp_i x17] s16 K
    exact gs_E.ret (r := (some (gp_i x17))) rfl H

set_option maxRecDepth 100000 in
/-- GatheredPointsModel.go, pc 56 -/
theorem s_3171_56 {L d : Nat} {K : Option gV → gH → Prop} {s : gH} (v1 : Int) (v2 : Int) (v3 : Int) (H : gs_C L d 3074 2 [gp_r (some 74), gp_i 1] s (fun r s1 => ∃ x2, r = some (gp_i x2) ∧ K (some (gp_i x2)) s1)) : gs_E L (d + 1) 3171 56 [gp_r (some 74), gp_i v1, gp_i v2, gp_i v3] [] s K := by
  refine gs_E.stp (pc' := 58) (ls' := [gp_r (some 74), gp_i v1, gp_i v2, gp_i v3]) (st' := [gp_i 1, gp_r (some 74)]) (s' := s) 2 rfl ?_
  refine gs_E.call (args := [gp_r (some 74), gp_i 1]) (m := 2) (y' := 3074) (st' := []) rfl H (fun r s1 H => ?_)
  obtain ⟨x2, rfl, H⟩ := H
  show gs_E L (d + 1) 3171 61 [gp_r (some 74), gp_i v1, gp_i v2, gp_i v3] [gp_i x2] s1 K
  exact gs_E.ret (r := (some (gp_i x2))) rfl H

set_option maxRecDepth 100000 in
/-- GatheredPointsModel.go, pc 80 -/
theorem s_3171_80 {L d : Nat} {K : Option gV → gH → Prop} {s : gH} (v1 : Int) (v2 : Int) (v3 : Int) (w0 : Int) (H : K (some (gp_i w0)) s) : gs_E L (d + 1) 3171 80 [gp_r (some 74), gp_i v1, gp_i v2, gp_i v3] [gp_i w0] s K := by
  exact gs_E.ret (r := (some (gp_i w0))) rfl H

set_option maxRecDepth 100000 in
/-- GatheredPointsModel.play, pc 0 -/
theorem s_3172_e {L d : Nat} {K : Option gV → gH → Prop} {s : gH} (p0 : Int) (H : gs_C L d 3073 6 [gp_l (BitVec.ofInt 64 p0), gp_l (1#64), gp_l (BitVec.ofInt 64 20)] s (fun r s1 => ∃ x2, r = some (gp_i x2) ∧ ((x2 = 0 → gs_C L d 3074 2 [gp_r (some 74), gp_i 1] s1 (fun r s7 => ∃ x8, r = some (gp_i x8) ∧ K (some (gp_i x8)) s7)) ∧ (¬ x2 = 0 → (((gp_I s1 74 58) = 0 → gs_C L d 3074 2 [gp_r (some 74), gp_i 2] s1 (fun r s5 => ∃ x6, r = some (gp_i x6) ∧ K (some (gp_i x6)) s5)) ∧ (¬ (gp_I s1 74 58) = 0 → gs_C L d 3164 2 [gp_r (some 74)] s1 (fun r s3 => r = none ∧ gs_C L d 3156 7 [gp_r (some 74)] s3 (fun r s4 => r = none ∧ gs_E L (d + 1) 3172 41 [gp_r (some 74), gp_i p0, gp_i 0, gp_n] [] s4 K)))))))) : gs_C L (d + 1) 3172 4 [gp_r (some 74), gp_i p0] s K := by
  show gs_E L (d + 1) 3172 0 [gp_r (some 74), gp_i p0, gp_n, gp_n] [] s K
  refine gs_E.stp (pc' := 6) (ls' := [gp_r (some 74), gp_i p0, gp_n, gp_n]) (st' := [gp_l (BitVec.ofInt 64 20), gp_l (1#64), gp_l (BitVec.ofInt 64 p0)]) (s' := s) 4 rfl ?_
  refine gs_E.call (args := [gp_l (BitVec.ofInt 64 p0), gp_l (1#64), gp_l (BitVec.ofInt 64 20)]) (m := 6) (y' := 3073) (st' := []) rfl H (fun r s1 H => ?_)
  obtain ⟨x2, rfl, H⟩ := H
  show gs_E L (d + 1) 3172 9 [gp_r (some 74), gp_i p0, gp_n, gp_n] [gp_i x2] s1 K
  refine gs_E.br (c := ¬ x2 = 0) (p1 := 18) (p2 := 12) (l1 := [gp_r (some 74), gp_i p0, gp_n, gp_n]) (l2 := [gp_r (some 74), gp_i p0, gp_n, gp_n]) (s1 := []) (s2 := []) rfl gs_b2 (fun hc => ?_) (fun hc => ?_)
  · replace H := H.2 hc
    refine gs_E.stp (pc' := 22) (ls' := [gp_r (some 74), gp_i p0, gp_n, gp_n]) (st' := [gp_i (gp_I s1 74 58)]) (s' := s1) 2 rfl ?_
    refine gs_E.br (c := ¬ (gp_I s1 74 58) = 0) (p1 := 31) (p2 := 25) (l1 := [gp_r (some 74), gp_i p0, gp_n, gp_n]) (l2 := [gp_r (some 74), gp_i p0, gp_n, gp_n]) (s1 := []) (s2 := []) rfl gs_b2 (fun hc => ?_) (fun hc => ?_)
    · replace H := H.2 hc
      refine gs_E.stp (pc' := 32) (ls' := [gp_r (some 74), gp_i p0, gp_n, gp_n]) (st' := [gp_r (some 74)]) (s' := s1) 1 rfl ?_
      refine gs_E.call (args := [gp_r (some 74)]) (m := 2) (y' := 3164) (st' := []) rfl H (fun r s3 H => ?_)
      obtain ⟨rfl, H⟩ := H
      show gs_E L (d + 1) 3172 35 [gp_r (some 74), gp_i p0, gp_n, gp_n] [] s3 K
      refine gs_E.stp (pc' := 36) (ls' := [gp_r (some 74), gp_i p0, gp_n, gp_n]) (st' := [gp_r (some 74)]) (s' := s3) 1 rfl ?_
      refine gs_E.call (args := [gp_r (some 74)]) (m := 7) (y' := 3156) (st' := []) rfl H (fun r s4 H => ?_)
      obtain ⟨rfl, H⟩ := H
      show gs_E L (d + 1) 3172 39 [gp_r (some 74), gp_i p0, gp_n, gp_n] [] s4 K
      refine gs_E.stp (pc' := 41) (ls' := [gp_r (some 74), gp_i p0, gp_i 0, gp_n]) (st' := []) (s' := s4) 2 rfl ?_
      exact H
    · replace H := H.1 (Decidable.byContradiction hc)
      refine gs_E.stp (pc' := 27) (ls' := [gp_r (some 74), gp_i p0, gp_n, gp_n]) (st' := [gp_i 2, gp_r (some 74)]) (s' := s1) 2 rfl ?_
      refine gs_E.call (args := [gp_r (some 74), gp_i 2]) (m := 2) (y' := 3074) (st' := []) rfl H (fun r s5 H => ?_)
      obtain ⟨x6, rfl, H⟩ := H
      show gs_E L (d + 1) 3172 30 [gp_r (some 74), gp_i p0, gp_n, gp_n] [gp_i x6] s5 K
      exact gs_E.ret (r := (some (gp_i x6))) rfl H
  · replace H := H.1 (Decidable.byContradiction hc)
    refine gs_E.stp (pc' := 14) (ls' := [gp_r (some 74), gp_i p0, gp_n, gp_n]) (st' := [gp_i 1, gp_r (some 74)]) (s' := s1) 2 rfl ?_
    refine gs_E.call (args := [gp_r (some 74), gp_i 1]) (m := 2) (y' := 3074) (st' := []) rfl H (fun r s7 H => ?_)
    obtain ⟨x8, rfl, H⟩ := H
    show gs_E L (d + 1) 3172 17 [gp_r (some 74), gp_i p0, gp_n, gp_n] [gp_i x8] s7 K
    exact gs_E.ret (r := (some (gp_i x8))) rfl H

set_option maxRecDepth 100000 in
/-- GatheredPointsModel.play, pc 41 -/
theorem s_3172_41 {L d : Nat} {K : Option gV → gH → Prop} {s : gH} (v1 : Int) (v2 : Int) (v3 : gV) (H : ((v2 < v1 → gs_C L d 3167 1 [gp_r (some 74)] s (fun r s1 => ∃ x2, r = some (gp_i x2) ∧ ((x2 = 0 → gs_C L d 3164 2 [gp_r (some 74)] s1 (fun r s3 => r = none ∧ gs_C L d 3161 12 [gp_r (some 74), gp_i (gp_I s3 74 56)] s3 (fun r s4 => ∃ x5, r = some (gp_i x5) ∧ gs_C L d 3169 3 [gp_r (some 74), gp_i (gp_wr (x5.tdiv 100)), gp_i (x5.tmod 100)] s4 (fun r s6 => r = none ∧ gs_E L (d + 1) 3172 41 [gp_r (some 74), gp_i v1, gp_i (gp_wr (v2 + 1)), gp_i x5] [] s6 K)))) ∧ (¬ x2 = 0 → gs_E L (d + 1) 3172 84 [gp_r (some 74), gp_i v1, gp_i v2, v3] [] s1 K)))) ∧ (¬ v2 < v1 → gs_E L (d + 1) 3172 84 [gp_r (some 74), gp_i v1, gp_i v2, v3] [] s K))) : gs_E L (d + 1) 3172 41 [gp_r (some 74), gp_i v1, gp_i v2, v3] [] s K := by
  refine gs_E.stp (pc' := 43) (ls' := [gp_r (some 74), gp_i v1, gp_i v2, v3]) (st' := [gp_i v1, gp_i v2]) (s' := s) 2 rfl ?_
  refine gs_E.br (c := ¬ v2 < v1) (p1 := 84) (p2 := 46) (l1 := [gp_r (some 74), gp_i v1, gp_i v2, v3]) (l2 := [gp_r (some 74), gp_i v1, gp_i v2, v3]) (s1 := []) (s2 := []) rfl gs_b2 (fun hc => ?_) (fun hc => ?_)
  · replace H := H.2 hc
    exact H
  · replace H := H.1 (Decidable.byContradiction hc)
    refine gs_E.stp (pc' := 47) (ls' := [gp_r (some 74), gp_i v1, gp_i v2, v3]) (st' := [gp_r (some 74)]) (s' := s) 1 rfl ?_
    refine gs_E.call (args := [gp_r (some 74)]) (m := 1) (y' := 3167) (st' := []) rfl H (fun r s1 H => ?_)
    obtain ⟨x2, rfl, H⟩ := H
    show gs_E L (d + 1) 3172 50 [gp_r (some 74), gp_i v1, gp_i v2, v3] [gp_i x2] s1 K
    refine gs_E.br (c := ¬ x2 = 0) (p1 := 84) (p2 := 53) (l1 := [gp_r (some 74), gp_i v1, gp_i v2, v3]) (l2 := [gp_r (some 74), gp_i v1, gp_i v2, v3]) (s1 := []) (s2 := []) rfl gs_b2 (fun hc => ?_) (fun hc => ?_)
    · replace H := H.2 hc
      exact H
    · replace H := H.1 (Decidable.byContradiction hc)
      refine gs_E.stp (pc' := 54) (ls' := [gp_r (some 74), gp_i v1, gp_i v2, v3]) (st' := [gp_r (some 74)]) (s' := s1) 1 rfl ?_
      refine gs_E.call (args := [gp_r (some 74)]) (m := 2) (y' := 3164) (st' := []) rfl H (fun r s3 H => ?_)
      obtain ⟨rfl, H⟩ := H
      show gs_E L (d + 1) 3172 57 [gp_r (some 74), gp_i v1, gp_i v2, v3] [] s3 K
      refine gs_E.stp (pc' := 62) (ls' := [gp_r (some 74), gp_i v1, gp_i v2, v3]) (st' := [gp_i (gp_I s3 74 56), gp_r (some 74)]) (s' := s3) 3 rfl ?_
      refine gs_E.call (args := [gp_r (some 74), gp_i (gp_I s3 74 56)]) (m := 12) (y' := 3161) (st' := []) rfl H (fun r s4 H => ?_)
      obtain ⟨x5, rfl, H⟩ := H
      show gs_E L (d + 1) 3172 65 [gp_r (some 74), gp_i v1, gp_i v2, v3] [gp_i x5] s4 K
      refine gs_E.stp (pc' := 75) (ls' := [gp_r (some 74), gp_i v1, gp_i v2, gp_i x5]) (st' := [gp_i (x5.tmod 100), gp_i (gp_wr (x5.tdiv 100)), gp_r (some 74)]) (s' := s4) 8 rfl ?_
      refine gs_E.call (args := [gp_r (some 74), gp_i (gp_wr (x5.tdiv 100)), gp_i (x5.tmod 100)]) (m := 3) (y' := 3169) (st' := []) rfl H (fun r s6 H => ?_)
      obtain ⟨rfl, H⟩ := H
      show gs_E L (d + 1) 3172 78 [gp_r (some 74), gp_i v1, gp_i v2, gp_i x5] [] s6 K
      refine gs_E.stp (pc' := 41) (ls' := [gp_r (some 74), gp_i v1, gp_i (gp_wr (v2 + 1)), gp_i x5]) (st' := []) (s' := s6) 2 rfl ?_
      exact H

set_option maxRecDepth 100000 in
/-- GatheredPointsModel.play, pc 84 -/
theorem s_3172_84 {L d : Nat} {K : Option gV → gH → Prop} {s : gH} (v1 : Int) (v2 : Int) (v3 : gV) (H : K (some (gp_i v2)) s) : gs_E L (d + 1) 3172 84 [gp_r (some 74), gp_i v1, gp_i v2, v3] [] s K := by
  refine gs_E.stp (pc' := 85) (ls' := [gp_r (some 74), gp_i v1, gp_i v2, v3]) (st' := [gp_i v2]) (s' := s) 1 rfl ?_
  exact gs_E.ret (r := (some (gp_i v2))) rfl H

set_option maxRecDepth 100000 in
/-- GatheredPointsModel.loose, pc 0 -/
theorem s_3173_e {L d : Nat} {K : Option gV → gH → Prop} {s : gH} (p0 : Int) (H : gs_C L d 3073 6 [gp_l (BitVec.ofInt 64 p0), gp_l (1#64), gp_l (BitVec.ofInt 64 20)] s (fun r s1 => ∃ x2, r = some (gp_i x2) ∧ ((x2 = 0 → gs_C L d 3074 2 [gp_r (some 74), gp_i 1] s1 (fun r s5 => ∃ x6, r = some (gp_i x6) ∧ K (some (gp_i x6)) s5)) ∧ (¬ x2 = 0 → (((gp_I s1 74 58) = 0 → gs_C L d 3074 2 [gp_r (some 74), gp_i 2] s1 (fun r s3 => ∃ x4, r = some (gp_i x4) ∧ K (some (gp_i x4)) s3)) ∧ (¬ (gp_I s1 74 58) = 0 → gs_E L (d + 1) 3173 33 [gp_r (some 74), gp_i p0, gp_i 0, gp_n, gp_n] [] s1 K)))))) : gs_C L (d + 1) 3173 5 [gp_r (some 74), gp_i p0] s K := by
  show gs_E L (d + 1) 3173 0 [gp_r (some 74), gp_i p0, gp_n, gp_n, gp_n] [] s K
  refine gs_E.stp (pc' := 6) (ls' := [gp_r (some 74), gp_i p0, gp_n, gp_n, gp_n]) (st' := [gp_l (BitVec.ofInt 64 20), gp_l (1#64), gp_l (BitVec.ofInt 64 p0)]) (s' := s) 4 rfl ?_
  refine gs_E.call (args := [gp_l (BitVec.ofInt 64 p0), gp_l (1#64), gp_l (BitVec.ofInt 64 20)]) (m := 6) (y' := 3073) (st' := []) rfl H (fun r s1 H => ?_)
  obtain ⟨x2, rfl, H⟩ := H
  show gs_E L (d + 1) 3173 9 [gp_r (some 74), gp_i p0, gp_n, gp_n, gp_n] [gp_i x2] s1 K
  refine gs_E.br (c := ¬ x2 = 0) (p1 := 18) (p2 := 12) (l1 := [gp_r (some 74), gp_i p0, gp_n, gp_n, gp_n]) (l2 := [gp_r (some 74), gp_i p0, gp_n, gp_n, gp_n]) (s1 := []) (s2 := []) rfl gs_b2 (fun hc => ?_) (fun hc => ?_)
  · replace H := H.2 hc
    refine gs_E.stp (pc' := 22) (ls' := [gp_r (some 74), gp_i p0, gp_n, gp_n, gp_n]) (st' := [gp_i (gp_I s1 74 58)]) (s' := s1) 2 rfl ?_
    refine gs_E.br (c := ¬ (gp_I s1 74 58) = 0) (p1 := 31) (p2 := 25) (l1 := [gp_r (some 74), gp_i p0, gp_n, gp_n, gp_n]) (l2 := [gp_r (some 74), gp_i p0, gp_n, gp_n, gp_n]) (s1 := []) (s2 := []) rfl gs_b2 (fun hc => ?_) (fun hc => ?_)
    · replace H := H.2 hc
      refine gs_E.stp (pc' := 33) (ls' := [gp_r (some 74), gp_i p0, gp_i 0, gp_n, gp_n]) (st' := []) (s' := s1) 2 rfl ?_
      exact H
    · replace H := H.1 (Decidable.byContradiction hc)
      refine gs_E.stp (pc' := 27) (ls' := [gp_r (some 74), gp_i p0, gp_n, gp_n, gp_n]) (st' := [gp_i 2, gp_r (some 74)]) (s' := s1) 2 rfl ?_
      refine gs_E.call (args := [gp_r (some 74), gp_i 2]) (m := 2) (y' := 3074) (st' := []) rfl H (fun r s3 H => ?_)
      obtain ⟨x4, rfl, H⟩ := H
      show gs_E L (d + 1) 3173 30 [gp_r (some 74), gp_i p0, gp_n, gp_n, gp_n] [gp_i x4] s3 K
      exact gs_E.ret (r := (some (gp_i x4))) rfl H
  · replace H := H.1 (Decidable.byContradiction hc)
    refine gs_E.stp (pc' := 14) (ls' := [gp_r (some 74), gp_i p0, gp_n, gp_n, gp_n]) (st' := [gp_i 1, gp_r (some 74)]) (s' := s1) 2 rfl ?_
    refine gs_E.call (args := [gp_r (some 74), gp_i 1]) (m := 2) (y' := 3074) (st' := []) rfl H (fun r s5 H => ?_)
    obtain ⟨x6, rfl, H⟩ := H
    show gs_E L (d + 1) 3173 17 [gp_r (some 74), gp_i p0, gp_n, gp_n, gp_n] [gp_i x6] s5 K
    exact gs_E.ret (r := (some (gp_i x6))) rfl H

set_option maxRecDepth 100000 in
/-- GatheredPointsModel.loose, pc 33 -/
theorem s_3173_33 {L d : Nat} {K : Option gV → gH → Prop} {s : gH} (v1 : Int) (v2 : Int) (v3 : gV) (v4 : gV) (H : ((v2 < v1 → gs_C L d 3167 1 [gp_r (some 74)] s (fun r s1 => ∃ x2, r = some (gp_i x2) ∧ ((x2 = 0 → (∀ s3, s3 = gp_wI s1 74 7 (gp_wr ((gp_wr ((gp_I s1 74 7) * 1103515245)) + 12345)) → gs_C L d 3166 3 [gp_r (some 74)] s3 (fun r s4 => ∃ x5, r = some (gp_i x5) ∧ (x5 ≠ 0 ∧ gs_E L (d + 1) 3173 77 [gp_r (some 74), gp_i v1, gp_i v2, gp_i ((gp_ushr (gp_I s3 74 7) 8).tmod x5), gp_i 0] [] s4 K)))) ∧ (¬ x2 = 0 → gs_E L (d + 1) 3173 121 [gp_r (some 74), gp_i v1, gp_i v2, v3, v4] [] s1 K)))) ∧ (¬ v2 < v1 → gs_E L (d + 1) 3173 121 [gp_r (some 74), gp_i v1, gp_i v2, v3, v4] [] s K))) : gs_E L (d + 1) 3173 33 [gp_r (some 74), gp_i v1, gp_i v2, v3, v4] [] s K := by
  refine gs_E.stp (pc' := 35) (ls' := [gp_r (some 74), gp_i v1, gp_i v2, v3, v4]) (st' := [gp_i v1, gp_i v2]) (s' := s) 2 rfl ?_
  refine gs_E.br (c := ¬ v2 < v1) (p1 := 121) (p2 := 38) (l1 := [gp_r (some 74), gp_i v1, gp_i v2, v3, v4]) (l2 := [gp_r (some 74), gp_i v1, gp_i v2, v3, v4]) (s1 := []) (s2 := []) rfl gs_b2 (fun hc => ?_) (fun hc => ?_)
  · replace H := H.2 hc
    exact H
  · replace H := H.1 (Decidable.byContradiction hc)
    refine gs_E.stp (pc' := 39) (ls' := [gp_r (some 74), gp_i v1, gp_i v2, v3, v4]) (st' := [gp_r (some 74)]) (s' := s) 1 rfl ?_
    refine gs_E.call (args := [gp_r (some 74)]) (m := 1) (y' := 3167) (st' := []) rfl H (fun r s1 H => ?_)
    obtain ⟨x2, rfl, H⟩ := H
    show gs_E L (d + 1) 3173 42 [gp_r (some 74), gp_i v1, gp_i v2, v3, v4] [gp_i x2] s1 K
    refine gs_E.br (c := ¬ x2 = 0) (p1 := 121) (p2 := 45) (l1 := [gp_r (some 74), gp_i v1, gp_i v2, v3, v4]) (l2 := [gp_r (some 74), gp_i v1, gp_i v2, v3, v4]) (s1 := []) (s2 := []) rfl gs_b2 (fun hc => ?_) (fun hc => ?_)
    · replace H := H.2 hc
      exact H
    · replace H := H.1 (Decidable.byContradiction hc)
      refine gs_E.stp (pc' := 61) (ls' := [gp_r (some 74), gp_i v1, gp_i v2, v3, v4]) (st' := []) (s' := gp_wI s1 74 7 (gp_wr ((gp_wr ((gp_I s1 74 7) * 1103515245)) + 12345))) 8 rfl ?_
      replace H := H _ rfl
      generalize gp_wI s1 74 7 (gp_wr ((gp_wr ((gp_I s1 74 7) * 1103515245)) + 12345)) = s3 at H ⊢
      refine gs_E.stp (pc' := 69) (ls' := [gp_r (some 74), gp_i v1, gp_i v2, v3, v4]) (st' := [gp_r (some 74), gp_i (gp_ushr (gp_I s3 74 7) 8)]) (s' := s3) 5 rfl ?_
      refine gs_E.call (args := [gp_r (some 74)]) (m := 3) (y' := 3166) (st' := [gp_i (gp_ushr (gp_I s3 74 7) 8)]) rfl H (fun r s4 H => ?_)
      obtain ⟨x5, rfl, H⟩ := H
      show gs_E L (d + 1) 3173 72 [gp_r (some 74), gp_i v1, gp_i v2, v3, v4] [gp_i x5, gp_i (gp_ushr (gp_I s3 74 7) 8)] s4 K
      refine gs_E.ck (pc' := 73) (ls' := [gp_r (some 74), gp_i v1, gp_i v2, v3, v4]) (st' := [gp_i ((gp_ushr (gp_I s3 74 7) 8).tmod x5)]) (s' := s4) rfl H.1 ?_
      replace H := H.2
      refine gs_E.stp (pc' := 77) (ls' := [gp_r (some 74), gp_i v1, gp_i v2, gp_i ((gp_ushr (gp_I s3 74 7) 8).tmod x5), gp_i 0]) (st' := []) (s' := s4) 3 rfl ?_
      exact H

set_option maxRecDepth 100000 in
/-- GatheredPointsModel.loose, pc 77 -/
theorem s_3173_77 {L d : Nat} {K : Option gV → gH → Prop} {s : gH} (v1 : Int) (v2 : Int) (v3 : Int) (v4 : Int) (H : gs_C L d 3165 2 [gp_r (some 74), gp_i v4] s (fun r s1 => ∃ m2, r = some (gp_l m2) ∧ gs_C L d 3079 4 [gp_l m2] s1 (fun r s3 => ∃ x4, r = some (gp_i x4) ∧ ((v3 < x4 → gs_C L d 3169 3 [gp_r (some 74), gp_i v4, gp_i v3] s3 (fun r s5 => r = none ∧ gs_E L (d + 1) 3173 33 [gp_r (some 74), gp_i v1, gp_i (gp_wr (v2 + 1)), gp_i v3, gp_i v4] [] s5 K)) ∧ (¬ v3 < x4 → gs_C L d 3165 2 [gp_r (some 74), gp_i v4] s3 (fun r s6 => ∃ m7, r = some (gp_l m7) ∧ gs_C L d 3079 4 [gp_l m7] s6 (fun r s8 => ∃ x9, r = some (gp_i x9) ∧ gs_E L (d + 1) 3173 77 [gp_r (some 74), gp_i v1, gp_i v2, gp_i (gp_wr (v3 - x9)), gp_i (gp_wr (v4 + 1))] [] s8 K))))))) : gs_E L (d + 1) 3173 77 [gp_r (some 74), gp_i v1, gp_i v2, gp_i v3, gp_i v4] [] s K := by
  refine gs_E.stp (pc' := 81) (ls' := [gp_r (some 74), gp_i v1, gp_i v2, gp_i v3, gp_i v4]) (st' := [gp_i v4, gp_r (some 74), gp_i v3]) (s' := s) 3 rfl ?_
  refine gs_E.call (args := [gp_r (some 74), gp_i v4]) (m := 2) (y' := 3165) (st' := [gp_i v3]) rfl H (fun r s1 H => ?_)
  obtain ⟨m2, rfl, H⟩ := H
  show gs_E L (d + 1) 3173 84 [gp_r (some 74), gp_i v1, gp_i v2, gp_i v3, gp_i v4] [gp_l m2, gp_i v3] s1 K
  refine gs_E.call (args := [gp_l m2]) (m := 4) (y' := 3079) (st' := [gp_i v3]) rfl H (fun r s3 H => ?_)
  obtain ⟨x4, rfl, H⟩ := H
  show gs_E L (d + 1) 3173 87 [gp_r (some 74), gp_i v1, gp_i v2, gp_i v3, gp_i v4] [gp_i x4, gp_i v3] s3 K
  refine gs_E.br (c := v3 < x4) (p1 := 108) (p2 := 90) (l1 := [gp_r (some 74), gp_i v1, gp_i v2, gp_i v3, gp_i v4]) (l2 := [gp_r (some 74), gp_i v1, gp_i v2, gp_i v3, gp_i v4]) (s1 := []) (s2 := []) rfl gs_b1 (fun hc => ?_) (fun hc => ?_)
  · replace H := H.1 hc
    refine gs_E.stp (pc' := 112) (ls' := [gp_r (some 74), gp_i v1, gp_i v2, gp_i v3, gp_i v4]) (st' := [gp_i v3, gp_i v4, gp_r (some 74)]) (s' := s3) 3 rfl ?_
    refine gs_E.call (args := [gp_r (some 74), gp_i v4, gp_i v3]) (m := 3) (y' := 3169) (st' := []) rfl H (fun r s5 H => ?_)
    obtain ⟨rfl, H⟩ := H
    show gs_E L (d + 1) 3173 115 [gp_r (some 74), gp_i v1, gp_i v2, gp_i v3, gp_i v4] [] s5 K
    refine gs_E.stp (pc' := 33) (ls' := [gp_r (some 74), gp_i v1, gp_i (gp_wr (v2 + 1)), gp_i v3, gp_i v4]) (st' := []) (s' := s5) 2 rfl ?_
    exact H
  · replace H := H.2 hc
    refine gs_E.stp (pc' := 94) (ls' := [gp_r (some 74), gp_i v1, gp_i v2, gp_i v3, gp_i v4]) (st' := [gp_i v4, gp_r (some 74), gp_i v3]) (s' := s3) 3 rfl ?_
    refine gs_E.call (args := [gp_r (some 74), gp_i v4]) (m := 2) (y' := 3165) (st' := [gp_i v3]) rfl H (fun r s6 H => ?_)
    obtain ⟨m7, rfl, H⟩ := H
    show gs_E L (d + 1) 3173 97 [gp_r (some 74), gp_i v1, gp_i v2, gp_i v3, gp_i v4] [gp_l m7, gp_i v3] s6 K
    refine gs_E.call (args := [gp_l m7]) (m := 4) (y' := 3079) (st' := [gp_i v3]) rfl H (fun r s8 H => ?_)
    obtain ⟨x9, rfl, H⟩ := H
    show gs_E L (d + 1) 3173 100 [gp_r (some 74), gp_i v1, gp_i v2, gp_i v3, gp_i v4] [gp_i x9, gp_i v3] s8 K
    refine gs_E.stp (pc' := 77) (ls' := [gp_r (some 74), gp_i v1, gp_i v2, gp_i (gp_wr (v3 - x9)), gp_i (gp_wr (v4 + 1))]) (st' := []) (s' := s8) 4 rfl ?_
    exact H

set_option maxRecDepth 100000 in
/-- GatheredPointsModel.loose, pc 121 -/
theorem s_3173_121 {L d : Nat} {K : Option gV → gH → Prop} {s : gH} (v1 : Int) (v2 : Int) (v3 : gV) (v4 : gV) (H : K (some (gp_i v2)) s) : gs_E L (d + 1) 3173 121 [gp_r (some 74), gp_i v1, gp_i v2, v3, v4] [] s K := by
  refine gs_E.stp (pc' := 122) (ls' := [gp_r (some 74), gp_i v1, gp_i v2, v3, v4]) (st' := [gp_i v2]) (s' := s) 1 rfl ?_
  exact gs_E.ret (r := (some (gp_i v2))) rfl H

set_option maxRecDepth 100000 in
/-- GatheredPointsModel.back, pc 0 -/
theorem s_3174_e {L d : Nat} {K : Option gV → gH → Prop} {s : gH}  (H : (((gp_I s 74 58) = 0 → gs_E L (d + 1) 3174 14 [gp_r (some 74)] [] s K) ∧ (¬ (gp_I s 74 58) = 0 → (((gp_I s 74 57) = 0 → gs_E L (d + 1) 3174 14 [gp_r (some 74)] [] s K) ∧ (¬ (gp_I s 74 57) = 0 → (∀ s1, s1 = gp_wI s 74 57 (gp_wr ((gp_I s 74 57) - 1)) → ((0 ≤ (gp_I s1 74 57) ∧ (gp_I s1 74 57) < 200) ∧ ((0 ≤ (gp_I s1 74 57) ∧ (gp_I s1 74 57) < 200) ∧ ((0 ≤ (gp_I s1 113 (gp_I s1 74 57).toNat) ∧ (gp_I s1 113 (gp_I s1 74 57).toNat) < 3) ∧ (∀ s2, s2 = gp_wI s1 112 (gp_I s1 113 (gp_I s1 74 57).toNat).toNat (gp_I s1 115 (gp_I s1 74 57).toNat) → (∀ s3, s3 = gp_wI s2 74 56 (gp_wr (1 - (gp_I s2 74 56))) → K (some (gp_i (gp_I s3 74 57))) s3))))))))))) : gs_C L (d + 1) 3174 1 [gp_r (some 74)] s K := by
  show gs_E L (d + 1) 3174 0 [gp_r (some 74)] [] s K
  refine gs_E.stp (pc' := 4) (ls' := [gp_r (some 74)]) (st' := [gp_i (gp_I s 74 58)]) (s' := s) 2 rfl ?_
  refine gs_E.br (c := (gp_I s 74 58) = 0) (p1 := 14) (p2 := 7) (l1 := [gp_r (some 74)]) (l2 := [gp_r (some 74)]) (s1 := []) (s2 := []) rfl gs_b1 (fun hc => ?_) (fun hc => ?_)
  · replace H := H.1 hc
    exact H
  · replace H := H.2 hc
    refine gs_E.stp (pc' := 11) (ls' := [gp_r (some 74)]) (st' := [gp_i (gp_I s 74 57)]) (s' := s) 2 rfl ?_
    refine gs_E.br (c := ¬ (gp_I s 74 57) = 0) (p1 := 20) (p2 := 14) (l1 := [gp_r (some 74)]) (l2 := [gp_r (some 74)]) (s1 := []) (s2 := []) rfl gs_b2 (fun hc => ?_) (fun hc => ?_)
    · replace H := H.2 hc
      refine gs_E.stp (pc' := 30) (ls' := [gp_r (some 74)]) (st' := []) (s' := gp_wI s 74 57 (gp_wr ((gp_I s 74 57) - 1))) 6 rfl ?_
      replace H := H _ rfl
      generalize gp_wI s 74 57 (gp_wr ((gp_I s 74 57) - 1)) = s1 at H ⊢
      refine gs_E.stp (pc' := 42) (ls' := [gp_r (some 74)]) (st' := [gp_i (gp_I s1 74 57), gp_r (some 113), gp_r (some 112)]) (s' := s1) 6 rfl ?_
      refine gs_E.ck (pc' := 43) (ls' := [gp_r (some 74)]) (st' := [gp_i (gp_I s1 113 (gp_I s1 74 57).toNat), gp_r (some 112)]) (s' := s1) rfl (Or.inl ⟨rfl, H.1.1, H.1.2⟩) ?_
      replace H := H.2
      refine gs_E.stp (pc' := 51) (ls' := [gp_r (some 74)]) (st' := [gp_i (gp_I s1 74 57), gp_r (some 115), gp_i (gp_I s1 113 (gp_I s1 74 57).toNat), gp_r (some 112)]) (s' := s1) 4 rfl ?_
      refine gs_E.ck (pc' := 52) (ls' := [gp_r (some 74)]) (st' := [gp_i (gp_I s1 115 (gp_I s1 74 57).toNat), gp_i (gp_I s1 113 (gp_I s1 74 57).toNat), gp_r (some 112)]) (s' := s1) rfl (Or.inl ⟨rfl, H.1.1, H.1.2⟩) ?_
      replace H := H.2
      refine gs_E.ck (pc' := 53) (ls' := [gp_r (some 74)]) (st' := []) (s' := gp_wI s1 112 (gp_I s1 113 (gp_I s1 74 57).toNat).toNat (gp_I s1 115 (gp_I s1 74 57).toNat)) rfl ⟨rfl, H.1.1, H.1.2⟩ ?_
      replace H := H.2 _ rfl
      generalize gp_wI s1 112 (gp_I s1 113 (gp_I s1 74 57).toNat).toNat (gp_I s1 115 (gp_I s1 74 57).toNat) = s2 at H ⊢
      refine gs_E.stp (pc' := 63) (ls' := [gp_r (some 74)]) (st' := []) (s' := gp_wI s2 74 56 (gp_wr (1 - (gp_I s2 74 56)))) 6 rfl ?_
      replace H := H _ rfl
      generalize gp_wI s2 74 56 (gp_wr (1 - (gp_I s2 74 56))) = s3 at H ⊢
      refine gs_E.stp (pc' := 67) (ls' := [gp_r (some 74)]) (st' := [gp_i (gp_I s3 74 57)]) (s' := s3) 2 rfl ?_
      exact gs_E.ret (r := (some (gp_i (gp_I s3 74 57)))) rfl H
    · replace H := H.1 (Decidable.byContradiction hc)
      exact H

set_option maxRecDepth 100000 in
/-- GatheredPointsModel.back, pc 14 -/
theorem s_3174_14 {L d : Nat} {K : Option gV → gH → Prop} {s : gH}  (H : gs_C L d 3074 2 [gp_r (some 74), gp_i 2] s (fun r s1 => ∃ x2, r = some (gp_i x2) ∧ K (some (gp_i x2)) s1)) : gs_E L (d + 1) 3174 14 [gp_r (some 74)] [] s K := by
  refine gs_E.stp (pc' := 16) (ls' := [gp_r (some 74)]) (st' := [gp_i 2, gp_r (some 74)]) (s' := s) 2 rfl ?_
  refine gs_E.call (args := [gp_r (some 74), gp_i 2]) (m := 2) (y' := 3074) (st' := []) rfl H (fun r s1 H => ?_)
  obtain ⟨x2, rfl, H⟩ := H
  show gs_E L (d + 1) 3174 19 [gp_r (some 74)] [gp_i x2] s1 K
  exact gs_E.ret (r := (some (gp_i x2))) rfl H

set_option maxRecDepth 100000 in
/-- GatheredPointsModel.matchOf, pc 0 -/
theorem s_3175_e {L d : Nat} {K : Option gV → gH → Prop} {s : gH} (p0 : Int) (H : gs_C L d 3073 6 [gp_l (BitVec.ofInt 64 p0), gp_l (0#64), gp_l (BitVec.ofInt 64 5)] s (fun r s1 => ∃ x2, r = some (gp_i x2) ∧ ((x2 = 0 → gs_C L d 3074 2 [gp_r (some 74), gp_i 1] s1 (fun r s11 => ∃ x12, r = some (gp_i x12) ∧ K (some (gp_i x12)) s11)) ∧ (¬ x2 = 0 → (((gp_I s1 74 58) = 0 → gs_C L d 3074 2 [gp_r (some 74), gp_i 2] s1 (fun r s9 => ∃ x10, r = some (gp_i x10) ∧ K (some (gp_i x10)) s9)) ∧ (¬ (gp_I s1 74 58) = 0 → ((p0 = 0 → K (some (gp_i (gp_I s1 74 56))) s1) ∧ (p0 = 1 → K (some (gp_i (gp_I s1 74 57))) s1) ∧ (p0 = 2 → gs_C L d 3167 1 [gp_r (some 74)] s1 (fun r s3 => ∃ x4, r = some (gp_i x4) ∧ ((x4 = 0 → gs_E L (d + 1) 3175 90 [gp_r (some 74), gp_i p0, gp_i 0, gp_n] [gp_i 0] s3 K) ∧ (¬ x4 = 0 → gs_E L (d + 1) 3175 90 [gp_r (some 74), gp_i p0, gp_i 0, gp_n] [gp_i 1] s3 K)))) ∧ (p0 = 3 → gs_E L (d + 1) 3175 93 [gp_r (some 74), gp_i p0, gp_i 0, gp_i 0] [] s1 K) ∧ (p0 = 4 → gs_C L d 3164 2 [gp_r (some 74)] s1 (fun r s5 => r = none ∧ gs_C L d 3156 7 [gp_r (some 74)] s5 (fun r s6 => r = none ∧ gs_C L d 3160 3 [gp_r (some 74), gp_i (gp_I s6 74 56)] s6 (fun r s7 => ∃ x8, r = some (gp_i x8) ∧ K (some (gp_i x8)) s7)))) ∧ ((p0 < 0 ∨ 4 < p0) → gs_E L (d + 1) 3175 164 [gp_r (some 74), gp_i p0, gp_i 0, gp_i 0] [] s1 K)))))))) : gs_C L (d + 1) 3175 4 [gp_r (some 74), gp_i p0] s K := by
  show gs_E L (d + 1) 3175 0 [gp_r (some 74), gp_i p0, gp_n, gp_n] [] s K
  refine gs_E.stp (pc' := 6) (ls' := [gp_r (some 74), gp_i p0, gp_n, gp_n]) (st' := [gp_l (BitVec.ofInt 64 5), gp_l (0#64), gp_l (BitVec.ofInt 64 p0)]) (s' := s) 4 rfl ?_
  refine gs_E.call (args := [gp_l (BitVec.ofInt 64 p0), gp_l (0#64), gp_l (BitVec.ofInt 64 5)]) (m := 6) (y' := 3073) (st' := []) rfl H (fun r s1 H => ?_)
  obtain ⟨x2, rfl, H⟩ := H
  show gs_E L (d + 1) 3175 9 [gp_r (some 74), gp_i p0, gp_n, gp_n] [gp_i x2] s1 K
  refine gs_E.br (c := ¬ x2 = 0) (p1 := 18) (p2 := 12) (l1 := [gp_r (some 74), gp_i p0, gp_n, gp_n]) (l2 := [gp_r (some 74), gp_i p0, gp_n, gp_n]) (s1 := []) (s2 := []) rfl gs_b2 (fun hc => ?_) (fun hc => ?_)
  · replace H := H.2 hc
    refine gs_E.stp (pc' := 22) (ls' := [gp_r (some 74), gp_i p0, gp_n, gp_n]) (st' := [gp_i (gp_I s1 74 58)]) (s' := s1) 2 rfl ?_
    refine gs_E.br (c := ¬ (gp_I s1 74 58) = 0) (p1 := 31) (p2 := 25) (l1 := [gp_r (some 74), gp_i p0, gp_n, gp_n]) (l2 := [gp_r (some 74), gp_i p0, gp_n, gp_n]) (s1 := []) (s2 := []) rfl gs_b2 (fun hc => ?_) (fun hc => ?_)
    · replace H := H.2 hc
      refine gs_E.stp (pc' := 34) (ls' := [gp_r (some 74), gp_i p0, gp_i 0, gp_n]) (st' := [gp_i p0]) (s' := s1) 3 rfl ?_
      have hsw : (p0 = 0 ∨ p0 = 1 ∨ p0 = 2 ∨ p0 = 3 ∨ p0 = 4) ∨ (p0 < 0 ∨ 4 < p0) := by omega
      rcases hsw with (hsw | hsw | hsw | hsw | hsw) | hsw
      · replace H := H.1 hsw
        refine gs_E.swi (v := 0) (pc' := 68) (ls' := [gp_r (some 74), gp_i p0, gp_i 0, gp_n]) (st' := []) hsw rfl ?_
        refine gs_E.stp (pc' := 72) (ls' := [gp_r (some 74), gp_i p0, gp_i 0, gp_n]) (st' := [gp_i (gp_I s1 74 56)]) (s' := s1) 2 rfl ?_
        exact gs_E.ret (r := (some (gp_i (gp_I s1 74 56)))) rfl H
      · replace H := H.2.1 hsw
        refine gs_E.swi (v := 1) (pc' := 73) (ls' := [gp_r (some 74), gp_i p0, gp_i 0, gp_n]) (st' := []) hsw rfl ?_
        refine gs_E.stp (pc' := 77) (ls' := [gp_r (some 74), gp_i p0, gp_i 0, gp_n]) (st' := [gp_i (gp_I s1 74 57)]) (s' := s1) 2 rfl ?_
        exact gs_E.ret (r := (some (gp_i (gp_I s1 74 57)))) rfl H
      · replace H := H.2.2.1 hsw
        refine gs_E.swi (v := 2) (pc' := 78) (ls' := [gp_r (some 74), gp_i p0, gp_i 0, gp_n]) (st' := []) hsw rfl ?_
        refine gs_E.stp (pc' := 79) (ls' := [gp_r (some 74), gp_i p0, gp_i 0, gp_n]) (st' := [gp_r (some 74)]) (s' := s1) 1 rfl ?_
        refine gs_E.call (args := [gp_r (some 74)]) (m := 1) (y' := 3167) (st' := []) rfl H (fun r s3 H => ?_)
        obtain ⟨x4, rfl, H⟩ := H
        show gs_E L (d + 1) 3175 82 [gp_r (some 74), gp_i p0, gp_i 0, gp_n] [gp_i x4] s3 K
        refine gs_E.br (c := x4 = 0) (p1 := 89) (p2 := 85) (l1 := [gp_r (some 74), gp_i p0, gp_i 0, gp_n]) (l2 := [gp_r (some 74), gp_i p0, gp_i 0, gp_n]) (s1 := []) (s2 := []) rfl gs_b1 (fun hc => ?_) (fun hc => ?_)
        · replace H := H.1 hc
          refine gs_E.stp (pc' := 90) (ls' := [gp_r (some 74), gp_i p0, gp_i 0, gp_n]) (st' := [gp_i 0]) (s' := s3) 1 rfl ?_
          exact H
        · replace H := H.2 hc
          refine gs_E.stp (pc' := 90) (ls' := [gp_r (some 74), gp_i p0, gp_i 0, gp_n]) (st' := [gp_i 1]) (s' := s3) 2 rfl ?_
          exact H
      · replace H := H.2.2.2.1 hsw
        refine gs_E.swi (v := 3) (pc' := 91) (ls' := [gp_r (some 74), gp_i p0, gp_i 0, gp_n]) (st' := []) hsw rfl ?_
        refine gs_E.stp (pc' := 93) (ls' := [gp_r (some 74), gp_i p0, gp_i 0, gp_i 0]) (st' := []) (s' := s1) 2 rfl ?_
        exact H
      · replace H := H.2.2.2.2.1 hsw
        refine gs_E.swi (v := 4) (pc' := 145) (ls' := [gp_r (some 74), gp_i p0, gp_i 0, gp_n]) (st' := []) hsw rfl ?_
        refine gs_E.stp (pc' := 146) (ls' := [gp_r (some 74), gp_i p0, gp_i 0, gp_n]) (st' := [gp_r (some 74)]) (s' := s1) 1 rfl ?_
        refine gs_E.call (args := [gp_r (some 74)]) (m := 2) (y' := 3164) (st' := []) rfl H (fun r s5 H => ?_)
        obtain ⟨rfl, H⟩ := H
        show gs_E L (d + 1) 3175 149 [gp_r (some 74), gp_i p0, gp_i 0, gp_n] [] s5 K
        refine gs_E.stp (pc' := 150) (ls' := [gp_r (some 74), gp_i p0, gp_i 0, gp_n]) (st' := [gp_r (some 74)]) (s' := s5) 1 rfl ?_
        refine gs_E.call (args := [gp_r (some 74)]) (m := 7) (y' := 3156) (st' := []) rfl H (fun r s6 H => ?_)
        obtain ⟨rfl, H⟩ := H
        show gs_E L (d + 1) 3175 153 [gp_r (some 74), gp_i p0, gp_i 0, gp_n] [] s6 K
        refine gs_E.stp (pc' := 158) (ls' := [gp_r (some 74), gp_i p0, gp_i 0, gp_n]) (st' := [gp_i (gp_I s6 74 56), gp_r (some 74)]) (s' := s6) 3 rfl ?_
        refine gs_E.call (args := [gp_r (some 74), gp_i (gp_I s6 74 56)]) (m := 3) (y' := 3160) (st' := []) rfl H (fun r s7 H => ?_)
        obtain ⟨x8, rfl, H⟩ := H
        show gs_E L (d + 1) 3175 161 [gp_r (some 74), gp_i p0, gp_i 0, gp_n] [gp_i x8] s7 K
        exact gs_E.ret (r := (some (gp_i x8))) rfl H
      · replace H := H.2.2.2.2.2 hsw
        refine gs_E.swo (pc' := 162) (ls' := [gp_r (some 74), gp_i p0, gp_i 0, gp_n]) (st' := []) (C := p0 < 0 ∨ 4 < p0) (B := _) rfl hsw ?_
        refine gs_E.stp (pc' := 164) (ls' := [gp_r (some 74), gp_i p0, gp_i 0, gp_i 0]) (st' := []) (s' := s1) 2 rfl ?_
        exact H
    · replace H := H.1 (Decidable.byContradiction hc)
      refine gs_E.stp (pc' := 27) (ls' := [gp_r (some 74), gp_i p0, gp_n, gp_n]) (st' := [gp_i 2, gp_r (some 74)]) (s' := s1) 2 rfl ?_
      refine gs_E.call (args := [gp_r (some 74), gp_i 2]) (m := 2) (y' := 3074) (st' := []) rfl H (fun r s9 H => ?_)
      obtain ⟨x10, rfl, H⟩ := H
      show gs_E L (d + 1) 3175 30 [gp_r (some 74), gp_i p0, gp_n, gp_n] [gp_i x10] s9 K
      exact gs_E.ret (r := (some (gp_i x10))) rfl H
  · replace H := H.1 (Decidable.byContradiction hc)
    refine gs_E.stp (pc' := 14) (ls' := [gp_r (some 74), gp_i p0, gp_n, gp_n]) (st' := [gp_i 1, gp_r (some 74)]) (s' := s1) 2 rfl ?_
    refine gs_E.call (args := [gp_r (some 74), gp_i 1]) (m := 2) (y' := 3074) (st' := []) rfl H (fun r s11 H => ?_)
    obtain ⟨x12, rfl, H⟩ := H
    show gs_E L (d + 1) 3175 17 [gp_r (some 74), gp_i p0, gp_n, gp_n] [gp_i x12] s11 K
    exact gs_E.ret (r := (some (gp_i x12))) rfl H

set_option maxRecDepth 100000 in
/-- GatheredPointsModel.matchOf, pc 90 -/
theorem s_3175_90 {L d : Nat} {K : Option gV → gH → Prop} {s : gH} (v1 : Int) (v2 : Int) (v3 : gV) (w0 : Int) (H : K (some (gp_i w0)) s) : gs_E L (d + 1) 3175 90 [gp_r (some 74), gp_i v1, gp_i v2, v3] [gp_i w0] s K := by
  exact gs_E.ret (r := (some (gp_i w0))) rfl H

set_option maxRecDepth 100000 in
/-- GatheredPointsModel.matchOf, pc 93 -/
theorem s_3175_93 {L d : Nat} {K : Option gV → gH → Prop} {s : gH} (v1 : Int) (v2 : Int) (v3 : Int) (H : ((v3 < (gp_I s 74 55) → ((0 ≤ v3 ∧ v3 < 3) ∧ gs_C L d 3083 4 [gp_r (some 74), gp_i (gp_wr (16 + v3)), gp_i (gp_I s 112 v3.toNat), gp_i (gp_I s 74 56)] s (fun r s5 => ∃ x6, r = some (gp_i x6) ∧ gs_E L (d + 1) 3175 93 [gp_r (some 74), gp_i v1, gp_i (gp_wr (v2 + x6)), gp_i (gp_wr (v3 + 1))] [] s5 K))) ∧ (¬ v3 < (gp_I s 74 55) → gs_C L d 3167 1 [gp_r (some 74)] s (fun r s1 => ∃ x2, r = some (gp_i x2) ∧ ((x2 = 0 → gs_C L d 3074 2 [gp_r (some 74), gp_i 3] s1 (fun r s3 => ∃ x4, r = some (gp_i x4) ∧ gs_E L (d + 1) 3175 144 [gp_r (some 74), gp_i v1, gp_i v2, gp_i v3] [gp_i x4] s3 K)) ∧ (¬ x2 = 0 → gs_E L (d + 1) 3175 144 [gp_r (some 74), gp_i v1, gp_i v2, gp_i v3] [gp_i v2] s1 K)))))) : gs_E L (d + 1) 3175 93 [gp_r (some 74), gp_i v1, gp_i v2, gp_i v3] [] s K := by
  refine gs_E.stp (pc' := 98) (ls' := [gp_r (some 74), gp_i v1, gp_i v2, gp_i v3]) (st' := [gp_i (gp_I s 74 55), gp_i v3]) (s' := s) 3 rfl ?_
  refine gs_E.br (c := ¬ v3 < (gp_I s 74 55)) (p1 := 128) (p2 := 101) (l1 := [gp_r (some 74), gp_i v1, gp_i v2, gp_i v3]) (l2 := [gp_r (some 74), gp_i v1, gp_i v2, gp_i v3]) (s1 := []) (s2 := []) rfl gs_b2 (fun hc => ?_) (fun hc => ?_)
  · replace H := H.2 hc
    refine gs_E.stp (pc' := 129) (ls' := [gp_r (some 74), gp_i v1, gp_i v2, gp_i v3]) (st' := [gp_r (some 74)]) (s' := s) 1 rfl ?_
    refine gs_E.call (args := [gp_r (some 74)]) (m := 1) (y' := 3167) (st' := []) rfl H (fun r s1 H => ?_)
    obtain ⟨x2, rfl, H⟩ := H
    show gs_E L (d + 1) 3175 132 [gp_r (some 74), gp_i v1, gp_i v2, gp_i v3] [gp_i x2] s1 K
    refine gs_E.br (c := x2 = 0) (p1 := 139) (p2 := 135) (l1 := [gp_r (some 74), gp_i v1, gp_i v2, gp_i v3]) (l2 := [gp_r (some 74), gp_i v1, gp_i v2, gp_i v3]) (s1 := []) (s2 := []) rfl gs_b1 (fun hc => ?_) (fun hc => ?_)
    · replace H := H.1 hc
      refine gs_E.stp (pc' := 141) (ls' := [gp_r (some 74), gp_i v1, gp_i v2, gp_i v3]) (st' := [gp_i 3, gp_r (some 74)]) (s' := s1) 2 rfl ?_
      refine gs_E.call (args := [gp_r (some 74), gp_i 3]) (m := 2) (y' := 3074) (st' := []) rfl H (fun r s3 H => ?_)
      obtain ⟨x4, rfl, H⟩ := H
      show gs_E L (d + 1) 3175 144 [gp_r (some 74), gp_i v1, gp_i v2, gp_i v3] [gp_i x4] s3 K
      exact H
    · replace H := H.2 hc
      refine gs_E.stp (pc' := 144) (ls' := [gp_r (some 74), gp_i v1, gp_i v2, gp_i v3]) (st' := [gp_i v2]) (s' := s1) 2 rfl ?_
      exact H
  · replace H := H.1 (Decidable.byContradiction hc)
    refine gs_E.stp (pc' := 112) (ls' := [gp_r (some 74), gp_i v1, gp_i v2, gp_i v3]) (st' := [gp_i v3, gp_r (some 112), gp_i (gp_wr (16 + v3)), gp_r (some 74), gp_i v2]) (s' := s) 8 rfl ?_
    refine gs_E.ck (pc' := 113) (ls' := [gp_r (some 74), gp_i v1, gp_i v2, gp_i v3]) (st' := [gp_i (gp_I s 112 v3.toNat), gp_i (gp_wr (16 + v3)), gp_r (some 74), gp_i v2]) (s' := s) rfl (Or.inl ⟨rfl, H.1.1, H.1.2⟩) ?_
    replace H := H.2
    refine gs_E.stp (pc' := 117) (ls' := [gp_r (some 74), gp_i v1, gp_i v2, gp_i v3]) (st' := [gp_i (gp_I s 74 56), gp_i (gp_I s 112 v3.toNat), gp_i (gp_wr (16 + v3)), gp_r (some 74), gp_i v2]) (s' := s) 2 rfl ?_
    refine gs_E.call (args := [gp_r (some 74), gp_i (gp_wr (16 + v3)), gp_i (gp_I s 112 v3.toNat), gp_i (gp_I s 74 56)]) (m := 4) (y' := 3083) (st' := [gp_i v2]) rfl H (fun r s5 H => ?_)
    obtain ⟨x6, rfl, H⟩ := H
    show gs_E L (d + 1) 3175 120 [gp_r (some 74), gp_i v1, gp_i v2, gp_i v3] [gp_i x6, gp_i v2] s5 K
    refine gs_E.stp (pc' := 93) (ls' := [gp_r (some 74), gp_i v1, gp_i (gp_wr (v2 + x6)), gp_i (gp_wr (v3 + 1))]) (st' := []) (s' := s5) 4 rfl ?_
    exact H

set_option maxRecDepth 100000 in
/-- GatheredPointsModel.matchOf, pc 144 -/
theorem s_3175_144 {L d : Nat} {K : Option gV → gH → Prop} {s : gH} (v1 : Int) (v2 : Int) (v3 : Int) (w0 : Int) (H : K (some (gp_i w0)) s) : gs_E L (d + 1) 3175 144 [gp_r (some 74), gp_i v1, gp_i v2, gp_i v3] [gp_i w0] s K := by
  exact gs_E.ret (r := (some (gp_i w0))) rfl H

set_option maxRecDepth 100000 in
/-- GatheredPointsModel.matchOf, pc 164 -/
theorem s_3175_164 {L d : Nat} {K : Option gV → gH → Prop} {s : gH} (v1 : Int) (v2 : Int) (v3 : Int) (H : ((v3 < (gp_I s 74 55) → ((0 ≤ v3 ∧ v3 < 3) ∧ gs_E L (d + 1) 3175 164 [gp_r (some 74), gp_i v1, gp_i (gp_or v2 (gp_shl 1 (gp_I s 111 v3.toNat))), gp_i (gp_wr (v3 + 1))] [] s K)) ∧ (¬ v3 < (gp_I s 74 55) → K (some (gp_i v2)) s))) : gs_E L (d + 1) 3175 164 [gp_r (some 74), gp_i v1, gp_i v2, gp_i v3] [] s K := by
  refine gs_E.stp (pc' := 169) (ls' := [gp_r (some 74), gp_i v1, gp_i v2, gp_i v3]) (st' := [gp_i (gp_I s 74 55), gp_i v3]) (s' := s) 3 rfl ?_
  refine gs_E.br (c := ¬ v3 < (gp_I s 74 55)) (p1 := 189) (p2 := 172) (l1 := [gp_r (some 74), gp_i v1, gp_i v2, gp_i v3]) (l2 := [gp_r (some 74), gp_i v1, gp_i v2, gp_i v3]) (s1 := []) (s2 := []) rfl gs_b2 (fun hc => ?_) (fun hc => ?_)
  · replace H := H.2 hc
    refine gs_E.stp (pc' := 190) (ls' := [gp_r (some 74), gp_i v1, gp_i v2, gp_i v3]) (st' := [gp_i v2]) (s' := s) 1 rfl ?_
    exact gs_E.ret (r := (some (gp_i v2))) rfl H
  · replace H := H.1 (Decidable.byContradiction hc)
    refine gs_E.stp (pc' := 179) (ls' := [gp_r (some 74), gp_i v1, gp_i v2, gp_i v3]) (st' := [gp_i v3, gp_r (some 111), gp_i 1, gp_i v2]) (s' := s) 5 rfl ?_
    refine gs_E.ck (pc' := 180) (ls' := [gp_r (some 74), gp_i v1, gp_i v2, gp_i v3]) (st' := [gp_i (gp_I s 111 v3.toNat), gp_i 1, gp_i v2]) (s' := s) rfl (Or.inl ⟨rfl, H.1.1, H.1.2⟩) ?_
    replace H := H.2
    refine gs_E.stp (pc' := 164) (ls' := [gp_r (some 74), gp_i v1, gp_i (gp_or v2 (gp_shl 1 (gp_I s 111 v3.toNat))), gp_i (gp_wr (v3 + 1))]) (st' := []) (s' := s) 5 rfl ?_
    exact H

set_option maxRecDepth 100000 in
/-- GatheredPointsModel.moved, pc 0 -/
theorem s_3176_e {L d : Nat} {K : Option gV → gH → Prop} {s : gH} (p0 : Int) (H : (((gp_I s 74 58) = 0 → gs_E L (d + 1) 3176 23 [gp_r (some 74), gp_i p0] [] s K) ∧ (¬ (gp_I s 74 58) = 0 → gs_C L d 3073 6 [gp_l (BitVec.ofInt 64 p0), gp_l (0#64), gp_l (BitVec.ofInt 64 (gp_wr ((gp_I s 74 57) - 1)))] s (fun r s1 => ∃ x2, r = some (gp_i x2) ∧ ((x2 = 0 → gs_E L (d + 1) 3176 23 [gp_r (some 74), gp_i p0] [] s1 K) ∧ (¬ x2 = 0 → ((0 ≤ p0 ∧ p0 < 200) ∧ ((0 ≤ (gp_I s1 113 p0.toNat) ∧ (gp_I s1 113 p0.toNat) < 3) ∧ ((0 ≤ p0 ∧ p0 < 200) ∧ K (some (gp_i (gp_wr ((gp_wr (100 * (gp_I s1 111 (gp_I s1 113 p0.toNat).toNat))) + (gp_I s1 114 p0.toNat))))) s1))))))))) : gs_C L (d + 1) 3176 2 [gp_r (some 74), gp_i p0] s K := by
  show gs_E L (d + 1) 3176 0 [gp_r (some 74), gp_i p0] [] s K
  refine gs_E.stp (pc' := 4) (ls' := [gp_r (some 74), gp_i p0]) (st' := [gp_i (gp_I s 74 58)]) (s' := s) 2 rfl ?_
  refine gs_E.br (c := (gp_I s 74 58) = 0) (p1 := 23) (p2 := 7) (l1 := [gp_r (some 74), gp_i p0]) (l2 := [gp_r (some 74), gp_i p0]) (s1 := []) (s2 := []) rfl gs_b1 (fun hc => ?_) (fun hc => ?_)
  · replace H := H.1 hc
    exact H
  · replace H := H.2 hc
    refine gs_E.stp (pc' := 17) (ls' := [gp_r (some 74), gp_i p0]) (st' := [gp_l (BitVec.ofInt 64 (gp_wr ((gp_I s 74 57) - 1))), gp_l (0#64), gp_l (BitVec.ofInt 64 p0)]) (s' := s) 8 rfl ?_
    refine gs_E.call (args := [gp_l (BitVec.ofInt 64 p0), gp_l (0#64), gp_l (BitVec.ofInt 64 (gp_wr ((gp_I s 74 57) - 1)))]) (m := 6) (y' := 3073) (st' := []) rfl H (fun r s1 H => ?_)
    obtain ⟨x2, rfl, H⟩ := H
    show gs_E L (d + 1) 3176 20 [gp_r (some 74), gp_i p0] [gp_i x2] s1 K
    refine gs_E.br (c := ¬ x2 = 0) (p1 := 29) (p2 := 23) (l1 := [gp_r (some 74), gp_i p0]) (l2 := [gp_r (some 74), gp_i p0]) (s1 := []) (s2 := []) rfl gs_b2 (fun hc => ?_) (fun hc => ?_)
    · replace H := H.2 hc
      refine gs_E.stp (pc' := 40) (ls' := [gp_r (some 74), gp_i p0]) (st' := [gp_i p0, gp_r (some 113), gp_r (some 111), gp_i 100]) (s' := s1) 6 rfl ?_
      refine gs_E.ck (pc' := 41) (ls' := [gp_r (some 74), gp_i p0]) (st' := [gp_i (gp_I s1 113 p0.toNat), gp_r (some 111), gp_i 100]) (s' := s1) rfl (Or.inl ⟨rfl, H.1.1, H.1.2⟩) ?_
      replace H := H.2
      refine gs_E.ck (pc' := 42) (ls' := [gp_r (some 74), gp_i p0]) (st' := [gp_i (gp_I s1 111 (gp_I s1 113 p0.toNat).toNat), gp_i 100]) (s' := s1) rfl (Or.inl ⟨rfl, H.1.1, H.1.2⟩) ?_
      replace H := H.2
      refine gs_E.stp (pc' := 48) (ls' := [gp_r (some 74), gp_i p0]) (st' := [gp_i p0, gp_r (some 114), gp_i (gp_wr (100 * (gp_I s1 111 (gp_I s1 113 p0.toNat).toNat)))]) (s' := s1) 4 rfl ?_
      refine gs_E.ck (pc' := 49) (ls' := [gp_r (some 74), gp_i p0]) (st' := [gp_i (gp_I s1 114 p0.toNat), gp_i (gp_wr (100 * (gp_I s1 111 (gp_I s1 113 p0.toNat).toNat)))]) (s' := s1) rfl (Or.inl ⟨rfl, H.1.1, H.1.2⟩) ?_
      replace H := H.2
      refine gs_E.stp (pc' := 50) (ls' := [gp_r (some 74), gp_i p0]) (st' := [gp_i (gp_wr ((gp_wr (100 * (gp_I s1 111 (gp_I s1 113 p0.toNat).toNat))) + (gp_I s1 114 p0.toNat)))]) (s' := s1) 1 rfl ?_
      exact gs_E.ret (r := (some (gp_i (gp_wr ((gp_wr (100 * (gp_I s1 111 (gp_I s1 113 p0.toNat).toNat))) + (gp_I s1 114 p0.toNat)))))) rfl H
    · replace H := H.1 (Decidable.byContradiction hc)
      exact H

set_option maxRecDepth 100000 in
/-- GatheredPointsModel.moved, pc 23 -/
theorem s_3176_23 {L d : Nat} {K : Option gV → gH → Prop} {s : gH} (v1 : Int) (H : gs_C L d 3074 2 [gp_r (some 74), gp_i 2] s (fun r s1 => ∃ x2, r = some (gp_i x2) ∧ K (some (gp_i x2)) s1)) : gs_E L (d + 1) 3176 23 [gp_r (some 74), gp_i v1] [] s K := by
  refine gs_E.stp (pc' := 25) (ls' := [gp_r (some 74), gp_i v1]) (st' := [gp_i 2, gp_r (some 74)]) (s' := s) 2 rfl ?_
  refine gs_E.call (args := [gp_r (some 74), gp_i 2]) (m := 2) (y' := 3074) (st' := []) rfl H (fun r s1 H => ?_)
  obtain ⟨x2, rfl, H⟩ := H
  show gs_E L (d + 1) 3176 28 [gp_r (some 74), gp_i v1] [gp_i x2] s1 K
  exact gs_E.ret (r := (some (gp_i x2))) rfl H

set_option maxRecDepth 100000 in
/-- GatheredPointsModel.board, pc 0 -/
theorem s_3177_e {L d : Nat} {K : Option gV → gH → Prop} {s : gH} (p0 : Int) (p1 : Int) (H : gs_C L d 3075 1 [gp_i p0] s (fun r s1 => ∃ x2, r = some (gp_i x2) ∧ ((x2 = 0 → gs_E L (d + 1) 3177 14 [gp_r (some 74), gp_i p0, gp_i p1, gp_n] [] s1 K) ∧ (¬ x2 = 0 → gs_C L d 3075 1 [gp_i p1] s1 (fun r s3 => ∃ x4, r = some (gp_i x4) ∧ ((x4 = 0 → gs_E L (d + 1) 3177 14 [gp_r (some 74), gp_i p0, gp_i p1, gp_n] [] s3 K) ∧ (¬ x4 = 0 → (((gp_I s3 74 58) = 0 → gs_E L (d + 1) 3177 36 [gp_r (some 74), gp_i p0, gp_i p1, gp_n] [gp_i (-1)] s3 K) ∧ (¬ (gp_I s3 74 58) = 0 → gs_C L d 3170 3 [gp_r (some 74), gp_i p0] s3 (fun r s5 => ∃ x6, r = some (gp_i x6) ∧ gs_E L (d + 1) 3177 36 [gp_r (some 74), gp_i p0, gp_i p1, gp_n] [gp_i x6] s5 K)))))))))) : gs_C L (d + 1) 3177 4 [gp_r (some 74), gp_i p0, gp_i p1] s K := by
  show gs_E L (d + 1) 3177 0 [gp_r (some 74), gp_i p0, gp_i p1, gp_n] [] s K
  refine gs_E.stp (pc' := 1) (ls' := [gp_r (some 74), gp_i p0, gp_i p1, gp_n]) (st' := [gp_i p0]) (s' := s) 1 rfl ?_
  refine gs_E.call (args := [gp_i p0]) (m := 1) (y' := 3075) (st' := []) rfl H (fun r s1 H => ?_)
  obtain ⟨x2, rfl, H⟩ := H
  show gs_E L (d + 1) 3177 4 [gp_r (some 74), gp_i p0, gp_i p1, gp_n] [gp_i x2] s1 K
  refine gs_E.br (c := x2 = 0) (p1 := 14) (p2 := 7) (l1 := [gp_r (some 74), gp_i p0, gp_i p1, gp_n]) (l2 := [gp_r (some 74), gp_i p0, gp_i p1, gp_n]) (s1 := []) (s2 := []) rfl gs_b1 (fun hc => ?_) (fun hc => ?_)
  · replace H := H.1 hc
    exact H
  · replace H := H.2 hc
    refine gs_E.stp (pc' := 8) (ls' := [gp_r (some 74), gp_i p0, gp_i p1, gp_n]) (st' := [gp_i p1]) (s' := s1) 1 rfl ?_
    refine gs_E.call (args := [gp_i p1]) (m := 1) (y' := 3075) (st' := []) rfl H (fun r s3 H => ?_)
    obtain ⟨x4, rfl, H⟩ := H
    show gs_E L (d + 1) 3177 11 [gp_r (some 74), gp_i p0, gp_i p1, gp_n] [gp_i x4] s3 K
    refine gs_E.br (c := ¬ x4 = 0) (p1 := 20) (p2 := 14) (l1 := [gp_r (some 74), gp_i p0, gp_i p1, gp_n]) (l2 := [gp_r (some 74), gp_i p0, gp_i p1, gp_n]) (s1 := []) (s2 := []) rfl gs_b2 (fun hc => ?_) (fun hc => ?_)
    · replace H := H.2 hc
      refine gs_E.stp (pc' := 24) (ls' := [gp_r (some 74), gp_i p0, gp_i p1, gp_n]) (st' := [gp_i (gp_I s3 74 58)]) (s' := s3) 2 rfl ?_
      refine gs_E.br (c := (gp_I s3 74 58) = 0) (p1 := 35) (p2 := 27) (l1 := [gp_r (some 74), gp_i p0, gp_i p1, gp_n]) (l2 := [gp_r (some 74), gp_i p0, gp_i p1, gp_n]) (s1 := []) (s2 := []) rfl gs_b1 (fun hc => ?_) (fun hc => ?_)
      · replace H := H.1 hc
        refine gs_E.stp (pc' := 36) (ls' := [gp_r (some 74), gp_i p0, gp_i p1, gp_n]) (st' := [gp_i (-1)]) (s' := s3) 1 rfl ?_
        exact H
      · replace H := H.2 hc
        refine gs_E.stp (pc' := 29) (ls' := [gp_r (some 74), gp_i p0, gp_i p1, gp_n]) (st' := [gp_i p0, gp_r (some 74)]) (s' := s3) 2 rfl ?_
        refine gs_E.call (args := [gp_r (some 74), gp_i p0]) (m := 3) (y' := 3170) (st' := []) rfl H (fun r s5 H => ?_)
        obtain ⟨x6, rfl, H⟩ := H
        show gs_E L (d + 1) 3177 32 [gp_r (some 74), gp_i p0, gp_i p1, gp_n] [gp_i x6] s5 K
        refine gs_E.stp (pc' := 36) (ls' := [gp_r (some 74), gp_i p0, gp_i p1, gp_n]) (st' := [gp_i x6]) (s' := s5) 1 rfl ?_
        exact H
    · replace H := H.1 (Decidable.byContradiction hc)
      exact H

set_option maxRecDepth 100000 in
/-- GatheredPointsModel.board, pc 14 -/
theorem s_3177_14 {L d : Nat} {K : Option gV → gH → Prop} {s : gH} (v1 : Int) (v2 : Int) (v3 : gV) (H : gs_C L d 3074 2 [gp_r (some 74), gp_i 1] s (fun r s1 => ∃ x2, r = some (gp_i x2) ∧ K (some (gp_i x2)) s1)) : gs_E L (d + 1) 3177 14 [gp_r (some 74), gp_i v1, gp_i v2, v3] [] s K := by
  refine gs_E.stp (pc' := 16) (ls' := [gp_r (some 74), gp_i v1, gp_i v2, v3]) (st' := [gp_i 1, gp_r (some 74)]) (s' := s) 2 rfl ?_
  refine gs_E.call (args := [gp_r (some 74), gp_i 1]) (m := 2) (y' := 3074) (st' := []) rfl H (fun r s1 H => ?_)
  obtain ⟨x2, rfl, H⟩ := H
  show gs_E L (d + 1) 3177 19 [gp_r (some 74), gp_i v1, gp_i v2, v3] [gp_i x2] s1 K
  exact gs_E.ret (r := (some (gp_i x2))) rfl H

set_option maxRecDepth 100000 in
/-- GatheredPointsModel.board, pc 36 -/
theorem s_3177_36 {L d : Nat} {K : Option gV → gH → Prop} {s : gH} (v1 : Int) (v2 : Int) (v3 : gV) (w0 : Int) (H : ((w0 < 0 → gs_C L d 3074 2 [gp_r (some 74), gp_i 2] s (fun r s3 => ∃ x4, r = some (gp_i x4) ∧ gs_E L (d + 1) 3177 64 [gp_r (some 74), gp_i v1, gp_i v2, gp_i w0] [gp_i x4] s3 K)) ∧ (¬ w0 < 0 → ((0 ≤ w0 ∧ w0 < 3) ∧ gs_C L d 3148 4 [gp_r (some 74), gp_i (gp_wr (16 + w0)), gp_i (gp_I s 112 w0.toNat), gp_i v2] s (fun r s1 => ∃ x2, r = some (gp_i x2) ∧ gs_E L (d + 1) 3177 64 [gp_r (some 74), gp_i v1, gp_i v2, gp_i w0] [gp_i x2] s1 K))))) : gs_E L (d + 1) 3177 36 [gp_r (some 74), gp_i v1, gp_i v2, v3] [gp_i w0] s K := by
  refine gs_E.stp (pc' := 38) (ls' := [gp_r (some 74), gp_i v1, gp_i v2, gp_i w0]) (st' := [gp_i w0]) (s' := s) 2 rfl ?_
  refine gs_E.br (c := ¬ w0 < 0) (p1 := 49) (p2 := 41) (l1 := [gp_r (some 74), gp_i v1, gp_i v2, gp_i w0]) (l2 := [gp_r (some 74), gp_i v1, gp_i v2, gp_i w0]) (s1 := []) (s2 := []) rfl gs_b2 (fun hc => ?_) (fun hc => ?_)
  · replace H := H.2 hc
    refine gs_E.stp (pc' := 59) (ls' := [gp_r (some 74), gp_i v1, gp_i v2, gp_i w0]) (st' := [gp_i w0, gp_r (some 112), gp_i (gp_wr (16 + w0)), gp_r (some 74)]) (s' := s) 7 rfl ?_
    refine gs_E.ck (pc' := 60) (ls' := [gp_r (some 74), gp_i v1, gp_i v2, gp_i w0]) (st' := [gp_i (gp_I s 112 w0.toNat), gp_i (gp_wr (16 + w0)), gp_r (some 74)]) (s' := s) rfl (Or.inl ⟨rfl, H.1.1, H.1.2⟩) ?_
    replace H := H.2
    refine gs_E.stp (pc' := 61) (ls' := [gp_r (some 74), gp_i v1, gp_i v2, gp_i w0]) (st' := [gp_i v2, gp_i (gp_I s 112 w0.toNat), gp_i (gp_wr (16 + w0)), gp_r (some 74)]) (s' := s) 1 rfl ?_
    refine gs_E.call (args := [gp_r (some 74), gp_i (gp_wr (16 + w0)), gp_i (gp_I s 112 w0.toNat), gp_i v2]) (m := 4) (y' := 3148) (st' := []) rfl H (fun r s1 H => ?_)
    obtain ⟨x2, rfl, H⟩ := H
    show gs_E L (d + 1) 3177 64 [gp_r (some 74), gp_i v1, gp_i v2, gp_i w0] [gp_i x2] s1 K
    exact H
  · replace H := H.1 (Decidable.byContradiction hc)
    refine gs_E.stp (pc' := 43) (ls' := [gp_r (some 74), gp_i v1, gp_i v2, gp_i w0]) (st' := [gp_i 2, gp_r (some 74)]) (s' := s) 2 rfl ?_
    refine gs_E.call (args := [gp_r (some 74), gp_i 2]) (m := 2) (y' := 3074) (st' := []) rfl H (fun r s3 H => ?_)
    obtain ⟨x4, rfl, H⟩ := H
    show gs_E L (d + 1) 3177 46 [gp_r (some 74), gp_i v1, gp_i v2, gp_i w0] [gp_i x4] s3 K
    refine gs_E.stp (pc' := 64) (ls' := [gp_r (some 74), gp_i v1, gp_i v2, gp_i w0]) (st' := [gp_i x4]) (s' := s3) 1 rfl ?_
    exact H

set_option maxRecDepth 100000 in
/-- GatheredPointsModel.board, pc 64 -/
theorem s_3177_64 {L d : Nat} {K : Option gV → gH → Prop} {s : gH} (v1 : Int) (v2 : Int) (v3 : Int) (w0 : Int) (H : K (some (gp_i w0)) s) : gs_E L (d + 1) 3177 64 [gp_r (some 74), gp_i v1, gp_i v2, gp_i v3] [gp_i w0] s K := by
  exact gs_E.ret (r := (some (gp_i w0))) rfl H

set_option maxRecDepth 100000 in
/-- GatheredPointsModel.sheet, pc 0 -/
theorem s_3178_e {L d : Nat} {K : Option gV → gH → Prop} {s : gH} (p0 : Int) (p1 : Int) (p2 : Int) (H : gs_C L d 3076 1 [gp_i p0] s (fun r s1 => ∃ x2, r = some (gp_i x2) ∧ ((x2 = 0 → gs_E L (d + 1) 3178 29 [gp_r (some 74), gp_i p0, gp_i p1, gp_i p2, gp_n] [] s1 K) ∧ (¬ x2 = 0 → ((p1 = 0 → gs_E L (d + 1) 3178 35 [gp_r (some 74), gp_i p0, gp_i p1, gp_i p2, gp_n] [] s1 K) ∧ (¬ p1 = 0 → ((p1 = 8 → gs_E L (d + 1) 3178 35 [gp_r (some 74), gp_i p0, gp_i p1, gp_i p2, gp_n] [] s1 K) ∧ (¬ p1 = 8 → ((p1 = 16 → gs_E L (d + 1) 3178 35 [gp_r (some 74), gp_i p0, gp_i p1, gp_i p2, gp_n] [] s1 K) ∧ (¬ p1 = 16 → ((p1 = 32 → gs_E L (d + 1) 3178 35 [gp_r (some 74), gp_i p0, gp_i p1, gp_i p2, gp_n] [] s1 K) ∧ (¬ p1 = 32 → gs_E L (d + 1) 3178 29 [gp_r (some 74), gp_i p0, gp_i p1, gp_i p2, gp_n] [] s1 K)))))))))))) : gs_C L (d + 1) 3178 5 [gp_r (some 74), gp_i p0, gp_i p1, gp_i p2] s K := by
  show gs_E L (d + 1) 3178 0 [gp_r (some 74), gp_i p0, gp_i p1, gp_i p2, gp_n] [] s K
  refine gs_E.stp (pc' := 1) (ls' := [gp_r (some 74), gp_i p0, gp_i p1, gp_i p2, gp_n]) (st' := [gp_i p0]) (s' := s) 1 rfl ?_
  refine gs_E.call (args := [gp_i p0]) (m := 1) (y' := 3076) (st' := []) rfl H (fun r s1 H => ?_)
  obtain ⟨x2, rfl, H⟩ := H
  show gs_E L (d + 1) 3178 4 [gp_r (some 74), gp_i p0, gp_i p1, gp_i p2, gp_n] [gp_i x2] s1 K
  refine gs_E.br (c := x2 = 0) (p1 := 29) (p2 := 7) (l1 := [gp_r (some 74), gp_i p0, gp_i p1, gp_i p2, gp_n]) (l2 := [gp_r (some 74), gp_i p0, gp_i p1, gp_i p2, gp_n]) (s1 := []) (s2 := []) rfl gs_b1 (fun hc => ?_) (fun hc => ?_)
  · replace H := H.1 hc
    exact H
  · replace H := H.2 hc
    refine gs_E.stp (pc' := 8) (ls' := [gp_r (some 74), gp_i p0, gp_i p1, gp_i p2, gp_n]) (st' := [gp_i p1]) (s' := s1) 1 rfl ?_
    refine gs_E.br (c := p1 = 0) (p1 := 35) (p2 := 11) (l1 := [gp_r (some 74), gp_i p0, gp_i p1, gp_i p2, gp_n]) (l2 := [gp_r (some 74), gp_i p0, gp_i p1, gp_i p2, gp_n]) (s1 := []) (s2 := []) rfl gs_b1 (fun hc => ?_) (fun hc => ?_)
    · replace H := H.1 hc
      exact H
    · replace H := H.2 hc
      refine gs_E.stp (pc' := 14) (ls' := [gp_r (some 74), gp_i p0, gp_i p1, gp_i p2, gp_n]) (st' := [gp_i 8, gp_i p1]) (s' := s1) 2 rfl ?_
      refine gs_E.br (c := p1 = 8) (p1 := 35) (p2 := 17) (l1 := [gp_r (some 74), gp_i p0, gp_i p1, gp_i p2, gp_n]) (l2 := [gp_r (some 74), gp_i p0, gp_i p1, gp_i p2, gp_n]) (s1 := []) (s2 := []) rfl gs_b1 (fun hc => ?_) (fun hc => ?_)
      · replace H := H.1 hc
        exact H
      · replace H := H.2 hc
        refine gs_E.stp (pc' := 20) (ls' := [gp_r (some 74), gp_i p0, gp_i p1, gp_i p2, gp_n]) (st' := [gp_i 16, gp_i p1]) (s' := s1) 2 rfl ?_
        refine gs_E.br (c := p1 = 16) (p1 := 35) (p2 := 23) (l1 := [gp_r (some 74), gp_i p0, gp_i p1, gp_i p2, gp_n]) (l2 := [gp_r (some 74), gp_i p0, gp_i p1, gp_i p2, gp_n]) (s1 := []) (s2 := []) rfl gs_b1 (fun hc => ?_) (fun hc => ?_)
        · replace H := H.1 hc
          exact H
        · replace H := H.2 hc
          refine gs_E.stp (pc' := 26) (ls' := [gp_r (some 74), gp_i p0, gp_i p1, gp_i p2, gp_n]) (st' := [gp_i 32, gp_i p1]) (s' := s1) 2 rfl ?_
          refine gs_E.br (c := p1 = 32) (p1 := 35) (p2 := 29) (l1 := [gp_r (some 74), gp_i p0, gp_i p1, gp_i p2, gp_n]) (l2 := [gp_r (some 74), gp_i p0, gp_i p1, gp_i p2, gp_n]) (s1 := []) (s2 := []) rfl gs_b1 (fun hc => ?_) (fun hc => ?_)
          · replace H := H.1 hc
            exact H
          · replace H := H.2 hc
            exact H

set_option maxRecDepth 100000 in
/-- GatheredPointsModel.sheet, pc 29 -/
theorem s_3178_29 {L d : Nat} {K : Option gV → gH → Prop} {s : gH} (v1 : Int) (v2 : Int) (v3 : Int) (v4 : gV) (H : gs_C L d 3074 2 [gp_r (some 74), gp_i 1] s (fun r s1 => ∃ x2, r = some (gp_i x2) ∧ K (some (gp_i x2)) s1)) : gs_E L (d + 1) 3178 29 [gp_r (some 74), gp_i v1, gp_i v2, gp_i v3, v4] [] s K := by
  refine gs_E.stp (pc' := 31) (ls' := [gp_r (some 74), gp_i v1, gp_i v2, gp_i v3, v4]) (st' := [gp_i 1, gp_r (some 74)]) (s' := s) 2 rfl ?_
  refine gs_E.call (args := [gp_r (some 74), gp_i 1]) (m := 2) (y' := 3074) (st' := []) rfl H (fun r s1 H => ?_)
  obtain ⟨x2, rfl, H⟩ := H
  show gs_E L (d + 1) 3178 34 [gp_r (some 74), gp_i v1, gp_i v2, gp_i v3, v4] [gp_i x2] s1 K
  exact gs_E.ret (r := (some (gp_i x2))) rfl H

set_option maxRecDepth 100000 in
/-- GatheredPointsModel.sheet, pc 35 -/
theorem s_3178_35 {L d : Nat} {K : Option gV → gH → Prop} {s : gH} (v1 : Int) (v2 : Int) (v3 : Int) (v4 : gV) (H : ((v2 = 0 → gs_E L (d + 1) 3178 49 [gp_r (some 74), gp_i v1, gp_i v2, gp_i v3, v4] [] s K) ∧ (¬ v2 = 0 → ((v3 < 0 → gs_C L d 3074 2 [gp_r (some 74), gp_i 3] s (fun r s1 => ∃ x2, r = some (gp_i x2) ∧ K (some (gp_i x2)) s1)) ∧ (¬ v3 < 0 → gs_E L (d + 1) 3178 49 [gp_r (some 74), gp_i v1, gp_i v2, gp_i v3, v4] [] s K))))) : gs_E L (d + 1) 3178 35 [gp_r (some 74), gp_i v1, gp_i v2, gp_i v3, v4] [] s K := by
  refine gs_E.stp (pc' := 36) (ls' := [gp_r (some 74), gp_i v1, gp_i v2, gp_i v3, v4]) (st' := [gp_i v2]) (s' := s) 1 rfl ?_
  refine gs_E.br (c := v2 = 0) (p1 := 49) (p2 := 39) (l1 := [gp_r (some 74), gp_i v1, gp_i v2, gp_i v3, v4]) (l2 := [gp_r (some 74), gp_i v1, gp_i v2, gp_i v3, v4]) (s1 := []) (s2 := []) rfl gs_b1 (fun hc => ?_) (fun hc => ?_)
  · replace H := H.1 hc
    exact H
  · replace H := H.2 hc
    refine gs_E.stp (pc' := 40) (ls' := [gp_r (some 74), gp_i v1, gp_i v2, gp_i v3, v4]) (st' := [gp_i v3]) (s' := s) 1 rfl ?_
    refine gs_E.br (c := ¬ v3 < 0) (p1 := 49) (p2 := 43) (l1 := [gp_r (some 74), gp_i v1, gp_i v2, gp_i v3, v4]) (l2 := [gp_r (some 74), gp_i v1, gp_i v2, gp_i v3, v4]) (s1 := []) (s2 := []) rfl gs_b2 (fun hc => ?_) (fun hc => ?_)
    · replace H := H.2 hc
      exact H
    · replace H := H.1 (Decidable.byContradiction hc)
      refine gs_E.stp (pc' := 45) (ls' := [gp_r (some 74), gp_i v1, gp_i v2, gp_i v3, v4]) (st' := [gp_i 3, gp_r (some 74)]) (s' := s) 2 rfl ?_
      refine gs_E.call (args := [gp_r (some 74), gp_i 3]) (m := 2) (y' := 3074) (st' := []) rfl H (fun r s1 H => ?_)
      obtain ⟨x2, rfl, H⟩ := H
      show gs_E L (d + 1) 3178 48 [gp_r (some 74), gp_i v1, gp_i v2, gp_i v3, v4] [gp_i x2] s1 K
      exact gs_E.ret (r := (some (gp_i x2))) rfl H

set_option maxRecDepth 100000 in
/-- GatheredPointsModel.sheet, pc 49 -/
theorem s_3178_49 {L d : Nat} {K : Option gV → gH → Prop} {s : gH} (v1 : Int) (v2 : Int) (v3 : Int) (v4 : gV) (H : ((v2 = 0 → gs_E L (d + 1) 3178 65 [gp_r (some 74), gp_i v1, gp_i v2, gp_i v3, v4] [] s K) ∧ (¬ v2 = 0 → ((20 < v3 → gs_C L d 3074 2 [gp_r (some 74), gp_i 1] s (fun r s1 => ∃ x2, r = some (gp_i x2) ∧ K (some (gp_i x2)) s1)) ∧ (¬ 20 < v3 → gs_E L (d + 1) 3178 65 [gp_r (some 74), gp_i v1, gp_i v2, gp_i v3, v4] [] s K))))) : gs_E L (d + 1) 3178 49 [gp_r (some 74), gp_i v1, gp_i v2, gp_i v3, v4] [] s K := by
  refine gs_E.stp (pc' := 50) (ls' := [gp_r (some 74), gp_i v1, gp_i v2, gp_i v3, v4]) (st' := [gp_i v2]) (s' := s) 1 rfl ?_
  refine gs_E.br (c := v2 = 0) (p1 := 65) (p2 := 53) (l1 := [gp_r (some 74), gp_i v1, gp_i v2, gp_i v3, v4]) (l2 := [gp_r (some 74), gp_i v1, gp_i v2, gp_i v3, v4]) (s1 := []) (s2 := []) rfl gs_b1 (fun hc => ?_) (fun hc => ?_)
  · replace H := H.1 hc
    exact H
  · replace H := H.2 hc
    refine gs_E.stp (pc' := 56) (ls' := [gp_r (some 74), gp_i v1, gp_i v2, gp_i v3, v4]) (st' := [gp_i 20, gp_i v3]) (s' := s) 2 rfl ?_
    refine gs_E.br (c := ¬ 20 < v3) (p1 := 65) (p2 := 59) (l1 := [gp_r (some 74), gp_i v1, gp_i v2, gp_i v3, v4]) (l2 := [gp_r (some 74), gp_i v1, gp_i v2, gp_i v3, v4]) (s1 := []) (s2 := []) rfl gs_b2 (fun hc => ?_) (fun hc => ?_)
    · replace H := H.2 hc
      exact H
    · replace H := H.1 (Decidable.byContradiction hc)
      refine gs_E.stp (pc' := 61) (ls' := [gp_r (some 74), gp_i v1, gp_i v2, gp_i v3, v4]) (st' := [gp_i 1, gp_r (some 74)]) (s' := s) 2 rfl ?_
      refine gs_E.call (args := [gp_r (some 74), gp_i 1]) (m := 2) (y' := 3074) (st' := []) rfl H (fun r s1 H => ?_)
      obtain ⟨x2, rfl, H⟩ := H
      show gs_E L (d + 1) 3178 64 [gp_r (some 74), gp_i v1, gp_i v2, gp_i v3, v4] [gp_i x2] s1 K
      exact gs_E.ret (r := (some (gp_i x2))) rfl H

set_option maxRecDepth 100000 in
/-- GatheredPointsModel.sheet, pc 65 -/
theorem s_3178_65 {L d : Nat} {K : Option gV → gH → Prop} {s : gH} (v1 : Int) (v2 : Int) (v3 : Int) (v4 : gV) (H : ((0 ≤ v1 ∧ v1 < 4) ∧ (∀ s1, s1 = gp_wI s 84 v1.toNat v2 → ((v2 = 0 → gs_E L (d + 1) 3178 86 [gp_r (some 74), gp_i v1, gp_i v2, gp_i v3, v4] [gp_i 0, gp_i v1, gp_r (some 85)] s1 K) ∧ (¬ v2 = 0 → gs_E L (d + 1) 3178 86 [gp_r (some 74), gp_i v1, gp_i v2, gp_i v3, v4] [gp_i v3, gp_i v1, gp_r (some 85)] s1 K))))) : gs_E L (d + 1) 3178 65 [gp_r (some 74), gp_i v1, gp_i v2, gp_i v3, v4] [] s K := by
  refine gs_E.stp (pc' := 71) (ls' := [gp_r (some 74), gp_i v1, gp_i v2, gp_i v3, v4]) (st' := [gp_i v2, gp_i v1, gp_r (some 84)]) (s' := s) 4 rfl ?_
  refine gs_E.ck (pc' := 72) (ls' := [gp_r (some 74), gp_i v1, gp_i v2, gp_i v3, v4]) (st' := []) (s' := gp_wI s 84 v1.toNat v2) rfl ⟨rfl, H.1.1, H.1.2⟩ ?_
  replace H := H.2 _ rfl
  generalize gp_wI s 84 v1.toNat v2 = s1 at H ⊢
  refine gs_E.stp (pc' := 78) (ls' := [gp_r (some 74), gp_i v1, gp_i v2, gp_i v3, v4]) (st' := [gp_i v2, gp_i v1, gp_r (some 85)]) (s' := s1) 4 rfl ?_
  refine gs_E.br (c := ¬ v2 = 0) (p1 := 85) (p2 := 81) (l1 := [gp_r (some 74), gp_i v1, gp_i v2, gp_i v3, v4]) (l2 := [gp_r (some 74), gp_i v1, gp_i v2, gp_i v3, v4]) (s1 := [gp_i v1, gp_r (some 85)]) (s2 := [gp_i v1, gp_r (some 85)]) rfl gs_b2 (fun hc => ?_) (fun hc => ?_)
  · replace H := H.2 hc
    refine gs_E.stp (pc' := 86) (ls' := [gp_r (some 74), gp_i v1, gp_i v2, gp_i v3, v4]) (st' := [gp_i v3, gp_i v1, gp_r (some 85)]) (s' := s1) 1 rfl ?_
    exact H
  · replace H := H.1 (Decidable.byContradiction hc)
    refine gs_E.stp (pc' := 86) (ls' := [gp_r (some 74), gp_i v1, gp_i v2, gp_i v3, v4]) (st' := [gp_i 0, gp_i v1, gp_r (some 85)]) (s' := s1) 2 rfl ?_
    exact H

set_option maxRecDepth 100000 in
/-- GatheredPointsModel.sheet, pc 86 -/
theorem s_3178_86 {L d : Nat} {K : Option gV → gH → Prop} {s : gH} (v1 : Int) (v2 : Int) (v3 : Int) (v4 : gV) (w1 : Int) (w2 : Int) (H : ((0 ≤ w1 ∧ w1 < 4) ∧ (∀ s1, s1 = gp_wI s 85 w1.toNat w2 → gs_E L (d + 1) 3178 90 [gp_r (some 74), gp_i v1, gp_i v2, gp_i v3, gp_i 0] [] s1 K))) : gs_E L (d + 1) 3178 86 [gp_r (some 74), gp_i v1, gp_i v2, gp_i v3, v4] [gp_i w2, gp_i w1, gp_r (some 85)] s K := by
  refine gs_E.ck (pc' := 87) (ls' := [gp_r (some 74), gp_i v1, gp_i v2, gp_i v3, v4]) (st' := []) (s' := gp_wI s 85 w1.toNat w2) rfl ⟨rfl, H.1.1, H.1.2⟩ ?_
  replace H := H.2 _ rfl
  generalize gp_wI s 85 w1.toNat w2 = s1 at H ⊢
  refine gs_E.stp (pc' := 90) (ls' := [gp_r (some 74), gp_i v1, gp_i v2, gp_i v3, gp_i 0]) (st' := []) (s' := s1) 2 rfl ?_
  exact H

set_option maxRecDepth 100000 in
/-- GatheredPointsModel.sheet, pc 90 -/
theorem s_3178_90 {L d : Nat} {K : Option gV → gH → Prop} {s : gH} (v1 : Int) (v2 : Int) (v3 : Int) (v4 : Int) (H : ((v4 < 20 → ((0 ≤ (gp_wr ((gp_wr (20 * v1)) + v4)) ∧ (gp_wr ((gp_wr (20 * v1)) + v4)) < 80) ∧ (∀ s1, s1 = gp_wI s 83 (gp_wr ((gp_wr (20 * v1)) + v4)).toNat 0 → gs_E L (d + 1) 3178 90 [gp_r (some 74), gp_i v1, gp_i v2, gp_i v3, gp_i (gp_wr (v4 + 1))] [] s1 K))) ∧ (¬ v4 < 20 → K (some (gp_i 1)) s))) : gs_E L (d + 1) 3178 90 [gp_r (some 74), gp_i v1, gp_i v2, gp_i v3, gp_i v4] [] s K := by
  refine gs_E.stp (pc' := 94) (ls' := [gp_r (some 74), gp_i v1, gp_i v2, gp_i v3, gp_i v4]) (st' := [gp_i 20, gp_i v4]) (s' := s) 2 rfl ?_
  refine gs_E.br (c := ¬ v4 < 20) (p1 := 116) (p2 := 97) (l1 := [gp_r (some 74), gp_i v1, gp_i v2, gp_i v3, gp_i v4]) (l2 := [gp_r (some 74), gp_i v1, gp_i v2, gp_i v3, gp_i v4]) (s1 := []) (s2 := []) rfl gs_b2 (fun hc => ?_) (fun hc => ?_)
  · replace H := H.2 hc
    refine gs_E.stp (pc' := 117) (ls' := [gp_r (some 74), gp_i v1, gp_i v2, gp_i v3, gp_i v4]) (st' := [gp_i 1]) (s' := s) 1 rfl ?_
    exact gs_E.ret (r := (some (gp_i 1))) rfl H
  · replace H := H.1 (Decidable.byContradiction hc)
    refine gs_E.stp (pc' := 109) (ls' := [gp_r (some 74), gp_i v1, gp_i v2, gp_i v3, gp_i v4]) (st' := [gp_i 0, gp_i (gp_wr ((gp_wr (20 * v1)) + v4)), gp_r (some 83)]) (s' := s) 8 rfl ?_
    refine gs_E.ck (pc' := 110) (ls' := [gp_r (some 74), gp_i v1, gp_i v2, gp_i v3, gp_i v4]) (st' := []) (s' := gp_wI s 83 (gp_wr ((gp_wr (20 * v1)) + v4)).toNat 0) rfl ⟨rfl, H.1.1, H.1.2⟩ ?_
    replace H := H.2 _ rfl
    generalize gp_wI s 83 (gp_wr ((gp_wr (20 * v1)) + v4)).toNat 0 = s1 at H ⊢
    refine gs_E.stp (pc' := 90) (ls' := [gp_r (some 74), gp_i v1, gp_i v2, gp_i v3, gp_i (gp_wr (v4 + 1))]) (st' := []) (s' := s1) 2 rfl ?_
    exact H

set_option maxRecDepth 100000 in
/-- GatheredPointsModel.lacksNumber, pc 0 -/
theorem s_3179_e {L d : Nat} {K : Option gV → gH → Prop} {s : gH} (p0 : Int) (p1 : Int) (H : gs_C L d 3076 1 [gp_i p0] s (fun r s1 => ∃ x2, r = some (gp_i x2) ∧ ((x2 = 0 → gs_E L (d + 1) 3179 47 [gp_r (some 74), gp_i p0, gp_i p1] [gp_i 1] s1 K) ∧ (¬ x2 = 0 → ((0 ≤ p0 ∧ p0 < 4) ∧ (((gp_I s1 84 p0.toNat) = 0 → gs_E L (d + 1) 3179 47 [gp_r (some 74), gp_i p0, gp_i p1] [gp_i 2] s1 K) ∧ (¬ (gp_I s1 84 p0.toNat) = 0 → ((0 ≤ p0 ∧ p0 < 4) ∧ gs_C L d 3073 6 [gp_l (BitVec.ofInt 64 p1), gp_l (0#64), gp_l (BitVec.ofInt 64 (gp_wr ((gp_I s1 85 p0.toNat) - 1)))] s1 (fun r s3 => ∃ x4, r = some (gp_i x4) ∧ ((x4 = 0 → gs_E L (d + 1) 3179 47 [gp_r (some 74), gp_i p0, gp_i p1] [gp_i 1] s3 K) ∧ (¬ x4 = 0 → gs_E L (d + 1) 3179 47 [gp_r (some 74), gp_i p0, gp_i p1] [gp_i 0] s3 K))))))))))) : gs_C L (d + 1) 3179 3 [gp_r (some 74), gp_i p0, gp_i p1] s K := by
  show gs_E L (d + 1) 3179 0 [gp_r (some 74), gp_i p0, gp_i p1] [] s K
  refine gs_E.stp (pc' := 1) (ls' := [gp_r (some 74), gp_i p0, gp_i p1]) (st' := [gp_i p0]) (s' := s) 1 rfl ?_
  refine gs_E.call (args := [gp_i p0]) (m := 1) (y' := 3076) (st' := []) rfl H (fun r s1 H => ?_)
  obtain ⟨x2, rfl, H⟩ := H
  show gs_E L (d + 1) 3179 4 [gp_r (some 74), gp_i p0, gp_i p1] [gp_i x2] s1 K
  refine gs_E.br (c := ¬ x2 = 0) (p1 := 11) (p2 := 7) (l1 := [gp_r (some 74), gp_i p0, gp_i p1]) (l2 := [gp_r (some 74), gp_i p0, gp_i p1]) (s1 := []) (s2 := []) rfl gs_b2 (fun hc => ?_) (fun hc => ?_)
  · replace H := H.2 hc
    refine gs_E.stp (pc' := 16) (ls' := [gp_r (some 74), gp_i p0, gp_i p1]) (st' := [gp_i p0, gp_r (some 84)]) (s' := s1) 3 rfl ?_
    refine gs_E.ck (pc' := 17) (ls' := [gp_r (some 74), gp_i p0, gp_i p1]) (st' := [gp_i (gp_I s1 84 p0.toNat)]) (s' := s1) rfl (Or.inl ⟨rfl, H.1.1, H.1.2⟩) ?_
    replace H := H.2
    refine gs_E.br (c := ¬ (gp_I s1 84 p0.toNat) = 0) (p1 := 24) (p2 := 20) (l1 := [gp_r (some 74), gp_i p0, gp_i p1]) (l2 := [gp_r (some 74), gp_i p0, gp_i p1]) (s1 := []) (s2 := []) rfl gs_b2 (fun hc => ?_) (fun hc => ?_)
    · replace H := H.2 hc
      refine gs_E.stp (pc' := 32) (ls' := [gp_r (some 74), gp_i p0, gp_i p1]) (st' := [gp_i p0, gp_r (some 85), gp_l (0#64), gp_l (BitVec.ofInt 64 p1)]) (s' := s1) 6 rfl ?_
      refine gs_E.ck (pc' := 33) (ls' := [gp_r (some 74), gp_i p0, gp_i p1]) (st' := [gp_i (gp_I s1 85 p0.toNat), gp_l (0#64), gp_l (BitVec.ofInt 64 p1)]) (s' := s1) rfl (Or.inl ⟨rfl, H.1.1, H.1.2⟩) ?_
      replace H := H.2
      refine gs_E.stp (pc' := 36) (ls' := [gp_r (some 74), gp_i p0, gp_i p1]) (st' := [gp_l (BitVec.ofInt 64 (gp_wr ((gp_I s1 85 p0.toNat) - 1))), gp_l (0#64), gp_l (BitVec.ofInt 64 p1)]) (s' := s1) 3 rfl ?_
      refine gs_E.call (args := [gp_l (BitVec.ofInt 64 p1), gp_l (0#64), gp_l (BitVec.ofInt 64 (gp_wr ((gp_I s1 85 p0.toNat) - 1)))]) (m := 6) (y' := 3073) (st' := []) rfl H (fun r s3 H => ?_)
      obtain ⟨x4, rfl, H⟩ := H
      show gs_E L (d + 1) 3179 39 [gp_r (some 74), gp_i p0, gp_i p1] [gp_i x4] s3 K
      refine gs_E.br (c := x4 = 0) (p1 := 46) (p2 := 42) (l1 := [gp_r (some 74), gp_i p0, gp_i p1]) (l2 := [gp_r (some 74), gp_i p0, gp_i p1]) (s1 := []) (s2 := []) rfl gs_b1 (fun hc => ?_) (fun hc => ?_)
      · replace H := H.1 hc
        refine gs_E.stp (pc' := 47) (ls' := [gp_r (some 74), gp_i p0, gp_i p1]) (st' := [gp_i 1]) (s' := s3) 1 rfl ?_
        exact H
      · replace H := H.2 hc
        refine gs_E.stp (pc' := 47) (ls' := [gp_r (some 74), gp_i p0, gp_i p1]) (st' := [gp_i 0]) (s' := s3) 2 rfl ?_
        exact H
    · replace H := H.1 (Decidable.byContradiction hc)
      refine gs_E.stp (pc' := 47) (ls' := [gp_r (some 74), gp_i p0, gp_i p1]) (st' := [gp_i 2]) (s' := s1) 2 rfl ?_
      exact H
  · replace H := H.1 (Decidable.byContradiction hc)
    refine gs_E.stp (pc' := 47) (ls' := [gp_r (some 74), gp_i p0, gp_i p1]) (st' := [gp_i 1]) (s' := s1) 2 rfl ?_
    exact H

set_option maxRecDepth 100000 in
/-- GatheredPointsModel.lacksNumber, pc 47 -/
theorem s_3179_47 {L d : Nat} {K : Option gV → gH → Prop} {s : gH} (v1 : Int) (v2 : Int) (w0 : Int) (H : K (some (gp_i w0)) s) : gs_E L (d + 1) 3179 47 [gp_r (some 74), gp_i v1, gp_i v2] [gp_i w0] s K := by
  exact gs_E.ret (r := (some (gp_i w0))) rfl H

set_option maxRecDepth 100000 in
/-- GatheredPointsModel.put, pc 0 -/
theorem s_3180_e {L d : Nat} {K : Option gV → gH → Prop} {s : gH} (p0 : Int) (p1 : Int) (p2 : Int) (H : gs_C L d 3179 3 [gp_r (some 74), gp_i p0, gp_i p1] s (fun r s1 => ∃ x2, r = some (gp_i x2) ∧ ((x2 = 0 → ((0 ≤ p0 ∧ p0 < 4) ∧ (((gp_I s1 84 p0.toNat) = 8 → gs_E L (d + 1) 3180 63 [gp_r (some 74), gp_i p0, gp_i p1, gp_i p2, gp_i x2, gp_i (gp_I s1 84 p0.toNat)] [gp_i (gp_b p2), gp_i (gp_wr ((gp_wr (20 * p0)) + p1)), gp_r (some 83)] s1 K) ∧ (¬ (gp_I s1 84 p0.toNat) = 8 → (((gp_I s1 84 p0.toNat) = 16 → gs_E L (d + 1) 3180 63 [gp_r (some 74), gp_i p0, gp_i p1, gp_i p2, gp_i x2, gp_i (gp_I s1 84 p0.toNat)] [gp_i (gp_s p2), gp_i (gp_wr ((gp_wr (20 * p0)) + p1)), gp_r (some 83)] s1 K) ∧ (¬ (gp_I s1 84 p0.toNat) = 16 → gs_E L (d + 1) 3180 63 [gp_r (some 74), gp_i p0, gp_i p1, gp_i p2, gp_i x2, gp_i (gp_I s1 84 p0.toNat)] [gp_i p2, gp_i (gp_wr ((gp_wr (20 * p0)) + p1)), gp_r (some 83)] s1 K)))))) ∧ (¬ x2 = 0 → gs_C L d 3074 2 [gp_r (some 74), gp_i x2] s1 (fun r s3 => ∃ x4, r = some (gp_i x4) ∧ K (some (gp_i x4)) s3))))) : gs_C L (d + 1) 3180 6 [gp_r (some 74), gp_i p0, gp_i p1, gp_i p2] s K := by
  show gs_E L (d + 1) 3180 0 [gp_r (some 74), gp_i p0, gp_i p1, gp_i p2, gp_n, gp_n] [] s K
  refine gs_E.stp (pc' := 3) (ls' := [gp_r (some 74), gp_i p0, gp_i p1, gp_i p2, gp_n, gp_n]) (st' := [gp_i p1, gp_i p0, gp_r (some 74)]) (s' := s) 3 rfl ?_
  refine gs_E.call (args := [gp_r (some 74), gp_i p0, gp_i p1]) (m := 3) (y' := 3179) (st' := []) rfl H (fun r s1 H => ?_)
  obtain ⟨x2, rfl, H⟩ := H
  show gs_E L (d + 1) 3180 6 [gp_r (some 74), gp_i p0, gp_i p1, gp_i p2, gp_n, gp_n] [gp_i x2] s1 K
  refine gs_E.stp (pc' := 10) (ls' := [gp_r (some 74), gp_i p0, gp_i p1, gp_i p2, gp_i x2, gp_n]) (st' := [gp_i x2]) (s' := s1) 2 rfl ?_
  refine gs_E.br (c := x2 = 0) (p1 := 20) (p2 := 13) (l1 := [gp_r (some 74), gp_i p0, gp_i p1, gp_i p2, gp_i x2, gp_n]) (l2 := [gp_r (some 74), gp_i p0, gp_i p1, gp_i p2, gp_i x2, gp_n]) (s1 := []) (s2 := []) rfl gs_b1 (fun hc => ?_) (fun hc => ?_)
  · replace H := H.1 hc
    refine gs_E.stp (pc' := 25) (ls' := [gp_r (some 74), gp_i p0, gp_i p1, gp_i p2, gp_i x2, gp_n]) (st' := [gp_i p0, gp_r (some 84)]) (s' := s1) 3 rfl ?_
    refine gs_E.ck (pc' := 26) (ls' := [gp_r (some 74), gp_i p0, gp_i p1, gp_i p2, gp_i x2, gp_n]) (st' := [gp_i (gp_I s1 84 p0.toNat)]) (s' := s1) rfl (Or.inl ⟨rfl, H.1.1, H.1.2⟩) ?_
    replace H := H.2
    refine gs_E.stp (pc' := 42) (ls' := [gp_r (some 74), gp_i p0, gp_i p1, gp_i p2, gp_i x2, gp_i (gp_I s1 84 p0.toNat)]) (st' := [gp_i 8, gp_i (gp_I s1 84 p0.toNat), gp_i (gp_wr ((gp_wr (20 * p0)) + p1)), gp_r (some 83)]) (s' := s1) 10 rfl ?_
    refine gs_E.br (c := ¬ (gp_I s1 84 p0.toNat) = 8) (p1 := 50) (p2 := 45) (l1 := [gp_r (some 74), gp_i p0, gp_i p1, gp_i p2, gp_i x2, gp_i (gp_I s1 84 p0.toNat)]) (l2 := [gp_r (some 74), gp_i p0, gp_i p1, gp_i p2, gp_i x2, gp_i (gp_I s1 84 p0.toNat)]) (s1 := [gp_i (gp_wr ((gp_wr (20 * p0)) + p1)), gp_r (some 83)]) (s2 := [gp_i (gp_wr ((gp_wr (20 * p0)) + p1)), gp_r (some 83)]) rfl gs_b2 (fun hc => ?_) (fun hc => ?_)
    · replace H := H.2 hc
      refine gs_E.stp (pc' := 54) (ls' := [gp_r (some 74), gp_i p0, gp_i p1, gp_i p2, gp_i x2, gp_i (gp_I s1 84 p0.toNat)]) (st' := [gp_i 16, gp_i (gp_I s1 84 p0.toNat), gp_i (gp_wr ((gp_wr (20 * p0)) + p1)), gp_r (some 83)]) (s' := s1) 2 rfl ?_
      refine gs_E.br (c := ¬ (gp_I s1 84 p0.toNat) = 16) (p1 := 62) (p2 := 57) (l1 := [gp_r (some 74), gp_i p0, gp_i p1, gp_i p2, gp_i x2, gp_i (gp_I s1 84 p0.toNat)]) (l2 := [gp_r (some 74), gp_i p0, gp_i p1, gp_i p2, gp_i x2, gp_i (gp_I s1 84 p0.toNat)]) (s1 := [gp_i (gp_wr ((gp_wr (20 * p0)) + p1)), gp_r (some 83)]) (s2 := [gp_i (gp_wr ((gp_wr (20 * p0)) + p1)), gp_r (some 83)]) rfl gs_b2 (fun hc => ?_) (fun hc => ?_)
      · replace H := H.2 hc
        refine gs_E.stp (pc' := 63) (ls' := [gp_r (some 74), gp_i p0, gp_i p1, gp_i p2, gp_i x2, gp_i (gp_I s1 84 p0.toNat)]) (st' := [gp_i p2, gp_i (gp_wr ((gp_wr (20 * p0)) + p1)), gp_r (some 83)]) (s' := s1) 1 rfl ?_
        exact H
      · replace H := H.1 (Decidable.byContradiction hc)
        refine gs_E.stp (pc' := 63) (ls' := [gp_r (some 74), gp_i p0, gp_i p1, gp_i p2, gp_i x2, gp_i (gp_I s1 84 p0.toNat)]) (st' := [gp_i (gp_s p2), gp_i (gp_wr ((gp_wr (20 * p0)) + p1)), gp_r (some 83)]) (s' := s1) 3 rfl ?_
        exact H
    · replace H := H.1 (Decidable.byContradiction hc)
      refine gs_E.stp (pc' := 63) (ls' := [gp_r (some 74), gp_i p0, gp_i p1, gp_i p2, gp_i x2, gp_i (gp_I s1 84 p0.toNat)]) (st' := [gp_i (gp_b p2), gp_i (gp_wr ((gp_wr (20 * p0)) + p1)), gp_r (some 83)]) (s' := s1) 3 rfl ?_
      exact H
  · replace H := H.2 hc
    refine gs_E.stp (pc' := 16) (ls' := [gp_r (some 74), gp_i p0, gp_i p1, gp_i p2, gp_i x2, gp_n]) (st' := [gp_i x2, gp_r (some 74)]) (s' := s1) 2 rfl ?_
    refine gs_E.call (args := [gp_r (some 74), gp_i x2]) (m := 2) (y' := 3074) (st' := []) rfl H (fun r s3 H => ?_)
    obtain ⟨x4, rfl, H⟩ := H
    show gs_E L (d + 1) 3180 19 [gp_r (some 74), gp_i p0, gp_i p1, gp_i p2, gp_i x2, gp_n] [gp_i x4] s3 K
    exact gs_E.ret (r := (some (gp_i x4))) rfl H

set_option maxRecDepth 100000 in
/-- GatheredPointsModel.put, pc 63 -/
theorem s_3180_63 {L d : Nat} {K : Option gV → gH → Prop} {s : gH} (v1 : Int) (v2 : Int) (v3 : Int) (v4 : Int) (v5 : Int) (w1 : Int) (w2 : Int) (H : ((0 ≤ w1 ∧ w1 < 80) ∧ (∀ s1, s1 = gp_wI s 83 w1.toNat w2 → K (some (gp_i 1)) s1))) : gs_E L (d + 1) 3180 63 [gp_r (some 74), gp_i v1, gp_i v2, gp_i v3, gp_i v4, gp_i v5] [gp_i w2, gp_i w1, gp_r (some 83)] s K := by
  refine gs_E.ck (pc' := 64) (ls' := [gp_r (some 74), gp_i v1, gp_i v2, gp_i v3, gp_i v4, gp_i v5]) (st' := []) (s' := gp_wI s 83 w1.toNat w2) rfl ⟨rfl, H.1.1, H.1.2⟩ ?_
  replace H := H.2 _ rfl
  generalize gp_wI s 83 w1.toNat w2 = s1 at H ⊢
  refine gs_E.stp (pc' := 65) (ls' := [gp_r (some 74), gp_i v1, gp_i v2, gp_i v3, gp_i v4, gp_i v5]) (st' := [gp_i 1]) (s' := s1) 1 rfl ?_
  exact gs_E.ret (r := (some (gp_i 1))) rfl H

set_option maxRecDepth 100000 in
/-- GatheredPointsModel.number, pc 0 -/
theorem s_3181_e {L d : Nat} {K : Option gV → gH → Prop} {s : gH} (p0 : Int) (p1 : Int) (H : gs_C L d 3179 3 [gp_r (some 74), gp_i p0, gp_i p1] s (fun r s1 => ∃ x2, r = some (gp_i x2) ∧ ((x2 = 0 → ((0 ≤ (gp_wr ((gp_wr (20 * p0)) + p1)) ∧ (gp_wr ((gp_wr (20 * p0)) + p1)) < 80) ∧ gs_E L (d + 1) 3181 30 [gp_r (some 74), gp_i p0, gp_i p1, gp_i x2] [gp_i (gp_I s1 83 (gp_wr ((gp_wr (20 * p0)) + p1)).toNat)] s1 K)) ∧ (¬ x2 = 0 → gs_C L d 3074 2 [gp_r (some 74), gp_i x2] s1 (fun r s3 => ∃ x4, r = some (gp_i x4) ∧ gs_E L (d + 1) 3181 30 [gp_r (some 74), gp_i p0, gp_i p1, gp_i x2] [gp_i x4] s3 K))))) : gs_C L (d + 1) 3181 4 [gp_r (some 74), gp_i p0, gp_i p1] s K := by
  show gs_E L (d + 1) 3181 0 [gp_r (some 74), gp_i p0, gp_i p1, gp_n] [] s K
  refine gs_E.stp (pc' := 3) (ls' := [gp_r (some 74), gp_i p0, gp_i p1, gp_n]) (st' := [gp_i p1, gp_i p0, gp_r (some 74)]) (s' := s) 3 rfl ?_
  refine gs_E.call (args := [gp_r (some 74), gp_i p0, gp_i p1]) (m := 3) (y' := 3179) (st' := []) rfl H (fun r s1 H => ?_)
  obtain ⟨x2, rfl, H⟩ := H
  show gs_E L (d + 1) 3181 6 [gp_r (some 74), gp_i p0, gp_i p1, gp_n] [gp_i x2] s1 K
  refine gs_E.stp (pc' := 8) (ls' := [gp_r (some 74), gp_i p0, gp_i p1, gp_i x2]) (st' := [gp_i x2]) (s' := s1) 2 rfl ?_
  refine gs_E.br (c := x2 = 0) (p1 := 19) (p2 := 11) (l1 := [gp_r (some 74), gp_i p0, gp_i p1, gp_i x2]) (l2 := [gp_r (some 74), gp_i p0, gp_i p1, gp_i x2]) (s1 := []) (s2 := []) rfl gs_b1 (fun hc => ?_) (fun hc => ?_)
  · replace H := H.1 hc
    refine gs_E.stp (pc' := 29) (ls' := [gp_r (some 74), gp_i p0, gp_i p1, gp_i x2]) (st' := [gp_i (gp_wr ((gp_wr (20 * p0)) + p1)), gp_r (some 83)]) (s' := s1) 7 rfl ?_
    refine gs_E.ck (pc' := 30) (ls' := [gp_r (some 74), gp_i p0, gp_i p1, gp_i x2]) (st' := [gp_i (gp_I s1 83 (gp_wr ((gp_wr (20 * p0)) + p1)).toNat)]) (s' := s1) rfl (Or.inl ⟨rfl, H.1.1, H.1.2⟩) ?_
    replace H := H.2
    exact H
  · replace H := H.2 hc
    refine gs_E.stp (pc' := 13) (ls' := [gp_r (some 74), gp_i p0, gp_i p1, gp_i x2]) (st' := [gp_i x2, gp_r (some 74)]) (s' := s1) 2 rfl ?_
    refine gs_E.call (args := [gp_r (some 74), gp_i x2]) (m := 2) (y' := 3074) (st' := []) rfl H (fun r s3 H => ?_)
    obtain ⟨x4, rfl, H⟩ := H
    show gs_E L (d + 1) 3181 16 [gp_r (some 74), gp_i p0, gp_i p1, gp_i x2] [gp_i x4] s3 K
    refine gs_E.stp (pc' := 30) (ls' := [gp_r (some 74), gp_i p0, gp_i p1, gp_i x2]) (st' := [gp_i x4]) (s' := s3) 1 rfl ?_
    exact H

set_option maxRecDepth 100000 in
/-- GatheredPointsModel.number, pc 30 -/
theorem s_3181_30 {L d : Nat} {K : Option gV → gH → Prop} {s : gH} (v1 : Int) (v2 : Int) (v3 : Int) (w0 : Int) (H : K (some (gp_i w0)) s) : gs_E L (d + 1) 3181 30 [gp_r (some 74), gp_i v1, gp_i v2, gp_i v3] [gp_i w0] s K := by
  exact gs_E.ret (r := (some (gp_i w0))) rfl H

set_option maxRecDepth 100000 in
/-- GatheredPointsModel.shift, pc 0 -/
theorem s_3182_e {L d : Nat} {K : Option gV → gH → Prop} {s : gH} (p0 : Int) (p1 : Int) (p2 : Int) (p3 : Int) (p4 : Int) (H : gs_C L d 3076 1 [gp_i p0] s (fun r s1 => ∃ x2, r = some (gp_i x2) ∧ ((x2 = 0 → gs_E L (d + 1) 3182 14 [gp_r (some 74), gp_i p0, gp_i p1, gp_i p2, gp_i p3, gp_i p4, gp_n] [] s1 K) ∧ (¬ x2 = 0 → gs_C L d 3076 1 [gp_i p2] s1 (fun r s3 => ∃ x4, r = some (gp_i x4) ∧ ((x4 = 0 → gs_E L (d + 1) 3182 14 [gp_r (some 74), gp_i p0, gp_i p1, gp_i p2, gp_i p3, gp_i p4, gp_n] [] s3 K) ∧ (¬ x4 = 0 → ((0 ≤ p0 ∧ p0 < 4) ∧ (((gp_I s3 84 p0.toNat) = 0 → gs_E L (d + 1) 3182 38 [gp_r (some 74), gp_i p0, gp_i p1, gp_i p2, gp_i p3, gp_i p4, gp_n] [] s3 K) ∧ (¬ (gp_I s3 84 p0.toNat) = 0 → ((0 ≤ p2 ∧ p2 < 4) ∧ (((gp_I s3 84 p2.toNat) = 0 → gs_E L (d + 1) 3182 38 [gp_r (some 74), gp_i p0, gp_i p1, gp_i p2, gp_i p3, gp_i p4, gp_n] [] s3 K) ∧ (¬ (gp_I s3 84 p2.toNat) = 0 → ((0 ≤ p0 ∧ p0 < 4) ∧ ((0 ≤ p2 ∧ p2 < 4) ∧ (((gp_I s3 84 p0.toNat) = (gp_I s3 84 p2.toNat) → ((p4 < 0 → gs_E L (d + 1) 3182 106 [gp_r (some 74), gp_i p0, gp_i p1, gp_i p2, gp_i p3, gp_i p4, gp_n] [] s3 K) ∧ (¬ p4 < 0 → ((p1 < 0 → gs_E L (d + 1) 3182 106 [gp_r (some 74), gp_i p0, gp_i p1, gp_i p2, gp_i p3, gp_i p4, gp_n] [] s3 K) ∧ (¬ p1 < 0 → ((p3 < 0 → gs_E L (d + 1) 3182 106 [gp_r (some 74), gp_i p0, gp_i p1, gp_i p2, gp_i p3, gp_i p4, gp_n] [] s3 K) ∧ (¬ p3 < 0 → ((0 ≤ p0 ∧ p0 < 4) ∧ (((gp_wr ((gp_I s3 85 p0.toNat) - p4)) < p1 → gs_E L (d + 1) 3182 106 [gp_r (some 74), gp_i p0, gp_i p1, gp_i p2, gp_i p3, gp_i p4, gp_n] [] s3 K) ∧ (¬ (gp_wr ((gp_I s3 85 p0.toNat) - p4)) < p1 → ((0 ≤ p2 ∧ p2 < 4) ∧ (((gp_wr ((gp_I s3 85 p2.toNat) - p4)) < p3 → gs_E L (d + 1) 3182 106 [gp_r (some 74), gp_i p0, gp_i p1, gp_i p2, gp_i p3, gp_i p4, gp_n] [] s3 K) ∧ (¬ (gp_wr ((gp_I s3 85 p2.toNat) - p4)) < p3 → gs_E L (d + 1) 3182 115 [gp_r (some 74), gp_i p0, gp_i p1, gp_i p2, gp_i p3, gp_i p4, gp_i 0] [] s3 K))))))))))))) ∧ (¬ (gp_I s3 84 p0.toNat) = (gp_I s3 84 p2.toNat) → gs_C L d 3074 2 [gp_r (some 74), gp_i 5] s3 (fun r s5 => ∃ x6, r = some (gp_i x6) ∧ K (some (gp_i x6)) s5)))))))))))))))))) : gs_C L (d + 1) 3182 7 [gp_r (some 74), gp_i p0, gp_i p1, gp_i p2, gp_i p3, gp_i p4] s K := by
  show gs_E L (d + 1) 3182 0 [gp_r (some 74), gp_i p0, gp_i p1, gp_i p2, gp_i p3, gp_i p4, gp_n] [] s K
  refine gs_E.stp (pc' := 1) (ls' := [gp_r (some 74), gp_i p0, gp_i p1, gp_i p2, gp_i p3, gp_i p4, gp_n]) (st' := [gp_i p0]) (s' := s) 1 rfl ?_
  refine gs_E.call (args := [gp_i p0]) (m := 1) (y' := 3076) (st' := []) rfl H (fun r s1 H => ?_)
  obtain ⟨x2, rfl, H⟩ := H
  show gs_E L (d + 1) 3182 4 [gp_r (some 74), gp_i p0, gp_i p1, gp_i p2, gp_i p3, gp_i p4, gp_n] [gp_i x2] s1 K
  refine gs_E.br (c := x2 = 0) (p1 := 14) (p2 := 7) (l1 := [gp_r (some 74), gp_i p0, gp_i p1, gp_i p2, gp_i p3, gp_i p4, gp_n]) (l2 := [gp_r (some 74), gp_i p0, gp_i p1, gp_i p2, gp_i p3, gp_i p4, gp_n]) (s1 := []) (s2 := []) rfl gs_b1 (fun hc => ?_) (fun hc => ?_)
  · replace H := H.1 hc
    exact H
  · replace H := H.2 hc
    refine gs_E.stp (pc' := 8) (ls' := [gp_r (some 74), gp_i p0, gp_i p1, gp_i p2, gp_i p3, gp_i p4, gp_n]) (st' := [gp_i p2]) (s' := s1) 1 rfl ?_
    refine gs_E.call (args := [gp_i p2]) (m := 1) (y' := 3076) (st' := []) rfl H (fun r s3 H => ?_)
    obtain ⟨x4, rfl, H⟩ := H
    show gs_E L (d + 1) 3182 11 [gp_r (some 74), gp_i p0, gp_i p1, gp_i p2, gp_i p3, gp_i p4, gp_n] [gp_i x4] s3 K
    refine gs_E.br (c := ¬ x4 = 0) (p1 := 20) (p2 := 14) (l1 := [gp_r (some 74), gp_i p0, gp_i p1, gp_i p2, gp_i p3, gp_i p4, gp_n]) (l2 := [gp_r (some 74), gp_i p0, gp_i p1, gp_i p2, gp_i p3, gp_i p4, gp_n]) (s1 := []) (s2 := []) rfl gs_b2 (fun hc => ?_) (fun hc => ?_)
    · replace H := H.2 hc
      refine gs_E.stp (pc' := 25) (ls' := [gp_r (some 74), gp_i p0, gp_i p1, gp_i p2, gp_i p3, gp_i p4, gp_n]) (st' := [gp_i p0, gp_r (some 84)]) (s' := s3) 3 rfl ?_
      refine gs_E.ck (pc' := 26) (ls' := [gp_r (some 74), gp_i p0, gp_i p1, gp_i p2, gp_i p3, gp_i p4, gp_n]) (st' := [gp_i (gp_I s3 84 p0.toNat)]) (s' := s3) rfl (Or.inl ⟨rfl, H.1.1, H.1.2⟩) ?_
      replace H := H.2
      refine gs_E.br (c := (gp_I s3 84 p0.toNat) = 0) (p1 := 38) (p2 := 29) (l1 := [gp_r (some 74), gp_i p0, gp_i p1, gp_i p2, gp_i p3, gp_i p4, gp_n]) (l2 := [gp_r (some 74), gp_i p0, gp_i p1, gp_i p2, gp_i p3, gp_i p4, gp_n]) (s1 := []) (s2 := []) rfl gs_b1 (fun hc => ?_) (fun hc => ?_)
      · replace H := H.1 hc
        exact H
      · replace H := H.2 hc
        refine gs_E.stp (pc' := 34) (ls' := [gp_r (some 74), gp_i p0, gp_i p1, gp_i p2, gp_i p3, gp_i p4, gp_n]) (st' := [gp_i p2, gp_r (some 84)]) (s' := s3) 3 rfl ?_
        refine gs_E.ck (pc' := 35) (ls' := [gp_r (some 74), gp_i p0, gp_i p1, gp_i p2, gp_i p3, gp_i p4, gp_n]) (st' := [gp_i (gp_I s3 84 p2.toNat)]) (s' := s3) rfl (Or.inl ⟨rfl, H.1.1, H.1.2⟩) ?_
        replace H := H.2
        refine gs_E.br (c := ¬ (gp_I s3 84 p2.toNat) = 0) (p1 := 44) (p2 := 38) (l1 := [gp_r (some 74), gp_i p0, gp_i p1, gp_i p2, gp_i p3, gp_i p4, gp_n]) (l2 := [gp_r (some 74), gp_i p0, gp_i p1, gp_i p2, gp_i p3, gp_i p4, gp_n]) (s1 := []) (s2 := []) rfl gs_b2 (fun hc => ?_) (fun hc => ?_)
        · replace H := H.2 hc
          refine gs_E.stp (pc' := 49) (ls' := [gp_r (some 74), gp_i p0, gp_i p1, gp_i p2, gp_i p3, gp_i p4, gp_n]) (st' := [gp_i p0, gp_r (some 84)]) (s' := s3) 3 rfl ?_
          refine gs_E.ck (pc' := 50) (ls' := [gp_r (some 74), gp_i p0, gp_i p1, gp_i p2, gp_i p3, gp_i p4, gp_n]) (st' := [gp_i (gp_I s3 84 p0.toNat)]) (s' := s3) rfl (Or.inl ⟨rfl, H.1.1, H.1.2⟩) ?_
          replace H := H.2
          refine gs_E.stp (pc' := 55) (ls' := [gp_r (some 74), gp_i p0, gp_i p1, gp_i p2, gp_i p3, gp_i p4, gp_n]) (st' := [gp_i p2, gp_r (some 84), gp_i (gp_I s3 84 p0.toNat)]) (s' := s3) 3 rfl ?_
          refine gs_E.ck (pc' := 56) (ls' := [gp_r (some 74), gp_i p0, gp_i p1, gp_i p2, gp_i p3, gp_i p4, gp_n]) (st' := [gp_i (gp_I s3 84 p2.toNat), gp_i (gp_I s3 84 p0.toNat)]) (s' := s3) rfl (Or.inl ⟨rfl, H.1.1, H.1.2⟩) ?_
          replace H := H.2
          refine gs_E.br (c := (gp_I s3 84 p0.toNat) = (gp_I s3 84 p2.toNat)) (p1 := 65) (p2 := 59) (l1 := [gp_r (some 74), gp_i p0, gp_i p1, gp_i p2, gp_i p3, gp_i p4, gp_n]) (l2 := [gp_r (some 74), gp_i p0, gp_i p1, gp_i p2, gp_i p3, gp_i p4, gp_n]) (s1 := []) (s2 := []) rfl gs_b1 (fun hc => ?_) (fun hc => ?_)
          · replace H := H.1 hc
            refine gs_E.stp (pc' := 67) (ls' := [gp_r (some 74), gp_i p0, gp_i p1, gp_i p2, gp_i p3, gp_i p4, gp_n]) (st' := [gp_i p4]) (s' := s3) 1 rfl ?_
            refine gs_E.br (c := p4 < 0) (p1 := 106) (p2 := 70) (l1 := [gp_r (some 74), gp_i p0, gp_i p1, gp_i p2, gp_i p3, gp_i p4, gp_n]) (l2 := [gp_r (some 74), gp_i p0, gp_i p1, gp_i p2, gp_i p3, gp_i p4, gp_n]) (s1 := []) (s2 := []) rfl gs_b1 (fun hc => ?_) (fun hc => ?_)
            · replace H := H.1 hc
              exact H
            · replace H := H.2 hc
              refine gs_E.stp (pc' := 71) (ls' := [gp_r (some 74), gp_i p0, gp_i p1, gp_i p2, gp_i p3, gp_i p4, gp_n]) (st' := [gp_i p1]) (s' := s3) 1 rfl ?_
              refine gs_E.br (c := p1 < 0) (p1 := 106) (p2 := 74) (l1 := [gp_r (some 74), gp_i p0, gp_i p1, gp_i p2, gp_i p3, gp_i p4, gp_n]) (l2 := [gp_r (some 74), gp_i p0, gp_i p1, gp_i p2, gp_i p3, gp_i p4, gp_n]) (s1 := []) (s2 := []) rfl gs_b1 (fun hc => ?_) (fun hc => ?_)
              · replace H := H.1 hc
                exact H
              · replace H := H.2 hc
                refine gs_E.stp (pc' := 76) (ls' := [gp_r (some 74), gp_i p0, gp_i p1, gp_i p2, gp_i p3, gp_i p4, gp_n]) (st' := [gp_i p3]) (s' := s3) 1 rfl ?_
                refine gs_E.br (c := p3 < 0) (p1 := 106) (p2 := 79) (l1 := [gp_r (some 74), gp_i p0, gp_i p1, gp_i p2, gp_i p3, gp_i p4, gp_n]) (l2 := [gp_r (some 74), gp_i p0, gp_i p1, gp_i p2, gp_i p3, gp_i p4, gp_n]) (s1 := []) (s2 := []) rfl gs_b1 (fun hc => ?_) (fun hc => ?_)
                · replace H := H.1 hc
                  exact H
                · replace H := H.2 hc
                  refine gs_E.stp (pc' := 85) (ls' := [gp_r (some 74), gp_i p0, gp_i p1, gp_i p2, gp_i p3, gp_i p4, gp_n]) (st' := [gp_i p0, gp_r (some 85), gp_i p1]) (s' := s3) 4 rfl ?_
                  refine gs_E.ck (pc' := 86) (ls' := [gp_r (some 74), gp_i p0, gp_i p1, gp_i p2, gp_i p3, gp_i p4, gp_n]) (st' := [gp_i (gp_I s3 85 p0.toNat), gp_i p1]) (s' := s3) rfl (Or.inl ⟨rfl, H.1.1, H.1.2⟩) ?_
                  replace H := H.2
                  refine gs_E.stp (pc' := 89) (ls' := [gp_r (some 74), gp_i p0, gp_i p1, gp_i p2, gp_i p3, gp_i p4, gp_n]) (st' := [gp_i (gp_wr ((gp_I s3 85 p0.toNat) - p4)), gp_i p1]) (s' := s3) 2 rfl ?_
                  refine gs_E.br (c := (gp_wr ((gp_I s3 85 p0.toNat) - p4)) < p1) (p1 := 106) (p2 := 92) (l1 := [gp_r (some 74), gp_i p0, gp_i p1, gp_i p2, gp_i p3, gp_i p4, gp_n]) (l2 := [gp_r (some 74), gp_i p0, gp_i p1, gp_i p2, gp_i p3, gp_i p4, gp_n]) (s1 := []) (s2 := []) rfl gs_b1 (fun hc => ?_) (fun hc => ?_)
                  · replace H := H.1 hc
                    exact H
                  · replace H := H.2 hc
                    refine gs_E.stp (pc' := 99) (ls' := [gp_r (some 74), gp_i p0, gp_i p1, gp_i p2, gp_i p3, gp_i p4, gp_n]) (st' := [gp_i p2, gp_r (some 85), gp_i p3]) (s' := s3) 4 rfl ?_
                    refine gs_E.ck (pc' := 100) (ls' := [gp_r (some 74), gp_i p0, gp_i p1, gp_i p2, gp_i p3, gp_i p4, gp_n]) (st' := [gp_i (gp_I s3 85 p2.toNat), gp_i p3]) (s' := s3) rfl (Or.inl ⟨rfl, H.1.1, H.1.2⟩) ?_
                    replace H := H.2
                    refine gs_E.stp (pc' := 103) (ls' := [gp_r (some 74), gp_i p0, gp_i p1, gp_i p2, gp_i p3, gp_i p4, gp_n]) (st' := [gp_i (gp_wr ((gp_I s3 85 p2.toNat) - p4)), gp_i p3]) (s' := s3) 2 rfl ?_
                    refine gs_E.br (c := ¬ (gp_wr ((gp_I s3 85 p2.toNat) - p4)) < p3) (p1 := 112) (p2 := 106) (l1 := [gp_r (some 74), gp_i p0, gp_i p1, gp_i p2, gp_i p3, gp_i p4, gp_n]) (l2 := [gp_r (some 74), gp_i p0, gp_i p1, gp_i p2, gp_i p3, gp_i p4, gp_n]) (s1 := []) (s2 := []) rfl gs_b2 (fun hc => ?_) (fun hc => ?_)
                    · replace H := H.2 hc
                      refine gs_E.stp (pc' := 115) (ls' := [gp_r (some 74), gp_i p0, gp_i p1, gp_i p2, gp_i p3, gp_i p4, gp_i 0]) (st' := []) (s' := s3) 2 rfl ?_
                      exact H
                    · replace H := H.1 (Decidable.byContradiction hc)
                      exact H
          · replace H := H.2 hc
            refine gs_E.stp (pc' := 61) (ls' := [gp_r (some 74), gp_i p0, gp_i p1, gp_i p2, gp_i p3, gp_i p4, gp_n]) (st' := [gp_i 5, gp_r (some 74)]) (s' := s3) 2 rfl ?_
            refine gs_E.call (args := [gp_r (some 74), gp_i 5]) (m := 2) (y' := 3074) (st' := []) rfl H (fun r s5 H => ?_)
            obtain ⟨x6, rfl, H⟩ := H
            show gs_E L (d + 1) 3182 64 [gp_r (some 74), gp_i p0, gp_i p1, gp_i p2, gp_i p3, gp_i p4, gp_n] [gp_i x6] s5 K
            exact gs_E.ret (r := (some (gp_i x6))) rfl H
        · replace H := H.1 (Decidable.byContradiction hc)
          exact H
    · replace H := H.1 (Decidable.byContradiction hc)
      exact H

set_option maxRecDepth 100000 in
/-- GatheredPointsModel.shift, pc 14 -/
theorem s_3182_14 {L d : Nat} {K : Option gV → gH → Prop} {s : gH} (v1 : Int) (v2 : Int) (v3 : Int) (v4 : Int) (v5 : Int) (v6 : gV) (H : gs_C L d 3074 2 [gp_r (some 74), gp_i 1] s (fun r s1 => ∃ x2, r = some (gp_i x2) ∧ K (some (gp_i x2)) s1)) : gs_E L (d + 1) 3182 14 [gp_r (some 74), gp_i v1, gp_i v2, gp_i v3, gp_i v4, gp_i v5, v6] [] s K := by
  refine gs_E.stp (pc' := 16) (ls' := [gp_r (some 74), gp_i v1, gp_i v2, gp_i v3, gp_i v4, gp_i v5, v6]) (st' := [gp_i 1, gp_r (some 74)]) (s' := s) 2 rfl ?_
  refine gs_E.call (args := [gp_r (some 74), gp_i 1]) (m := 2) (y' := 3074) (st' := []) rfl H (fun r s1 H => ?_)
  obtain ⟨x2, rfl, H⟩ := H
  show gs_E L (d + 1) 3182 19 [gp_r (some 74), gp_i v1, gp_i v2, gp_i v3, gp_i v4, gp_i v5, v6] [gp_i x2] s1 K
  exact gs_E.ret (r := (some (gp_i x2))) rfl H

set_option maxRecDepth 100000 in
/-- GatheredPointsModel.shift, pc 38 -/
theorem s_3182_38 {L d : Nat} {K : Option gV → gH → Prop} {s : gH} (v1 : Int) (v2 : Int) (v3 : Int) (v4 : Int) (v5 : Int) (v6 : gV) (H : gs_C L d 3074 2 [gp_r (some 74), gp_i 2] s (fun r s1 => ∃ x2, r = some (gp_i x2) ∧ K (some (gp_i x2)) s1)) : gs_E L (d + 1) 3182 38 [gp_r (some 74), gp_i v1, gp_i v2, gp_i v3, gp_i v4, gp_i v5, v6] [] s K := by
  refine gs_E.stp (pc' := 40) (ls' := [gp_r (some 74), gp_i v1, gp_i v2, gp_i v3, gp_i v4, gp_i v5, v6]) (st' := [gp_i 2, gp_r (some 74)]) (s' := s) 2 rfl ?_
  refine gs_E.call (args := [gp_r (some 74), gp_i 2]) (m := 2) (y' := 3074) (st' := []) rfl H (fun r s1 H => ?_)
  obtain ⟨x2, rfl, H⟩ := H
  show gs_E L (d + 1) 3182 43 [gp_r (some 74), gp_i v1, gp_i v2, gp_i v3, gp_i v4, gp_i v5, v6] [gp_i x2] s1 K
  exact gs_E.ret (r := (some (gp_i x2))) rfl H

set_option maxRecDepth 100000 in
/-- GatheredPointsModel.shift, pc 106 -/
theorem s_3182_106 {L d : Nat} {K : Option gV → gH → Prop} {s : gH} (v1 : Int) (v2 : Int) (v3 : Int) (v4 : Int) (v5 : Int) (v6 : gV) (H : gs_C L d 3074 2 [gp_r (some 74), gp_i 1] s (fun r s1 => ∃ x2, r = some (gp_i x2) ∧ K (some (gp_i x2)) s1)) : gs_E L (d + 1) 3182 106 [gp_r (some 74), gp_i v1, gp_i v2, gp_i v3, gp_i v4, gp_i v5, v6] [] s K := by
  refine gs_E.stp (pc' := 108) (ls' := [gp_r (some 74), gp_i v1, gp_i v2, gp_i v3, gp_i v4, gp_i v5, v6]) (st' := [gp_i 1, gp_r (some 74)]) (s' := s) 2 rfl ?_
  refine gs_E.call (args := [gp_r (some 74), gp_i 1]) (m := 2) (y' := 3074) (st' := []) rfl H (fun r s1 H => ?_)
  obtain ⟨x2, rfl, H⟩ := H
  show gs_E L (d + 1) 3182 111 [gp_r (some 74), gp_i v1, gp_i v2, gp_i v3, gp_i v4, gp_i v5, v6] [gp_i x2] s1 K
  exact gs_E.ret (r := (some (gp_i x2))) rfl H

set_option maxRecDepth 100000 in
/-- GatheredPointsModel.shift, pc 115 -/
theorem s_3182_115 {L d : Nat} {K : Option gV → gH → Prop} {s : gH} (v1 : Int) (v2 : Int) (v3 : Int) (v4 : Int) (v5 : Int) (v6 : Int) (H : ((v6 < v5 → ((0 ≤ (gp_wr ((gp_wr ((gp_wr (20 * v1)) + v2)) + v6)) ∧ (gp_wr ((gp_wr ((gp_wr (20 * v1)) + v2)) + v6)) < 80) ∧ ((0 ≤ v6 ∧ v6 < 20) ∧ (∀ s1, s1 = gp_wI s 116 v6.toNat (gp_I s 83 (gp_wr ((gp_wr ((gp_wr (20 * v1)) + v2)) + v6)).toNat) → gs_E L (d + 1) 3182 115 [gp_r (some 74), gp_i v1, gp_i v2, gp_i v3, gp_i v4, gp_i v5, gp_i (gp_wr (v6 + 1))] [] s1 K)))) ∧ (¬ v6 < v5 → gs_E L (d + 1) 3182 152 [gp_r (some 74), gp_i v1, gp_i v2, gp_i v3, gp_i v4, gp_i v5, gp_i 0] [] s K))) : gs_E L (d + 1) 3182 115 [gp_r (some 74), gp_i v1, gp_i v2, gp_i v3, gp_i v4, gp_i v5, gp_i v6] [] s K := by
  refine gs_E.stp (pc' := 119) (ls' := [gp_r (some 74), gp_i v1, gp_i v2, gp_i v3, gp_i v4, gp_i v5, gp_i v6]) (st' := [gp_i v5, gp_i v6]) (s' := s) 2 rfl ?_
  refine gs_E.br (c := ¬ v6 < v5) (p1 := 149) (p2 := 122) (l1 := [gp_r (some 74), gp_i v1, gp_i v2, gp_i v3, gp_i v4, gp_i v5, gp_i v6]) (l2 := [gp_r (some 74), gp_i v1, gp_i v2, gp_i v3, gp_i v4, gp_i v5, gp_i v6]) (s1 := []) (s2 := []) rfl gs_b2 (fun hc => ?_) (fun hc => ?_)
  · replace H := H.2 hc
    refine gs_E.stp (pc' := 152) (ls' := [gp_r (some 74), gp_i v1, gp_i v2, gp_i v3, gp_i v4, gp_i v5, gp_i 0]) (st' := []) (s' := s) 2 rfl ?_
    exact H
  · replace H := H.1 (Decidable.byContradiction hc)
    refine gs_E.stp (pc' := 141) (ls' := [gp_r (some 74), gp_i v1, gp_i v2, gp_i v3, gp_i v4, gp_i v5, gp_i v6]) (st' := [gp_i (gp_wr ((gp_wr ((gp_wr (20 * v1)) + v2)) + v6)), gp_r (some 83), gp_i v6, gp_r (some 116)]) (s' := s) 12 rfl ?_
    refine gs_E.ck (pc' := 142) (ls' := [gp_r (some 74), gp_i v1, gp_i v2, gp_i v3, gp_i v4, gp_i v5, gp_i v6]) (st' := [gp_i (gp_I s 83 (gp_wr ((gp_wr ((gp_wr (20 * v1)) + v2)) + v6)).toNat), gp_i v6, gp_r (some 116)]) (s' := s) rfl (Or.inl ⟨rfl, H.1.1, H.1.2⟩) ?_
    replace H := H.2
    refine gs_E.ck (pc' := 143) (ls' := [gp_r (some 74), gp_i v1, gp_i v2, gp_i v3, gp_i v4, gp_i v5, gp_i v6]) (st' := []) (s' := gp_wI s 116 v6.toNat (gp_I s 83 (gp_wr ((gp_wr ((gp_wr (20 * v1)) + v2)) + v6)).toNat)) rfl ⟨rfl, H.1.1, H.1.2⟩ ?_
    replace H := H.2 _ rfl
    generalize gp_wI s 116 v6.toNat (gp_I s 83 (gp_wr ((gp_wr ((gp_wr (20 * v1)) + v2)) + v6)).toNat) = s1 at H ⊢
    refine gs_E.stp (pc' := 115) (ls' := [gp_r (some 74), gp_i v1, gp_i v2, gp_i v3, gp_i v4, gp_i v5, gp_i (gp_wr (v6 + 1))]) (st' := []) (s' := s1) 2 rfl ?_
    exact H

set_option maxRecDepth 100000 in
/-- GatheredPointsModel.shift, pc 152 -/
theorem s_3182_152 {L d : Nat} {K : Option gV → gH → Prop} {s : gH} (v1 : Int) (v2 : Int) (v3 : Int) (v4 : Int) (v5 : Int) (v6 : Int) (H : ((v6 < v5 → ((0 ≤ v6 ∧ v6 < 20) ∧ ((0 ≤ (gp_wr ((gp_wr ((gp_wr (20 * v3)) + v4)) + v6)) ∧ (gp_wr ((gp_wr ((gp_wr (20 * v3)) + v4)) + v6)) < 80) ∧ (∀ s1, s1 = gp_wI s 83 (gp_wr ((gp_wr ((gp_wr (20 * v3)) + v4)) + v6)).toNat (gp_I s 116 v6.toNat) → gs_E L (d + 1) 3182 152 [gp_r (some 74), gp_i v1, gp_i v2, gp_i v3, gp_i v4, gp_i v5, gp_i (gp_wr (v6 + 1))] [] s1 K)))) ∧ (¬ v6 < v5 → K (some (gp_i v5)) s))) : gs_E L (d + 1) 3182 152 [gp_r (some 74), gp_i v1, gp_i v2, gp_i v3, gp_i v4, gp_i v5, gp_i v6] [] s K := by
  refine gs_E.stp (pc' := 156) (ls' := [gp_r (some 74), gp_i v1, gp_i v2, gp_i v3, gp_i v4, gp_i v5, gp_i v6]) (st' := [gp_i v5, gp_i v6]) (s' := s) 2 rfl ?_
  refine gs_E.br (c := ¬ v6 < v5) (p1 := 187) (p2 := 159) (l1 := [gp_r (some 74), gp_i v1, gp_i v2, gp_i v3, gp_i v4, gp_i v5, gp_i v6]) (l2 := [gp_r (some 74), gp_i v1, gp_i v2, gp_i v3, gp_i v4, gp_i v5, gp_i v6]) (s1 := []) (s2 := []) rfl gs_b2 (fun hc => ?_) (fun hc => ?_)
  · replace H := H.2 hc
    refine gs_E.stp (pc' := 189) (ls' := [gp_r (some 74), gp_i v1, gp_i v2, gp_i v3, gp_i v4, gp_i v5, gp_i v6]) (st' := [gp_i v5]) (s' := s) 1 rfl ?_
    exact gs_E.ret (r := (some (gp_i v5))) rfl H
  · replace H := H.1 (Decidable.byContradiction hc)
    refine gs_E.stp (pc' := 179) (ls' := [gp_r (some 74), gp_i v1, gp_i v2, gp_i v3, gp_i v4, gp_i v5, gp_i v6]) (st' := [gp_i v6, gp_r (some 116), gp_i (gp_wr ((gp_wr ((gp_wr (20 * v3)) + v4)) + v6)), gp_r (some 83)]) (s' := s) 12 rfl ?_
    refine gs_E.ck (pc' := 180) (ls' := [gp_r (some 74), gp_i v1, gp_i v2, gp_i v3, gp_i v4, gp_i v5, gp_i v6]) (st' := [gp_i (gp_I s 116 v6.toNat), gp_i (gp_wr ((gp_wr ((gp_wr (20 * v3)) + v4)) + v6)), gp_r (some 83)]) (s' := s) rfl (Or.inl ⟨rfl, H.1.1, H.1.2⟩) ?_
    replace H := H.2
    refine gs_E.ck (pc' := 181) (ls' := [gp_r (some 74), gp_i v1, gp_i v2, gp_i v3, gp_i v4, gp_i v5, gp_i v6]) (st' := []) (s' := gp_wI s 83 (gp_wr ((gp_wr ((gp_wr (20 * v3)) + v4)) + v6)).toNat (gp_I s 116 v6.toNat)) rfl ⟨rfl, H.1.1, H.1.2⟩ ?_
    replace H := H.2 _ rfl
    generalize gp_wI s 83 (gp_wr ((gp_wr ((gp_wr (20 * v3)) + v4)) + v6)).toNat (gp_I s 116 v6.toNat) = s1 at H ⊢
    refine gs_E.stp (pc' := 152) (ls' := [gp_r (some 74), gp_i v1, gp_i v2, gp_i v3, gp_i v4, gp_i v5, gp_i (gp_wr (v6 + 1))]) (st' := []) (s' := s1) 2 rfl ?_
    exact H

set_option maxRecDepth 100000 in
/-- GatheredPointsModel.judge, pc 0 -/
theorem s_3183_e {L d : Nat} {K : Option gV → gH → Prop} {s : gH} (p0 : Int) (p1 : Int) (H : gs_C L d 3076 1 [gp_i p0] s (fun r s1 => ∃ x2, r = some (gp_i x2) ∧ ((x2 = 0 → gs_E L (d + 1) 3183 14 [gp_r (some 74), gp_i p0, gp_i p1, gp_n] [] s1 K) ∧ (¬ x2 = 0 → gs_C L d 3077 1 [gp_i p1] s1 (fun r s3 => ∃ x4, r = some (gp_i x4) ∧ ((x4 = 0 → gs_E L (d + 1) 3183 14 [gp_r (some 74), gp_i p0, gp_i p1, gp_n] [] s3 K) ∧ (¬ x4 = 0 → ((0 ≤ p0 ∧ p0 < 4) ∧ (((gp_I s3 84 p0.toNat) = 0 → gs_C L d 3074 2 [gp_r (some 74), gp_i 2] s3 (fun r s5 => ∃ x6, r = some (gp_i x6) ∧ K (some (gp_i x6)) s5)) ∧ (¬ (gp_I s3 84 p0.toNat) = 0 → gs_E L (d + 1) 3183 37 [gp_r (some 74), gp_i p0, gp_i p1, gp_i 0] [] s3 K)))))))))) : gs_C L (d + 1) 3183 4 [gp_r (some 74), gp_i p0, gp_i p1] s K := by
  show gs_E L (d + 1) 3183 0 [gp_r (some 74), gp_i p0, gp_i p1, gp_n] [] s K
  refine gs_E.stp (pc' := 1) (ls' := [gp_r (some 74), gp_i p0, gp_i p1, gp_n]) (st' := [gp_i p0]) (s' := s) 1 rfl ?_
  refine gs_E.call (args := [gp_i p0]) (m := 1) (y' := 3076) (st' := []) rfl H (fun r s1 H => ?_)
  obtain ⟨x2, rfl, H⟩ := H
  show gs_E L (d + 1) 3183 4 [gp_r (some 74), gp_i p0, gp_i p1, gp_n] [gp_i x2] s1 K
  refine gs_E.br (c := x2 = 0) (p1 := 14) (p2 := 7) (l1 := [gp_r (some 74), gp_i p0, gp_i p1, gp_n]) (l2 := [gp_r (some 74), gp_i p0, gp_i p1, gp_n]) (s1 := []) (s2 := []) rfl gs_b1 (fun hc => ?_) (fun hc => ?_)
  · replace H := H.1 hc
    exact H
  · replace H := H.2 hc
    refine gs_E.stp (pc' := 8) (ls' := [gp_r (some 74), gp_i p0, gp_i p1, gp_n]) (st' := [gp_i p1]) (s' := s1) 1 rfl ?_
    refine gs_E.call (args := [gp_i p1]) (m := 1) (y' := 3077) (st' := []) rfl H (fun r s3 H => ?_)
    obtain ⟨x4, rfl, H⟩ := H
    show gs_E L (d + 1) 3183 11 [gp_r (some 74), gp_i p0, gp_i p1, gp_n] [gp_i x4] s3 K
    refine gs_E.br (c := ¬ x4 = 0) (p1 := 20) (p2 := 14) (l1 := [gp_r (some 74), gp_i p0, gp_i p1, gp_n]) (l2 := [gp_r (some 74), gp_i p0, gp_i p1, gp_n]) (s1 := []) (s2 := []) rfl gs_b2 (fun hc => ?_) (fun hc => ?_)
    · replace H := H.2 hc
      refine gs_E.stp (pc' := 25) (ls' := [gp_r (some 74), gp_i p0, gp_i p1, gp_n]) (st' := [gp_i p0, gp_r (some 84)]) (s' := s3) 3 rfl ?_
      refine gs_E.ck (pc' := 26) (ls' := [gp_r (some 74), gp_i p0, gp_i p1, gp_n]) (st' := [gp_i (gp_I s3 84 p0.toNat)]) (s' := s3) rfl (Or.inl ⟨rfl, H.1.1, H.1.2⟩) ?_
      replace H := H.2
      refine gs_E.br (c := ¬ (gp_I s3 84 p0.toNat) = 0) (p1 := 35) (p2 := 29) (l1 := [gp_r (some 74), gp_i p0, gp_i p1, gp_n]) (l2 := [gp_r (some 74), gp_i p0, gp_i p1, gp_n]) (s1 := []) (s2 := []) rfl gs_b2 (fun hc => ?_) (fun hc => ?_)
      · replace H := H.2 hc
        refine gs_E.stp (pc' := 37) (ls' := [gp_r (some 74), gp_i p0, gp_i p1, gp_i 0]) (st' := []) (s' := s3) 2 rfl ?_
        exact H
      · replace H := H.1 (Decidable.byContradiction hc)
        refine gs_E.stp (pc' := 31) (ls' := [gp_r (some 74), gp_i p0, gp_i p1, gp_n]) (st' := [gp_i 2, gp_r (some 74)]) (s' := s3) 2 rfl ?_
        refine gs_E.call (args := [gp_r (some 74), gp_i 2]) (m := 2) (y' := 3074) (st' := []) rfl H (fun r s5 H => ?_)
        obtain ⟨x6, rfl, H⟩ := H
        show gs_E L (d + 1) 3183 34 [gp_r (some 74), gp_i p0, gp_i p1, gp_n] [gp_i x6] s5 K
        exact gs_E.ret (r := (some (gp_i x6))) rfl H
    · replace H := H.1 (Decidable.byContradiction hc)
      exact H

set_option maxRecDepth 100000 in
/-- GatheredPointsModel.judge, pc 14 -/
theorem s_3183_14 {L d : Nat} {K : Option gV → gH → Prop} {s : gH} (v1 : Int) (v2 : Int) (v3 : gV) (H : gs_C L d 3074 2 [gp_r (some 74), gp_i 1] s (fun r s1 => ∃ x2, r = some (gp_i x2) ∧ K (some (gp_i x2)) s1)) : gs_E L (d + 1) 3183 14 [gp_r (some 74), gp_i v1, gp_i v2, v3] [] s K := by
  refine gs_E.stp (pc' := 16) (ls' := [gp_r (some 74), gp_i v1, gp_i v2, v3]) (st' := [gp_i 1, gp_r (some 74)]) (s' := s) 2 rfl ?_
  refine gs_E.call (args := [gp_r (some 74), gp_i 1]) (m := 2) (y' := 3074) (st' := []) rfl H (fun r s1 H => ?_)
  obtain ⟨x2, rfl, H⟩ := H
  show gs_E L (d + 1) 3183 19 [gp_r (some 74), gp_i v1, gp_i v2, v3] [gp_i x2] s1 K
  exact gs_E.ret (r := (some (gp_i x2))) rfl H

set_option maxRecDepth 100000 in
/-- GatheredPointsModel.judge, pc 37 -/
theorem s_3183_37 {L d : Nat} {K : Option gV → gH → Prop} {s : gH} (v1 : Int) (v2 : Int) (v3 : Int) (H : ((0 ≤ v1 ∧ v1 < 4) ∧ ((v3 < (gp_I s 85 v1.toNat) → ((v3 = 8 → K (some (gp_i v3)) s) ∧ (¬ v3 = 8 → gs_C L d 3099 3 [gp_r (some 74), gp_i v3] s (fun r s1 => r = none ∧ ((0 ≤ (gp_wr ((gp_wr (20 * v1)) + v3)) ∧ (gp_wr ((gp_wr (20 * v1)) + v3)) < 80) ∧ ((v2 = 0 → gs_C L d 3081 2 [gp_r (some 74), gp_i v3] s1 (fun r s4 => ∃ x5, r = some (gp_i x5) ∧ ((0 ≤ x5 ∧ x5 < 64) ∧ gs_E L (d + 1) 3183 98 [gp_r (some 74), gp_i v1, gp_i v2, gp_i v3] [gp_i (gp_I s4 90 x5.toNat), gp_i (gp_I s1 83 (gp_wr ((gp_wr (20 * v1)) + v3)).toNat)] s4 K))) ∧ (¬ v2 = 0 → gs_C L d 3081 2 [gp_r (some 74), gp_i v3] s1 (fun r s2 => ∃ x3, r = some (gp_i x3) ∧ ((0 ≤ x3 ∧ x3 < 64) ∧ gs_E L (d + 1) 3183 98 [gp_r (some 74), gp_i v1, gp_i v2, gp_i v3] [gp_i (gp_I s2 91 x3.toNat), gp_i (gp_I s1 83 (gp_wr ((gp_wr (20 * v1)) + v3)).toNat)] s2 K))))))))) ∧ (¬ v3 < (gp_I s 85 v1.toNat) → K (some (gp_i (-1))) s)))) : gs_E L (d + 1) 3183 37 [gp_r (some 74), gp_i v1, gp_i v2, gp_i v3] [] s K := by
  refine gs_E.stp (pc' := 43) (ls' := [gp_r (some 74), gp_i v1, gp_i v2, gp_i v3]) (st' := [gp_i v1, gp_r (some 85), gp_i v3]) (s' := s) 4 rfl ?_
  refine gs_E.ck (pc' := 44) (ls' := [gp_r (some 74), gp_i v1, gp_i v2, gp_i v3]) (st' := [gp_i (gp_I s 85 v1.toNat), gp_i v3]) (s' := s) rfl (Or.inl ⟨rfl, H.1.1, H.1.2⟩) ?_
  replace H := H.2
  refine gs_E.br (c := ¬ v3 < (gp_I s 85 v1.toNat)) (p1 := 109) (p2 := 47) (l1 := [gp_r (some 74), gp_i v1, gp_i v2, gp_i v3]) (l2 := [gp_r (some 74), gp_i v1, gp_i v2, gp_i v3]) (s1 := []) (s2 := []) rfl gs_b2 (fun hc => ?_) (fun hc => ?_)
  · replace H := H.2 hc
    refine gs_E.stp (pc' := 110) (ls' := [gp_r (some 74), gp_i v1, gp_i v2, gp_i v3]) (st' := [gp_i (-1)]) (s' := s) 1 rfl ?_
    exact gs_E.ret (r := (some (gp_i (-1)))) rfl H
  · replace H := H.1 (Decidable.byContradiction hc)
    refine gs_E.stp (pc' := 50) (ls' := [gp_r (some 74), gp_i v1, gp_i v2, gp_i v3]) (st' := [gp_i 8, gp_i v3]) (s' := s) 2 rfl ?_
    refine gs_E.br (c := ¬ v3 = 8) (p1 := 55) (p2 := 53) (l1 := [gp_r (some 74), gp_i v1, gp_i v2, gp_i v3]) (l2 := [gp_r (some 74), gp_i v1, gp_i v2, gp_i v3]) (s1 := []) (s2 := []) rfl gs_b2 (fun hc => ?_) (fun hc => ?_)
    · replace H := H.2 hc
      refine gs_E.stp (pc' := 57) (ls' := [gp_r (some 74), gp_i v1, gp_i v2, gp_i v3]) (st' := [gp_i v3, gp_r (some 74)]) (s' := s) 2 rfl ?_
      refine gs_E.call (args := [gp_r (some 74), gp_i v3]) (m := 3) (y' := 3099) (st' := []) rfl H (fun r s1 H => ?_)
      obtain ⟨rfl, H⟩ := H
      show gs_E L (d + 1) 3183 60 [gp_r (some 74), gp_i v1, gp_i v2, gp_i v3] [] s1 K
      refine gs_E.stp (pc' := 70) (ls' := [gp_r (some 74), gp_i v1, gp_i v2, gp_i v3]) (st' := [gp_i (gp_wr ((gp_wr (20 * v1)) + v3)), gp_r (some 83)]) (s' := s1) 7 rfl ?_
      refine gs_E.ck (pc' := 71) (ls' := [gp_r (some 74), gp_i v1, gp_i v2, gp_i v3]) (st' := [gp_i (gp_I s1 83 (gp_wr ((gp_wr (20 * v1)) + v3)).toNat)]) (s' := s1) rfl (Or.inl ⟨rfl, H.1.1, H.1.2⟩) ?_
      replace H := H.2
      refine gs_E.stp (pc' := 72) (ls' := [gp_r (some 74), gp_i v1, gp_i v2, gp_i v3]) (st' := [gp_i v2, gp_i (gp_I s1 83 (gp_wr ((gp_wr (20 * v1)) + v3)).toNat)]) (s' := s1) 1 rfl ?_
      refine gs_E.br (c := ¬ v2 = 0) (p1 := 88) (p2 := 75) (l1 := [gp_r (some 74), gp_i v1, gp_i v2, gp_i v3]) (l2 := [gp_r (some 74), gp_i v1, gp_i v2, gp_i v3]) (s1 := [gp_i (gp_I s1 83 (gp_wr ((gp_wr (20 * v1)) + v3)).toNat)]) (s2 := [gp_i (gp_I s1 83 (gp_wr ((gp_wr (20 * v1)) + v3)).toNat)]) rfl gs_b2 (fun hc => ?_) (fun hc => ?_)
      · replace H := H.2 hc
        refine gs_E.stp (pc' := 94) (ls' := [gp_r (some 74), gp_i v1, gp_i v2, gp_i v3]) (st' := [gp_i v3, gp_r (some 74), gp_r (some 91), gp_i (gp_I s1 83 (gp_wr ((gp_wr (20 * v1)) + v3)).toNat)]) (s' := s1) 4 rfl ?_
        refine gs_E.call (args := [gp_r (some 74), gp_i v3]) (m := 2) (y' := 3081) (st' := [gp_r (some 91), gp_i (gp_I s1 83 (gp_wr ((gp_wr (20 * v1)) + v3)).toNat)]) rfl H (fun r s2 H => ?_)
        obtain ⟨x3, rfl, H⟩ := H
        show gs_E L (d + 1) 3183 97 [gp_r (some 74), gp_i v1, gp_i v2, gp_i v3] [gp_i x3, gp_r (some 91), gp_i (gp_I s1 83 (gp_wr ((gp_wr (20 * v1)) + v3)).toNat)] s2 K
        refine gs_E.ck (pc' := 98) (ls' := [gp_r (some 74), gp_i v1, gp_i v2, gp_i v3]) (st' := [gp_i (gp_I s2 91 x3.toNat), gp_i (gp_I s1 83 (gp_wr ((gp_wr (20 * v1)) + v3)).toNat)]) (s' := s2) rfl (Or.inl ⟨rfl, H.1.1, H.1.2⟩) ?_
        replace H := H.2
        exact H
      · replace H := H.1 (Decidable.byContradiction hc)
        refine gs_E.stp (pc' := 81) (ls' := [gp_r (some 74), gp_i v1, gp_i v2, gp_i v3]) (st' := [gp_i v3, gp_r (some 74), gp_r (some 90), gp_i (gp_I s1 83 (gp_wr ((gp_wr (20 * v1)) + v3)).toNat)]) (s' := s1) 4 rfl ?_
        refine gs_E.call (args := [gp_r (some 74), gp_i v3]) (m := 2) (y' := 3081) (st' := [gp_r (some 90), gp_i (gp_I s1 83 (gp_wr ((gp_wr (20 * v1)) + v3)).toNat)]) rfl H (fun r s4 H => ?_)
        obtain ⟨x5, rfl, H⟩ := H
        show gs_E L (d + 1) 3183 84 [gp_r (some 74), gp_i v1, gp_i v2, gp_i v3] [gp_i x5, gp_r (some 90), gp_i (gp_I s1 83 (gp_wr ((gp_wr (20 * v1)) + v3)).toNat)] s4 K
        refine gs_E.ck (pc' := 85) (ls' := [gp_r (some 74), gp_i v1, gp_i v2, gp_i v3]) (st' := [gp_i (gp_I s4 90 x5.toNat), gp_i (gp_I s1 83 (gp_wr ((gp_wr (20 * v1)) + v3)).toNat)]) (s' := s4) rfl (Or.inl ⟨rfl, H.1.1, H.1.2⟩) ?_
        replace H := H.2
        refine gs_E.stp (pc' := 98) (ls' := [gp_r (some 74), gp_i v1, gp_i v2, gp_i v3]) (st' := [gp_i (gp_I s4 90 x5.toNat), gp_i (gp_I s1 83 (gp_wr ((gp_wr (20 * v1)) + v3)).toNat)]) (s' := s4) 1 rfl ?_
        exact H
    · replace H := H.1 (Decidable.byContradiction hc)
      refine gs_E.stp (pc' := 54) (ls' := [gp_r (some 74), gp_i v1, gp_i v2, gp_i v3]) (st' := [gp_i v3]) (s' := s) 1 rfl ?_
      exact gs_E.ret (r := (some (gp_i v3))) rfl H

set_option maxRecDepth 100000 in
/-- GatheredPointsModel.judge, pc 98 -/
theorem s_3183_98 {L d : Nat} {K : Option gV → gH → Prop} {s : gH} (v1 : Int) (v2 : Int) (v3 : Int) (w0 : Int) (w1 : Int) (H : ((w0 = w1 → gs_E L (d + 1) 3183 37 [gp_r (some 74), gp_i v1, gp_i v2, gp_i (gp_wr (v3 + 1))] [] s K) ∧ (¬ w0 = w1 → K (some (gp_i v3)) s))) : gs_E L (d + 1) 3183 98 [gp_r (some 74), gp_i v1, gp_i v2, gp_i v3] [gp_i w1, gp_i w0] s K := by
  refine gs_E.br (c := w0 = w1) (p1 := 103) (p2 := 101) (l1 := [gp_r (some 74), gp_i v1, gp_i v2, gp_i v3]) (l2 := [gp_r (some 74), gp_i v1, gp_i v2, gp_i v3]) (s1 := []) (s2 := []) rfl gs_b1 (fun hc => ?_) (fun hc => ?_)
  · replace H := H.1 hc
    refine gs_E.stp (pc' := 37) (ls' := [gp_r (some 74), gp_i v1, gp_i v2, gp_i (gp_wr (v3 + 1))]) (st' := []) (s' := s) 2 rfl ?_
    exact H
  · replace H := H.2 hc
    refine gs_E.stp (pc' := 102) (ls' := [gp_r (some 74), gp_i v1, gp_i v2, gp_i v3]) (st' := [gp_i v3]) (s' := s) 1 rfl ?_
    exact gs_E.ret (r := (some (gp_i v3))) rfl H

set_option maxRecDepth 100000 in
/-- GatheredPointsModel.seed, pc 0 -/
theorem s_3184_e {L d : Nat} {K : Option gV → gH → Prop} {s : gH} (p0 : Int) (H : (∀ s1, s1 = gp_wI s 74 7 p0 → K (some (gp_i (gp_I s 74 7))) s1)) : gs_C L d 3184 3 [gp_r (some 74), gp_i p0] s K := by
  show gs_E L d 3184 0 [gp_r (some 74), gp_i p0, gp_n] [] s K
  refine gs_E.stp (pc' := 10) (ls' := [gp_r (some 74), gp_i p0, gp_i (gp_I s 74 7)]) (st' := []) (s' := gp_wI s 74 7 p0) 6 rfl ?_
  replace H := H _ rfl
  generalize gp_wI s 74 7 p0 = s1 at H ⊢
  refine gs_E.stp (pc' := 11) (ls' := [gp_r (some 74), gp_i p0, gp_i (gp_I s 74 7)]) (st' := [gp_i (gp_I s 74 7)]) (s' := s1) 1 rfl ?_
  exact gs_E.ret (r := (some (gp_i (gp_I s 74 7)))) rfl H

set_option maxRecDepth 100000 in
/-- GatheredPointsModel.sizes, pc 0 -/
theorem s_3185_e {L d : Nat} {K : Option gV → gH → Prop} {s : gH}  (H : gs_E L d 3185 4 [gp_r (some 74), gp_i 0, gp_i 0] [] s K) : gs_C L d 3185 3 [gp_r (some 74)] s K := by
  show gs_E L d 3185 0 [gp_r (some 74), gp_n, gp_n] [] s K
  refine gs_E.stp (pc' := 4) (ls' := [gp_r (some 74), gp_i 0, gp_i 0]) (st' := []) (s' := s) 4 rfl ?_
  exact H

set_option maxRecDepth 100000 in
/-- GatheredPointsModel.sizes, pc 4 -/
theorem s_3185_4 {L d : Nat} {K : Option gV → gH → Prop} {s : gH} (v1 : Int) (v2 : Int) (H : ((v2 < 8 → ((0 ≤ v2 ∧ v2 < 85) ∧ gs_E L d 3185 4 [gp_r (some 74), gp_i (gp_wr (v1 + (gp_I s 81 v2.toNat))), gp_i (gp_wr (v2 + 1))] [] s K)) ∧ (¬ v2 < 8 → K (some (gp_i v1)) s))) : gs_E L d 3185 4 [gp_r (some 74), gp_i v1, gp_i v2] [] s K := by
  refine gs_E.stp (pc' := 7) (ls' := [gp_r (some 74), gp_i v1, gp_i v2]) (st' := [gp_i 8, gp_i v2]) (s' := s) 2 rfl ?_
  refine gs_E.br (c := ¬ v2 < 8) (p1 := 25) (p2 := 10) (l1 := [gp_r (some 74), gp_i v1, gp_i v2]) (l2 := [gp_r (some 74), gp_i v1, gp_i v2]) (s1 := []) (s2 := []) rfl gs_b2 (fun hc => ?_) (fun hc => ?_)
  · replace H := H.2 hc
    refine gs_E.stp (pc' := 26) (ls' := [gp_r (some 74), gp_i v1, gp_i v2]) (st' := [gp_i v1]) (s' := s) 1 rfl ?_
    exact gs_E.ret (r := (some (gp_i v1))) rfl H
  · replace H := H.1 (Decidable.byContradiction hc)
    refine gs_E.stp (pc' := 16) (ls' := [gp_r (some 74), gp_i v1, gp_i v2]) (st' := [gp_i v2, gp_r (some 81), gp_i v1]) (s' := s) 4 rfl ?_
    refine gs_E.ck (pc' := 17) (ls' := [gp_r (some 74), gp_i v1, gp_i v2]) (st' := [gp_i (gp_I s 81 v2.toNat), gp_i v1]) (s' := s) rfl (Or.inl ⟨rfl, H.1.1, H.1.2⟩) ?_
    replace H := H.2
    refine gs_E.stp (pc' := 4) (ls' := [gp_r (some 74), gp_i (gp_wr (v1 + (gp_I s 81 v2.toNat))), gp_i (gp_wr (v2 + 1))]) (st' := []) (s' := s) 4 rfl ?_
    exact H

set_option maxRecDepth 100000 in
/-- GatheredPointsModel.image, pc 0 -/
theorem s_3186_e {L d : Nat} {K : Option gV → gH → Prop} {s : gH}  (H : gs_E L (d + 1) 3186 2 [gp_r (some 74), gp_i 0] [] s K) : gs_C L (d + 1) 3186 2 [gp_r (some 74)] s K := by
  show gs_E L (d + 1) 3186 0 [gp_r (some 74), gp_n] [] s K
  refine gs_E.stp (pc' := 2) (ls' := [gp_r (some 74), gp_i 0]) (st' := []) (s' := s) 2 rfl ?_
  exact H

set_option maxRecDepth 100000 in
/-- GatheredPointsModel.image, pc 2 -/
theorem s_3186_2 {L d : Nat} {K : Option gV → gH → Prop} {s : gH} (v1 : Int) (H : ((v1 < 8 → gs_C L d 3084 6 [gp_r (some 74), gp_i v1, gp_i (gp_wr (8 + v1))] s (fun r s3 => r = none ∧ gs_E L (d + 1) 3186 2 [gp_r (some 74), gp_i (gp_wr (v1 + 1))] [] s3 K)) ∧ (¬ v1 < 8 → (∀ s1, s1 = gp_wI s 74 8 (gp_I s 74 7) → (∀ s2, s2 = gp_wI s1 74 9 (gp_wr ((gp_I s1 74 9) + 1)) → K (some (gp_i (gp_I s2 74 9))) s2))))) : gs_E L (d + 1) 3186 2 [gp_r (some 74), gp_i v1] [] s K := by
  refine gs_E.stp (pc' := 5) (ls' := [gp_r (some 74), gp_i v1]) (st' := [gp_i 8, gp_i v1]) (s' := s) 2 rfl ?_
  refine gs_E.br (c := ¬ v1 < 8) (p1 := 23) (p2 := 8) (l1 := [gp_r (some 74), gp_i v1]) (l2 := [gp_r (some 74), gp_i v1]) (s1 := []) (s2 := []) rfl gs_b2 (fun hc => ?_) (fun hc => ?_)
  · replace H := H.2 hc
    refine gs_E.stp (pc' := 31) (ls' := [gp_r (some 74), gp_i v1]) (st' := []) (s' := gp_wI s 74 8 (gp_I s 74 7)) 4 rfl ?_
    replace H := H _ rfl
    generalize gp_wI s 74 8 (gp_I s 74 7) = s1 at H ⊢
    refine gs_E.stp (pc' := 41) (ls' := [gp_r (some 74), gp_i v1]) (st' := []) (s' := gp_wI s1 74 9 (gp_wr ((gp_I s1 74 9) + 1))) 6 rfl ?_
    replace H := H _ rfl
    generalize gp_wI s1 74 9 (gp_wr ((gp_I s1 74 9) + 1)) = s2 at H ⊢
    refine gs_E.stp (pc' := 45) (ls' := [gp_r (some 74), gp_i v1]) (st' := [gp_i (gp_I s2 74 9)]) (s' := s2) 2 rfl ?_
    exact gs_E.ret (r := (some (gp_i (gp_I s2 74 9)))) rfl H
  · replace H := H.1 (Decidable.byContradiction hc)
    refine gs_E.stp (pc' := 14) (ls' := [gp_r (some 74), gp_i v1]) (st' := [gp_i (gp_wr (8 + v1)), gp_i v1, gp_r (some 74)]) (s' := s) 5 rfl ?_
    refine gs_E.call (args := [gp_r (some 74), gp_i v1, gp_i (gp_wr (8 + v1))]) (m := 6) (y' := 3084) (st' := []) rfl H (fun r s3 H => ?_)
    obtain ⟨rfl, H⟩ := H
    show gs_E L (d + 1) 3186 17 [gp_r (some 74), gp_i v1] [] s3 K
    refine gs_E.stp (pc' := 2) (ls' := [gp_r (some 74), gp_i (gp_wr (v1 + 1))]) (st' := []) (s' := s3) 2 rfl ?_
    exact H

set_option maxRecDepth 100000 in
/-- GatheredPointsModel.restore, pc 0 -/
theorem s_3187_e {L d : Nat} {K : Option gV → gH → Prop} {s : gH}  (H : (((gp_I s 74 9) = 0 → gs_C L d 3074 2 [gp_r (some 74), gp_i 2] s (fun r s1 => ∃ x2, r = some (gp_i x2) ∧ K (some (gp_i x2)) s1)) ∧ (¬ (gp_I s 74 9) = 0 → gs_E L (d + 1) 3187 15 [gp_r (some 74), gp_i 0] [] s K))) : gs_C L (d + 1) 3187 2 [gp_r (some 74)] s K := by
  show gs_E L (d + 1) 3187 0 [gp_r (some 74), gp_n] [] s K
  refine gs_E.stp (pc' := 4) (ls' := [gp_r (some 74), gp_n]) (st' := [gp_i (gp_I s 74 9)]) (s' := s) 2 rfl ?_
  refine gs_E.br (c := ¬ (gp_I s 74 9) = 0) (p1 := 13) (p2 := 7) (l1 := [gp_r (some 74), gp_n]) (l2 := [gp_r (some 74), gp_n]) (s1 := []) (s2 := []) rfl gs_b2 (fun hc => ?_) (fun hc => ?_)
  · replace H := H.2 hc
    refine gs_E.stp (pc' := 15) (ls' := [gp_r (some 74), gp_i 0]) (st' := []) (s' := s) 2 rfl ?_
    exact H
  · replace H := H.1 (Decidable.byContradiction hc)
    refine gs_E.stp (pc' := 9) (ls' := [gp_r (some 74), gp_n]) (st' := [gp_i 2, gp_r (some 74)]) (s' := s) 2 rfl ?_
    refine gs_E.call (args := [gp_r (some 74), gp_i 2]) (m := 2) (y' := 3074) (st' := []) rfl H (fun r s1 H => ?_)
    obtain ⟨x2, rfl, H⟩ := H
    show gs_E L (d + 1) 3187 12 [gp_r (some 74), gp_n] [gp_i x2] s1 K
    exact gs_E.ret (r := (some (gp_i x2))) rfl H

set_option maxRecDepth 100000 in
/-- GatheredPointsModel.restore, pc 15 -/
theorem s_3187_15 {L d : Nat} {K : Option gV → gH → Prop} {s : gH} (v1 : Int) (H : ((v1 < 8 → gs_C L d 3084 6 [gp_r (some 74), gp_i (gp_wr (8 + v1)), gp_i v1] s (fun r s4 => r = none ∧ gs_E L (d + 1) 3187 15 [gp_r (some 74), gp_i (gp_wr (v1 + 1))] [] s4 K)) ∧ (¬ v1 < 8 → (∀ s1, s1 = gp_wI s 74 7 (gp_I s 74 8) → gs_C L d 3185 3 [gp_r (some 74)] s1 (fun r s2 => ∃ x3, r = some (gp_i x3) ∧ K (some (gp_i x3)) s2))))) : gs_E L (d + 1) 3187 15 [gp_r (some 74), gp_i v1] [] s K := by
  refine gs_E.stp (pc' := 18) (ls' := [gp_r (some 74), gp_i v1]) (st' := [gp_i 8, gp_i v1]) (s' := s) 2 rfl ?_
  refine gs_E.br (c := ¬ v1 < 8) (p1 := 36) (p2 := 21) (l1 := [gp_r (some 74), gp_i v1]) (l2 := [gp_r (some 74), gp_i v1]) (s1 := []) (s2 := []) rfl gs_b2 (fun hc => ?_) (fun hc => ?_)
  · replace H := H.2 hc
    refine gs_E.stp (pc' := 44) (ls' := [gp_r (some 74), gp_i v1]) (st' := []) (s' := gp_wI s 74 7 (gp_I s 74 8)) 4 rfl ?_
    replace H := H _ rfl
    generalize gp_wI s 74 7 (gp_I s 74 8) = s1 at H ⊢
    refine gs_E.stp (pc' := 45) (ls' := [gp_r (some 74), gp_i v1]) (st' := [gp_r (some 74)]) (s' := s1) 1 rfl ?_
    refine gs_E.call (args := [gp_r (some 74)]) (m := 3) (y' := 3185) (st' := []) rfl H (fun r s2 H => ?_)
    obtain ⟨x3, rfl, H⟩ := H
    show gs_E L (d + 1) 3187 48 [gp_r (some 74), gp_i v1] [gp_i x3] s2 K
    exact gs_E.ret (r := (some (gp_i x3))) rfl H
  · replace H := H.1 (Decidable.byContradiction hc)
    refine gs_E.stp (pc' := 27) (ls' := [gp_r (some 74), gp_i v1]) (st' := [gp_i v1, gp_i (gp_wr (8 + v1)), gp_r (some 74)]) (s' := s) 5 rfl ?_
    refine gs_E.call (args := [gp_r (some 74), gp_i (gp_wr (8 + v1)), gp_i v1]) (m := 6) (y' := 3084) (st' := []) rfl H (fun r s4 H => ?_)
    obtain ⟨rfl, H⟩ := H
    show gs_E L (d + 1) 3187 30 [gp_r (some 74), gp_i v1] [] s4 K
    refine gs_E.stp (pc' := 15) (ls' := [gp_r (some 74), gp_i (gp_wr (v1 + 1))]) (st' := []) (s' := s4) 2 rfl ?_
    exact H

set_option maxRecDepth 100000 in
/-- GatheredPointsModel.count, pc 0 -/
theorem s_3188_e {L d : Nat} {K : Option gV → gH → Prop} {s : gH} (p0 : Int) (H : ((p0 = 0 → gs_C L d 3185 3 [gp_r (some 74)] s (fun r s1 => ∃ x2, r = some (gp_i x2) ∧ K (some (gp_i x2)) s1)) ∧ (p0 = 1 → gs_E L (d + 1) 3188 43 [gp_r (some 74), gp_i p0, gp_i 0, gp_i 0] [] s K) ∧ (p0 = 2 → K (some (gp_i (gp_I s 74 11))) s) ∧ (p0 = 3 → (((gp_I s 74 58) = 0 → gs_E L (d + 1) 3188 93 [gp_r (some 74), gp_i p0, gp_i 0, gp_n] [gp_i 0] s K) ∧ (¬ (gp_I s 74 58) = 0 → gs_E L (d + 1) 3188 93 [gp_r (some 74), gp_i p0, gp_i 0, gp_n] [gp_i (gp_I s 74 57)] s K))) ∧ (p0 = 4 → K (some (gp_i (gp_I s 74 7))) s) ∧ ((p0 < 0 ∨ 4 < p0) → gs_C L d 3074 2 [gp_r (some 74), gp_i 1] s (fun r s3 => ∃ x4, r = some (gp_i x4) ∧ K (some (gp_i x4)) s3)))) : gs_C L (d + 1) 3188 4 [gp_r (some 74), gp_i p0] s K := by
  show gs_E L (d + 1) 3188 0 [gp_r (some 74), gp_i p0, gp_n, gp_n] [] s K
  refine gs_E.stp (pc' := 3) (ls' := [gp_r (some 74), gp_i p0, gp_i 0, gp_n]) (st' := [gp_i p0]) (s' := s) 3 rfl ?_
  have hsw : (p0 = 0 ∨ p0 = 1 ∨ p0 = 2 ∨ p0 = 3 ∨ p0 = 4) ∨ (p0 < 0 ∨ 4 < p0) := by omega
  rcases hsw with (hsw | hsw | hsw | hsw | hsw) | hsw
  · replace H := H.1 hsw
    refine gs_E.swi (v := 0) (pc' := 36) (ls' := [gp_r (some 74), gp_i p0, gp_i 0, gp_n]) (st' := []) hsw rfl ?_
    refine gs_E.stp (pc' := 37) (ls' := [gp_r (some 74), gp_i p0, gp_i 0, gp_n]) (st' := [gp_r (some 74)]) (s' := s) 1 rfl ?_
    refine gs_E.call (args := [gp_r (some 74)]) (m := 3) (y' := 3185) (st' := []) rfl H (fun r s1 H => ?_)
    obtain ⟨x2, rfl, H⟩ := H
    show gs_E L (d + 1) 3188 40 [gp_r (some 74), gp_i p0, gp_i 0, gp_n] [gp_i x2] s1 K
    exact gs_E.ret (r := (some (gp_i x2))) rfl H
  · replace H := H.2.1 hsw
    refine gs_E.swi (v := 1) (pc' := 41) (ls' := [gp_r (some 74), gp_i p0, gp_i 0, gp_n]) (st' := []) hsw rfl ?_
    refine gs_E.stp (pc' := 43) (ls' := [gp_r (some 74), gp_i p0, gp_i 0, gp_i 0]) (st' := []) (s' := s) 2 rfl ?_
    exact H
  · replace H := H.2.2.1 hsw
    refine gs_E.swi (v := 2) (pc' := 73) (ls' := [gp_r (some 74), gp_i p0, gp_i 0, gp_n]) (st' := []) hsw rfl ?_
    refine gs_E.stp (pc' := 77) (ls' := [gp_r (some 74), gp_i p0, gp_i 0, gp_n]) (st' := [gp_i (gp_I s 74 11)]) (s' := s) 2 rfl ?_
    exact gs_E.ret (r := (some (gp_i (gp_I s 74 11)))) rfl H
  · replace H := H.2.2.2.1 hsw
    refine gs_E.swi (v := 3) (pc' := 78) (ls' := [gp_r (some 74), gp_i p0, gp_i 0, gp_n]) (st' := []) hsw rfl ?_
    refine gs_E.stp (pc' := 82) (ls' := [gp_r (some 74), gp_i p0, gp_i 0, gp_n]) (st' := [gp_i (gp_I s 74 58)]) (s' := s) 2 rfl ?_
    refine gs_E.br (c := (gp_I s 74 58) = 0) (p1 := 92) (p2 := 85) (l1 := [gp_r (some 74), gp_i p0, gp_i 0, gp_n]) (l2 := [gp_r (some 74), gp_i p0, gp_i 0, gp_n]) (s1 := []) (s2 := []) rfl gs_b1 (fun hc => ?_) (fun hc => ?_)
    · replace H := H.1 hc
      refine gs_E.stp (pc' := 93) (ls' := [gp_r (some 74), gp_i p0, gp_i 0, gp_n]) (st' := [gp_i 0]) (s' := s) 1 rfl ?_
      exact H
    · replace H := H.2 hc
      refine gs_E.stp (pc' := 93) (ls' := [gp_r (some 74), gp_i p0, gp_i 0, gp_n]) (st' := [gp_i (gp_I s 74 57)]) (s' := s) 3 rfl ?_
      exact H
  · replace H := H.2.2.2.2.1 hsw
    refine gs_E.swi (v := 4) (pc' := 94) (ls' := [gp_r (some 74), gp_i p0, gp_i 0, gp_n]) (st' := []) hsw rfl ?_
    refine gs_E.stp (pc' := 98) (ls' := [gp_r (some 74), gp_i p0, gp_i 0, gp_n]) (st' := [gp_i (gp_I s 74 7)]) (s' := s) 2 rfl ?_
    exact gs_E.ret (r := (some (gp_i (gp_I s 74 7)))) rfl H
  · replace H := H.2.2.2.2.2 hsw
    refine gs_E.swo (pc' := 99) (ls' := [gp_r (some 74), gp_i p0, gp_i 0, gp_n]) (st' := []) (C := p0 < 0 ∨ 4 < p0) (B := _) rfl hsw ?_
    refine gs_E.stp (pc' := 101) (ls' := [gp_r (some 74), gp_i p0, gp_i 0, gp_n]) (st' := [gp_i 1, gp_r (some 74)]) (s' := s) 2 rfl ?_
    refine gs_E.call (args := [gp_r (some 74), gp_i 1]) (m := 2) (y' := 3074) (st' := []) rfl H (fun r s3 H => ?_)
    obtain ⟨x4, rfl, H⟩ := H
    show gs_E L (d + 1) 3188 104 [gp_r (some 74), gp_i p0, gp_i 0, gp_n] [gp_i x4] s3 K
    exact gs_E.ret (r := (some (gp_i x4))) rfl H

set_option maxRecDepth 100000 in
/-- GatheredPointsModel.count, pc 43 -/
theorem s_3188_43 {L d : Nat} {K : Option gV → gH → Prop} {s : gH} (v1 : Int) (v2 : Int) (v3 : Int) (H : ((v3 < 8 → gs_C L d 3103 9 [gp_r (some 74), gp_i v3] s (fun r s1 => ∃ x2, r = some (gp_i x2) ∧ ((x2 = 0 → gs_E L (d + 1) 3188 63 [gp_r (some 74), gp_i v1, gp_i v2, gp_i v3] [gp_i 0, gp_i v2] s1 K) ∧ (¬ x2 = 0 → gs_E L (d + 1) 3188 63 [gp_r (some 74), gp_i v1, gp_i v2, gp_i v3] [gp_i 1, gp_i v2] s1 K)))) ∧ (¬ v3 < 8 → K (some (gp_i v2)) s))) : gs_E L (d + 1) 3188 43 [gp_r (some 74), gp_i v1, gp_i v2, gp_i v3] [] s K := by
  refine gs_E.stp (pc' := 46) (ls' := [gp_r (some 74), gp_i v1, gp_i v2, gp_i v3]) (st' := [gp_i 8, gp_i v3]) (s' := s) 2 rfl ?_
  refine gs_E.br (c := ¬ v3 < 8) (p1 := 71) (p2 := 49) (l1 := [gp_r (some 74), gp_i v1, gp_i v2, gp_i v3]) (l2 := [gp_r (some 74), gp_i v1, gp_i v2, gp_i v3]) (s1 := []) (s2 := []) rfl gs_b2 (fun hc => ?_) (fun hc => ?_)
  · replace H := H.2 hc
    refine gs_E.stp (pc' := 72) (ls' := [gp_r (some 74), gp_i v1, gp_i v2, gp_i v3]) (st' := [gp_i v2]) (s' := s) 1 rfl ?_
    exact gs_E.ret (r := (some (gp_i v2))) rfl H
  · replace H := H.1 (Decidable.byContradiction hc)
    refine gs_E.stp (pc' := 52) (ls' := [gp_r (some 74), gp_i v1, gp_i v2, gp_i v3]) (st' := [gp_i v3, gp_r (some 74), gp_i v2]) (s' := s) 3 rfl ?_
    refine gs_E.call (args := [gp_r (some 74), gp_i v3]) (m := 9) (y' := 3103) (st' := [gp_i v2]) rfl H (fun r s1 H => ?_)
    obtain ⟨x2, rfl, H⟩ := H
    show gs_E L (d + 1) 3188 55 [gp_r (some 74), gp_i v1, gp_i v2, gp_i v3] [gp_i x2, gp_i v2] s1 K
    refine gs_E.br (c := x2 = 0) (p1 := 62) (p2 := 58) (l1 := [gp_r (some 74), gp_i v1, gp_i v2, gp_i v3]) (l2 := [gp_r (some 74), gp_i v1, gp_i v2, gp_i v3]) (s1 := [gp_i v2]) (s2 := [gp_i v2]) rfl gs_b1 (fun hc => ?_) (fun hc => ?_)
    · replace H := H.1 hc
      refine gs_E.stp (pc' := 63) (ls' := [gp_r (some 74), gp_i v1, gp_i v2, gp_i v3]) (st' := [gp_i 0, gp_i v2]) (s' := s1) 1 rfl ?_
      exact H
    · replace H := H.2 hc
      refine gs_E.stp (pc' := 63) (ls' := [gp_r (some 74), gp_i v1, gp_i v2, gp_i v3]) (st' := [gp_i 1, gp_i v2]) (s' := s1) 2 rfl ?_
      exact H

set_option maxRecDepth 100000 in
/-- GatheredPointsModel.count, pc 63 -/
theorem s_3188_63 {L d : Nat} {K : Option gV → gH → Prop} {s : gH} (v1 : Int) (v2 : Int) (v3 : Int) (w0 : Int) (w1 : Int) (H : gs_E L (d + 1) 3188 43 [gp_r (some 74), gp_i v1, gp_i (gp_wr (w0 + w1)), gp_i (gp_wr (v3 + 1))] [] s K) : gs_E L (d + 1) 3188 63 [gp_r (some 74), gp_i v1, gp_i v2, gp_i v3] [gp_i w1, gp_i w0] s K := by
  refine gs_E.stp (pc' := 43) (ls' := [gp_r (some 74), gp_i v1, gp_i (gp_wr (w0 + w1)), gp_i (gp_wr (v3 + 1))]) (st' := []) (s' := s) 4 rfl ?_
  exact H

set_option maxRecDepth 100000 in
/-- GatheredPointsModel.count, pc 93 -/
theorem s_3188_93 {L d : Nat} {K : Option gV → gH → Prop} {s : gH} (v1 : Int) (v2 : Int) (v3 : gV) (w0 : Int) (H : K (some (gp_i w0)) s) : gs_E L (d + 1) 3188 93 [gp_r (some 74), gp_i v1, gp_i v2, v3] [gp_i w0] s K := by
  exact gs_E.ret (r := (some (gp_i w0))) rfl H

set_option maxRecDepth 100000 in
/-- GatheredPointsModel.told, pc 0 -/
theorem s_3189_e {L d : Nat} {K : Option gV → gH → Prop} {s : gH} (p0 : Int) (H : gs_C L d 3073 6 [gp_l (BitVec.ofInt 64 p0), gp_l (1#64), gp_l (BitVec.ofInt 64 6)] s (fun r s1 => ∃ x2, r = some (gp_i x2) ∧ ((x2 = 0 → gs_C L d 3074 2 [gp_r (some 74), gp_i 1] s1 (fun r s3 => ∃ x4, r = some (gp_i x4) ∧ gs_E L (d + 1) 3189 26 [gp_r (some 74), gp_i p0] [gp_i x4] s3 K)) ∧ (¬ x2 = 0 → ((0 ≤ p0 ∧ p0 < 7) ∧ gs_E L (d + 1) 3189 26 [gp_r (some 74), gp_i p0] [gp_i (gp_I s1 75 p0.toNat)] s1 K))))) : gs_C L (d + 1) 3189 2 [gp_r (some 74), gp_i p0] s K := by
  show gs_E L (d + 1) 3189 0 [gp_r (some 74), gp_i p0] [] s K
  refine gs_E.stp (pc' := 6) (ls' := [gp_r (some 74), gp_i p0]) (st' := [gp_l (BitVec.ofInt 64 6), gp_l (1#64), gp_l (BitVec.ofInt 64 p0)]) (s' := s) 4 rfl ?_
  refine gs_E.call (args := [gp_l (BitVec.ofInt 64 p0), gp_l (1#64), gp_l (BitVec.ofInt 64 6)]) (m := 6) (y' := 3073) (st' := []) rfl H (fun r s1 H => ?_)
  obtain ⟨x2, rfl, H⟩ := H
  show gs_E L (d + 1) 3189 9 [gp_r (some 74), gp_i p0] [gp_i x2] s1 K
  refine gs_E.br (c := x2 = 0) (p1 := 21) (p2 := 12) (l1 := [gp_r (some 74), gp_i p0]) (l2 := [gp_r (some 74), gp_i p0]) (s1 := []) (s2 := []) rfl gs_b1 (fun hc => ?_) (fun hc => ?_)
  · replace H := H.1 hc
    refine gs_E.stp (pc' := 23) (ls' := [gp_r (some 74), gp_i p0]) (st' := [gp_i 1, gp_r (some 74)]) (s' := s1) 2 rfl ?_
    refine gs_E.call (args := [gp_r (some 74), gp_i 1]) (m := 2) (y' := 3074) (st' := []) rfl H (fun r s3 H => ?_)
    obtain ⟨x4, rfl, H⟩ := H
    show gs_E L (d + 1) 3189 26 [gp_r (some 74), gp_i p0] [gp_i x4] s3 K
    exact H
  · replace H := H.2 hc
    refine gs_E.stp (pc' := 17) (ls' := [gp_r (some 74), gp_i p0]) (st' := [gp_i p0, gp_r (some 75)]) (s' := s1) 3 rfl ?_
    refine gs_E.ck (pc' := 18) (ls' := [gp_r (some 74), gp_i p0]) (st' := [gp_i (gp_I s1 75 p0.toNat)]) (s' := s1) rfl (Or.inl ⟨rfl, H.1.1, H.1.2⟩) ?_
    replace H := H.2
    refine gs_E.stp (pc' := 26) (ls' := [gp_r (some 74), gp_i p0]) (st' := [gp_i (gp_I s1 75 p0.toNat)]) (s' := s1) 1 rfl ?_
    exact H

set_option maxRecDepth 100000 in
/-- GatheredPointsModel.told, pc 26 -/
theorem s_3189_26 {L d : Nat} {K : Option gV → gH → Prop} {s : gH} (v1 : Int) (w0 : Int) (H : K (some (gp_i w0)) s) : gs_E L (d + 1) 3189 26 [gp_r (some 74), gp_i v1] [gp_i w0] s K := by
  exact gs_E.ret (r := (some (gp_i w0))) rfl H
